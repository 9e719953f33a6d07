set_option maxHeartbeats 4000000 in
set_option maxRecDepth 100000 in
theorem g_X0_size_0 (l : Launch) (dC : Nat → ClassId) (dI : Nat → Nat → Nat) (h0 : Nat) (h1 : Nat) (sz : Nat) (n0_size : Int32) : Met l yX0_size wsX0_size ({ frames := 0, cells := 0, slots := 0, locals := 0 }) (va_Pc [.ref h0] (fun U => U.heap.size = sz ∧ va_P (dC, dI) vwCl [(h0, kO0 h1 n0_size)] U.heap ∧ va_K (dC, dI) vwCl [] U ∧ va_D (fun _ => True) [(h0, kO0 h1 n0_size)])) (va_Qi (fun (r : Int32) (_ : Unit) => n0_size = r) (fun (_ : Unit) t => va_P (dC, dI) vwCl [(h0, kO0 h1 n0_size)] t.heap ∧ va_K (dC, dI) vwCl [] t ∧ va_D (va_A [(h0, kO0 h1 n0_size)] sz) [(h0, kO0 h1 n0_size)]) (va_A [(h0, kO0 h1 n0_size)] sz)) 0 0 (va_A [(h0, kO0 h1 n0_size)] sz) := by
  refine Met.ofW (cc := cX0_size) (maxL := 1) (ret := (some .int)) (by decide) rfl ?_
  intro p e s m args below meth c s₁ B hml hv
  obtain ⟨rfl, hsz, hP, hK, hD0⟩ := hv
  have hx := B.exec
  have hb := B.bytes
  have hr := B.returns
  have hts := atoms_spec (ws := wsX0_size) B.pre
  have hown : s.vm.findClass RX0 = some m.cls := findClass_of_methodNamed B.named
  have hlocks := B.notSynchronized
  subst hsz
  have hD := hD0.self (sz := s.heap.size)
  generalize hAe : va_A [(h0, kO0 h1 n0_size)] s.heap.size = A at hD ⊢
  have hA : ∀ q : Nat, s.heap.size ≤ q → A q := fun q h => by rw [← hAe]; exact Or.inr h
  have hS : va_S A s.heap s.heap [] := va_S.rf
  have hP : va_P (dC, dI) vwCl [(h0, kO0 h1 n0_size)] s.heap := hP
  have hl := lv_entry ([.ref h0]) (n := 1) (Nat.le_of_ble_eq_true rfl)
  rw [lg_entry_eq]
  generalize (lg_sl ([.ref h0]) ++ List.replicate (1 - (lg_sl ([.ref h0])).length) Slot.unset).toArray = ls at hl ⊢
  have hl : lv_has ls 1 [(0, .ref h0)] := hl
  refine lv_aload_n hx hb dX0_size_0 rfl (lv_at hl 0 rfl) ?_
  refine va_get (D := (dC, dI)) (ci := 0) (v := .int n0_size) (C := RX0) (T := TX0) (N := 2) hx hb hts (fun _ h => List.mem_cons_of_mem _ (List.mem_append_right _ h)) hown hK hP 0 rfl rfl 1 (by decide) (hts (.fieldLink RX0 15 "KinkStreet$Bends" "size" "I") (List.mem_of_getElem? (i := 1) rfl)) (fun _ h9 => h9) rfl dX0_size_1 ?_
  have hP9 := kk_Ps (wq := [(h0, kO0 h1 n0_size)]) hP [0] rfl
  have hD9 := kk_Ds (wq := [(h0, kO0 h1 n0_size)]) hD [0] (by decide) rfl
  have hK9 := kk_Ks (tq := []) hK [] rfl
  exact W.iret (v := n0_size) hx hb hr (fun t ht hW => ⟨⟨n0_size, (), rfl, rfl, by rw [ht]; exact hP9, va_K.moved hW.alike hK9, hD9⟩, hS.F ht⟩) hS.2.2 dX0_size_4
set_option maxHeartbeats 4000000 in
set_option maxRecDepth 100000 in
theorem g_X0_isStreetNumber_0 (l : Launch) (dC : Nat → ClassId) (dI : Nat → Nat → Nat) (sz : Nat) (p0 : Int32) : Met l yX0_isStreetNumber wsX0_isStreetNumber ({ frames := 0, cells := 0, slots := 0, locals := 0 }) (va_Pc [.int p0] (fun U => U.heap.size = sz ∧ va_P (dC, dI) vwCl [] U.heap ∧ va_K (dC, dI) vwCl [] U ∧ va_D (fun _ => True) [])) (va_Qi (fun (r : Int32) (_ : Unit) => ((0 : Int32) = r) ∨ (0 ≤ p0.toInt ∧ p0.toInt < 6 ∧ (1 : Int32) = r)) (fun (_ : Unit) t => va_P (dC, dI) vwCl [] t.heap ∧ va_K (dC, dI) vwCl [] t ∧ va_D (va_A [] sz) []) (va_A [] sz)) 0 0 (va_A [] sz) := by
  refine Met.ofW (cc := cX0_isStreetNumber) (maxL := 1) (ret := (some .boolean)) (by decide) rfl ?_
  intro p e s m args below meth c s₁ B hml hv
  obtain ⟨rfl, hsz, hP, hK, hD0⟩ := hv
  have hx := B.exec
  have hb := B.bytes
  have hr := B.returns
  have hts := atoms_spec (ws := wsX0_isStreetNumber) B.pre
  have hown : s.vm.findClass RX0 = some m.cls := findClass_of_methodNamed B.named
  have hlocks := B.notSynchronized
  subst hsz
  have hD := hD0.self (sz := s.heap.size)
  generalize hAe : va_A [] s.heap.size = A at hD ⊢
  have hA : ∀ q : Nat, s.heap.size ≤ q → A q := fun q h => by rw [← hAe]; exact Or.inr h
  have hS : va_S A s.heap s.heap [] := va_S.rf
  have hP : va_P (dC, dI) vwCl [] s.heap := hP
  have hl := lv_entry ([.int p0]) (n := 1) (Nat.le_of_ble_eq_true rfl)
  rw [lg_entry_eq]
  generalize (lg_sl ([.int p0]) ++ List.replicate (1 - (lg_sl ([.int p0])).length) Slot.unset).toArray = ls at hl ⊢
  have hl : lv_has ls 1 [(0, .int p0)] := hl
  refine lv_iload_n hx hb dX0_isStreetNumber_0 rfl (lv_at hl 0 rfl) ?_
  refine lv_if_lt (tgt := 14) hx hb dX0_isStreetNumber_1 (by decide) (fun c_1 => ?_) (fun c_1 => ?_)
  · have t_1 : p0.toInt < 0 := kk_lt c_1
    refine lv_iconst (v := 0) hx hb dX0_isStreetNumber_14 kk_ic_0 ?_
    have hP9 := kk_Ps (wq := []) hP [] rfl
    have hD9 := kk_Ds (wq := []) hD [] (by decide) rfl
    have hK9 := kk_Ks (tq := []) hK [] rfl
    exact W.zret (v := 0) hx hb hr rfl (fun t ht hW => ⟨⟨0, (), rfl, Or.inl rfl, by rw [ht]; exact hP9, va_K.moved hW.alike hK9, hD9⟩, hS.F ht⟩) hS.2.2 dX0_isStreetNumber_15
  · have t_1 : 0 ≤ p0.toInt := kk_nlt c_1
    refine lv_iload_n hx hb dX0_isStreetNumber_4 rfl (lv_at hl 0 rfl) ?_
    refine lv_bipush (v := 6) hx hb dX0_isStreetNumber_5 kk_bi_6 ?_
    refine lv_icmp_ge (tgt := 14) hx hb dX0_isStreetNumber_7 (by decide) (fun c_2 => ?_) (fun c_2 => ?_)
    · have t_2 : 6 ≤ p0.toInt := kk_le c_2
      refine lv_iconst (v := 0) hx hb dX0_isStreetNumber_14 kk_ic_0 ?_
      have hP9 := kk_Ps (wq := []) hP [] rfl
      have hD9 := kk_Ds (wq := []) hD [] (by decide) rfl
      have hK9 := kk_Ks (tq := []) hK [] rfl
      exact W.zret (v := 0) hx hb hr rfl (fun t ht hW => ⟨⟨0, (), rfl, Or.inl rfl, by rw [ht]; exact hP9, va_K.moved hW.alike hK9, hD9⟩, hS.F ht⟩) hS.2.2 dX0_isStreetNumber_15
    · have t_2 : p0.toInt < 6 := kk_nle c_2
      refine lv_iconst (v := 1) hx hb dX0_isStreetNumber_10 kk_ic_1 ?_
      refine lv_goto (tgt := 15) hx hb dX0_isStreetNumber_11 (by decide) ?_
      have hP9 := kk_Ps (wq := []) hP [] rfl
      have hD9 := kk_Ds (wq := []) hD [] (by decide) rfl
      have hK9 := kk_Ks (tq := []) hK [] rfl
      exact W.zret (v := 1) hx hb hr rfl (fun t ht hW => ⟨⟨1, (), rfl, Or.inr (⟨by first | with_reducible assumption | (omega) | assumption, by first | with_reducible assumption | (omega) | assumption, rfl⟩), by rw [ht]; exact hP9, va_K.moved hW.alike hK9, hD9⟩, hS.F ht⟩) hS.2.2 dX0_isStreetNumber_15
set_option maxHeartbeats 4000000 in
set_option maxRecDepth 100000 in
theorem g_X0_isTold_0 (l : Launch) (dC : Nat → ClassId) (dI : Nat → Nat → Nat) (h0 : Nat) (h1 : Nat) (cint : ClassId) (sz : Nat) (p0 : Int32) (p1 : Int32) (n0_size : Int32) (f1 : Nat → Int32) : Met l yX0_isTold wsX0_isTold ({ frames := 1, cells := 0, slots := 0, locals := 20 }) (va_Pc [.ref h0, .int p0, .int p1] (fun U => U.heap.size = sz ∧ va_P (dC, dI) vwCl [(h0, kO0 h1 n0_size), (h1, kAi cint 6 f1)] U.heap ∧ va_K (dC, dI) vwCl [(cint, .int)] U ∧ va_D (fun _ => True) [(h0, kO0 h1 n0_size), (h1, kAi cint 6 f1)])) (va_Qi (fun (r : Int32) (_ : Unit) => ((0 : Int32) = r) ∨ (0 ≤ p0.toInt ∧ p0.toInt < 6 ∧ 0 ≤ p1.toInt ∧ p1.toInt < 6 ∧ (1 : Int32) = r)) (fun (_ : Unit) t => va_P (dC, dI) vwCl [(h0, kO0 h1 n0_size), (h1, kAi cint 6 f1)] t.heap ∧ va_K (dC, dI) vwCl [] t ∧ va_D (va_A [(h0, kO0 h1 n0_size), (h1, kAi cint 6 f1)] sz) [(h0, kO0 h1 n0_size), (h1, kAi cint 6 f1)]) (va_A [(h0, kO0 h1 n0_size), (h1, kAi cint 6 f1)] sz)) 0 0 (va_A [(h0, kO0 h1 n0_size), (h1, kAi cint 6 f1)] sz) := by
  refine Met.ofW (cc := cX0_isTold) (maxL := 3) (ret := (some .boolean)) (by decide) rfl ?_
  intro p e s m args below meth c s₁ B hml hv
  obtain ⟨rfl, hsz, hP, hK, hD0⟩ := hv
  have hx := B.exec
  have hb := B.bytes
  have hr := B.returns
  have hts := atoms_spec (ws := wsX0_isTold) B.pre
  have hown : s.vm.findClass RX0 = some m.cls := findClass_of_methodNamed B.named
  have hlocks := B.notSynchronized
  subst hsz
  have hD := hD0.self (sz := s.heap.size)
  generalize hAe : va_A [(h0, kO0 h1 n0_size), (h1, kAi cint 6 f1)] s.heap.size = A at hD ⊢
  have hA : ∀ q : Nat, s.heap.size ≤ q → A q := fun q h => by rw [← hAe]; exact Or.inr h
  have hS : va_S A s.heap s.heap [] := va_S.rf
  have hP : va_P (dC, dI) vwCl [(h0, kO0 h1 n0_size), (h1, kAi cint 6 f1)] s.heap := hP
  have hl := lv_entry ([.ref h0, .int p0, .int p1]) (n := 3) (Nat.le_of_ble_eq_true rfl)
  rw [lg_entry_eq]
  generalize (lg_sl ([.ref h0, .int p0, .int p1]) ++ List.replicate (3 - (lg_sl ([.ref h0, .int p0, .int p1])).length) Slot.unset).toArray = ls at hl ⊢
  have hl : lv_has ls 3 [(0, .ref h0), (1, .int p0), (2, .int p1)] := hl
  refine lv_iload_n hx hb dX0_isTold_0 rfl (lv_at hl 1 rfl) ?_
  have hPc := kk_Ps (wq := []) hP [] rfl
  have hDc := kk_Ds (wq := []) hD [] (by decide) rfl
  have hKc := kk_Ks (tq := []) hK [] rfl
  have hFc := va_free (wc := []) hD hS hA [] rfl
  refine va_calli (va_runS (As := [.int p0]) (rest := []) ⟨hx, hb, hml, hown, hts⟩ (g_X0_isStreetNumber_0 l dC dI s.heap.size p0) (va_cwS 1 hts gX0_isTold_X0_isStreetNumber rfl rfl rfl kh_X0_isStreetNumber ⟨Nat.le_of_ble_eq_true rfl, Nat.le_of_ble_eq_true rfl⟩) ⟨fun a U g mk q => by obtain ⟨q0, q1, qP, qK, qD⟩ := q; exact ⟨q0, q1, qP, va_K.moved (u := U) (U := U.calling g mk a) (Vm.Alike.refl U.vm) qK, qD⟩, fun U hU hW => ⟨rfl, by rw [hU], by rw [hU]; exact hPc, va_K.moved hW.alike hKc, hDc.weaken (fun _ _ _ _ => trivial)⟩⟩ rfl rfl hl.1 rfl (lv_room (Nat.le_of_ble_eq_true rfl)) dX0_isTold_1 ⟨Nat.le_of_ble_eq_true rfl, Nat.le_of_ble_eq_true rfl⟩) hS (fun q _ h => hFc q h) hFc (fun r_1 u t H1 locs ht hvm hw hB hz1 hk1 hS => ?_)
  obtain ⟨hP1, hK1, hD1⟩ := hB
  rw [ht] at hP1
  have hK1 := va_K.moved hvm.symm hK1
  obtain ⟨hP, hD⟩ := va_join (wr := [(h0, kO0 h1 n0_size), (h1, kAi cint 6 f1)]) (w1 := []) hP hD [] [0, 1] rfl rfl (by decide) (by decide) hk1 hFc hP1 hD1
  generalize H1 = H at hP hS ⊢
  have hP : va_P (dC, dI) vwCl [(h0, kO0 h1 n0_size), (h1, kAi cint 6 f1)] H := hP
  have hD : va_D A [(h0, kO0 h1 n0_size), (h1, kAi cint 6 f1)] := hD
  rcases hw with ⟨rfl⟩ | ⟨t_1_0, t_1_1, rfl⟩
  · skip
    refine lv_if_eq (tgt := 31) hx hb dX0_isTold_4 (by decide) (fun _ => ?_) (fun c => absurd c (by decide))
    refine lv_iconst (v := 0) hx hb dX0_isTold_31 kk_ic_0 ?_
    have hP9 := kk_Ps (wq := [(h0, kO0 h1 n0_size), (h1, kAi cint 6 f1)]) hP [0, 1] rfl
    have hD9 := kk_Ds (wq := [(h0, kO0 h1 n0_size), (h1, kAi cint 6 f1)]) hD [0, 1] (by decide) rfl
    have hK9 := kk_Ks (tq := []) hK [] rfl
    exact W.zret (v := 0) hx hb hr rfl (fun t ht hW => ⟨⟨0, (), rfl, Or.inl rfl, by rw [ht]; exact hP9, va_K.moved hW.alike hK9, hD9⟩, hS.F ht⟩) hS.2.2 dX0_isTold_32
  · skip
    have t_1_0 : (0 : Int) ≤ p0.toInt := t_1_0
    have t_1_1 : (p0.toInt : Int) < 6 := t_1_1
    refine lv_if_eq (tgt := 31) hx hb dX0_isTold_4 (by decide) (fun c => absurd c (by decide)) (fun _ => ?_)
    refine lv_iload_n hx hb dX0_isTold_7 rfl (lv_at hl 2 rfl) ?_
    have hPc := kk_Ps (wq := []) hP [] rfl
    have hDc := kk_Ds (wq := []) hD [] (by decide) rfl
    have hKc := kk_Ks (tq := []) hK [] rfl
    have hFc := va_free (wc := []) hD hS hA [] rfl
    refine va_calli (va_runS (As := [.int p1]) (rest := []) ⟨hx, hb, hml, hown, hts⟩ (g_X0_isStreetNumber_0 l dC dI H.size p1) (va_cwS 1 hts gX0_isTold_X0_isStreetNumber rfl rfl rfl kh_X0_isStreetNumber ⟨Nat.le_of_ble_eq_true rfl, Nat.le_of_ble_eq_true rfl⟩) ⟨fun a U g mk q => by obtain ⟨q0, q1, qP, qK, qD⟩ := q; exact ⟨q0, q1, qP, va_K.moved (u := U) (U := U.calling g mk a) (Vm.Alike.refl U.vm) qK, qD⟩, fun U hU hW => ⟨rfl, by rw [hU], by rw [hU]; exact hPc, va_K.moved hW.alike hKc, hDc.weaken (fun _ _ _ _ => trivial)⟩⟩ rfl rfl hl.1 rfl (lv_room (Nat.le_of_ble_eq_true rfl)) dX0_isTold_8 ⟨Nat.le_of_ble_eq_true rfl, Nat.le_of_ble_eq_true rfl⟩) hS (fun q _ h => hFc q h) hFc (fun r_2 u t H1 locs ht hvm hw hB hz1 hk1 hS => ?_)
    obtain ⟨hP1, hK1, hD1⟩ := hB
    rw [ht] at hP1
    have hK1 := va_K.moved hvm.symm hK1
    obtain ⟨hP, hD⟩ := va_join (wr := [(h0, kO0 h1 n0_size), (h1, kAi cint 6 f1)]) (w1 := []) hP hD [] [0, 1] rfl rfl (by decide) (by decide) hk1 hFc hP1 hD1
    generalize H1 = H at hP hS ⊢
    have hP : va_P (dC, dI) vwCl [(h0, kO0 h1 n0_size), (h1, kAi cint 6 f1)] H := hP
    have hD : va_D A [(h0, kO0 h1 n0_size), (h1, kAi cint 6 f1)] := hD
    rcases hw with ⟨rfl⟩ | ⟨t_2_0, t_2_1, rfl⟩
    · skip
      refine lv_if_eq (tgt := 31) hx hb dX0_isTold_11 (by decide) (fun _ => ?_) (fun c => absurd c (by decide))
      refine lv_iconst (v := 0) hx hb dX0_isTold_31 kk_ic_0 ?_
      have hP9 := kk_Ps (wq := [(h0, kO0 h1 n0_size), (h1, kAi cint 6 f1)]) hP [0, 1] rfl
      have hD9 := kk_Ds (wq := [(h0, kO0 h1 n0_size), (h1, kAi cint 6 f1)]) hD [0, 1] (by decide) rfl
      have hK9 := kk_Ks (tq := []) hK [] rfl
      exact W.zret (v := 0) hx hb hr rfl (fun t ht hW => ⟨⟨0, (), rfl, Or.inl rfl, by rw [ht]; exact hP9, va_K.moved hW.alike hK9, hD9⟩, hS.F ht⟩) hS.2.2 dX0_isTold_32
    · skip
      have t_2_0 : (0 : Int) ≤ p1.toInt := t_2_0
      have t_2_1 : (p1.toInt : Int) < 6 := t_2_1
      refine lv_if_eq (tgt := 31) hx hb dX0_isTold_11 (by decide) (fun c => absurd c (by decide)) (fun _ => ?_)
      refine lv_aload_n hx hb dX0_isTold_14 rfl (lv_at hl 0 rfl) ?_
      refine va_get (D := (dC, dI)) (ci := 0) (v := .ref h1) (C := RX0) (T := TX0) (N := 2) hx hb hts (fun _ h => List.mem_cons_of_mem _ (List.mem_append_right _ h)) hown hK hP 0 rfl rfl 0 (by decide) (hts (.fieldLink RX0 9 "KinkStreet$Bends" "bendsTo" "[I") (List.mem_of_getElem? (i := 1) rfl)) (fun _ h9 => h9) rfl dX0_isTold_15 ?_
      refine lv_iload_n hx hb dX0_isTold_18 rfl (lv_at hl 1 rfl) ?_
      have hi_3 : vp_in p0 6 := (vp_in_iff.mpr ⟨by omega, by omega⟩)
      refine va_iald hx hb hK hP 1 0 rfl rfl hi_3 dX0_isTold_19 ?_
      refine lv_topi (fun y_3 e_3 => ?_)
      clear e_3
      refine lv_iload_n hx hb dX0_isTold_20 rfl (lv_at hl 2 rfl) ?_
      refine lv_iushr hx hb dX0_isTold_21 rfl ?_
      refine lv_topi (fun y_4 e_4 => ?_)
      clear e_4
      refine lv_iconst (v := 1) hx hb dX0_isTold_22 kk_ic_1 ?_
      refine lv_iand hx hb dX0_isTold_23 ?_
      refine lv_topi (fun y_5 e_5 => ?_)
      have t_5 : 0 ≤ y_5.toInt ∧ y_5.toInt ≤ 1 := by rw [e_5]; exact kk_and_1 _
      clear e_5
      refine lv_if_eq (tgt := 31) hx hb dX0_isTold_24 (by decide) (fun c_6 => ?_) (fun c_6 => ?_)
      · have t_6 : y_5.toInt = 0 := kk_eq c_6
        refine lv_iconst (v := 0) hx hb dX0_isTold_31 kk_ic_0 ?_
        have hP9 := kk_Ps (wq := [(h0, kO0 h1 n0_size), (h1, kAi cint 6 f1)]) hP [0, 1] rfl
        have hD9 := kk_Ds (wq := [(h0, kO0 h1 n0_size), (h1, kAi cint 6 f1)]) hD [0, 1] (by decide) rfl
        have hK9 := kk_Ks (tq := []) hK [] rfl
        exact W.zret (v := 0) hx hb hr rfl (fun t ht hW => ⟨⟨0, (), rfl, Or.inl rfl, by rw [ht]; exact hP9, va_K.moved hW.alike hK9, hD9⟩, hS.F ht⟩) hS.2.2 dX0_isTold_32
      · have t_6 : y_5.toInt ≠ 0 := kk_ne c_6
        refine lv_iconst (v := 1) hx hb dX0_isTold_27 kk_ic_1 ?_
        refine lv_goto (tgt := 32) hx hb dX0_isTold_28 (by decide) ?_
        have hP9 := kk_Ps (wq := [(h0, kO0 h1 n0_size), (h1, kAi cint 6 f1)]) hP [0, 1] rfl
        have hD9 := kk_Ds (wq := [(h0, kO0 h1 n0_size), (h1, kAi cint 6 f1)]) hD [0, 1] (by decide) rfl
        have hK9 := kk_Ks (tq := []) hK [] rfl
        exact W.zret (v := 1) hx hb hr rfl (fun t ht hW => ⟨⟨1, (), rfl, Or.inr (⟨by first | with_reducible assumption | (omega) | assumption, by first | with_reducible assumption | (omega) | assumption, by first | with_reducible assumption | (omega) | assumption, by first | with_reducible assumption | (omega) | assumption, rfl⟩), by rw [ht]; exact hP9, va_K.moved hW.alike hK9, hD9⟩, hS.F ht⟩) hS.2.2 dX0_isTold_32
set_option maxHeartbeats 4000000 in
set_option maxRecDepth 100000 in
theorem g_X0_tell_0 (l : Launch) (dC : Nat → ClassId) (dI : Nat → Nat → Nat) (h0 : Nat) (h1 : Nat) (cint : ClassId) (sz : Nat) (p0 : Int32) (p1 : Int32) (n0_size : Int32) (f1 : Nat → Int32) : Met l yX0_tell wsX0_tell ({ frames := 2, cells := 0, slots := 0, locals := 42 }) (va_Pc [.ref h0, .int p0, .int p1] (fun U => U.heap.size = sz ∧ va_P (dC, dI) vwCl [(h0, kO0 h1 n0_size), (h1, kAi cint 6 f1)] U.heap ∧ va_K (dC, dI) vwCl [(cint, .int)] U ∧ va_D (fun _ => True) [(h0, kO0 h1 n0_size), (h1, kAi cint 6 f1)])) (va_Qi (fun (r : Int32) (_ : Unit) => True) (fun (_ : Unit) t => ∃ (m0_size : Int32) (g1 : Nat → Int32), va_P (dC, dI) vwCl [(h0, kO0 h1 m0_size), (h1, kAi cint 6 g1)] t.heap ∧ va_K (dC, dI) vwCl [] t ∧ va_D (va_A [(h0, kO0 h1 n0_size), (h1, kAi cint 6 f1)] sz) [(h0, kO0 h1 m0_size), (h1, kAi cint 6 g1)]) (va_A [(h0, kO0 h1 n0_size), (h1, kAi cint 6 f1)] sz)) 0 0 (va_A [(h0, kO0 h1 n0_size), (h1, kAi cint 6 f1)] sz) := by
  refine Met.ofW (cc := cX0_tell) (maxL := 3) (ret := (some .int)) (by decide) rfl ?_
  intro p e s m args below meth c s₁ B hml hv
  obtain ⟨rfl, hsz, hP, hK, hD0⟩ := hv
  have hx := B.exec
  have hb := B.bytes
  have hr := B.returns
  have hts := atoms_spec (ws := wsX0_tell) B.pre
  have hown : s.vm.findClass RX0 = some m.cls := findClass_of_methodNamed B.named
  have hlocks := B.notSynchronized
  subst hsz
  have hD := hD0.self (sz := s.heap.size)
  generalize hAe : va_A [(h0, kO0 h1 n0_size), (h1, kAi cint 6 f1)] s.heap.size = A at hD ⊢
  have hA : ∀ q : Nat, s.heap.size ≤ q → A q := fun q h => by rw [← hAe]; exact Or.inr h
  have hS : va_S A s.heap s.heap [] := va_S.rf
  have hP : va_P (dC, dI) vwCl [(h0, kO0 h1 n0_size), (h1, kAi cint 6 f1)] s.heap := hP
  have hl := lv_entry ([.ref h0, .int p0, .int p1]) (n := 3) (Nat.le_of_ble_eq_true rfl)
  rw [lg_entry_eq]
  generalize (lg_sl ([.ref h0, .int p0, .int p1]) ++ List.replicate (3 - (lg_sl ([.ref h0, .int p0, .int p1])).length) Slot.unset).toArray = ls at hl ⊢
  have hl : lv_has ls 3 [(0, .ref h0), (1, .int p0), (2, .int p1)] := hl
  refine lv_iload_n hx hb dX0_tell_0 rfl (lv_at hl 1 rfl) ?_
  have hPc := kk_Ps (wq := []) hP [] rfl
  have hDc := kk_Ds (wq := []) hD [] (by decide) rfl
  have hKc := kk_Ks (tq := []) hK [] rfl
  have hFc := va_free (wc := []) hD hS hA [] rfl
  refine va_calli (va_runS (As := [.int p0]) (rest := []) ⟨hx, hb, hml, hown, hts⟩ (g_X0_isStreetNumber_0 l dC dI s.heap.size p0) (va_cwS 1 hts gX0_tell_X0_isStreetNumber rfl rfl rfl kh_X0_isStreetNumber ⟨Nat.le_of_ble_eq_true rfl, Nat.le_of_ble_eq_true rfl⟩) ⟨fun a U g mk q => by obtain ⟨q0, q1, qP, qK, qD⟩ := q; exact ⟨q0, q1, qP, va_K.moved (u := U) (U := U.calling g mk a) (Vm.Alike.refl U.vm) qK, qD⟩, fun U hU hW => ⟨rfl, by rw [hU], by rw [hU]; exact hPc, va_K.moved hW.alike hKc, hDc.weaken (fun _ _ _ _ => trivial)⟩⟩ rfl rfl hl.1 rfl (lv_room (Nat.le_of_ble_eq_true rfl)) dX0_tell_1 ⟨Nat.le_of_ble_eq_true rfl, Nat.le_of_ble_eq_true rfl⟩) hS (fun q _ h => hFc q h) hFc (fun r_1 u t H1 locs ht hvm hw hB hz1 hk1 hS => ?_)
  obtain ⟨hP1, hK1, hD1⟩ := hB
  rw [ht] at hP1
  have hK1 := va_K.moved hvm.symm hK1
  obtain ⟨hP, hD⟩ := va_join (wr := [(h0, kO0 h1 n0_size), (h1, kAi cint 6 f1)]) (w1 := []) hP hD [] [0, 1] rfl rfl (by decide) (by decide) hk1 hFc hP1 hD1
  generalize H1 = H at hP hS ⊢
  have hP : va_P (dC, dI) vwCl [(h0, kO0 h1 n0_size), (h1, kAi cint 6 f1)] H := hP
  have hD : va_D A [(h0, kO0 h1 n0_size), (h1, kAi cint 6 f1)] := hD
  rcases hw with ⟨rfl⟩ | ⟨t_1_0, t_1_1, rfl⟩
  · skip
    refine lv_if_eq (tgt := 45) hx hb dX0_tell_4 (by decide) (fun _ => ?_) (fun c => absurd c (by decide))
    refine lv_aload_n hx hb dX0_tell_45 rfl (lv_at hl 0 rfl) ?_
    refine va_get (D := (dC, dI)) (ci := 0) (v := .int n0_size) (C := RX0) (T := TX0) (N := 2) hx hb hts (fun _ h => List.mem_cons_of_mem _ (List.mem_append_right _ h)) hown hK hP 0 rfl rfl 1 (by decide) (hts (.fieldLink RX0 15 "KinkStreet$Bends" "size" "I") (List.mem_of_getElem? (i := 2) rfl)) (fun _ h9 => h9) rfl dX0_tell_46 ?_
    have hP9 := kk_Ps (wq := [(h0, kO0 h1 n0_size), (h1, kAi cint 6 f1)]) hP [0, 1] rfl
    have hD9 := kk_Ds (wq := [(h0, kO0 h1 n0_size), (h1, kAi cint 6 f1)]) hD [0, 1] (by decide) rfl
    have hK9 := kk_Ks (tq := []) hK [] rfl
    exact W.iret (v := n0_size) hx hb hr (fun t ht hW => ⟨⟨n0_size, (), rfl, trivial, n0_size, f1, by rw [ht]; exact hP9, va_K.moved hW.alike hK9, hD9⟩, hS.F ht⟩) hS.2.2 dX0_tell_49
  · skip
    have t_1_0 : (0 : Int) ≤ p0.toInt := t_1_0
    have t_1_1 : (p0.toInt : Int) < 6 := t_1_1
    refine lv_if_eq (tgt := 45) hx hb dX0_tell_4 (by decide) (fun c => absurd c (by decide)) (fun _ => ?_)
    refine lv_iload_n hx hb dX0_tell_7 rfl (lv_at hl 2 rfl) ?_
    have hPc := kk_Ps (wq := []) hP [] rfl
    have hDc := kk_Ds (wq := []) hD [] (by decide) rfl
    have hKc := kk_Ks (tq := []) hK [] rfl
    have hFc := va_free (wc := []) hD hS hA [] rfl
    refine va_calli (va_runS (As := [.int p1]) (rest := []) ⟨hx, hb, hml, hown, hts⟩ (g_X0_isStreetNumber_0 l dC dI H.size p1) (va_cwS 1 hts gX0_tell_X0_isStreetNumber rfl rfl rfl kh_X0_isStreetNumber ⟨Nat.le_of_ble_eq_true rfl, Nat.le_of_ble_eq_true rfl⟩) ⟨fun a U g mk q => by obtain ⟨q0, q1, qP, qK, qD⟩ := q; exact ⟨q0, q1, qP, va_K.moved (u := U) (U := U.calling g mk a) (Vm.Alike.refl U.vm) qK, qD⟩, fun U hU hW => ⟨rfl, by rw [hU], by rw [hU]; exact hPc, va_K.moved hW.alike hKc, hDc.weaken (fun _ _ _ _ => trivial)⟩⟩ rfl rfl hl.1 rfl (lv_room (Nat.le_of_ble_eq_true rfl)) dX0_tell_8 ⟨Nat.le_of_ble_eq_true rfl, Nat.le_of_ble_eq_true rfl⟩) hS (fun q _ h => hFc q h) hFc (fun r_2 u t H1 locs ht hvm hw hB hz1 hk1 hS => ?_)
    obtain ⟨hP1, hK1, hD1⟩ := hB
    rw [ht] at hP1
    have hK1 := va_K.moved hvm.symm hK1
    obtain ⟨hP, hD⟩ := va_join (wr := [(h0, kO0 h1 n0_size), (h1, kAi cint 6 f1)]) (w1 := []) hP hD [] [0, 1] rfl rfl (by decide) (by decide) hk1 hFc hP1 hD1
    generalize H1 = H at hP hS ⊢
    have hP : va_P (dC, dI) vwCl [(h0, kO0 h1 n0_size), (h1, kAi cint 6 f1)] H := hP
    have hD : va_D A [(h0, kO0 h1 n0_size), (h1, kAi cint 6 f1)] := hD
    rcases hw with ⟨rfl⟩ | ⟨t_2_0, t_2_1, rfl⟩
    · skip
      refine lv_if_eq (tgt := 45) hx hb dX0_tell_11 (by decide) (fun _ => ?_) (fun c => absurd c (by decide))
      refine lv_aload_n hx hb dX0_tell_45 rfl (lv_at hl 0 rfl) ?_
      refine va_get (D := (dC, dI)) (ci := 0) (v := .int n0_size) (C := RX0) (T := TX0) (N := 2) hx hb hts (fun _ h => List.mem_cons_of_mem _ (List.mem_append_right _ h)) hown hK hP 0 rfl rfl 1 (by decide) (hts (.fieldLink RX0 15 "KinkStreet$Bends" "size" "I") (List.mem_of_getElem? (i := 2) rfl)) (fun _ h9 => h9) rfl dX0_tell_46 ?_
      have hP9 := kk_Ps (wq := [(h0, kO0 h1 n0_size), (h1, kAi cint 6 f1)]) hP [0, 1] rfl
      have hD9 := kk_Ds (wq := [(h0, kO0 h1 n0_size), (h1, kAi cint 6 f1)]) hD [0, 1] (by decide) rfl
      have hK9 := kk_Ks (tq := []) hK [] rfl
      exact W.iret (v := n0_size) hx hb hr (fun t ht hW => ⟨⟨n0_size, (), rfl, trivial, n0_size, f1, by rw [ht]; exact hP9, va_K.moved hW.alike hK9, hD9⟩, hS.F ht⟩) hS.2.2 dX0_tell_49
    · skip
      have t_2_0 : (0 : Int) ≤ p1.toInt := t_2_0
      have t_2_1 : (p1.toInt : Int) < 6 := t_2_1
      refine lv_if_eq (tgt := 45) hx hb dX0_tell_11 (by decide) (fun c => absurd c (by decide)) (fun _ => ?_)
      refine lv_aload_n hx hb dX0_tell_14 rfl (lv_at hl 0 rfl) ?_
      refine lv_iload_n hx hb dX0_tell_15 rfl (lv_at hl 1 rfl) ?_
      refine lv_iload_n hx hb dX0_tell_16 rfl (lv_at hl 2 rfl) ?_
      have hPc := kk_Ps (wq := [(h0, kO0 h1 n0_size), (h1, kAi cint 6 f1)]) hP [0, 1] rfl
      have hDc := kk_Ds (wq := [(h0, kO0 h1 n0_size), (h1, kAi cint 6 f1)]) hD [0, 1] (by decide) rfl
      have hKc := kk_Ks (tq := [(cint, .int)]) hK [0] rfl
      have hFc := va_free (wc := [(h0, kO0 h1 n0_size), (h1, kAi cint 6 f1)]) hD hS hA [0, 1] rfl
      refine va_calli (va_runV (As := [.int p0, .int p1]) (rest := []) ⟨hx, hb, hml, hown, hts⟩ (g_X0_isTold_0 l dC dI h0 h1 cint H.size p0 p1 n0_size f1) (cwV 2 hts gX0_tell_X0_isTold rfl rfl rfl ⟨rfl, kh_X0_isTold⟩ ⟨Nat.le_of_ble_eq_true rfl, Nat.le_of_ble_eq_true rfl⟩) ⟨fun a U g mk q => by obtain ⟨q0, q1, qP, qK, qD⟩ := q; exact ⟨q0, q1, qP, va_K.moved (u := U) (U := U.calling g mk a) (Vm.Alike.refl U.vm) qK, qD⟩, va_recv hKc hPc (ci := 0) (q0 := 0) rfl rfl, fun U hU hW => ⟨rfl, by rw [hU], by rw [hU]; exact hPc, va_K.moved hW.alike hKc, hDc.weaken (fun _ _ _ _ => trivial)⟩⟩ rfl rfl hl.1 rfl (lv_room (Nat.le_of_ble_eq_true rfl)) dX0_tell_17 ⟨Nat.le_of_ble_eq_true rfl, Nat.le_of_ble_eq_true rfl⟩) hS (fun q _ h => hFc q h) hFc (fun r_3 u t H1 locs ht hvm hw hB hz1 hk1 hS => ?_)
      obtain ⟨hP1, hK1, hD1⟩ := hB
      rw [ht] at hP1
      have hK1 := va_K.moved hvm.symm hK1
      obtain ⟨hP, hD⟩ := va_join (wr := []) (w1 := [(h0, kO0 h1 n0_size), (h1, kAi cint 6 f1)]) hP hD [0, 1] [] rfl rfl (by decide) (by decide) hk1 hFc hP1 hD1
      generalize H1 = H at hP hS ⊢
      have hP : va_P (dC, dI) vwCl [(h0, kO0 h1 n0_size), (h1, kAi cint 6 f1)] H := hP
      have hD : va_D A [(h0, kO0 h1 n0_size), (h1, kAi cint 6 f1)] := hD
      rcases hw with ⟨rfl⟩ | ⟨t_3_0, t_3_1, t_3_2, t_3_3, rfl⟩
      · skip
        refine lv_if_ne (tgt := 45) hx hb dX0_tell_20 (by decide) (fun c => absurd c (by decide)) (fun _ => ?_)
        refine lv_aload_n hx hb dX0_tell_23 rfl (lv_at hl 0 rfl) ?_
        refine va_get (D := (dC, dI)) (ci := 0) (v := .ref h1) (C := RX0) (T := TX0) (N := 2) hx hb hts (fun _ h => List.mem_cons_of_mem _ (List.mem_append_right _ h)) hown hK hP 0 rfl rfl 0 (by decide) (hts (.fieldLink RX0 9 "KinkStreet$Bends" "bendsTo" "[I") (List.mem_of_getElem? (i := 1) rfl)) (fun _ h9 => h9) rfl dX0_tell_24 ?_
        refine lv_iload_n hx hb dX0_tell_27 rfl (lv_at hl 1 rfl) ?_
        refine lv_dup2_11 hx hb dX0_tell_28 rfl rfl ?_
        have hi_4 : vp_in p0 6 := (vp_in_iff.mpr ⟨by omega, by omega⟩)
        refine va_iald hx hb hK hP 1 0 rfl rfl hi_4 dX0_tell_29 ?_
        refine lv_topi (fun y_4 e_4 => ?_)
        clear e_4
        refine lv_iconst (v := 1) hx hb dX0_tell_30 kk_ic_1 ?_
        refine lv_iload_n hx hb dX0_tell_31 rfl (lv_at hl 2 rfl) ?_
        refine lv_ishl hx hb dX0_tell_32 ?_
        refine lv_topi (fun y_5 e_5 => ?_)
        clear e_5
        refine lv_ior hx hb dX0_tell_33 ?_
        refine lv_topi (fun y_6 e_6 => ?_)
        clear e_6
        refine va_iast hx hb hK hP hD hS 1 0 rfl rfl (vp_in_iff.mpr ⟨by omega, by omega⟩) dX0_tell_34 (fun H locs hP hD hS => ?_)
        generalize upd f1 (p0 : Int32).toNatClampNeg y_6 = f_7 at hP hD
        have hP : va_P (dC, dI) vwCl [(h0, kO0 h1 n0_size), (h1, kAi cint 6 f_7)] H := hP
        have hD : va_D A [(h0, kO0 h1 n0_size), (h1, kAi cint 6 f_7)] := hD
        refine lv_aload_n hx hb dX0_tell_35 rfl (lv_at hl 0 rfl) ?_
        refine lv_dup hx hb dX0_tell_36 rfl ?_
        refine va_get (D := (dC, dI)) (ci := 0) (v := .int n0_size) (C := RX0) (T := TX0) (N := 2) hx hb hts (fun _ h => List.mem_cons_of_mem _ (List.mem_append_right _ h)) hown hK hP 0 rfl rfl 1 (by decide) (hts (.fieldLink RX0 15 "KinkStreet$Bends" "size" "I") (List.mem_of_getElem? (i := 2) rfl)) (fun _ h9 => h9) rfl dX0_tell_37 ?_
        refine lv_iconst (v := 1) hx hb dX0_tell_40 kk_ic_1 ?_
        refine lv_iadd hx hb dX0_tell_41 ?_
        refine va_put (D := (dC, dI)) (ci := 0) (v := .int (n0_size + 1)) (ty := .int) (C := RX0) (T := TX0) (N := 2) hx hb hts (fun _ h => List.mem_cons_of_mem _ (List.mem_append_right _ h)) tyX0 tyX0_ok nmX0 hown hK hP hD hS 0 rfl rfl 1 (by decide) (hts (.fieldLink RX0 15 "KinkStreet$Bends" "size" "I") (List.mem_of_getElem? (i := 2) rfl)) (fun _ h9 => h9) rfl (by decide +kernel) rfl rfl (Nat.le_of_ble_eq_true rfl) dX0_tell_42 (fun H locs hP hD hS => ?_)
        have hP : va_P (dC, dI) vwCl [(h0, kO0 h1 (n0_size + 1)), (h1, kAi cint 6 f_7)] H := hP
        have hD : va_D A [(h0, kO0 h1 (n0_size + 1)), (h1, kAi cint 6 f_7)] := hD
        refine lv_aload_n hx hb dX0_tell_45 rfl (lv_at hl 0 rfl) ?_
        refine va_get (D := (dC, dI)) (ci := 0) (v := .int (n0_size + 1)) (C := RX0) (T := TX0) (N := 2) hx hb hts (fun _ h => List.mem_cons_of_mem _ (List.mem_append_right _ h)) hown hK hP 0 rfl rfl 1 (by decide) (hts (.fieldLink RX0 15 "KinkStreet$Bends" "size" "I") (List.mem_of_getElem? (i := 2) rfl)) (fun _ h9 => h9) rfl dX0_tell_46 ?_
        have hP9 := kk_Ps (wq := [(h0, kO0 h1 (n0_size + 1)), (h1, kAi cint 6 f_7)]) hP [0, 1] rfl
        have hD9 := kk_Ds (wq := [(h0, kO0 h1 (n0_size + 1)), (h1, kAi cint 6 f_7)]) hD [0, 1] (by decide) rfl
        have hK9 := kk_Ks (tq := []) hK [] rfl
        exact W.iret (v := (n0_size + 1)) hx hb hr (fun t ht hW => ⟨⟨(n0_size + 1), (), rfl, trivial, (n0_size + 1), f_7, by rw [ht]; exact hP9, va_K.moved hW.alike hK9, hD9⟩, hS.F ht⟩) hS.2.2 dX0_tell_49
      · skip
        have t_3_0 : (0 : Int) ≤ p0.toInt := t_3_0
        have t_3_1 : (p0.toInt : Int) < 6 := t_3_1
        have t_3_2 : (0 : Int) ≤ p1.toInt := t_3_2
        have t_3_3 : (p1.toInt : Int) < 6 := t_3_3
        refine lv_if_ne (tgt := 45) hx hb dX0_tell_20 (by decide) (fun _ => ?_) (fun c => absurd c (by decide))
        refine lv_aload_n hx hb dX0_tell_45 rfl (lv_at hl 0 rfl) ?_
        refine va_get (D := (dC, dI)) (ci := 0) (v := .int n0_size) (C := RX0) (T := TX0) (N := 2) hx hb hts (fun _ h => List.mem_cons_of_mem _ (List.mem_append_right _ h)) hown hK hP 0 rfl rfl 1 (by decide) (hts (.fieldLink RX0 15 "KinkStreet$Bends" "size" "I") (List.mem_of_getElem? (i := 2) rfl)) (fun _ h9 => h9) rfl dX0_tell_46 ?_
        have hP9 := kk_Ps (wq := [(h0, kO0 h1 n0_size), (h1, kAi cint 6 f1)]) hP [0, 1] rfl
        have hD9 := kk_Ds (wq := [(h0, kO0 h1 n0_size), (h1, kAi cint 6 f1)]) hD [0, 1] (by decide) rfl
        have hK9 := kk_Ks (tq := []) hK [] rfl
        exact W.iret (v := n0_size) hx hb hr (fun t ht hW => ⟨⟨n0_size, (), rfl, trivial, n0_size, f1, by rw [ht]; exact hP9, va_K.moved hW.alike hK9, hD9⟩, hS.F ht⟩) hS.2.2 dX0_tell_49
set_option maxHeartbeats 4000000 in
set_option maxRecDepth 100000 in
theorem g_X0_leastFree_0 (l : Launch) (dC : Nat → ClassId) (dI : Nat → Nat → Nat) (h0 : Nat) (h1 : Nat) (cint : ClassId) (sz : Nat) (p0 : Int32) (n0_size : Int32) (f1 : Nat → Int32) : Met l yX0_leastFree wsX0_leastFree ({ frames := 0, cells := 0, slots := 0, locals := 0 }) (va_Pc [.ref h0, .int p0] (fun U => U.heap.size = sz ∧ va_P (dC, dI) vwCl [(h0, kO0 h1 n0_size), (h1, kAi cint 6 f1)] U.heap ∧ va_K (dC, dI) vwCl [(cint, .int)] U ∧ va_D (fun _ => True) [(h0, kO0 h1 n0_size), (h1, kAi cint 6 f1)])) (va_Qi (fun (r : Int32) (_ : Unit) => ((-2) ≤ r.toInt ∧ r.toInt ≤ 5)) (fun (_ : Unit) t => va_P (dC, dI) vwCl [(h0, kO0 h1 n0_size), (h1, kAi cint 6 f1)] t.heap ∧ va_K (dC, dI) vwCl [] t ∧ va_D (va_A [(h0, kO0 h1 n0_size), (h1, kAi cint 6 f1)] sz) [(h0, kO0 h1 n0_size), (h1, kAi cint 6 f1)]) (va_A [(h0, kO0 h1 n0_size), (h1, kAi cint 6 f1)] sz)) 0 0 (va_A [(h0, kO0 h1 n0_size), (h1, kAi cint 6 f1)] sz) := by
  refine Met.ofW (cc := cX0_leastFree) (maxL := 3) (ret := (some .int)) (by decide) rfl ?_
  intro p e s m args below meth c s₁ B hml hv
  obtain ⟨rfl, hsz, hP, hK, hD0⟩ := hv
  have hx := B.exec
  have hb := B.bytes
  have hr := B.returns
  have hts := atoms_spec (ws := wsX0_leastFree) B.pre
  have hown : s.vm.findClass RX0 = some m.cls := findClass_of_methodNamed B.named
  have hlocks := B.notSynchronized
  subst hsz
  have hD := hD0.self (sz := s.heap.size)
  generalize hAe : va_A [(h0, kO0 h1 n0_size), (h1, kAi cint 6 f1)] s.heap.size = A at hD ⊢
  have hA : ∀ q : Nat, s.heap.size ≤ q → A q := fun q h => by rw [← hAe]; exact Or.inr h
  have hS : va_S A s.heap s.heap [] := va_S.rf
  have hP : va_P (dC, dI) vwCl [(h0, kO0 h1 n0_size), (h1, kAi cint 6 f1)] s.heap := hP
  have hl := lv_entry ([.ref h0, .int p0]) (n := 3) (Nat.le_of_ble_eq_true rfl)
  rw [lg_entry_eq]
  generalize (lg_sl ([.ref h0, .int p0]) ++ List.replicate (3 - (lg_sl ([.ref h0, .int p0])).length) Slot.unset).toArray = ls at hl ⊢
  have hl : lv_has ls 3 [(0, .ref h0), (1, .int p0)] := hl
  refine lv_iconst (v := 0) hx hb dX0_leastFree_0 kk_ic_0 ?_
  refine lv_istore_n hx hb dX0_leastFree_1 rfl hl (by decide) (rfl : _ = ([(2, .int 0), (0, .ref h0), (1, .int p0)] : List (Nat × Value))) (fun ls hl => ?_)
  refine kk_loop (σ := Int32) (fun x H locs ls => (0 ≤ x.toInt ∧ x.toInt ≤ 6) ∧ va_P (dC, dI) vwCl [(h0, kO0 h1 n0_size), (h1, kAi cint 6 f1)] H ∧ va_D A [(h0, kO0 h1 n0_size), (h1, kAi cint 6 f1)] ∧ va_S A s.heap H locs ∧ lv_has ls 3 [(2, .int x), (0, .ref h0), (1, .int p0)]) (fun x => ((6 : Int) - x.toInt).toNat) ?_ (0) _ _ _ ⟨(by show 0 ≤ (0 : Int32).toInt ∧ (0 : Int32).toInt ≤ 6; first | decide | ((omega))), hP, hD, hS, hl⟩
  rintro i_1_0 H locs ls ⟨t_1_0, hP, hD, hS, hl⟩ ih_1
  have t_1_0 : (0 ≤ i_1_0.toInt ∧ i_1_0.toInt ≤ 6) := t_1_0
  have hl : lv_has ls 3 [(2, .int i_1_0), (0, .ref h0), (1, .int p0)] := hl
  have hP : va_P (dC, dI) vwCl [(h0, kO0 h1 n0_size), (h1, kAi cint 6 f1)] H := hP
  have hD : va_D A [(h0, kO0 h1 n0_size), (h1, kAi cint 6 f1)] := hD
  refine lv_iload_n hx hb dX0_leastFree_2 rfl (lv_at hl 0 rfl) ?_
  refine lv_aload_n hx hb dX0_leastFree_3 rfl (lv_at hl 1 rfl) ?_
  refine va_get (D := (dC, dI)) (ci := 0) (v := .ref h1) (C := RX0) (T := TX0) (N := 2) hx hb hts (fun _ h => List.mem_cons_of_mem _ (List.mem_append_right _ h)) hown hK hP 0 rfl rfl 0 (by decide) (hts (.fieldLink RX0 9 "KinkStreet$Bends" "bendsTo" "[I") (List.mem_of_getElem? (i := 1) rfl)) (fun _ h9 => h9) rfl dX0_leastFree_4 ?_
  refine va_alen (v := 6) hx hb hK hP 1 0 rfl rfl rfl dX0_leastFree_7 ?_
  refine lv_icmp_ge (tgt := 38) hx hb dX0_leastFree_8 (by decide) (fun c_57 => ?_) (fun c_57 => ?_)
  · have t_57 : 6 ≤ i_1_0.toInt := kk_le c_57
    refine lv_bipush (v := (-2)) hx hb dX0_leastFree_38 kk_bi_m2 ?_
    have hP9 := kk_Ps (wq := [(h0, kO0 h1 n0_size), (h1, kAi cint 6 f1)]) hP [0, 1] rfl
    have hD9 := kk_Ds (wq := [(h0, kO0 h1 n0_size), (h1, kAi cint 6 f1)]) hD [0, 1] (by decide) rfl
    have hK9 := kk_Ks (tq := []) hK [] rfl
    exact W.iret (v := (-2)) hx hb hr (fun t ht hW => ⟨⟨(-2), (), rfl, (by show (-2) ≤ ((-2) : Int32).toInt ∧ ((-2) : Int32).toInt ≤ 5; first | decide | ((omega))), by rw [ht]; exact hP9, va_K.moved hW.alike hK9, hD9⟩, hS.F ht⟩) hS.2.2 dX0_leastFree_40
  · have t_57 : i_1_0.toInt < 6 := kk_nle c_57
    refine lv_iload_n hx hb dX0_leastFree_11 rfl (lv_at hl 2 rfl) ?_
    refine lv_iload_n hx hb dX0_leastFree_12 rfl (lv_at hl 0 rfl) ?_
    refine lv_iushr hx hb dX0_leastFree_13 rfl ?_
    refine lv_topi (fun y_58 e_58 => ?_)
    clear e_58
    refine lv_iconst (v := 1) hx hb dX0_leastFree_14 kk_ic_1 ?_
    refine lv_iand hx hb dX0_leastFree_15 ?_
    refine lv_topi (fun y_59 e_59 => ?_)
    have t_59 : 0 ≤ y_59.toInt ∧ y_59.toInt ≤ 1 := by rw [e_59]; exact kk_and_1 _
    clear e_59
    refine lv_if_eq (tgt := 32) hx hb dX0_leastFree_16 (by decide) (fun c_60 => ?_) (fun c_60 => ?_)
    · have t_60 : y_59.toInt = 0 := kk_eq c_60
      refine lv_iinc (v := (i_1_0 + 1)) hx hb dX0_leastFree_32 hl (k := 0) rfl (by first | rfl | decide) (by decide) (rfl : _ = ([(2, .int (i_1_0 + 1)), (0, .ref h0), (1, .int p0)] : List (Nat × Value))) (fun ls hl => ?_)
      refine lv_goto (tgt := 2) hx hb dX0_leastFree_35 (by decide) ?_
      try have := kk_add2 (x := i_1_0) (y := 1) (a := i_1_0.toInt) (b := 1) rfl rfl (by omega) (by omega)
      exact ih_1 ((i_1_0 + 1)) _ _ _ (by show ((6 : Int) - ((i_1_0 + 1)).toInt).toNat < ((6 : Int) - i_1_0.toInt).toNat; exact kk_mu (by omega) (by omega)) ⟨(by show 0 ≤ ((i_1_0 + 1) : Int32).toInt ∧ ((i_1_0 + 1) : Int32).toInt ≤ 6; first | decide | ((omega))), hP, hD, hS, lv_sub hl [0, 1, 2] rfl⟩
    · have t_60 : y_59.toInt ≠ 0 := kk_ne c_60
      refine lv_aload_n hx hb dX0_leastFree_19 rfl (lv_at hl 1 rfl) ?_
      refine va_get (D := (dC, dI)) (ci := 0) (v := .ref h1) (C := RX0) (T := TX0) (N := 2) hx hb hts (fun _ h => List.mem_cons_of_mem _ (List.mem_append_right _ h)) hown hK hP 0 rfl rfl 0 (by decide) (hts (.fieldLink RX0 9 "KinkStreet$Bends" "bendsTo" "[I") (List.mem_of_getElem? (i := 1) rfl)) (fun _ h9 => h9) rfl dX0_leastFree_20 ?_
      refine lv_iload_n hx hb dX0_leastFree_23 rfl (lv_at hl 0 rfl) ?_
      have hi_61 : vp_in i_1_0 6 := (vp_in_iff.mpr ⟨by omega, by omega⟩)
      refine va_iald hx hb hK hP 1 0 rfl rfl hi_61 dX0_leastFree_24 ?_
      refine lv_topi (fun y_61 e_61 => ?_)
      clear e_61
      refine lv_iload_n hx hb dX0_leastFree_25 rfl (lv_at hl 2 rfl) ?_
      refine lv_iand hx hb dX0_leastFree_26 ?_
      refine lv_topi (fun y_62 e_62 => ?_)
      clear e_62
      refine lv_if_ne (tgt := 32) hx hb dX0_leastFree_27 (by decide) (fun c_63 => ?_) (fun c_63 => ?_)
      · have t_63 : y_62.toInt ≠ 0 := kk_ne c_63
        refine lv_iinc (v := (i_1_0 + 1)) hx hb dX0_leastFree_32 hl (k := 0) rfl (by first | rfl | decide) (by decide) (rfl : _ = ([(2, .int (i_1_0 + 1)), (0, .ref h0), (1, .int p0)] : List (Nat × Value))) (fun ls hl => ?_)
        refine lv_goto (tgt := 2) hx hb dX0_leastFree_35 (by decide) ?_
        try have := kk_add2 (x := i_1_0) (y := 1) (a := i_1_0.toInt) (b := 1) rfl rfl (by omega) (by omega)
        exact ih_1 ((i_1_0 + 1)) _ _ _ (by show ((6 : Int) - ((i_1_0 + 1)).toInt).toNat < ((6 : Int) - i_1_0.toInt).toNat; exact kk_mu (by omega) (by omega)) ⟨(by show 0 ≤ ((i_1_0 + 1) : Int32).toInt ∧ ((i_1_0 + 1) : Int32).toInt ≤ 6; first | decide | ((omega))), hP, hD, hS, lv_sub hl [0, 1, 2] rfl⟩
      · have t_63 : y_62.toInt = 0 := kk_eq c_63
        refine lv_iload_n hx hb dX0_leastFree_30 rfl (lv_at hl 0 rfl) ?_
        have hP9 := kk_Ps (wq := [(h0, kO0 h1 n0_size), (h1, kAi cint 6 f1)]) hP [0, 1] rfl
        have hD9 := kk_Ds (wq := [(h0, kO0 h1 n0_size), (h1, kAi cint 6 f1)]) hD [0, 1] (by decide) rfl
        have hK9 := kk_Ks (tq := []) hK [] rfl
        exact W.iret (v := i_1_0) hx hb hr (fun t ht hW => ⟨⟨i_1_0, (), rfl, (by show (-2) ≤ (i_1_0 : Int32).toInt ∧ (i_1_0 : Int32).toInt ≤ 5; first | decide | ((omega))), by rw [ht]; exact hP9, va_K.moved hW.alike hK9, hD9⟩, hS.F ht⟩) hS.2.2 dX0_leastFree_31
set_option maxHeartbeats 4000000 in
set_option maxRecDepth 100000 in
theorem g_X1_undoable_0 (l : Launch) (dC : Nat → ClassId) (dI : Nat → Nat → Nat) (h0 : Nat) (h1 : Nat) (h2 : Nat) (h3 : Nat) (h4 : Nat) (sz : Nat) (n0_done : Int32) (n0_kept : Int32) (tn0_done : 0 ≤ n0_done.toInt ∧ n0_done.toInt ≤ 40) (tn0_kept : kk_bx (0 ≤ n0_kept.toInt ∧ n0_kept.toInt ≤ 40)) : Met l yX1_undoable wsX1_undoable ({ frames := 0, cells := 0, slots := 0, locals := 0 }) (va_Pc [.ref h0] (fun U => U.heap.size = sz ∧ va_P (dC, dI) vwCl [(h0, kO1 h1 h2 h3 h4 n0_done n0_kept)] U.heap ∧ va_K (dC, dI) vwCl [] U ∧ va_D (fun _ => True) [(h0, kO1 h1 h2 h3 h4 n0_done n0_kept)])) (va_Qi (fun (r : Int32) (_ : Unit) => n0_done = r) (fun (_ : Unit) t => va_P (dC, dI) vwCl [(h0, kO1 h1 h2 h3 h4 n0_done n0_kept)] t.heap ∧ va_K (dC, dI) vwCl [] t ∧ va_D (va_A [(h0, kO1 h1 h2 h3 h4 n0_done n0_kept)] sz) [(h0, kO1 h1 h2 h3 h4 n0_done n0_kept)]) (va_A [(h0, kO1 h1 h2 h3 h4 n0_done n0_kept)] sz)) 0 0 (va_A [(h0, kO1 h1 h2 h3 h4 n0_done n0_kept)] sz) := by
  refine Met.ofW (cc := cX1_undoable) (maxL := 1) (ret := (some .int)) (by decide) rfl ?_
  intro p e s m args below meth c s₁ B hml hv
  obtain ⟨rfl, hsz, hP, hK, hD0⟩ := hv
  have hx := B.exec
  have hb := B.bytes
  have hr := B.returns
  have hts := atoms_spec (ws := wsX1_undoable) B.pre
  have hown : s.vm.findClass RX1 = some m.cls := findClass_of_methodNamed B.named
  have hlocks := B.notSynchronized
  subst hsz
  have hD := hD0.self (sz := s.heap.size)
  generalize hAe : va_A [(h0, kO1 h1 h2 h3 h4 n0_done n0_kept)] s.heap.size = A at hD ⊢
  have hA : ∀ q : Nat, s.heap.size ≤ q → A q := fun q h => by rw [← hAe]; exact Or.inr h
  have hS : va_S A s.heap s.heap [] := va_S.rf
  have hP : va_P (dC, dI) vwCl [(h0, kO1 h1 h2 h3 h4 n0_done n0_kept)] s.heap := hP
  have hl := lv_entry ([.ref h0]) (n := 1) (Nat.le_of_ble_eq_true rfl)
  rw [lg_entry_eq]
  generalize (lg_sl ([.ref h0]) ++ List.replicate (1 - (lg_sl ([.ref h0])).length) Slot.unset).toArray = ls at hl ⊢
  have hl : lv_has ls 1 [(0, .ref h0)] := hl
  refine lv_aload_n hx hb dX1_undoable_0 rfl (lv_at hl 0 rfl) ?_
  refine va_get (D := (dC, dI)) (ci := 1) (v := .int n0_done) (C := RX1) (T := TX1) (N := 6) hx hb hts (fun _ h => List.mem_cons_of_mem _ (List.mem_append_right _ h)) hown hK hP 0 rfl rfl 4 (by decide) (hts (.fieldLink RX1 22 "KinkStreet$Changes" "done" "I") (List.mem_of_getElem? (i := 1) rfl)) (fun _ h9 => h9) rfl dX1_undoable_1 ?_
  have hP9 := kk_Ps (wq := [(h0, kO1 h1 h2 h3 h4 n0_done n0_kept)]) hP [0] rfl
  have hD9 := kk_Ds (wq := [(h0, kO1 h1 h2 h3 h4 n0_done n0_kept)]) hD [0] (by decide) rfl
  have hK9 := kk_Ks (tq := []) hK [] rfl
  exact W.iret (v := n0_done) hx hb hr (fun t ht hW => ⟨⟨n0_done, (), rfl, rfl, by rw [ht]; exact hP9, va_K.moved hW.alike hK9, hD9⟩, hS.F ht⟩) hS.2.2 dX1_undoable_4
set_option maxHeartbeats 4000000 in
set_option maxRecDepth 100000 in
theorem g_X1_redoable_0 (l : Launch) (dC : Nat → ClassId) (dI : Nat → Nat → Nat) (h0 : Nat) (h1 : Nat) (h2 : Nat) (h3 : Nat) (h4 : Nat) (sz : Nat) (n0_done : Int32) (n0_kept : Int32) (tn0_done : 0 ≤ n0_done.toInt ∧ n0_done.toInt ≤ 40) (tn0_kept : 0 ≤ n0_kept.toInt ∧ n0_kept.toInt ≤ 40) : Met l yX1_redoable wsX1_redoable ({ frames := 0, cells := 0, slots := 0, locals := 0 }) (va_Pc [.ref h0] (fun U => U.heap.size = sz ∧ va_P (dC, dI) vwCl [(h0, kO1 h1 h2 h3 h4 n0_done n0_kept)] U.heap ∧ va_K (dC, dI) vwCl [] U ∧ va_D (fun _ => True) [(h0, kO1 h1 h2 h3 h4 n0_done n0_kept)])) (va_Qi (fun (r : Int32) (_ : Unit) => (n0_kept - n0_done) = r) (fun (_ : Unit) t => va_P (dC, dI) vwCl [(h0, kO1 h1 h2 h3 h4 n0_done n0_kept)] t.heap ∧ va_K (dC, dI) vwCl [] t ∧ va_D (va_A [(h0, kO1 h1 h2 h3 h4 n0_done n0_kept)] sz) [(h0, kO1 h1 h2 h3 h4 n0_done n0_kept)]) (va_A [(h0, kO1 h1 h2 h3 h4 n0_done n0_kept)] sz)) 0 0 (va_A [(h0, kO1 h1 h2 h3 h4 n0_done n0_kept)] sz) := by
  refine Met.ofW (cc := cX1_redoable) (maxL := 1) (ret := (some .int)) (by decide) rfl ?_
  intro p e s m args below meth c s₁ B hml hv
  obtain ⟨rfl, hsz, hP, hK, hD0⟩ := hv
  have hx := B.exec
  have hb := B.bytes
  have hr := B.returns
  have hts := atoms_spec (ws := wsX1_redoable) B.pre
  have hown : s.vm.findClass RX1 = some m.cls := findClass_of_methodNamed B.named
  have hlocks := B.notSynchronized
  subst hsz
  have hD := hD0.self (sz := s.heap.size)
  generalize hAe : va_A [(h0, kO1 h1 h2 h3 h4 n0_done n0_kept)] s.heap.size = A at hD ⊢
  have hA : ∀ q : Nat, s.heap.size ≤ q → A q := fun q h => by rw [← hAe]; exact Or.inr h
  have hS : va_S A s.heap s.heap [] := va_S.rf
  have hP : va_P (dC, dI) vwCl [(h0, kO1 h1 h2 h3 h4 n0_done n0_kept)] s.heap := hP
  have hl := lv_entry ([.ref h0]) (n := 1) (Nat.le_of_ble_eq_true rfl)
  rw [lg_entry_eq]
  generalize (lg_sl ([.ref h0]) ++ List.replicate (1 - (lg_sl ([.ref h0])).length) Slot.unset).toArray = ls at hl ⊢
  have hl : lv_has ls 1 [(0, .ref h0)] := hl
  refine lv_aload_n hx hb dX1_redoable_0 rfl (lv_at hl 0 rfl) ?_
  refine va_get (D := (dC, dI)) (ci := 1) (v := .int n0_kept) (C := RX1) (T := TX1) (N := 6) hx hb hts (fun _ h => List.mem_cons_of_mem _ (List.mem_append_right _ h)) hown hK hP 0 rfl rfl 5 (by decide) (hts (.fieldLink RX1 26 "KinkStreet$Changes" "kept" "I") (List.mem_of_getElem? (i := 1) rfl)) (fun _ h9 => h9) rfl dX1_redoable_1 ?_
  refine lv_aload_n hx hb dX1_redoable_4 rfl (lv_at hl 0 rfl) ?_
  refine va_get (D := (dC, dI)) (ci := 1) (v := .int n0_done) (C := RX1) (T := TX1) (N := 6) hx hb hts (fun _ h => List.mem_cons_of_mem _ (List.mem_append_right _ h)) hown hK hP 0 rfl rfl 4 (by decide) (hts (.fieldLink RX1 22 "KinkStreet$Changes" "done" "I") (List.mem_of_getElem? (i := 2) rfl)) (fun _ h9 => h9) rfl dX1_redoable_5 ?_
  refine lv_isub hx hb dX1_redoable_8 ?_
  have hP9 := kk_Ps (wq := [(h0, kO1 h1 h2 h3 h4 n0_done n0_kept)]) hP [0] rfl
  have hD9 := kk_Ds (wq := [(h0, kO1 h1 h2 h3 h4 n0_done n0_kept)]) hD [0] (by decide) rfl
  have hK9 := kk_Ks (tq := []) hK [] rfl
  exact W.iret (v := (n0_kept - n0_done)) hx hb hr (fun t ht hW => ⟨⟨(n0_kept - n0_done), (), rfl, rfl, by rw [ht]; exact hP9, va_K.moved hW.alike hK9, hD9⟩, hS.F ht⟩) hS.2.2 dX1_redoable_9
set_option maxHeartbeats 4000000 in
set_option maxRecDepth 100000 in
theorem g_X8_isSort_0 (l : Launch) (dC : Nat → ClassId) (dI : Nat → Nat → Nat) (sz : Nat) (p0 : Int32) : Met l yX8_isSort wsX8_isSort ({ frames := 0, cells := 0, slots := 0, locals := 0 }) (va_Pc [.int p0] (fun U => U.heap.size = sz ∧ va_P (dC, dI) vwCl [] U.heap ∧ va_K (dC, dI) vwCl [] U ∧ va_D (fun _ => True) [])) (va_Qi (fun (r : Int32) (_ : Unit) => ((0 : Int32) = r) ∨ (0 ≤ p0.toInt ∧ p0.toInt ≤ 4 ∧ (1 : Int32) = r)) (fun (_ : Unit) t => va_P (dC, dI) vwCl [] t.heap ∧ va_K (dC, dI) vwCl [] t ∧ va_D (va_A [] sz) []) (va_A [] sz)) 0 0 (va_A [] sz) := by
  refine Met.ofW (cc := cX8_isSort) (maxL := 1) (ret := (some .boolean)) (by decide) rfl ?_
  intro p e s m args below meth c s₁ B hml hv
  obtain ⟨rfl, hsz, hP, hK, hD0⟩ := hv
  have hx := B.exec
  have hb := B.bytes
  have hr := B.returns
  have hts := atoms_spec (ws := wsX8_isSort) B.pre
  have hown : s.vm.findClass RX8 = some m.cls := findClass_of_methodNamed B.named
  have hlocks := B.notSynchronized
  subst hsz
  have hD := hD0.self (sz := s.heap.size)
  generalize hAe : va_A [] s.heap.size = A at hD ⊢
  have hA : ∀ q : Nat, s.heap.size ≤ q → A q := fun q h => by rw [← hAe]; exact Or.inr h
  have hS : va_S A s.heap s.heap [] := va_S.rf
  have hP : va_P (dC, dI) vwCl [] s.heap := hP
  have hl := lv_entry ([.int p0]) (n := 1) (Nat.le_of_ble_eq_true rfl)
  rw [lg_entry_eq]
  generalize (lg_sl ([.int p0]) ++ List.replicate (1 - (lg_sl ([.int p0])).length) Slot.unset).toArray = ls at hl ⊢
  have hl : lv_has ls 1 [(0, .int p0)] := hl
  refine lv_iload_n hx hb dX8_isSort_0 rfl (lv_at hl 0 rfl) ?_
  refine lv_if_lt (tgt := 13) hx hb dX8_isSort_1 (by decide) (fun c_1 => ?_) (fun c_1 => ?_)
  · have t_1 : p0.toInt < 0 := kk_lt c_1
    refine lv_iconst (v := 0) hx hb dX8_isSort_13 kk_ic_0 ?_
    have hP9 := kk_Ps (wq := []) hP [] rfl
    have hD9 := kk_Ds (wq := []) hD [] (by decide) rfl
    have hK9 := kk_Ks (tq := []) hK [] rfl
    exact W.zret (v := 0) hx hb hr rfl (fun t ht hW => ⟨⟨0, (), rfl, Or.inl rfl, by rw [ht]; exact hP9, va_K.moved hW.alike hK9, hD9⟩, hS.F ht⟩) hS.2.2 dX8_isSort_14
  · have t_1 : 0 ≤ p0.toInt := kk_nlt c_1
    refine lv_iload_n hx hb dX8_isSort_4 rfl (lv_at hl 0 rfl) ?_
    refine lv_iconst (v := 4) hx hb dX8_isSort_5 kk_ic_4 ?_
    refine lv_icmp_gt (tgt := 13) hx hb dX8_isSort_6 (by decide) (fun c_2 => ?_) (fun c_2 => ?_)
    · have t_2 : 4 < p0.toInt := kk_lt c_2
      refine lv_iconst (v := 0) hx hb dX8_isSort_13 kk_ic_0 ?_
      have hP9 := kk_Ps (wq := []) hP [] rfl
      have hD9 := kk_Ds (wq := []) hD [] (by decide) rfl
      have hK9 := kk_Ks (tq := []) hK [] rfl
      exact W.zret (v := 0) hx hb hr rfl (fun t ht hW => ⟨⟨0, (), rfl, Or.inl rfl, by rw [ht]; exact hP9, va_K.moved hW.alike hK9, hD9⟩, hS.F ht⟩) hS.2.2 dX8_isSort_14
    · have t_2 : p0.toInt ≤ 4 := kk_nlt c_2
      refine lv_iconst (v := 1) hx hb dX8_isSort_9 kk_ic_1 ?_
      refine lv_goto (tgt := 14) hx hb dX8_isSort_10 (by decide) ?_
      have hP9 := kk_Ps (wq := []) hP [] rfl
      have hD9 := kk_Ds (wq := []) hD [] (by decide) rfl
      have hK9 := kk_Ks (tq := []) hK [] rfl
      exact W.zret (v := 1) hx hb hr rfl (fun t ht hW => ⟨⟨1, (), rfl, Or.inr (⟨by first | with_reducible assumption | (omega) | assumption, by first | with_reducible assumption | (omega) | assumption, rfl⟩), by rw [ht]; exact hP9, va_K.moved hW.alike hK9, hD9⟩, hS.F ht⟩) hS.2.2 dX8_isSort_14
set_option maxHeartbeats 4000000 in
set_option maxRecDepth 100000 in
theorem g_X8_isEmpty_0 (l : Launch) (dC : Nat → ClassId) (dI : Nat → Nat → Nat) (h0 : Nat) (h1 : Nat) (sz : Nat) (n0_holds : Int32) (n0_size : Int32) (n0_line : Int32) (tn0_size : kk_bx (0 ≤ n0_size.toInt ∧ n0_size.toInt ≤ 60)) : Met l yX8_isEmpty wsX8_isEmpty ({ frames := 0, cells := 0, slots := 0, locals := 0 }) (va_Pc [.ref h0] (fun U => U.heap.size = sz ∧ va_P (dC, dI) vwCl [(h0, kO8 h1 n0_holds n0_size n0_line)] U.heap ∧ va_K (dC, dI) vwCl [] U ∧ va_D (fun _ => True) [(h0, kO8 h1 n0_holds n0_size n0_line)])) (va_Qi (fun (r : Int32) (_ : Unit) => (n0_holds.toInt ≠ (-1) ∧ (0 : Int32) = r) ∨ (n0_holds.toInt = (-1) ∧ (1 : Int32) = r)) (fun (_ : Unit) t => va_P (dC, dI) vwCl [(h0, kO8 h1 n0_holds n0_size n0_line)] t.heap ∧ va_K (dC, dI) vwCl [] t ∧ va_D (va_A [(h0, kO8 h1 n0_holds n0_size n0_line)] sz) [(h0, kO8 h1 n0_holds n0_size n0_line)]) (va_A [(h0, kO8 h1 n0_holds n0_size n0_line)] sz)) 0 0 (va_A [(h0, kO8 h1 n0_holds n0_size n0_line)] sz) := by
  refine Met.ofW (cc := cX8_isEmpty) (maxL := 1) (ret := (some .boolean)) (by decide) rfl ?_
  intro p e s m args below meth c s₁ B hml hv
  obtain ⟨rfl, hsz, hP, hK, hD0⟩ := hv
  have hx := B.exec
  have hb := B.bytes
  have hr := B.returns
  have hts := atoms_spec (ws := wsX8_isEmpty) B.pre
  have hown : s.vm.findClass RX8 = some m.cls := findClass_of_methodNamed B.named
  have hlocks := B.notSynchronized
  subst hsz
  have hD := hD0.self (sz := s.heap.size)
  generalize hAe : va_A [(h0, kO8 h1 n0_holds n0_size n0_line)] s.heap.size = A at hD ⊢
  have hA : ∀ q : Nat, s.heap.size ≤ q → A q := fun q h => by rw [← hAe]; exact Or.inr h
  have hS : va_S A s.heap s.heap [] := va_S.rf
  have hP : va_P (dC, dI) vwCl [(h0, kO8 h1 n0_holds n0_size n0_line)] s.heap := hP
  have hl := lv_entry ([.ref h0]) (n := 1) (Nat.le_of_ble_eq_true rfl)
  rw [lg_entry_eq]
  generalize (lg_sl ([.ref h0]) ++ List.replicate (1 - (lg_sl ([.ref h0])).length) Slot.unset).toArray = ls at hl ⊢
  have hl : lv_has ls 1 [(0, .ref h0)] := hl
  refine lv_aload_n hx hb dX8_isEmpty_0 rfl (lv_at hl 0 rfl) ?_
  refine va_get (D := (dC, dI)) (ci := 8) (v := .int n0_holds) (C := RX8) (T := TX8) (N := 4) hx hb hts (fun _ h => List.mem_cons_of_mem _ (List.mem_append_right _ h)) hown hK hP 0 rfl rfl 1 (by decide) (hts (.fieldLink RX8 15 "KinkStreet$Shelf" "holds" "I") (List.mem_of_getElem? (i := 1) rfl)) (fun _ h9 => h9) rfl dX8_isEmpty_1 ?_
  refine lv_iconst (v := (-1)) hx hb dX8_isEmpty_4 kk_ic_m1 ?_
  refine lv_icmp_ne (tgt := 12) hx hb dX8_isEmpty_5 (by decide) (fun c_1 => ?_) (fun c_1 => ?_)
  · have t_1 : n0_holds.toInt ≠ (-1) := kk_ne c_1
    refine lv_iconst (v := 0) hx hb dX8_isEmpty_12 kk_ic_0 ?_
    have hP9 := kk_Ps (wq := [(h0, kO8 h1 n0_holds n0_size n0_line)]) hP [0] rfl
    have hD9 := kk_Ds (wq := [(h0, kO8 h1 n0_holds n0_size n0_line)]) hD [0] (by decide) rfl
    have hK9 := kk_Ks (tq := []) hK [] rfl
    exact W.zret (v := 0) hx hb hr rfl (fun t ht hW => ⟨⟨0, (), rfl, Or.inl ⟨by first | with_reducible assumption | (omega) | assumption, rfl⟩, by rw [ht]; exact hP9, va_K.moved hW.alike hK9, hD9⟩, hS.F ht⟩) hS.2.2 dX8_isEmpty_13
  · have t_1 : n0_holds.toInt = (-1) := kk_eq c_1
    refine lv_iconst (v := 1) hx hb dX8_isEmpty_8 kk_ic_1 ?_
    refine lv_goto (tgt := 13) hx hb dX8_isEmpty_9 (by decide) ?_
    have hP9 := kk_Ps (wq := [(h0, kO8 h1 n0_holds n0_size n0_line)]) hP [0] rfl
    have hD9 := kk_Ds (wq := [(h0, kO8 h1 n0_holds n0_size n0_line)]) hD [0] (by decide) rfl
    have hK9 := kk_Ks (tq := []) hK [] rfl
    exact W.zret (v := 1) hx hb hr rfl (fun t ht hW => ⟨⟨1, (), rfl, Or.inr (⟨by first | with_reducible assumption | (omega) | assumption, rfl⟩), by rw [ht]; exact hP9, va_K.moved hW.alike hK9, hD9⟩, hS.F ht⟩) hS.2.2 dX8_isEmpty_13
set_option maxHeartbeats 4000000 in
set_option maxRecDepth 100000 in
theorem g_X8_holdsLine_0 (l : Launch) (dC : Nat → ClassId) (dI : Nat → Nat → Nat) (h0 : Nat) (h1 : Nat) (sz : Nat) (n0_holds : Int32) (n0_size : Int32) (n0_line : Int32) (tn0_size : kk_bx (0 ≤ n0_size.toInt ∧ n0_size.toInt ≤ 60)) : Met l yX8_holdsLine wsX8_holdsLine ({ frames := 0, cells := 0, slots := 0, locals := 0 }) (va_Pc [.ref h0] (fun U => U.heap.size = sz ∧ va_P (dC, dI) vwCl [(h0, kO8 h1 n0_holds n0_size n0_line)] U.heap ∧ va_K (dC, dI) vwCl [] U ∧ va_D (fun _ => True) [(h0, kO8 h1 n0_holds n0_size n0_line)])) (va_Qi (fun (r : Int32) (_ : Unit) => (n0_holds.toInt ≠ (-2) ∧ (0 : Int32) = r) ∨ (n0_holds.toInt = (-2) ∧ (1 : Int32) = r)) (fun (_ : Unit) t => va_P (dC, dI) vwCl [(h0, kO8 h1 n0_holds n0_size n0_line)] t.heap ∧ va_K (dC, dI) vwCl [] t ∧ va_D (va_A [(h0, kO8 h1 n0_holds n0_size n0_line)] sz) [(h0, kO8 h1 n0_holds n0_size n0_line)]) (va_A [(h0, kO8 h1 n0_holds n0_size n0_line)] sz)) 0 0 (va_A [(h0, kO8 h1 n0_holds n0_size n0_line)] sz) := by
  refine Met.ofW (cc := cX8_holdsLine) (maxL := 1) (ret := (some .boolean)) (by decide) rfl ?_
  intro p e s m args below meth c s₁ B hml hv
  obtain ⟨rfl, hsz, hP, hK, hD0⟩ := hv
  have hx := B.exec
  have hb := B.bytes
  have hr := B.returns
  have hts := atoms_spec (ws := wsX8_holdsLine) B.pre
  have hown : s.vm.findClass RX8 = some m.cls := findClass_of_methodNamed B.named
  have hlocks := B.notSynchronized
  subst hsz
  have hD := hD0.self (sz := s.heap.size)
  generalize hAe : va_A [(h0, kO8 h1 n0_holds n0_size n0_line)] s.heap.size = A at hD ⊢
  have hA : ∀ q : Nat, s.heap.size ≤ q → A q := fun q h => by rw [← hAe]; exact Or.inr h
  have hS : va_S A s.heap s.heap [] := va_S.rf
  have hP : va_P (dC, dI) vwCl [(h0, kO8 h1 n0_holds n0_size n0_line)] s.heap := hP
  have hl := lv_entry ([.ref h0]) (n := 1) (Nat.le_of_ble_eq_true rfl)
  rw [lg_entry_eq]
  generalize (lg_sl ([.ref h0]) ++ List.replicate (1 - (lg_sl ([.ref h0])).length) Slot.unset).toArray = ls at hl ⊢
  have hl : lv_has ls 1 [(0, .ref h0)] := hl
  refine lv_aload_n hx hb dX8_holdsLine_0 rfl (lv_at hl 0 rfl) ?_
  refine va_get (D := (dC, dI)) (ci := 8) (v := .int n0_holds) (C := RX8) (T := TX8) (N := 4) hx hb hts (fun _ h => List.mem_cons_of_mem _ (List.mem_append_right _ h)) hown hK hP 0 rfl rfl 1 (by decide) (hts (.fieldLink RX8 15 "KinkStreet$Shelf" "holds" "I") (List.mem_of_getElem? (i := 1) rfl)) (fun _ h9 => h9) rfl dX8_holdsLine_1 ?_
  refine lv_bipush (v := (-2)) hx hb dX8_holdsLine_4 kk_bi_m2 ?_
  refine lv_icmp_ne (tgt := 13) hx hb dX8_holdsLine_6 (by decide) (fun c_1 => ?_) (fun c_1 => ?_)
  · have t_1 : n0_holds.toInt ≠ (-2) := kk_ne c_1
    refine lv_iconst (v := 0) hx hb dX8_holdsLine_13 kk_ic_0 ?_
    have hP9 := kk_Ps (wq := [(h0, kO8 h1 n0_holds n0_size n0_line)]) hP [0] rfl
    have hD9 := kk_Ds (wq := [(h0, kO8 h1 n0_holds n0_size n0_line)]) hD [0] (by decide) rfl
    have hK9 := kk_Ks (tq := []) hK [] rfl
    exact W.zret (v := 0) hx hb hr rfl (fun t ht hW => ⟨⟨0, (), rfl, Or.inl ⟨by first | with_reducible assumption | (omega) | assumption, rfl⟩, by rw [ht]; exact hP9, va_K.moved hW.alike hK9, hD9⟩, hS.F ht⟩) hS.2.2 dX8_holdsLine_14
  · have t_1 : n0_holds.toInt = (-2) := kk_eq c_1
    refine lv_iconst (v := 1) hx hb dX8_holdsLine_9 kk_ic_1 ?_
    refine lv_goto (tgt := 14) hx hb dX8_holdsLine_10 (by decide) ?_
    have hP9 := kk_Ps (wq := [(h0, kO8 h1 n0_holds n0_size n0_line)]) hP [0] rfl
    have hD9 := kk_Ds (wq := [(h0, kO8 h1 n0_holds n0_size n0_line)]) hD [0] (by decide) rfl
    have hK9 := kk_Ks (tq := []) hK [] rfl
    exact W.zret (v := 1) hx hb hr rfl (fun t ht hW => ⟨⟨1, (), rfl, Or.inr (⟨by first | with_reducible assumption | (omega) | assumption, rfl⟩), by rw [ht]; exact hP9, va_K.moved hW.alike hK9, hD9⟩, hS.F ht⟩) hS.2.2 dX8_holdsLine_14
set_option maxHeartbeats 4000000 in
set_option maxRecDepth 100000 in
theorem g_X8_holdsShorts_0 (l : Launch) (dC : Nat → ClassId) (dI : Nat → Nat → Nat) (h0 : Nat) (h1 : Nat) (sz : Nat) (n0_holds : Int32) (n0_size : Int32) (n0_line : Int32) (tn0_size : kk_bx (0 ≤ n0_size.toInt ∧ n0_size.toInt ≤ 60)) : Met l yX8_holdsShorts wsX8_holdsShorts ({ frames := 0, cells := 0, slots := 0, locals := 0 }) (va_Pc [.ref h0] (fun U => U.heap.size = sz ∧ va_P (dC, dI) vwCl [(h0, kO8 h1 n0_holds n0_size n0_line)] U.heap ∧ va_K (dC, dI) vwCl [] U ∧ va_D (fun _ => True) [(h0, kO8 h1 n0_holds n0_size n0_line)])) (va_Qi (fun (r : Int32) (_ : Unit) => (n0_holds.toInt ≠ 1 ∧ (0 : Int32) = r) ∨ (n0_holds.toInt = 1 ∧ (1 : Int32) = r)) (fun (_ : Unit) t => va_P (dC, dI) vwCl [(h0, kO8 h1 n0_holds n0_size n0_line)] t.heap ∧ va_K (dC, dI) vwCl [] t ∧ va_D (va_A [(h0, kO8 h1 n0_holds n0_size n0_line)] sz) [(h0, kO8 h1 n0_holds n0_size n0_line)]) (va_A [(h0, kO8 h1 n0_holds n0_size n0_line)] sz)) 0 0 (va_A [(h0, kO8 h1 n0_holds n0_size n0_line)] sz) := by
  refine Met.ofW (cc := cX8_holdsShorts) (maxL := 1) (ret := (some .boolean)) (by decide) rfl ?_
  intro p e s m args below meth c s₁ B hml hv
  obtain ⟨rfl, hsz, hP, hK, hD0⟩ := hv
  have hx := B.exec
  have hb := B.bytes
  have hr := B.returns
  have hts := atoms_spec (ws := wsX8_holdsShorts) B.pre
  have hown : s.vm.findClass RX8 = some m.cls := findClass_of_methodNamed B.named
  have hlocks := B.notSynchronized
  subst hsz
  have hD := hD0.self (sz := s.heap.size)
  generalize hAe : va_A [(h0, kO8 h1 n0_holds n0_size n0_line)] s.heap.size = A at hD ⊢
  have hA : ∀ q : Nat, s.heap.size ≤ q → A q := fun q h => by rw [← hAe]; exact Or.inr h
  have hS : va_S A s.heap s.heap [] := va_S.rf
  have hP : va_P (dC, dI) vwCl [(h0, kO8 h1 n0_holds n0_size n0_line)] s.heap := hP
  have hl := lv_entry ([.ref h0]) (n := 1) (Nat.le_of_ble_eq_true rfl)
  rw [lg_entry_eq]
  generalize (lg_sl ([.ref h0]) ++ List.replicate (1 - (lg_sl ([.ref h0])).length) Slot.unset).toArray = ls at hl ⊢
  have hl : lv_has ls 1 [(0, .ref h0)] := hl
  refine lv_aload_n hx hb dX8_holdsShorts_0 rfl (lv_at hl 0 rfl) ?_
  refine va_get (D := (dC, dI)) (ci := 8) (v := .int n0_holds) (C := RX8) (T := TX8) (N := 4) hx hb hts (fun _ h => List.mem_cons_of_mem _ (List.mem_append_right _ h)) hown hK hP 0 rfl rfl 1 (by decide) (hts (.fieldLink RX8 15 "KinkStreet$Shelf" "holds" "I") (List.mem_of_getElem? (i := 1) rfl)) (fun _ h9 => h9) rfl dX8_holdsShorts_1 ?_
  refine lv_iconst (v := 1) hx hb dX8_holdsShorts_4 kk_ic_1 ?_
  refine lv_icmp_ne (tgt := 12) hx hb dX8_holdsShorts_5 (by decide) (fun c_1 => ?_) (fun c_1 => ?_)
  · have t_1 : n0_holds.toInt ≠ 1 := kk_ne c_1
    refine lv_iconst (v := 0) hx hb dX8_holdsShorts_12 kk_ic_0 ?_
    have hP9 := kk_Ps (wq := [(h0, kO8 h1 n0_holds n0_size n0_line)]) hP [0] rfl
    have hD9 := kk_Ds (wq := [(h0, kO8 h1 n0_holds n0_size n0_line)]) hD [0] (by decide) rfl
    have hK9 := kk_Ks (tq := []) hK [] rfl
    exact W.zret (v := 0) hx hb hr rfl (fun t ht hW => ⟨⟨0, (), rfl, Or.inl ⟨by first | with_reducible assumption | (omega) | assumption, rfl⟩, by rw [ht]; exact hP9, va_K.moved hW.alike hK9, hD9⟩, hS.F ht⟩) hS.2.2 dX8_holdsShorts_13
  · have t_1 : n0_holds.toInt = 1 := kk_eq c_1
    refine lv_iconst (v := 1) hx hb dX8_holdsShorts_8 kk_ic_1 ?_
    refine lv_goto (tgt := 13) hx hb dX8_holdsShorts_9 (by decide) ?_
    have hP9 := kk_Ps (wq := [(h0, kO8 h1 n0_holds n0_size n0_line)]) hP [0] rfl
    have hD9 := kk_Ds (wq := [(h0, kO8 h1 n0_holds n0_size n0_line)]) hD [0] (by decide) rfl
    have hK9 := kk_Ks (tq := []) hK [] rfl
    exact W.zret (v := 1) hx hb hr rfl (fun t ht hW => ⟨⟨1, (), rfl, Or.inr (⟨by first | with_reducible assumption | (omega) | assumption, rfl⟩), by rw [ht]; exact hP9, va_K.moved hW.alike hK9, hD9⟩, hS.F ht⟩) hS.2.2 dX8_holdsShorts_13
set_option maxHeartbeats 4000000 in
set_option maxRecDepth 100000 in
theorem g_X8_line_0 (l : Launch) (dC : Nat → ClassId) (dI : Nat → Nat → Nat) (h0 : Nat) (h1 : Nat) (sz : Nat) (n0_holds : Int32) (n0_size : Int32) (n0_line : Int32) (tn0_size : kk_bx (0 ≤ n0_size.toInt ∧ n0_size.toInt ≤ 60)) : Met l yX8_line wsX8_line ({ frames := 0, cells := 0, slots := 0, locals := 0 }) (va_Pc [.ref h0] (fun U => U.heap.size = sz ∧ va_P (dC, dI) vwCl [(h0, kO8 h1 n0_holds n0_size n0_line)] U.heap ∧ va_K (dC, dI) vwCl [] U ∧ va_D (fun _ => True) [(h0, kO8 h1 n0_holds n0_size n0_line)])) (va_Qi (fun (r : Int32) (_ : Unit) => n0_line = r) (fun (_ : Unit) t => va_P (dC, dI) vwCl [(h0, kO8 h1 n0_holds n0_size n0_line)] t.heap ∧ va_K (dC, dI) vwCl [] t ∧ va_D (va_A [(h0, kO8 h1 n0_holds n0_size n0_line)] sz) [(h0, kO8 h1 n0_holds n0_size n0_line)]) (va_A [(h0, kO8 h1 n0_holds n0_size n0_line)] sz)) 0 0 (va_A [(h0, kO8 h1 n0_holds n0_size n0_line)] sz) := by
  refine Met.ofW (cc := cX8_line) (maxL := 1) (ret := (some .int)) (by decide) rfl ?_
  intro p e s m args below meth c s₁ B hml hv
  obtain ⟨rfl, hsz, hP, hK, hD0⟩ := hv
  have hx := B.exec
  have hb := B.bytes
  have hr := B.returns
  have hts := atoms_spec (ws := wsX8_line) B.pre
  have hown : s.vm.findClass RX8 = some m.cls := findClass_of_methodNamed B.named
  have hlocks := B.notSynchronized
  subst hsz
  have hD := hD0.self (sz := s.heap.size)
  generalize hAe : va_A [(h0, kO8 h1 n0_holds n0_size n0_line)] s.heap.size = A at hD ⊢
  have hA : ∀ q : Nat, s.heap.size ≤ q → A q := fun q h => by rw [← hAe]; exact Or.inr h
  have hS : va_S A s.heap s.heap [] := va_S.rf
  have hP : va_P (dC, dI) vwCl [(h0, kO8 h1 n0_holds n0_size n0_line)] s.heap := hP
  have hl := lv_entry ([.ref h0]) (n := 1) (Nat.le_of_ble_eq_true rfl)
  rw [lg_entry_eq]
  generalize (lg_sl ([.ref h0]) ++ List.replicate (1 - (lg_sl ([.ref h0])).length) Slot.unset).toArray = ls at hl ⊢
  have hl : lv_has ls 1 [(0, .ref h0)] := hl
  refine lv_aload_n hx hb dX8_line_0 rfl (lv_at hl 0 rfl) ?_
  refine va_get (D := (dC, dI)) (ci := 8) (v := .int n0_line) (C := RX8) (T := TX8) (N := 4) hx hb hts (fun _ h => List.mem_cons_of_mem _ (List.mem_append_right _ h)) hown hK hP 0 rfl rfl 3 (by decide) (hts (.fieldLink RX8 23 "KinkStreet$Shelf" "line" "I") (List.mem_of_getElem? (i := 1) rfl)) (fun _ h9 => h9) rfl dX8_line_1 ?_
  have hP9 := kk_Ps (wq := [(h0, kO8 h1 n0_holds n0_size n0_line)]) hP [0] rfl
  have hD9 := kk_Ds (wq := [(h0, kO8 h1 n0_holds n0_size n0_line)]) hD [0] (by decide) rfl
  have hK9 := kk_Ks (tq := []) hK [] rfl
  exact W.iret (v := n0_line) hx hb hr (fun t ht hW => ⟨⟨n0_line, (), rfl, rfl, by rw [ht]; exact hP9, va_K.moved hW.alike hK9, hD9⟩, hS.F ht⟩) hS.2.2 dX8_line_4
set_option maxHeartbeats 4000000 in
set_option maxRecDepth 100000 in
theorem g_X8_holdNothing_0 (l : Launch) (dC : Nat → ClassId) (dI : Nat → Nat → Nat) (h0 : Nat) (h1 : Nat) (sz : Nat) (n0_holds : Int32) (n0_size : Int32) (n0_line : Int32) (tn0_size : kk_bx (0 ≤ n0_size.toInt ∧ n0_size.toInt ≤ 60)) : Met l yX8_holdNothing wsX8_holdNothing ({ frames := 0, cells := 0, slots := 0, locals := 0 }) (va_Pc [.ref h0] (fun U => U.heap.size = sz ∧ va_P (dC, dI) vwCl [(h0, kO8 h1 n0_holds n0_size n0_line)] U.heap ∧ va_K (dC, dI) vwCl [] U ∧ va_D (fun _ => True) [(h0, kO8 h1 n0_holds n0_size n0_line)])) (va_Qv (fun (_ : Unit) => True) (fun (_ : Unit) t => ∃ (m0_holds : Int32), ((-1) ≤ m0_holds.toInt ∧ m0_holds.toInt ≤ (-1)) ∧ va_P (dC, dI) vwCl [(h0, kO8 h1 m0_holds n0_size n0_line)] t.heap ∧ va_K (dC, dI) vwCl [] t ∧ va_D (va_A [(h0, kO8 h1 n0_holds n0_size n0_line)] sz) [(h0, kO8 h1 m0_holds n0_size n0_line)]) (va_A [(h0, kO8 h1 n0_holds n0_size n0_line)] sz)) 0 0 (va_A [(h0, kO8 h1 n0_holds n0_size n0_line)] sz) := by
  refine Met.ofW (cc := cX8_holdNothing) (maxL := 1) (ret := none) (by decide) rfl ?_
  intro p e s m args below meth c s₁ B hml hv
  obtain ⟨rfl, hsz, hP, hK, hD0⟩ := hv
  have hx := B.exec
  have hb := B.bytes
  have hr := B.returns
  have hts := atoms_spec (ws := wsX8_holdNothing) B.pre
  have hown : s.vm.findClass RX8 = some m.cls := findClass_of_methodNamed B.named
  have hlocks := B.notSynchronized
  subst hsz
  have hD := hD0.self (sz := s.heap.size)
  generalize hAe : va_A [(h0, kO8 h1 n0_holds n0_size n0_line)] s.heap.size = A at hD ⊢
  have hA : ∀ q : Nat, s.heap.size ≤ q → A q := fun q h => by rw [← hAe]; exact Or.inr h
  have hS : va_S A s.heap s.heap [] := va_S.rf
  have hP : va_P (dC, dI) vwCl [(h0, kO8 h1 n0_holds n0_size n0_line)] s.heap := hP
  have hl := lv_entry ([.ref h0]) (n := 1) (Nat.le_of_ble_eq_true rfl)
  rw [lg_entry_eq]
  generalize (lg_sl ([.ref h0]) ++ List.replicate (1 - (lg_sl ([.ref h0])).length) Slot.unset).toArray = ls at hl ⊢
  have hl : lv_has ls 1 [(0, .ref h0)] := hl
  refine lv_aload_n hx hb dX8_holdNothing_0 rfl (lv_at hl 0 rfl) ?_
  refine lv_iconst (v := (-1)) hx hb dX8_holdNothing_1 kk_ic_m1 ?_
  refine va_put (D := (dC, dI)) (ci := 8) (v := .int (-1)) (ty := .int) (C := RX8) (T := TX8) (N := 4) hx hb hts (fun _ h => List.mem_cons_of_mem _ (List.mem_append_right _ h)) tyX8 tyX8_ok nmX8 hown hK hP hD hS 0 rfl rfl 1 (by decide) (hts (.fieldLink RX8 15 "KinkStreet$Shelf" "holds" "I") (List.mem_of_getElem? (i := 1) rfl)) (fun _ h9 => h9) rfl (by decide +kernel) rfl rfl (Nat.le_of_ble_eq_true rfl) dX8_holdNothing_2 (fun H locs hP hD hS => ?_)
  have hP : va_P (dC, dI) vwCl [(h0, kO8 h1 (-1) n0_size n0_line)] H := hP
  have hD : va_D A [(h0, kO8 h1 (-1) n0_size n0_line)] := hD
  have hP9 := kk_Ps (wq := [(h0, kO8 h1 (-1) n0_size n0_line)]) hP [0] rfl
  have hD9 := kk_Ds (wq := [(h0, kO8 h1 (-1) n0_size n0_line)]) hD [0] (by decide) rfl
  have hK9 := kk_Ks (tq := []) hK [] rfl
  exact W.vret hx hb hr (fun t ht hW => ⟨⟨(), rfl, trivial, (-1), (by show (-1) ≤ ((-1) : Int32).toInt ∧ ((-1) : Int32).toInt ≤ (-1); first | decide | ((omega))), by rw [ht]; exact hP9, va_K.moved hW.alike hK9, hD9⟩, hS.F ht⟩) hS.2.2 dX8_holdNothing_5
set_option maxHeartbeats 4000000 in
set_option maxRecDepth 100000 in
theorem g_X8_spans_0 (l : Launch) (dC : Nat → ClassId) (dI : Nat → Nat → Nat) (h0 : Nat) (h1 : Nat) (sz : Nat) (p0 : Int32) (p1 : Int32) (n0_holds : Int32) (n0_size : Int32) (n0_line : Int32) (tn0_size : 0 ≤ n0_size.toInt ∧ n0_size.toInt ≤ 60) : Met l yX8_spans wsX8_spans ({ frames := 0, cells := 0, slots := 0, locals := 0 }) (va_Pc [.ref h0, .int p0, .int p1] (fun U => U.heap.size = sz ∧ va_P (dC, dI) vwCl [(h0, kO8 h1 n0_holds n0_size n0_line)] U.heap ∧ va_K (dC, dI) vwCl [] U ∧ va_D (fun _ => True) [(h0, kO8 h1 n0_holds n0_size n0_line)])) (va_Qi (fun (r : Int32) (_ : Unit) => ((0 : Int32) = r) ∨ (0 ≤ p0.toInt ∧ 0 ≤ p1.toInt ∧ p0.toInt ≤ n0_size.toInt ∧ p1.toInt ≤ (n0_size - p0).toInt ∧ p0.toInt ≤ 60 ∧ p1.toInt ≤ 60 ∧ (1 : Int32) = r)) (fun (_ : Unit) t => va_P (dC, dI) vwCl [(h0, kO8 h1 n0_holds n0_size n0_line)] t.heap ∧ va_K (dC, dI) vwCl [] t ∧ va_D (va_A [(h0, kO8 h1 n0_holds n0_size n0_line)] sz) [(h0, kO8 h1 n0_holds n0_size n0_line)]) (va_A [(h0, kO8 h1 n0_holds n0_size n0_line)] sz)) 0 0 (va_A [(h0, kO8 h1 n0_holds n0_size n0_line)] sz) := by
  refine Met.ofW (cc := cX8_spans) (maxL := 3) (ret := (some .boolean)) (by decide) rfl ?_
  intro p e s m args below meth c s₁ B hml hv
  obtain ⟨rfl, hsz, hP, hK, hD0⟩ := hv
  have hx := B.exec
  have hb := B.bytes
  have hr := B.returns
  have hts := atoms_spec (ws := wsX8_spans) B.pre
  have hown : s.vm.findClass RX8 = some m.cls := findClass_of_methodNamed B.named
  have hlocks := B.notSynchronized
  subst hsz
  have hD := hD0.self (sz := s.heap.size)
  generalize hAe : va_A [(h0, kO8 h1 n0_holds n0_size n0_line)] s.heap.size = A at hD ⊢
  have hA : ∀ q : Nat, s.heap.size ≤ q → A q := fun q h => by rw [← hAe]; exact Or.inr h
  have hS : va_S A s.heap s.heap [] := va_S.rf
  have hP : va_P (dC, dI) vwCl [(h0, kO8 h1 n0_holds n0_size n0_line)] s.heap := hP
  have hl := lv_entry ([.ref h0, .int p0, .int p1]) (n := 3) (Nat.le_of_ble_eq_true rfl)
  rw [lg_entry_eq]
  generalize (lg_sl ([.ref h0, .int p0, .int p1]) ++ List.replicate (3 - (lg_sl ([.ref h0, .int p0, .int p1])).length) Slot.unset).toArray = ls at hl ⊢
  have hl : lv_has ls 3 [(0, .ref h0), (1, .int p0), (2, .int p1)] := hl
  refine lv_iload_n hx hb dX8_spans_0 rfl (lv_at hl 1 rfl) ?_
  refine lv_if_lt (tgt := 30) hx hb dX8_spans_1 (by decide) (fun c_1 => ?_) (fun c_1 => ?_)
  · have t_1 : p0.toInt < 0 := kk_lt c_1
    refine lv_iconst (v := 0) hx hb dX8_spans_30 kk_ic_0 ?_
    have hP9 := kk_Ps (wq := [(h0, kO8 h1 n0_holds n0_size n0_line)]) hP [0] rfl
    have hD9 := kk_Ds (wq := [(h0, kO8 h1 n0_holds n0_size n0_line)]) hD [0] (by decide) rfl
    have hK9 := kk_Ks (tq := []) hK [] rfl
    exact W.zret (v := 0) hx hb hr rfl (fun t ht hW => ⟨⟨0, (), rfl, Or.inl rfl, by rw [ht]; exact hP9, va_K.moved hW.alike hK9, hD9⟩, hS.F ht⟩) hS.2.2 dX8_spans_31
  · have t_1 : 0 ≤ p0.toInt := kk_nlt c_1
    refine lv_iload_n hx hb dX8_spans_4 rfl (lv_at hl 2 rfl) ?_
    refine lv_if_lt (tgt := 30) hx hb dX8_spans_5 (by decide) (fun c_2 => ?_) (fun c_2 => ?_)
    · have t_2 : p1.toInt < 0 := kk_lt c_2
      refine lv_iconst (v := 0) hx hb dX8_spans_30 kk_ic_0 ?_
      have hP9 := kk_Ps (wq := [(h0, kO8 h1 n0_holds n0_size n0_line)]) hP [0] rfl
      have hD9 := kk_Ds (wq := [(h0, kO8 h1 n0_holds n0_size n0_line)]) hD [0] (by decide) rfl
      have hK9 := kk_Ks (tq := []) hK [] rfl
      exact W.zret (v := 0) hx hb hr rfl (fun t ht hW => ⟨⟨0, (), rfl, Or.inl rfl, by rw [ht]; exact hP9, va_K.moved hW.alike hK9, hD9⟩, hS.F ht⟩) hS.2.2 dX8_spans_31
    · have t_2 : 0 ≤ p1.toInt := kk_nlt c_2
      refine lv_iload_n hx hb dX8_spans_8 rfl (lv_at hl 1 rfl) ?_
      refine lv_aload_n hx hb dX8_spans_9 rfl (lv_at hl 0 rfl) ?_
      refine va_get (D := (dC, dI)) (ci := 8) (v := .int n0_size) (C := RX8) (T := TX8) (N := 4) hx hb hts (fun _ h => List.mem_cons_of_mem _ (List.mem_append_right _ h)) hown hK hP 0 rfl rfl 2 (by decide) (hts (.fieldLink RX8 26 "KinkStreet$Shelf" "size" "I") (List.mem_of_getElem? (i := 1) rfl)) (fun _ h9 => h9) rfl dX8_spans_10 ?_
      refine lv_icmp_gt (tgt := 30) hx hb dX8_spans_13 (by decide) (fun c_3 => ?_) (fun c_3 => ?_)
      · have t_3 : n0_size.toInt < p0.toInt := kk_lt c_3
        refine lv_iconst (v := 0) hx hb dX8_spans_30 kk_ic_0 ?_
        have hP9 := kk_Ps (wq := [(h0, kO8 h1 n0_holds n0_size n0_line)]) hP [0] rfl
        have hD9 := kk_Ds (wq := [(h0, kO8 h1 n0_holds n0_size n0_line)]) hD [0] (by decide) rfl
        have hK9 := kk_Ks (tq := []) hK [] rfl
        exact W.zret (v := 0) hx hb hr rfl (fun t ht hW => ⟨⟨0, (), rfl, Or.inl rfl, by rw [ht]; exact hP9, va_K.moved hW.alike hK9, hD9⟩, hS.F ht⟩) hS.2.2 dX8_spans_31
      · have t_3 : p0.toInt ≤ n0_size.toInt := kk_nlt c_3
        refine lv_iload_n hx hb dX8_spans_16 rfl (lv_at hl 2 rfl) ?_
        refine lv_aload_n hx hb dX8_spans_17 rfl (lv_at hl 0 rfl) ?_
        refine va_get (D := (dC, dI)) (ci := 8) (v := .int n0_size) (C := RX8) (T := TX8) (N := 4) hx hb hts (fun _ h => List.mem_cons_of_mem _ (List.mem_append_right _ h)) hown hK hP 0 rfl rfl 2 (by decide) (hts (.fieldLink RX8 26 "KinkStreet$Shelf" "size" "I") (List.mem_of_getElem? (i := 1) rfl)) (fun _ h9 => h9) rfl dX8_spans_18 ?_
        refine lv_iload_n hx hb dX8_spans_21 rfl (lv_at hl 1 rfl) ?_
        refine lv_isub hx hb dX8_spans_22 ?_
        refine lv_icmp_gt (tgt := 30) hx hb dX8_spans_23 (by decide) (fun c_4 => ?_) (fun c_4 => ?_)
        · have t_4 : (n0_size - p0).toInt < p1.toInt := kk_lt c_4
          refine lv_iconst (v := 0) hx hb dX8_spans_30 kk_ic_0 ?_
          have hP9 := kk_Ps (wq := [(h0, kO8 h1 n0_holds n0_size n0_line)]) hP [0] rfl
          have hD9 := kk_Ds (wq := [(h0, kO8 h1 n0_holds n0_size n0_line)]) hD [0] (by decide) rfl
          have hK9 := kk_Ks (tq := []) hK [] rfl
          exact W.zret (v := 0) hx hb hr rfl (fun t ht hW => ⟨⟨0, (), rfl, Or.inl rfl, by rw [ht]; exact hP9, va_K.moved hW.alike hK9, hD9⟩, hS.F ht⟩) hS.2.2 dX8_spans_31
        · have t_4 : p1.toInt ≤ (n0_size - p0).toInt := kk_nlt c_4
          refine lv_iconst (v := 1) hx hb dX8_spans_26 kk_ic_1 ?_
          refine lv_goto (tgt := 31) hx hb dX8_spans_27 (by decide) ?_
          have hP9 := kk_Ps (wq := [(h0, kO8 h1 n0_holds n0_size n0_line)]) hP [0] rfl
          have hD9 := kk_Ds (wq := [(h0, kO8 h1 n0_holds n0_size n0_line)]) hD [0] (by decide) rfl
          have hK9 := kk_Ks (tq := []) hK [] rfl
          try have := kk_sub2 (x := n0_size) (y := p0) (a := n0_size.toInt) (b := p0.toInt) rfl rfl (by omega) (by omega)
          exact W.zret (v := 1) hx hb hr rfl (fun t ht hW => ⟨⟨1, (), rfl, Or.inr (⟨by first | with_reducible assumption | (omega) | assumption, by first | with_reducible assumption | (omega) | assumption, by first | with_reducible assumption | (omega) | assumption, by first | with_reducible assumption | (omega) | assumption, by first | with_reducible assumption | (omega) | assumption, by first | with_reducible assumption | (omega) | assumption, rfl⟩), by rw [ht]; exact hP9, va_K.moved hW.alike hK9, hD9⟩, hS.F ht⟩) hS.2.2 dX8_spans_31
set_option maxHeartbeats 4000000 in
set_option maxRecDepth 100000 in
theorem g_X8_refusal_0 (l : Launch) (dC : Nat → ClassId) (dI : Nat → Nat → Nat) (h0 : Nat) (h1 : Nat) (sz : Nat) (p0 : Int32) (n0_holds : Int32) (n0_size : Int32) (n0_line : Int32) (tn0_size : 0 ≤ n0_size.toInt ∧ n0_size.toInt ≤ 60) : Met l yX8_refusal wsX8_refusal ({ frames := 1, cells := 0, slots := 0, locals := 22 }) (va_Pc [.ref h0, .int p0] (fun U => U.heap.size = sz ∧ va_P (dC, dI) vwCl [(h0, kO8 h1 n0_holds n0_size n0_line)] U.heap ∧ va_K (dC, dI) vwCl [] U ∧ va_D (fun _ => True) [(h0, kO8 h1 n0_holds n0_size n0_line)])) (va_Qi (fun (r : Int32) (_ : Unit) => ((-13) ≤ r.toInt ∧ r.toInt ≤ 0)) (fun (_ : Unit) t => va_P (dC, dI) vwCl [(h0, kO8 h1 n0_holds n0_size n0_line)] t.heap ∧ va_K (dC, dI) vwCl [] t ∧ va_D (va_A [(h0, kO8 h1 n0_holds n0_size n0_line)] sz) [(h0, kO8 h1 n0_holds n0_size n0_line)]) (va_A [(h0, kO8 h1 n0_holds n0_size n0_line)] sz)) 0 0 (va_A [(h0, kO8 h1 n0_holds n0_size n0_line)] sz) := by
  refine Met.ofW (cc := cX8_refusal) (maxL := 2) (ret := (some .int)) (by decide) rfl ?_
  intro p e s m args below meth c s₁ B hml hv
  obtain ⟨rfl, hsz, hP, hK, hD0⟩ := hv
  have hx := B.exec
  have hb := B.bytes
  have hr := B.returns
  have hts := atoms_spec (ws := wsX8_refusal) B.pre
  have hown : s.vm.findClass RX8 = some m.cls := findClass_of_methodNamed B.named
  have hlocks := B.notSynchronized
  subst hsz
  have hD := hD0.self (sz := s.heap.size)
  generalize hAe : va_A [(h0, kO8 h1 n0_holds n0_size n0_line)] s.heap.size = A at hD ⊢
  have hA : ∀ q : Nat, s.heap.size ≤ q → A q := fun q h => by rw [← hAe]; exact Or.inr h
  have hS : va_S A s.heap s.heap [] := va_S.rf
  have hP : va_P (dC, dI) vwCl [(h0, kO8 h1 n0_holds n0_size n0_line)] s.heap := hP
  have hl := lv_entry ([.ref h0, .int p0]) (n := 2) (Nat.le_of_ble_eq_true rfl)
  rw [lg_entry_eq]
  generalize (lg_sl ([.ref h0, .int p0]) ++ List.replicate (2 - (lg_sl ([.ref h0, .int p0])).length) Slot.unset).toArray = ls at hl ⊢
  have hl : lv_has ls 2 [(0, .ref h0), (1, .int p0)] := hl
  refine lv_aload_n hx hb dX8_refusal_0 rfl (lv_at hl 0 rfl) ?_
  have hPc := kk_Ps (wq := [(h0, kO8 h1 n0_holds n0_size n0_line)]) hP [0] rfl
  have hDc := kk_Ds (wq := [(h0, kO8 h1 n0_holds n0_size n0_line)]) hD [0] (by decide) rfl
  have hKc := kk_Ks (tq := []) hK [] rfl
  have hFc := va_free (wc := [(h0, kO8 h1 n0_holds n0_size n0_line)]) hD hS hA [0] rfl
  refine va_calli (va_runV (As := []) (rest := []) ⟨hx, hb, hml, hown, hts⟩ (g_X8_isEmpty_0 l dC dI h0 h1 s.heap.size n0_holds n0_size n0_line tn0_size) (cwV 0 hts gX8_refusal_X8_isEmpty rfl rfl rfl ⟨rfl, kh_X8_isEmpty⟩ ⟨Nat.le_of_ble_eq_true rfl, Nat.le_of_ble_eq_true rfl⟩) ⟨fun a U g mk q => by obtain ⟨q0, q1, qP, qK, qD⟩ := q; exact ⟨q0, q1, qP, va_K.moved (u := U) (U := U.calling g mk a) (Vm.Alike.refl U.vm) qK, qD⟩, va_recv hKc hPc (ci := 8) (q0 := 0) rfl rfl, fun U hU hW => ⟨rfl, by rw [hU], by rw [hU]; exact hPc, va_K.moved hW.alike hKc, hDc.weaken (fun _ _ _ _ => trivial)⟩⟩ rfl rfl hl.1 rfl (lv_room (Nat.le_of_ble_eq_true rfl)) dX8_refusal_1 ⟨Nat.le_of_ble_eq_true rfl, Nat.le_of_ble_eq_true rfl⟩) hS (fun q _ h => hFc q h) hFc (fun r_1 u t H1 locs ht hvm hw hB hz1 hk1 hS => ?_)
  obtain ⟨hP1, hK1, hD1⟩ := hB
  rw [ht] at hP1
  have hK1 := va_K.moved hvm.symm hK1
  obtain ⟨hP, hD⟩ := va_join (wr := []) (w1 := [(h0, kO8 h1 n0_holds n0_size n0_line)]) hP hD [0] [] rfl rfl (by decide) (by decide) hk1 hFc hP1 hD1
  generalize H1 = H at hP hS ⊢
  have hP : va_P (dC, dI) vwCl [(h0, kO8 h1 n0_holds n0_size n0_line)] H := hP
  have hD : va_D A [(h0, kO8 h1 n0_holds n0_size n0_line)] := hD
  rcases hw with ⟨t_1_0, rfl⟩ | ⟨t_1_0, rfl⟩
  · skip
    have t_1_0 : (n0_holds.toInt : Int) ≠ (-1) := t_1_0
    refine lv_if_eq (tgt := 10) hx hb dX8_refusal_4 (by decide) (fun _ => ?_) (fun c => absurd c (by decide))
    refine lv_aload_n hx hb dX8_refusal_10 rfl (lv_at hl 0 rfl) ?_
    refine va_get (D := (dC, dI)) (ci := 8) (v := .int n0_holds) (C := RX8) (T := TX8) (N := 4) hx hb hts (fun _ h => List.mem_cons_of_mem _ (List.mem_append_right _ h)) hown hK hP 0 rfl rfl 1 (by decide) (hts (.fieldLink RX8 15 "KinkStreet$Shelf" "holds" "I") (List.mem_of_getElem? (i := 1) rfl)) (fun _ h9 => h9) rfl dX8_refusal_11 ?_
    have hPc := kk_Ps (wq := []) hP [] rfl
    have hDc := kk_Ds (wq := []) hD [] (by decide) rfl
    have hKc := kk_Ks (tq := []) hK [] rfl
    have hFc := va_free (wc := []) hD hS hA [] rfl
    refine va_calli (va_runS (As := [.int n0_holds]) (rest := []) ⟨hx, hb, hml, hown, hts⟩ (g_X8_isSort_0 l dC dI H.size n0_holds) (va_cwS 1 hts gX8_refusal_X8_isSort rfl rfl rfl kh_X8_isSort ⟨Nat.le_of_ble_eq_true rfl, Nat.le_of_ble_eq_true rfl⟩) ⟨fun a U g mk q => by obtain ⟨q0, q1, qP, qK, qD⟩ := q; exact ⟨q0, q1, qP, va_K.moved (u := U) (U := U.calling g mk a) (Vm.Alike.refl U.vm) qK, qD⟩, fun U hU hW => ⟨rfl, by rw [hU], by rw [hU]; exact hPc, va_K.moved hW.alike hKc, hDc.weaken (fun _ _ _ _ => trivial)⟩⟩ rfl rfl hl.1 rfl (lv_room (Nat.le_of_ble_eq_true rfl)) dX8_refusal_14 ⟨Nat.le_of_ble_eq_true rfl, Nat.le_of_ble_eq_true rfl⟩) hS (fun q _ h => hFc q h) hFc (fun r_2 u t H1 locs ht hvm hw hB hz1 hk1 hS => ?_)
    obtain ⟨hP1, hK1, hD1⟩ := hB
    rw [ht] at hP1
    have hK1 := va_K.moved hvm.symm hK1
    obtain ⟨hP, hD⟩ := va_join (wr := [(h0, kO8 h1 n0_holds n0_size n0_line)]) (w1 := []) hP hD [] [0] rfl rfl (by decide) (by decide) hk1 hFc hP1 hD1
    generalize H1 = H at hP hS ⊢
    have hP : va_P (dC, dI) vwCl [(h0, kO8 h1 n0_holds n0_size n0_line)] H := hP
    have hD : va_D A [(h0, kO8 h1 n0_holds n0_size n0_line)] := hD
    rcases hw with ⟨rfl⟩ | ⟨t_2_0, t_2_1, rfl⟩
    · skip
      refine lv_if_ne (tgt := 23) hx hb dX8_refusal_17 (by decide) (fun c => absurd c (by decide)) (fun _ => ?_)
      refine lv_bipush (v := (-12)) hx hb dX8_refusal_20 kk_bi_m12 ?_
      have hP9 := kk_Ps (wq := [(h0, kO8 h1 n0_holds n0_size n0_line)]) hP [0] rfl
      have hD9 := kk_Ds (wq := [(h0, kO8 h1 n0_holds n0_size n0_line)]) hD [0] (by decide) rfl
      have hK9 := kk_Ks (tq := []) hK [] rfl
      exact W.iret (v := (-12)) hx hb hr (fun t ht hW => ⟨⟨(-12), (), rfl, (by show (-13) ≤ ((-12) : Int32).toInt ∧ ((-12) : Int32).toInt ≤ 0; first | decide | ((omega))), by rw [ht]; exact hP9, va_K.moved hW.alike hK9, hD9⟩, hS.F ht⟩) hS.2.2 dX8_refusal_22
    · skip
      have t_2_0 : (0 : Int) ≤ n0_holds.toInt := t_2_0
      have t_2_1 : (n0_holds.toInt : Int) ≤ 4 := t_2_1
      refine lv_if_ne (tgt := 23) hx hb dX8_refusal_17 (by decide) (fun _ => ?_) (fun c => absurd c (by decide))
      refine lv_aload_n hx hb dX8_refusal_23 rfl (lv_at hl 0 rfl) ?_
      refine lv_iload_n hx hb dX8_refusal_24 rfl (lv_at hl 1 rfl) ?_
      refine lv_iconst (v := 1) hx hb dX8_refusal_25 kk_ic_1 ?_
      have hPc := kk_Ps (wq := [(h0, kO8 h1 n0_holds n0_size n0_line)]) hP [0] rfl
      have hDc := kk_Ds (wq := [(h0, kO8 h1 n0_holds n0_size n0_line)]) hD [0] (by decide) rfl
      have hKc := kk_Ks (tq := []) hK [] rfl
      have hFc := va_free (wc := [(h0, kO8 h1 n0_holds n0_size n0_line)]) hD hS hA [0] rfl
      refine va_calli (va_runV (As := [.int p0, .int 1]) (rest := []) ⟨hx, hb, hml, hown, hts⟩ (g_X8_spans_0 l dC dI h0 h1 H.size p0 1 n0_holds n0_size n0_line tn0_size) (cwV 2 hts gX8_refusal_X8_spans rfl rfl rfl ⟨rfl, kh_X8_spans⟩ ⟨Nat.le_of_ble_eq_true rfl, Nat.le_of_ble_eq_true rfl⟩) ⟨fun a U g mk q => by obtain ⟨q0, q1, qP, qK, qD⟩ := q; exact ⟨q0, q1, qP, va_K.moved (u := U) (U := U.calling g mk a) (Vm.Alike.refl U.vm) qK, qD⟩, va_recv hKc hPc (ci := 8) (q0 := 0) rfl rfl, fun U hU hW => ⟨rfl, by rw [hU], by rw [hU]; exact hPc, va_K.moved hW.alike hKc, hDc.weaken (fun _ _ _ _ => trivial)⟩⟩ rfl rfl hl.1 rfl (lv_room (Nat.le_of_ble_eq_true rfl)) dX8_refusal_26 ⟨Nat.le_of_ble_eq_true rfl, Nat.le_of_ble_eq_true rfl⟩) hS (fun q _ h => hFc q h) hFc (fun r_3 u t H1 locs ht hvm hw hB hz1 hk1 hS => ?_)
      obtain ⟨hP1, hK1, hD1⟩ := hB
      rw [ht] at hP1
      have hK1 := va_K.moved hvm.symm hK1
      obtain ⟨hP, hD⟩ := va_join (wr := []) (w1 := [(h0, kO8 h1 n0_holds n0_size n0_line)]) hP hD [0] [] rfl rfl (by decide) (by decide) hk1 hFc hP1 hD1
      generalize H1 = H at hP hS ⊢
      have hP : va_P (dC, dI) vwCl [(h0, kO8 h1 n0_holds n0_size n0_line)] H := hP
      have hD : va_D A [(h0, kO8 h1 n0_holds n0_size n0_line)] := hD
      rcases hw with ⟨rfl⟩ | ⟨t_3_0, t_3_1, t_3_2, t_3_3, t_3_4, t_3_5, rfl⟩
      · skip
        refine lv_if_eq (tgt := 36) hx hb dX8_refusal_29 (by decide) (fun _ => ?_) (fun c => absurd c (by decide))
        refine lv_bipush (v := (-13)) hx hb dX8_refusal_36 kk_bi_m13 ?_
        have hP9 := kk_Ps (wq := [(h0, kO8 h1 n0_holds n0_size n0_line)]) hP [0] rfl
        have hD9 := kk_Ds (wq := [(h0, kO8 h1 n0_holds n0_size n0_line)]) hD [0] (by decide) rfl
        have hK9 := kk_Ks (tq := []) hK [] rfl
        exact W.iret (v := (-13)) hx hb hr (fun t ht hW => ⟨⟨(-13), (), rfl, (by show (-13) ≤ ((-13) : Int32).toInt ∧ ((-13) : Int32).toInt ≤ 0; first | decide | ((omega))), by rw [ht]; exact hP9, va_K.moved hW.alike hK9, hD9⟩, hS.F ht⟩) hS.2.2 dX8_refusal_38
      · skip
        have t_3_0 : (0 : Int) ≤ p0.toInt := t_3_0
        have t_3_1 : (0 : Int) ≤ 1 := t_3_1
        have t_3_3 : (1 : Int) ≤ (n0_size - p0).toInt := t_3_3
        have t_3_4 : (p0.toInt : Int) ≤ 60 := t_3_4
        have t_3_5 : (1 : Int) ≤ 60 := t_3_5
        refine lv_if_eq (tgt := 36) hx hb dX8_refusal_29 (by decide) (fun c => absurd c (by decide)) (fun _ => ?_)
        refine lv_iconst (v := 0) hx hb dX8_refusal_32 kk_ic_0 ?_
        refine lv_goto (tgt := 38) hx hb dX8_refusal_33 (by decide) ?_
        have hP9 := kk_Ps (wq := [(h0, kO8 h1 n0_holds n0_size n0_line)]) hP [0] rfl
        have hD9 := kk_Ds (wq := [(h0, kO8 h1 n0_holds n0_size n0_line)]) hD [0] (by decide) rfl
        have hK9 := kk_Ks (tq := []) hK [] rfl
        try have := kk_sub2 (x := n0_size) (y := p0) (a := n0_size.toInt) (b := p0.toInt) rfl rfl (by omega) (by omega)
        exact W.iret (v := 0) hx hb hr (fun t ht hW => ⟨⟨0, (), rfl, (by show (-13) ≤ (0 : Int32).toInt ∧ (0 : Int32).toInt ≤ 0; first | decide | ((omega))), by rw [ht]; exact hP9, va_K.moved hW.alike hK9, hD9⟩, hS.F ht⟩) hS.2.2 dX8_refusal_38
  · skip
    have t_1_0 : (n0_holds.toInt : Int) = (-1) := t_1_0
    refine lv_if_eq (tgt := 10) hx hb dX8_refusal_4 (by decide) (fun c => absurd c (by decide)) (fun _ => ?_)
    refine lv_bipush (v := (-11)) hx hb dX8_refusal_7 kk_bi_m11 ?_
    have hP9 := kk_Ps (wq := [(h0, kO8 h1 n0_holds n0_size n0_line)]) hP [0] rfl
    have hD9 := kk_Ds (wq := [(h0, kO8 h1 n0_holds n0_size n0_line)]) hD [0] (by decide) rfl
    have hK9 := kk_Ks (tq := []) hK [] rfl
    exact W.iret (v := (-11)) hx hb hr (fun t ht hW => ⟨⟨(-11), (), rfl, (by show (-13) ≤ ((-11) : Int32).toInt ∧ ((-11) : Int32).toInt ≤ 0; first | decide | ((omega))), by rw [ht]; exact hP9, va_K.moved hW.alike hK9, hD9⟩, hS.F ht⟩) hS.2.2 dX8_refusal_9
set_option maxHeartbeats 4000000 in
set_option maxRecDepth 100000 in
theorem g_X8_read_0 (l : Launch) (dC : Nat → ClassId) (dI : Nat → Nat → Nat) (h0 : Nat) (h1 : Nat) (clong : ClassId) (sz : Nat) (p0 : Int32) (n0_holds : Int32) (n0_size : Int32) (n0_line : Int32) (f1 : Nat → Int64) (tn0_size : 0 ≤ n0_size.toInt ∧ n0_size.toInt ≤ 60) : Met l yX8_read wsX8_read ({ frames := 1, cells := 0, slots := 0, locals := 22 }) (va_Pc [.ref h0, .int p0] (fun U => U.heap.size = sz ∧ va_P (dC, dI) vwCl [(h0, kO8 h1 n0_holds n0_size n0_line), (h1, kAl clong 60 f1)] U.heap ∧ va_K (dC, dI) vwCl [(clong, .long)] U ∧ va_D (fun _ => True) [(h0, kO8 h1 n0_holds n0_size n0_line), (h1, kAl clong 60 f1)])) (va_Ql (fun (r : Int64) (_ : Unit) => True) (fun (_ : Unit) t => va_P (dC, dI) vwCl [(h0, kO8 h1 n0_holds n0_size n0_line), (h1, kAl clong 60 f1)] t.heap ∧ va_K (dC, dI) vwCl [] t ∧ va_D (va_A [(h0, kO8 h1 n0_holds n0_size n0_line), (h1, kAl clong 60 f1)] sz) [(h0, kO8 h1 n0_holds n0_size n0_line), (h1, kAl clong 60 f1)]) (va_A [(h0, kO8 h1 n0_holds n0_size n0_line), (h1, kAl clong 60 f1)] sz)) 0 0 (va_A [(h0, kO8 h1 n0_holds n0_size n0_line), (h1, kAl clong 60 f1)] sz) := by
  refine Met.ofW (cc := cX8_read) (maxL := 2) (ret := (some .long)) (by decide) rfl ?_
  intro p e s m args below meth c s₁ B hml hv
  obtain ⟨rfl, hsz, hP, hK, hD0⟩ := hv
  have hx := B.exec
  have hb := B.bytes
  have hr := B.returns
  have hts := atoms_spec (ws := wsX8_read) B.pre
  have hown : s.vm.findClass RX8 = some m.cls := findClass_of_methodNamed B.named
  have hlocks := B.notSynchronized
  subst hsz
  have hD := hD0.self (sz := s.heap.size)
  generalize hAe : va_A [(h0, kO8 h1 n0_holds n0_size n0_line), (h1, kAl clong 60 f1)] s.heap.size = A at hD ⊢
  have hA : ∀ q : Nat, s.heap.size ≤ q → A q := fun q h => by rw [← hAe]; exact Or.inr h
  have hS : va_S A s.heap s.heap [] := va_S.rf
  have hP : va_P (dC, dI) vwCl [(h0, kO8 h1 n0_holds n0_size n0_line), (h1, kAl clong 60 f1)] s.heap := hP
  have hl := lv_entry ([.ref h0, .int p0]) (n := 2) (Nat.le_of_ble_eq_true rfl)
  rw [lg_entry_eq]
  generalize (lg_sl ([.ref h0, .int p0]) ++ List.replicate (2 - (lg_sl ([.ref h0, .int p0])).length) Slot.unset).toArray = ls at hl ⊢
  have hl : lv_has ls 2 [(0, .ref h0), (1, .int p0)] := hl
  refine lv_aload_n hx hb dX8_read_0 rfl (lv_at hl 0 rfl) ?_
  refine lv_iload_n hx hb dX8_read_1 rfl (lv_at hl 1 rfl) ?_
  refine lv_iconst (v := 1) hx hb dX8_read_2 kk_ic_1 ?_
  have hPc := kk_Ps (wq := [(h0, kO8 h1 n0_holds n0_size n0_line)]) hP [0] rfl
  have hDc := kk_Ds (wq := [(h0, kO8 h1 n0_holds n0_size n0_line)]) hD [0] (by decide) rfl
  have hKc := kk_Ks (tq := []) hK [] rfl
  have hFc := va_free (wc := [(h0, kO8 h1 n0_holds n0_size n0_line)]) hD hS hA [0] rfl
  refine va_calli (va_runV (As := [.int p0, .int 1]) (rest := []) ⟨hx, hb, hml, hown, hts⟩ (g_X8_spans_0 l dC dI h0 h1 s.heap.size p0 1 n0_holds n0_size n0_line tn0_size) (cwV 2 hts gX8_read_X8_spans rfl rfl rfl ⟨rfl, kh_X8_spans⟩ ⟨Nat.le_of_ble_eq_true rfl, Nat.le_of_ble_eq_true rfl⟩) ⟨fun a U g mk q => by obtain ⟨q0, q1, qP, qK, qD⟩ := q; exact ⟨q0, q1, qP, va_K.moved (u := U) (U := U.calling g mk a) (Vm.Alike.refl U.vm) qK, qD⟩, va_recv hKc hPc (ci := 8) (q0 := 0) rfl rfl, fun U hU hW => ⟨rfl, by rw [hU], by rw [hU]; exact hPc, va_K.moved hW.alike hKc, hDc.weaken (fun _ _ _ _ => trivial)⟩⟩ rfl rfl hl.1 rfl (lv_room (Nat.le_of_ble_eq_true rfl)) dX8_read_3 ⟨Nat.le_of_ble_eq_true rfl, Nat.le_of_ble_eq_true rfl⟩) hS (fun q _ h => hFc q h) hFc (fun r_1 u t H1 locs ht hvm hw hB hz1 hk1 hS => ?_)
  obtain ⟨hP1, hK1, hD1⟩ := hB
  rw [ht] at hP1
  have hK1 := va_K.moved hvm.symm hK1
  obtain ⟨hP, hD⟩ := va_join (wr := [(h1, kAl clong 60 f1)]) (w1 := [(h0, kO8 h1 n0_holds n0_size n0_line)]) hP hD [0] [1] rfl rfl (by decide) (by decide) hk1 hFc hP1 hD1
  generalize H1 = H at hP hS ⊢
  have hP : va_P (dC, dI) vwCl [(h1, kAl clong 60 f1), (h0, kO8 h1 n0_holds n0_size n0_line)] H := hP
  have hD : va_D A [(h1, kAl clong 60 f1), (h0, kO8 h1 n0_holds n0_size n0_line)] := hD
  rcases hw with ⟨rfl⟩ | ⟨t_1_0, t_1_1, t_1_2, t_1_3, t_1_4, t_1_5, rfl⟩
  · skip
    refine lv_if_eq (tgt := 18) hx hb dX8_read_6 (by decide) (fun _ => ?_) (fun c => absurd c (by decide))
    refine lv_lconst (v := 0) hx hb dX8_read_18 (by decide) ?_
    have hP9 := kk_Ps (wq := [(h0, kO8 h1 n0_holds n0_size n0_line), (h1, kAl clong 60 f1)]) hP [1, 0] rfl
    have hD9 := kk_Ds (wq := [(h0, kO8 h1 n0_holds n0_size n0_line), (h1, kAl clong 60 f1)]) hD [1, 0] (by decide) rfl
    have hK9 := kk_Ks (tq := []) hK [] rfl
    exact W.lret (v := 0) hx hb hr (fun t ht hW => ⟨⟨0, (), rfl, trivial, by rw [ht]; exact hP9, va_K.moved hW.alike hK9, hD9⟩, hS.F ht⟩) hS.2.2 dX8_read_19
  · skip
    have t_1_0 : (0 : Int) ≤ p0.toInt := t_1_0
    have t_1_1 : (0 : Int) ≤ 1 := t_1_1
    have t_1_3 : (1 : Int) ≤ (n0_size - p0).toInt := t_1_3
    have t_1_4 : (p0.toInt : Int) ≤ 60 := t_1_4
    have t_1_5 : (1 : Int) ≤ 60 := t_1_5
    refine lv_if_eq (tgt := 18) hx hb dX8_read_6 (by decide) (fun c => absurd c (by decide)) (fun _ => ?_)
    refine lv_aload_n hx hb dX8_read_9 rfl (lv_at hl 0 rfl) ?_
    refine va_get (D := (dC, dI)) (ci := 8) (v := .ref h1) (C := RX8) (T := TX8) (N := 4) hx hb hts (fun _ h => List.mem_cons_of_mem _ (List.mem_append_right _ h)) hown hK hP 1 rfl rfl 0 (by decide) (hts (.fieldLink RX8 11 "KinkStreet$Shelf" "elements" "[J") (List.mem_of_getElem? (i := 1) rfl)) (fun _ h9 => h9) rfl dX8_read_10 ?_
    refine lv_iload_n hx hb dX8_read_13 rfl (lv_at hl 1 rfl) ?_
    try have := kk_sub2 (x := n0_size) (y := p0) (a := n0_size.toInt) (b := p0.toInt) rfl rfl (by omega) (by omega)
    have hi_2 : vp_in p0 60 := (vp_in_iff.mpr ⟨by omega, by omega⟩)
    refine va_lald hx hb hK hP 0 0 rfl rfl hi_2 dX8_read_14 ?_
    refine lv_topl (fun y_2 e_2 => ?_)
    clear e_2
    refine lv_goto (tgt := 19) hx hb dX8_read_15 (by decide) ?_
    have hP9 := kk_Ps (wq := [(h0, kO8 h1 n0_holds n0_size n0_line), (h1, kAl clong 60 f1)]) hP [1, 0] rfl
    have hD9 := kk_Ds (wq := [(h0, kO8 h1 n0_holds n0_size n0_line), (h1, kAl clong 60 f1)]) hD [1, 0] (by decide) rfl
    have hK9 := kk_Ks (tq := []) hK [] rfl
    exact W.lret (v := y_2) hx hb hr (fun t ht hW => ⟨⟨y_2, (), rfl, trivial, by rw [ht]; exact hP9, va_K.moved hW.alike hK9, hD9⟩, hS.F ht⟩) hS.2.2 dX8_read_19
set_option maxHeartbeats 4000000 in
set_option maxRecDepth 100000 in
theorem g_X9_size_0 (l : Launch) (dC : Nat → ClassId) (dI : Nat → Nat → Nat) (h0 : Nat) (h1 : Nat) (h2 : Nat) (h3 : Nat) (sz : Nat) (n0_size : Int32) (tn0_size : 0 ≤ n0_size.toInt ∧ n0_size.toInt ≤ 40) : Met l yX9_size wsX9_size ({ frames := 0, cells := 0, slots := 0, locals := 0 }) (va_Pc [.ref h0] (fun U => U.heap.size = sz ∧ va_P (dC, dI) vwCl [(h0, kO9 h1 h2 h3 n0_size)] U.heap ∧ va_K (dC, dI) vwCl [] U ∧ va_D (fun _ => True) [(h0, kO9 h1 h2 h3 n0_size)])) (va_Qi (fun (r : Int32) (_ : Unit) => n0_size = r) (fun (_ : Unit) t => va_P (dC, dI) vwCl [(h0, kO9 h1 h2 h3 n0_size)] t.heap ∧ va_K (dC, dI) vwCl [] t ∧ va_D (va_A [(h0, kO9 h1 h2 h3 n0_size)] sz) [(h0, kO9 h1 h2 h3 n0_size)]) (va_A [(h0, kO9 h1 h2 h3 n0_size)] sz)) 0 0 (va_A [(h0, kO9 h1 h2 h3 n0_size)] sz) := by
  refine Met.ofW (cc := cX9_size) (maxL := 1) (ret := (some .int)) (by decide) rfl ?_
  intro p e s m args below meth c s₁ B hml hv
  obtain ⟨rfl, hsz, hP, hK, hD0⟩ := hv
  have hx := B.exec
  have hb := B.bytes
  have hr := B.returns
  have hts := atoms_spec (ws := wsX9_size) B.pre
  have hown : s.vm.findClass RX9 = some m.cls := findClass_of_methodNamed B.named
  have hlocks := B.notSynchronized
  subst hsz
  have hD := hD0.self (sz := s.heap.size)
  generalize hAe : va_A [(h0, kO9 h1 h2 h3 n0_size)] s.heap.size = A at hD ⊢
  have hA : ∀ q : Nat, s.heap.size ≤ q → A q := fun q h => by rw [← hAe]; exact Or.inr h
  have hS : va_S A s.heap s.heap [] := va_S.rf
  have hP : va_P (dC, dI) vwCl [(h0, kO9 h1 h2 h3 n0_size)] s.heap := hP
  have hl := lv_entry ([.ref h0]) (n := 1) (Nat.le_of_ble_eq_true rfl)
  rw [lg_entry_eq]
  generalize (lg_sl ([.ref h0]) ++ List.replicate (1 - (lg_sl ([.ref h0])).length) Slot.unset).toArray = ls at hl ⊢
  have hl : lv_has ls 1 [(0, .ref h0)] := hl
  refine lv_aload_n hx hb dX9_size_0 rfl (lv_at hl 0 rfl) ?_
  refine va_get (D := (dC, dI)) (ci := 9) (v := .int n0_size) (C := RX9) (T := TX9) (N := 4) hx hb hts (fun _ h => List.mem_cons_of_mem _ (List.mem_append_right _ h)) hown hK hP 0 rfl rfl 3 (by decide) (hts (.fieldLink RX9 21 "KinkStreet$Street" "size" "I") (List.mem_of_getElem? (i := 1) rfl)) (fun _ h9 => h9) rfl dX9_size_1 ?_
  have hP9 := kk_Ps (wq := [(h0, kO9 h1 h2 h3 n0_size)]) hP [0] rfl
  have hD9 := kk_Ds (wq := [(h0, kO9 h1 h2 h3 n0_size)]) hD [0] (by decide) rfl
  have hK9 := kk_Ks (tq := []) hK [] rfl
  exact W.iret (v := n0_size) hx hb hr (fun t ht hW => ⟨⟨n0_size, (), rfl, rfl, by rw [ht]; exact hP9, va_K.moved hW.alike hK9, hD9⟩, hS.F ht⟩) hS.2.2 dX9_size_4
set_option maxHeartbeats 4000000 in
set_option maxRecDepth 100000 in
theorem g_X9_isFull_0 (l : Launch) (dC : Nat → ClassId) (dI : Nat → Nat → Nat) (h0 : Nat) (h1 : Nat) (h2 : Nat) (h3 : Nat) (sz : Nat) (n0_size : Int32) (tn0_size : 0 ≤ n0_size.toInt ∧ n0_size.toInt ≤ 40) : Met l yX9_isFull wsX9_isFull ({ frames := 0, cells := 0, slots := 0, locals := 0 }) (va_Pc [.ref h0] (fun U => U.heap.size = sz ∧ va_P (dC, dI) vwCl [(h0, kO9 h1 h2 h3 n0_size)] U.heap ∧ va_K (dC, dI) vwCl [] U ∧ va_D (fun _ => True) [(h0, kO9 h1 h2 h3 n0_size)])) (va_Qi (fun (r : Int32) (_ : Unit) => (n0_size.toInt < 40 ∧ (0 : Int32) = r) ∨ (40 ≤ n0_size.toInt ∧ (1 : Int32) = r)) (fun (_ : Unit) t => va_P (dC, dI) vwCl [(h0, kO9 h1 h2 h3 n0_size)] t.heap ∧ va_K (dC, dI) vwCl [] t ∧ va_D (va_A [(h0, kO9 h1 h2 h3 n0_size)] sz) [(h0, kO9 h1 h2 h3 n0_size)]) (va_A [(h0, kO9 h1 h2 h3 n0_size)] sz)) 0 0 (va_A [(h0, kO9 h1 h2 h3 n0_size)] sz) := by
  refine Met.ofW (cc := cX9_isFull) (maxL := 1) (ret := (some .boolean)) (by decide) rfl ?_
  intro p e s m args below meth c s₁ B hml hv
  obtain ⟨rfl, hsz, hP, hK, hD0⟩ := hv
  have hx := B.exec
  have hb := B.bytes
  have hr := B.returns
  have hts := atoms_spec (ws := wsX9_isFull) B.pre
  have hown : s.vm.findClass RX9 = some m.cls := findClass_of_methodNamed B.named
  have hlocks := B.notSynchronized
  subst hsz
  have hD := hD0.self (sz := s.heap.size)
  generalize hAe : va_A [(h0, kO9 h1 h2 h3 n0_size)] s.heap.size = A at hD ⊢
  have hA : ∀ q : Nat, s.heap.size ≤ q → A q := fun q h => by rw [← hAe]; exact Or.inr h
  have hS : va_S A s.heap s.heap [] := va_S.rf
  have hP : va_P (dC, dI) vwCl [(h0, kO9 h1 h2 h3 n0_size)] s.heap := hP
  have hl := lv_entry ([.ref h0]) (n := 1) (Nat.le_of_ble_eq_true rfl)
  rw [lg_entry_eq]
  generalize (lg_sl ([.ref h0]) ++ List.replicate (1 - (lg_sl ([.ref h0])).length) Slot.unset).toArray = ls at hl ⊢
  have hl : lv_has ls 1 [(0, .ref h0)] := hl
  refine lv_aload_n hx hb dX9_isFull_0 rfl (lv_at hl 0 rfl) ?_
  refine va_get (D := (dC, dI)) (ci := 9) (v := .int n0_size) (C := RX9) (T := TX9) (N := 4) hx hb hts (fun _ h => List.mem_cons_of_mem _ (List.mem_append_right _ h)) hown hK hP 0 rfl rfl 3 (by decide) (hts (.fieldLink RX9 21 "KinkStreet$Street" "size" "I") (List.mem_of_getElem? (i := 1) rfl)) (fun _ h9 => h9) rfl dX9_isFull_1 ?_
  refine lv_bipush (v := 40) hx hb dX9_isFull_4 kk_bi_40 ?_
  refine lv_icmp_lt (tgt := 13) hx hb dX9_isFull_6 (by decide) (fun c_1 => ?_) (fun c_1 => ?_)
  · have t_1 : n0_size.toInt < 40 := kk_lt c_1
    refine lv_iconst (v := 0) hx hb dX9_isFull_13 kk_ic_0 ?_
    have hP9 := kk_Ps (wq := [(h0, kO9 h1 h2 h3 n0_size)]) hP [0] rfl
    have hD9 := kk_Ds (wq := [(h0, kO9 h1 h2 h3 n0_size)]) hD [0] (by decide) rfl
    have hK9 := kk_Ks (tq := []) hK [] rfl
    exact W.zret (v := 0) hx hb hr rfl (fun t ht hW => ⟨⟨0, (), rfl, Or.inl ⟨by first | with_reducible assumption | (omega) | assumption, rfl⟩, by rw [ht]; exact hP9, va_K.moved hW.alike hK9, hD9⟩, hS.F ht⟩) hS.2.2 dX9_isFull_14
  · have t_1 : 40 ≤ n0_size.toInt := kk_nlt c_1
    refine lv_iconst (v := 1) hx hb dX9_isFull_9 kk_ic_1 ?_
    refine lv_goto (tgt := 14) hx hb dX9_isFull_10 (by decide) ?_
    have hP9 := kk_Ps (wq := [(h0, kO9 h1 h2 h3 n0_size)]) hP [0] rfl
    have hD9 := kk_Ds (wq := [(h0, kO9 h1 h2 h3 n0_size)]) hD [0] (by decide) rfl
    have hK9 := kk_Ks (tq := []) hK [] rfl
    exact W.zret (v := 1) hx hb hr rfl (fun t ht hW => ⟨⟨1, (), rfl, Or.inr (⟨by first | with_reducible assumption | (omega) | assumption, rfl⟩), by rw [ht]; exact hP9, va_K.moved hW.alike hK9, hD9⟩, hS.F ht⟩) hS.2.2 dX9_isFull_14
set_option maxHeartbeats 4000000 in
set_option maxRecDepth 100000 in
theorem g_X9_clear_0 (l : Launch) (dC : Nat → ClassId) (dI : Nat → Nat → Nat) (h0 : Nat) (h1 : Nat) (h2 : Nat) (h3 : Nat) (sz : Nat) (n0_size : Int32) (tn0_size : kk_bx (0 ≤ n0_size.toInt ∧ n0_size.toInt ≤ 40)) : Met l yX9_clear wsX9_clear ({ frames := 0, cells := 0, slots := 0, locals := 0 }) (va_Pc [.ref h0] (fun U => U.heap.size = sz ∧ va_P (dC, dI) vwCl [(h0, kO9 h1 h2 h3 n0_size)] U.heap ∧ va_K (dC, dI) vwCl [] U ∧ va_D (fun _ => True) [(h0, kO9 h1 h2 h3 n0_size)])) (va_Qv (fun (_ : Unit) => True) (fun (_ : Unit) t => ∃ (m0_size : Int32), (0 ≤ m0_size.toInt ∧ m0_size.toInt ≤ 0) ∧ va_P (dC, dI) vwCl [(h0, kO9 h1 h2 h3 m0_size)] t.heap ∧ va_K (dC, dI) vwCl [] t ∧ va_D (va_A [(h0, kO9 h1 h2 h3 n0_size)] sz) [(h0, kO9 h1 h2 h3 m0_size)]) (va_A [(h0, kO9 h1 h2 h3 n0_size)] sz)) 0 0 (va_A [(h0, kO9 h1 h2 h3 n0_size)] sz) := by
  refine Met.ofW (cc := cX9_clear) (maxL := 1) (ret := none) (by decide) rfl ?_
  intro p e s m args below meth c s₁ B hml hv
  obtain ⟨rfl, hsz, hP, hK, hD0⟩ := hv
  have hx := B.exec
  have hb := B.bytes
  have hr := B.returns
  have hts := atoms_spec (ws := wsX9_clear) B.pre
  have hown : s.vm.findClass RX9 = some m.cls := findClass_of_methodNamed B.named
  have hlocks := B.notSynchronized
  subst hsz
  have hD := hD0.self (sz := s.heap.size)
  generalize hAe : va_A [(h0, kO9 h1 h2 h3 n0_size)] s.heap.size = A at hD ⊢
  have hA : ∀ q : Nat, s.heap.size ≤ q → A q := fun q h => by rw [← hAe]; exact Or.inr h
  have hS : va_S A s.heap s.heap [] := va_S.rf
  have hP : va_P (dC, dI) vwCl [(h0, kO9 h1 h2 h3 n0_size)] s.heap := hP
  have hl := lv_entry ([.ref h0]) (n := 1) (Nat.le_of_ble_eq_true rfl)
  rw [lg_entry_eq]
  generalize (lg_sl ([.ref h0]) ++ List.replicate (1 - (lg_sl ([.ref h0])).length) Slot.unset).toArray = ls at hl ⊢
  have hl : lv_has ls 1 [(0, .ref h0)] := hl
  refine lv_aload_n hx hb dX9_clear_0 rfl (lv_at hl 0 rfl) ?_
  refine lv_iconst (v := 0) hx hb dX9_clear_1 kk_ic_0 ?_
  refine va_put (D := (dC, dI)) (ci := 9) (v := .int 0) (ty := .int) (C := RX9) (T := TX9) (N := 4) hx hb hts (fun _ h => List.mem_cons_of_mem _ (List.mem_append_right _ h)) tyX9 tyX9_ok nmX9 hown hK hP hD hS 0 rfl rfl 3 (by decide) (hts (.fieldLink RX9 21 "KinkStreet$Street" "size" "I") (List.mem_of_getElem? (i := 1) rfl)) (fun _ h9 => h9) rfl (by decide +kernel) rfl rfl (Nat.le_of_ble_eq_true rfl) dX9_clear_2 (fun H locs hP hD hS => ?_)
  have hP : va_P (dC, dI) vwCl [(h0, kO9 h1 h2 h3 0)] H := hP
  have hD : va_D A [(h0, kO9 h1 h2 h3 0)] := hD
  have hP9 := kk_Ps (wq := [(h0, kO9 h1 h2 h3 0)]) hP [0] rfl
  have hD9 := kk_Ds (wq := [(h0, kO9 h1 h2 h3 0)]) hD [0] (by decide) rfl
  have hK9 := kk_Ks (tq := []) hK [] rfl
  exact W.vret hx hb hr (fun t ht hW => ⟨⟨(), rfl, trivial, 0, (by show 0 ≤ (0 : Int32).toInt ∧ (0 : Int32).toInt ≤ 0; first | decide | ((omega))), by rw [ht]; exact hP9, va_K.moved hW.alike hK9, hD9⟩, hS.F ht⟩) hS.2.2 dX9_clear_5
set_option maxHeartbeats 4000000 in
set_option maxRecDepth 100000 in
theorem g_X9_has_0 (l : Launch) (dC : Nat → ClassId) (dI : Nat → Nat → Nat) (h0 : Nat) (h1 : Nat) (h2 : Nat) (h3 : Nat) (sz : Nat) (p0 : Int32) (n0_size : Int32) (tn0_size : 0 ≤ n0_size.toInt ∧ n0_size.toInt ≤ 40) : Met l yX9_has wsX9_has ({ frames := 0, cells := 0, slots := 0, locals := 0 }) (va_Pc [.ref h0, .int p0] (fun U => U.heap.size = sz ∧ va_P (dC, dI) vwCl [(h0, kO9 h1 h2 h3 n0_size)] U.heap ∧ va_K (dC, dI) vwCl [] U ∧ va_D (fun _ => True) [(h0, kO9 h1 h2 h3 n0_size)])) (va_Qi (fun (r : Int32) (_ : Unit) => ((0 : Int32) = r) ∨ (0 ≤ p0.toInt ∧ p0.toInt < n0_size.toInt ∧ p0.toInt ≤ 39 ∧ (1 : Int32) = r)) (fun (_ : Unit) t => va_P (dC, dI) vwCl [(h0, kO9 h1 h2 h3 n0_size)] t.heap ∧ va_K (dC, dI) vwCl [] t ∧ va_D (va_A [(h0, kO9 h1 h2 h3 n0_size)] sz) [(h0, kO9 h1 h2 h3 n0_size)]) (va_A [(h0, kO9 h1 h2 h3 n0_size)] sz)) 0 0 (va_A [(h0, kO9 h1 h2 h3 n0_size)] sz) := by
  refine Met.ofW (cc := cX9_has) (maxL := 2) (ret := (some .boolean)) (by decide) rfl ?_
  intro p e s m args below meth c s₁ B hml hv
  obtain ⟨rfl, hsz, hP, hK, hD0⟩ := hv
  have hx := B.exec
  have hb := B.bytes
  have hr := B.returns
  have hts := atoms_spec (ws := wsX9_has) B.pre
  have hown : s.vm.findClass RX9 = some m.cls := findClass_of_methodNamed B.named
  have hlocks := B.notSynchronized
  subst hsz
  have hD := hD0.self (sz := s.heap.size)
  generalize hAe : va_A [(h0, kO9 h1 h2 h3 n0_size)] s.heap.size = A at hD ⊢
  have hA : ∀ q : Nat, s.heap.size ≤ q → A q := fun q h => by rw [← hAe]; exact Or.inr h
  have hS : va_S A s.heap s.heap [] := va_S.rf
  have hP : va_P (dC, dI) vwCl [(h0, kO9 h1 h2 h3 n0_size)] s.heap := hP
  have hl := lv_entry ([.ref h0, .int p0]) (n := 2) (Nat.le_of_ble_eq_true rfl)
  rw [lg_entry_eq]
  generalize (lg_sl ([.ref h0, .int p0]) ++ List.replicate (2 - (lg_sl ([.ref h0, .int p0])).length) Slot.unset).toArray = ls at hl ⊢
  have hl : lv_has ls 2 [(0, .ref h0), (1, .int p0)] := hl
  refine lv_iload_n hx hb dX9_has_0 rfl (lv_at hl 1 rfl) ?_
  refine lv_if_lt (tgt := 16) hx hb dX9_has_1 (by decide) (fun c_1 => ?_) (fun c_1 => ?_)
  · have t_1 : p0.toInt < 0 := kk_lt c_1
    refine lv_iconst (v := 0) hx hb dX9_has_16 kk_ic_0 ?_
    have hP9 := kk_Ps (wq := [(h0, kO9 h1 h2 h3 n0_size)]) hP [0] rfl
    have hD9 := kk_Ds (wq := [(h0, kO9 h1 h2 h3 n0_size)]) hD [0] (by decide) rfl
    have hK9 := kk_Ks (tq := []) hK [] rfl
    exact W.zret (v := 0) hx hb hr rfl (fun t ht hW => ⟨⟨0, (), rfl, Or.inl rfl, by rw [ht]; exact hP9, va_K.moved hW.alike hK9, hD9⟩, hS.F ht⟩) hS.2.2 dX9_has_17
  · have t_1 : 0 ≤ p0.toInt := kk_nlt c_1
    refine lv_iload_n hx hb dX9_has_4 rfl (lv_at hl 1 rfl) ?_
    refine lv_aload_n hx hb dX9_has_5 rfl (lv_at hl 0 rfl) ?_
    refine va_get (D := (dC, dI)) (ci := 9) (v := .int n0_size) (C := RX9) (T := TX9) (N := 4) hx hb hts (fun _ h => List.mem_cons_of_mem _ (List.mem_append_right _ h)) hown hK hP 0 rfl rfl 3 (by decide) (hts (.fieldLink RX9 21 "KinkStreet$Street" "size" "I") (List.mem_of_getElem? (i := 1) rfl)) (fun _ h9 => h9) rfl dX9_has_6 ?_
    refine lv_icmp_ge (tgt := 16) hx hb dX9_has_9 (by decide) (fun c_2 => ?_) (fun c_2 => ?_)
    · have t_2 : n0_size.toInt ≤ p0.toInt := kk_le c_2
      refine lv_iconst (v := 0) hx hb dX9_has_16 kk_ic_0 ?_
      have hP9 := kk_Ps (wq := [(h0, kO9 h1 h2 h3 n0_size)]) hP [0] rfl
      have hD9 := kk_Ds (wq := [(h0, kO9 h1 h2 h3 n0_size)]) hD [0] (by decide) rfl
      have hK9 := kk_Ks (tq := []) hK [] rfl
      exact W.zret (v := 0) hx hb hr rfl (fun t ht hW => ⟨⟨0, (), rfl, Or.inl rfl, by rw [ht]; exact hP9, va_K.moved hW.alike hK9, hD9⟩, hS.F ht⟩) hS.2.2 dX9_has_17
    · have t_2 : p0.toInt < n0_size.toInt := kk_nle c_2
      refine lv_iconst (v := 1) hx hb dX9_has_12 kk_ic_1 ?_
      refine lv_goto (tgt := 17) hx hb dX9_has_13 (by decide) ?_
      have hP9 := kk_Ps (wq := [(h0, kO9 h1 h2 h3 n0_size)]) hP [0] rfl
      have hD9 := kk_Ds (wq := [(h0, kO9 h1 h2 h3 n0_size)]) hD [0] (by decide) rfl
      have hK9 := kk_Ks (tq := []) hK [] rfl
      exact W.zret (v := 1) hx hb hr rfl (fun t ht hW => ⟨⟨1, (), rfl, Or.inr (⟨by first | with_reducible assumption | (omega) | assumption, by first | with_reducible assumption | (omega) | assumption, by first | with_reducible assumption | (omega) | assumption, rfl⟩), by rw [ht]; exact hP9, va_K.moved hW.alike hK9, hD9⟩, hS.F ht⟩) hS.2.2 dX9_has_17
set_option maxHeartbeats 4000000 in
set_option maxRecDepth 100000 in
theorem g_X9_hasRow_0 (l : Launch) (dC : Nat → ClassId) (dI : Nat → Nat → Nat) (h0 : Nat) (h1 : Nat) (h2 : Nat) (h3 : Nat) (sz : Nat) (p0 : Int32) (n0_size : Int32) (tn0_size : kk_bx (0 ≤ n0_size.toInt ∧ n0_size.toInt ≤ 40)) : Met l yX9_hasRow wsX9_hasRow ({ frames := 1, cells := 0, slots := 0, locals := 21 }) (va_Pc [.ref h0, .int p0] (fun U => U.heap.size = sz ∧ va_P (dC, dI) vwCl [(h0, kO9 h1 h2 h3 n0_size)] U.heap ∧ va_K (dC, dI) vwCl [] U ∧ va_D (fun _ => True) [(h0, kO9 h1 h2 h3 n0_size)])) (va_Qi (fun (r : Int32) (_ : Unit) => ((0 : Int32) = r) ∨ (0 ≤ p0.toInt ∧ (p0 / 100).toInt ≤ (p0 - p0 / 100 * 100).toInt ∧ 0 ≤ (p0 - p0 / 100 * 100).toInt ∧ (p0 - p0 / 100 * 100).toInt < n0_size.toInt ∧ (p0 - p0 / 100 * 100).toInt ≤ 39 ∧ (1 : Int32) = r)) (fun (_ : Unit) t => va_P (dC, dI) vwCl [(h0, kO9 h1 h2 h3 n0_size)] t.heap ∧ va_K (dC, dI) vwCl [] t ∧ va_D (va_A [(h0, kO9 h1 h2 h3 n0_size)] sz) [(h0, kO9 h1 h2 h3 n0_size)]) (va_A [(h0, kO9 h1 h2 h3 n0_size)] sz)) 0 0 (va_A [(h0, kO9 h1 h2 h3 n0_size)] sz) := by
  refine Met.ofW (cc := cX9_hasRow) (maxL := 2) (ret := (some .boolean)) (by decide) rfl ?_
  intro p e s m args below meth c s₁ B hml hv
  obtain ⟨rfl, hsz, hP, hK, hD0⟩ := hv
  have hx := B.exec
  have hb := B.bytes
  have hr := B.returns
  have hts := atoms_spec (ws := wsX9_hasRow) B.pre
  have hown : s.vm.findClass RX9 = some m.cls := findClass_of_methodNamed B.named
  have hlocks := B.notSynchronized
  subst hsz
  have hD := hD0.self (sz := s.heap.size)
  generalize hAe : va_A [(h0, kO9 h1 h2 h3 n0_size)] s.heap.size = A at hD ⊢
  have hA : ∀ q : Nat, s.heap.size ≤ q → A q := fun q h => by rw [← hAe]; exact Or.inr h
  have hS : va_S A s.heap s.heap [] := va_S.rf
  have hP : va_P (dC, dI) vwCl [(h0, kO9 h1 h2 h3 n0_size)] s.heap := hP
  have hl := lv_entry ([.ref h0, .int p0]) (n := 2) (Nat.le_of_ble_eq_true rfl)
  rw [lg_entry_eq]
  generalize (lg_sl ([.ref h0, .int p0]) ++ List.replicate (2 - (lg_sl ([.ref h0, .int p0])).length) Slot.unset).toArray = ls at hl ⊢
  have hl : lv_has ls 2 [(0, .ref h0), (1, .int p0)] := hl
  refine lv_iload_n hx hb dX9_hasRow_0 rfl (lv_at hl 1 rfl) ?_
  refine lv_if_lt (tgt := 30) hx hb dX9_hasRow_1 (by decide) (fun c_1 => ?_) (fun c_1 => ?_)
  · have t_1 : p0.toInt < 0 := kk_lt c_1
    refine lv_iconst (v := 0) hx hb dX9_hasRow_30 kk_ic_0 ?_
    have hP9 := kk_Ps (wq := [(h0, kO9 h1 h2 h3 n0_size)]) hP [0] rfl
    have hD9 := kk_Ds (wq := [(h0, kO9 h1 h2 h3 n0_size)]) hD [0] (by decide) rfl
    have hK9 := kk_Ks (tq := []) hK [] rfl
    exact W.zret (v := 0) hx hb hr rfl (fun t ht hW => ⟨⟨0, (), rfl, Or.inl rfl, by rw [ht]; exact hP9, va_K.moved hW.alike hK9, hD9⟩, hS.F ht⟩) hS.2.2 dX9_hasRow_31
  · have t_1 : 0 ≤ p0.toInt := kk_nlt c_1
    refine lv_iload_n hx hb dX9_hasRow_4 rfl (lv_at hl 1 rfl) ?_
    refine lv_bipush (v := 100) hx hb dX9_hasRow_5 kk_bi_100 ?_
    refine lv_idiv hx hb dX9_hasRow_7 (by decide) ?_
    refine lv_iload_n hx hb dX9_hasRow_8 rfl (lv_at hl 1 rfl) ?_
    refine lv_bipush (v := 100) hx hb dX9_hasRow_9 kk_bi_100 ?_
    refine lv_irem hx hb dX9_hasRow_11 (by decide) ?_
    refine lv_icmp_gt (tgt := 30) hx hb dX9_hasRow_12 (by decide) (fun c_2 => ?_) (fun c_2 => ?_)
    · have t_2 : (p0 - p0 / 100 * 100).toInt < (p0 / 100).toInt := kk_lt c_2
      refine lv_iconst (v := 0) hx hb dX9_hasRow_30 kk_ic_0 ?_
      have hP9 := kk_Ps (wq := [(h0, kO9 h1 h2 h3 n0_size)]) hP [0] rfl
      have hD9 := kk_Ds (wq := [(h0, kO9 h1 h2 h3 n0_size)]) hD [0] (by decide) rfl
      have hK9 := kk_Ks (tq := []) hK [] rfl
      exact W.zret (v := 0) hx hb hr rfl (fun t ht hW => ⟨⟨0, (), rfl, Or.inl rfl, by rw [ht]; exact hP9, va_K.moved hW.alike hK9, hD9⟩, hS.F ht⟩) hS.2.2 dX9_hasRow_31
    · have t_2 : (p0 / 100).toInt ≤ (p0 - p0 / 100 * 100).toInt := kk_nlt c_2
      refine lv_aload_n hx hb dX9_hasRow_15 rfl (lv_at hl 0 rfl) ?_
      refine lv_iload_n hx hb dX9_hasRow_16 rfl (lv_at hl 1 rfl) ?_
      refine lv_bipush (v := 100) hx hb dX9_hasRow_17 kk_bi_100 ?_
      refine lv_irem hx hb dX9_hasRow_19 (by decide) ?_
      have hPc := kk_Ps (wq := [(h0, kO9 h1 h2 h3 n0_size)]) hP [0] rfl
      have hDc := kk_Ds (wq := [(h0, kO9 h1 h2 h3 n0_size)]) hD [0] (by decide) rfl
      have hKc := kk_Ks (tq := []) hK [] rfl
      have hFc := va_free (wc := [(h0, kO9 h1 h2 h3 n0_size)]) hD hS hA [0] rfl
      refine va_calli (va_runV (As := [.int (p0 - p0 / 100 * 100)]) (rest := []) ⟨hx, hb, hml, hown, hts⟩ (g_X9_has_0 l dC dI h0 h1 h2 h3 s.heap.size (p0 - p0 / 100 * 100) n0_size tn0_size) (cwV 1 hts gX9_hasRow_X9_has rfl rfl rfl ⟨rfl, kh_X9_has⟩ ⟨Nat.le_of_ble_eq_true rfl, Nat.le_of_ble_eq_true rfl⟩) ⟨fun a U g mk q => by obtain ⟨q0, q1, qP, qK, qD⟩ := q; exact ⟨q0, q1, qP, va_K.moved (u := U) (U := U.calling g mk a) (Vm.Alike.refl U.vm) qK, qD⟩, va_recv hKc hPc (ci := 9) (q0 := 0) rfl rfl, fun U hU hW => ⟨rfl, by rw [hU], by rw [hU]; exact hPc, va_K.moved hW.alike hKc, hDc.weaken (fun _ _ _ _ => trivial)⟩⟩ rfl rfl hl.1 rfl (lv_room (Nat.le_of_ble_eq_true rfl)) dX9_hasRow_20 ⟨Nat.le_of_ble_eq_true rfl, Nat.le_of_ble_eq_true rfl⟩) hS (fun q _ h => hFc q h) hFc (fun r_3 u t H1 locs ht hvm hw hB hz1 hk1 hS => ?_)
      obtain ⟨hP1, hK1, hD1⟩ := hB
      rw [ht] at hP1
      have hK1 := va_K.moved hvm.symm hK1
      obtain ⟨hP, hD⟩ := va_join (wr := []) (w1 := [(h0, kO9 h1 h2 h3 n0_size)]) hP hD [0] [] rfl rfl (by decide) (by decide) hk1 hFc hP1 hD1
      generalize H1 = H at hP hS ⊢
      have hP : va_P (dC, dI) vwCl [(h0, kO9 h1 h2 h3 n0_size)] H := hP
      have hD : va_D A [(h0, kO9 h1 h2 h3 n0_size)] := hD
      rcases hw with ⟨rfl⟩ | ⟨t_3_0, t_3_1, t_3_2, rfl⟩
      · skip
        refine lv_if_eq (tgt := 30) hx hb dX9_hasRow_23 (by decide) (fun _ => ?_) (fun c => absurd c (by decide))
        refine lv_iconst (v := 0) hx hb dX9_hasRow_30 kk_ic_0 ?_
        have hP9 := kk_Ps (wq := [(h0, kO9 h1 h2 h3 n0_size)]) hP [0] rfl
        have hD9 := kk_Ds (wq := [(h0, kO9 h1 h2 h3 n0_size)]) hD [0] (by decide) rfl
        have hK9 := kk_Ks (tq := []) hK [] rfl
        exact W.zret (v := 0) hx hb hr rfl (fun t ht hW => ⟨⟨0, (), rfl, Or.inl rfl, by rw [ht]; exact hP9, va_K.moved hW.alike hK9, hD9⟩, hS.F ht⟩) hS.2.2 dX9_hasRow_31
      · skip
        have t_3_0 : (0 : Int) ≤ (p0 - p0 / 100 * 100).toInt := t_3_0
        have t_3_2 : ((p0 - p0 / 100 * 100).toInt : Int) ≤ 39 := t_3_2
        refine lv_if_eq (tgt := 30) hx hb dX9_hasRow_23 (by decide) (fun c => absurd c (by decide)) (fun _ => ?_)
        refine lv_iconst (v := 1) hx hb dX9_hasRow_26 kk_ic_1 ?_
        refine lv_goto (tgt := 31) hx hb dX9_hasRow_27 (by decide) ?_
        have hP9 := kk_Ps (wq := [(h0, kO9 h1 h2 h3 n0_size)]) hP [0] rfl
        have hD9 := kk_Ds (wq := [(h0, kO9 h1 h2 h3 n0_size)]) hD [0] (by decide) rfl
        have hK9 := kk_Ks (tq := []) hK [] rfl
        try have := kk_rng p0
        try have := kk_div (x := p0) (k := 100) (n := 100) rfl (by decide) (by omega)
        try have := kk_rem (x := p0) (k := 100) (n := 100) rfl (by decide) (by omega)
        exact W.zret (v := 1) hx hb hr rfl (fun t ht hW => ⟨⟨1, (), rfl, Or.inr (⟨by first | with_reducible assumption | (omega) | assumption, by first | with_reducible assumption | (omega) | assumption, by first | with_reducible assumption | (omega) | assumption, by first | with_reducible assumption | (omega) | assumption, by first | with_reducible assumption | (omega) | assumption, rfl⟩), by rw [ht]; exact hP9, va_K.moved hW.alike hK9, hD9⟩, hS.F ht⟩) hS.2.2 dX9_hasRow_31
set_option maxHeartbeats 4000000 in
set_option maxRecDepth 100000 in
theorem g_X9_insert_0 (l : Launch) (dC : Nat → ClassId) (dI : Nat → Nat → Nat) (h0 : Nat) (h1 : Nat) (h2 : Nat) (h3 : Nat) (cint : ClassId) (sz : Nat) (p0 : Int32) (p1 : Int32) (p2 : Int32) (p3 : Int32) (n0_size : Int32) (f1 : Nat → Int32) (f2 : Nat → Int32) (f3 : Nat → Int32) (tn0_size : 0 ≤ n0_size.toInt ∧ n0_size.toInt ≤ 40) : Met l yX9_insert wsX9_insert ({ frames := 1, cells := 0, slots := 0, locals := 20 }) (va_Pc [.ref h0, .int p0, .int p1, .int p2, .int p3] (fun U => U.heap.size = sz ∧ va_P (dC, dI) vwCl [(h0, kO9 h1 h2 h3 n0_size), (h1, kAi cint 40 f1), (h2, kAi cint 40 f2), (h3, kAi cint 40 f3)] U.heap ∧ va_K (dC, dI) vwCl [(cint, .int)] U ∧ va_D (fun _ => True) [(h0, kO9 h1 h2 h3 n0_size), (h1, kAi cint 40 f1), (h2, kAi cint 40 f2), (h3, kAi cint 40 f3)])) (va_Qv (fun (_ : Unit) => True) (fun (_ : Unit) t => ∃ (m0_size : Int32) (g1 : Nat → Int32) (g2 : Nat → Int32) (g3 : Nat → Int32), (0 ≤ m0_size.toInt ∧ m0_size.toInt ≤ 40) ∧ va_P (dC, dI) vwCl [(h0, kO9 h1 h2 h3 m0_size), (h1, kAi cint 40 g1), (h2, kAi cint 40 g2), (h3, kAi cint 40 g3)] t.heap ∧ va_K (dC, dI) vwCl [] t ∧ va_D (va_A [(h0, kO9 h1 h2 h3 n0_size), (h1, kAi cint 40 f1), (h2, kAi cint 40 f2), (h3, kAi cint 40 f3)] sz) [(h0, kO9 h1 h2 h3 m0_size), (h1, kAi cint 40 g1), (h2, kAi cint 40 g2), (h3, kAi cint 40 g3)]) (va_A [(h0, kO9 h1 h2 h3 n0_size), (h1, kAi cint 40 f1), (h2, kAi cint 40 f2), (h3, kAi cint 40 f3)] sz)) 0 0 (va_A [(h0, kO9 h1 h2 h3 n0_size), (h1, kAi cint 40 f1), (h2, kAi cint 40 f2), (h3, kAi cint 40 f3)] sz) := by
  refine Met.ofW (cc := cX9_insert) (maxL := 6) (ret := none) (by decide) rfl ?_
  intro p e s m args below meth c s₁ B hml hv
  obtain ⟨rfl, hsz, hP, hK, hD0⟩ := hv
  have hx := B.exec
  have hb := B.bytes
  have hr := B.returns
  have hts := atoms_spec (ws := wsX9_insert) B.pre
  have hown : s.vm.findClass RX9 = some m.cls := findClass_of_methodNamed B.named
  have hlocks := B.notSynchronized
  subst hsz
  have hD := hD0.self (sz := s.heap.size)
  generalize hAe : va_A [(h0, kO9 h1 h2 h3 n0_size), (h1, kAi cint 40 f1), (h2, kAi cint 40 f2), (h3, kAi cint 40 f3)] s.heap.size = A at hD ⊢
  have hA : ∀ q : Nat, s.heap.size ≤ q → A q := fun q h => by rw [← hAe]; exact Or.inr h
  have hS : va_S A s.heap s.heap [] := va_S.rf
  have hP : va_P (dC, dI) vwCl [(h0, kO9 h1 h2 h3 n0_size), (h1, kAi cint 40 f1), (h2, kAi cint 40 f2), (h3, kAi cint 40 f3)] s.heap := hP
  have hl := lv_entry ([.ref h0, .int p0, .int p1, .int p2, .int p3]) (n := 6) (Nat.le_of_ble_eq_true rfl)
  rw [lg_entry_eq]
  generalize (lg_sl ([.ref h0, .int p0, .int p1, .int p2, .int p3]) ++ List.replicate (6 - (lg_sl ([.ref h0, .int p0, .int p1, .int p2, .int p3])).length) Slot.unset).toArray = ls at hl ⊢
  have hl : lv_has ls 6 [(0, .ref h0), (1, .int p0), (2, .int p1), (3, .int p2), (4, .int p3)] := hl
  refine lv_aload_n hx hb dX9_insert_0 rfl (lv_at hl 0 rfl) ?_
  have hPc := kk_Ps (wq := [(h0, kO9 h1 h2 h3 n0_size)]) hP [0] rfl
  have hDc := kk_Ds (wq := [(h0, kO9 h1 h2 h3 n0_size)]) hD [0] (by decide) rfl
  have hKc := kk_Ks (tq := []) hK [] rfl
  have hFc := va_free (wc := [(h0, kO9 h1 h2 h3 n0_size)]) hD hS hA [0] rfl
  refine va_calli (va_runV (As := []) (rest := []) ⟨hx, hb, hml, hown, hts⟩ (g_X9_isFull_0 l dC dI h0 h1 h2 h3 s.heap.size n0_size tn0_size) (cwV 0 hts gX9_insert_X9_isFull rfl rfl rfl ⟨rfl, kh_X9_isFull⟩ ⟨Nat.le_of_ble_eq_true rfl, Nat.le_of_ble_eq_true rfl⟩) ⟨fun a U g mk q => by obtain ⟨q0, q1, qP, qK, qD⟩ := q; exact ⟨q0, q1, qP, va_K.moved (u := U) (U := U.calling g mk a) (Vm.Alike.refl U.vm) qK, qD⟩, va_recv hKc hPc (ci := 9) (q0 := 0) rfl rfl, fun U hU hW => ⟨rfl, by rw [hU], by rw [hU]; exact hPc, va_K.moved hW.alike hKc, hDc.weaken (fun _ _ _ _ => trivial)⟩⟩ rfl rfl hl.1 rfl (lv_room (Nat.le_of_ble_eq_true rfl)) dX9_insert_1 ⟨Nat.le_of_ble_eq_true rfl, Nat.le_of_ble_eq_true rfl⟩) hS (fun q _ h => hFc q h) hFc (fun r_1 u t H1 locs ht hvm hw hB hz1 hk1 hS => ?_)
  obtain ⟨hP1, hK1, hD1⟩ := hB
  rw [ht] at hP1
  have hK1 := va_K.moved hvm.symm hK1
  obtain ⟨hP, hD⟩ := va_join (wr := [(h1, kAi cint 40 f1), (h2, kAi cint 40 f2), (h3, kAi cint 40 f3)]) (w1 := [(h0, kO9 h1 h2 h3 n0_size)]) hP hD [0] [1, 2, 3] rfl rfl (by decide) (by decide) hk1 hFc hP1 hD1
  generalize H1 = H at hP hS ⊢
  have hP : va_P (dC, dI) vwCl [(h1, kAi cint 40 f1), (h2, kAi cint 40 f2), (h3, kAi cint 40 f3), (h0, kO9 h1 h2 h3 n0_size)] H := hP
  have hD : va_D A [(h1, kAi cint 40 f1), (h2, kAi cint 40 f2), (h3, kAi cint 40 f3), (h0, kO9 h1 h2 h3 n0_size)] := hD
  rcases hw with ⟨t_1_0, rfl⟩ | ⟨t_1_0, rfl⟩
  · skip
    have t_1_0 : (n0_size.toInt : Int) < 40 := t_1_0
    refine lv_if_ne (tgt := 19) hx hb dX9_insert_4 (by decide) (fun c => absurd c (by decide)) (fun _ => ?_)
    refine lv_iload_n hx hb dX9_insert_7 rfl (lv_at hl 1 rfl) ?_
    refine lv_if_lt (tgt := 19) hx hb dX9_insert_8 (by decide) (fun c_2 => ?_) (fun c_2 => ?_)
    · have t_2 : p0.toInt < 0 := kk_lt c_2
      have hP9 := kk_Ps (wq := [(h0, kO9 h1 h2 h3 n0_size), (h1, kAi cint 40 f1), (h2, kAi cint 40 f2), (h3, kAi cint 40 f3)]) hP [3, 0, 1, 2] rfl
      have hD9 := kk_Ds (wq := [(h0, kO9 h1 h2 h3 n0_size), (h1, kAi cint 40 f1), (h2, kAi cint 40 f2), (h3, kAi cint 40 f3)]) hD [3, 0, 1, 2] (by decide) rfl
      have hK9 := kk_Ks (tq := []) hK [] rfl
      exact W.vret hx hb hr (fun t ht hW => ⟨⟨(), rfl, trivial, n0_size, f1, f2, f3, tn0_size, by rw [ht]; exact hP9, va_K.moved hW.alike hK9, hD9⟩, hS.F ht⟩) hS.2.2 dX9_insert_19
    · have t_2 : 0 ≤ p0.toInt := kk_nlt c_2
      refine lv_iload_n hx hb dX9_insert_11 rfl (lv_at hl 1 rfl) ?_
      refine lv_aload_n hx hb dX9_insert_12 rfl (lv_at hl 0 rfl) ?_
      refine va_get (D := (dC, dI)) (ci := 9) (v := .int n0_size) (C := RX9) (T := TX9) (N := 4) hx hb hts (fun _ h => List.mem_cons_of_mem _ (List.mem_append_right _ h)) hown hK hP 3 rfl rfl 3 (by decide) (hts (.fieldLink RX9 21 "KinkStreet$Street" "size" "I") (List.mem_of_getElem? (i := 1) rfl)) (fun _ h9 => h9) rfl dX9_insert_13 ?_
      refine lv_icmp_le (tgt := 20) hx hb dX9_insert_16 (by decide) (fun c_3 => ?_) (fun c_3 => ?_)
      · have t_3 : p0.toInt ≤ n0_size.toInt := kk_le c_3
        refine lv_aload_n hx hb dX9_insert_20 rfl (lv_at hl 0 rfl) ?_
        refine va_get (D := (dC, dI)) (ci := 9) (v := .int n0_size) (C := RX9) (T := TX9) (N := 4) hx hb hts (fun _ h => List.mem_cons_of_mem _ (List.mem_append_right _ h)) hown hK hP 3 rfl rfl 3 (by decide) (hts (.fieldLink RX9 21 "KinkStreet$Street" "size" "I") (List.mem_of_getElem? (i := 1) rfl)) (fun _ h9 => h9) rfl dX9_insert_21 ?_
        refine lv_istore hx hb dX9_insert_24 hl (by decide) (rfl : _ = ([(5, .int n0_size), (0, .ref h0), (1, .int p0), (2, .int p1), (3, .int p2), (4, .int p3)] : List (Nat × Value))) (fun ls hl => ?_)
        refine kk_loop (σ := Int32 × (Nat → Int32) × (Nat → Int32) × (Nat → Int32)) (fun x H locs ls => (0 ≤ x.1.toInt ∧ x.1.toInt ≤ 39) ∧ x.1.toInt ≤ n0_size.toInt ∧ va_P (dC, dI) vwCl [(h1, kAi cint 40 x.2.1), (h2, kAi cint 40 x.2.2.1), (h3, kAi cint 40 x.2.2.2), (h0, kO9 h1 h2 h3 n0_size)] H ∧ va_D A [(h1, kAi cint 40 x.2.1), (h2, kAi cint 40 x.2.2.1), (h3, kAi cint 40 x.2.2.2), (h0, kO9 h1 h2 h3 n0_size)] ∧ va_S A s.heap H locs ∧ lv_has ls 6 [(5, .int x.1), (0, .ref h0), (1, .int p0), (2, .int p1), (3, .int p2), (4, .int p3)]) (fun x => (x.1.toInt - (0 : Int)).toNat) ?_ (n0_size, f1, f2, f3) _ _ _ ⟨(by show 0 ≤ (n0_size : Int32).toInt ∧ (n0_size : Int32).toInt ≤ 39; first | decide | ((omega))), (by show (n0_size : Int32).toInt ≤ (n0_size : Int32).toInt; first | decide | (omega)), hP, hD, hS, hl⟩
        rintro ⟨i_4_0, f_4_1, f_4_2, f_4_3⟩ H locs ls ⟨t_4_0, z_4_0, hP, hD, hS, hl⟩ ih_4
        have t_4_0 : (0 ≤ i_4_0.toInt ∧ i_4_0.toInt ≤ 39) := t_4_0
        have z_4_0 : i_4_0.toInt ≤ n0_size.toInt := z_4_0
        have hl : lv_has ls 6 [(5, .int i_4_0), (0, .ref h0), (1, .int p0), (2, .int p1), (3, .int p2), (4, .int p3)] := hl
        have hP : va_P (dC, dI) vwCl [(h1, kAi cint 40 f_4_1), (h2, kAi cint 40 f_4_2), (h3, kAi cint 40 f_4_3), (h0, kO9 h1 h2 h3 n0_size)] H := hP
        have hD : va_D A [(h1, kAi cint 40 f_4_1), (h2, kAi cint 40 f_4_2), (h3, kAi cint 40 f_4_3), (h0, kO9 h1 h2 h3 n0_size)] := hD
        refine lv_iload hx hb dX9_insert_26 (lv_at hl 0 rfl) ?_
        refine lv_iload_n hx hb dX9_insert_28 rfl (lv_at hl 2 rfl) ?_
        refine lv_icmp_le (tgt := 86) hx hb dX9_insert_29 (by decide) (fun c_33 => ?_) (fun c_33 => ?_)
        · have t_33 : i_4_0.toInt ≤ p0.toInt := kk_le c_33
          refine lv_aload_n hx hb dX9_insert_86 rfl (lv_at hl 1 rfl) ?_
          refine va_get (D := (dC, dI)) (ci := 9) (v := .ref h1) (C := RX9) (T := TX9) (N := 4) hx hb hts (fun _ h => List.mem_cons_of_mem _ (List.mem_append_right _ h)) hown hK hP 3 rfl rfl 0 (by decide) (hts (.fieldLink RX9 9 "KinkStreet$Street" "widths" "[I") (List.mem_of_getElem? (i := 2) rfl)) (fun _ h9 => h9) rfl dX9_insert_87 ?_
          refine lv_iload_n hx hb dX9_insert_90 rfl (lv_at hl 2 rfl) ?_
          refine lv_iload_n hx hb dX9_insert_91 rfl (lv_at hl 3 rfl) ?_
          refine va_iast hx hb hK hP hD hS 0 0 rfl rfl (vp_in_iff.mpr ⟨by omega, by omega⟩) dX9_insert_92 (fun H locs hP hD hS => ?_)
          generalize upd f_4_1 (p0 : Int32).toNatClampNeg p1 = f_34 at hP hD
          have hP : va_P (dC, dI) vwCl [(h1, kAi cint 40 f_34), (h2, kAi cint 40 f_4_2), (h3, kAi cint 40 f_4_3), (h0, kO9 h1 h2 h3 n0_size)] H := hP
          have hD : va_D A [(h1, kAi cint 40 f_34), (h2, kAi cint 40 f_4_2), (h3, kAi cint 40 f_4_3), (h0, kO9 h1 h2 h3 n0_size)] := hD
          refine lv_aload_n hx hb dX9_insert_93 rfl (lv_at hl 1 rfl) ?_
          refine va_get (D := (dC, dI)) (ci := 9) (v := .ref h2) (C := RX9) (T := TX9) (N := 4) hx hb hts (fun _ h => List.mem_cons_of_mem _ (List.mem_append_right _ h)) hown hK hP 3 rfl rfl 1 (by decide) (hts (.fieldLink RX9 15 "KinkStreet$Street" "depths" "[I") (List.mem_of_getElem? (i := 3) rfl)) (fun _ h9 => h9) rfl dX9_insert_94 ?_
          refine lv_iload_n hx hb dX9_insert_97 rfl (lv_at hl 2 rfl) ?_
          refine lv_iload_n hx hb dX9_insert_98 rfl (lv_at hl 4 rfl) ?_
          refine va_iast hx hb hK hP hD hS 1 0 rfl rfl (vp_in_iff.mpr ⟨by omega, by omega⟩) dX9_insert_99 (fun H locs hP hD hS => ?_)
          generalize upd f_4_2 (p0 : Int32).toNatClampNeg p2 = f_35 at hP hD
          have hP : va_P (dC, dI) vwCl [(h1, kAi cint 40 f_34), (h2, kAi cint 40 f_35), (h3, kAi cint 40 f_4_3), (h0, kO9 h1 h2 h3 n0_size)] H := hP
          have hD : va_D A [(h1, kAi cint 40 f_34), (h2, kAi cint 40 f_35), (h3, kAi cint 40 f_4_3), (h0, kO9 h1 h2 h3 n0_size)] := hD
          refine lv_aload_n hx hb dX9_insert_100 rfl (lv_at hl 1 rfl) ?_
          refine va_get (D := (dC, dI)) (ci := 9) (v := .ref h3) (C := RX9) (T := TX9) (N := 4) hx hb hts (fun _ h => List.mem_cons_of_mem _ (List.mem_append_right _ h)) hown hK hP 3 rfl rfl 2 (by decide) (hts (.fieldLink RX9 18 "KinkStreet$Street" "asides" "[I") (List.mem_of_getElem? (i := 4) rfl)) (fun _ h9 => h9) rfl dX9_insert_101 ?_
          refine lv_iload_n hx hb dX9_insert_104 rfl (lv_at hl 2 rfl) ?_
          refine lv_iload hx hb dX9_insert_105 (lv_at hl 5 rfl) ?_
          refine va_iast hx hb hK hP hD hS 2 0 rfl rfl (vp_in_iff.mpr ⟨by omega, by omega⟩) dX9_insert_107 (fun H locs hP hD hS => ?_)
          generalize upd f_4_3 (p0 : Int32).toNatClampNeg p3 = f_36 at hP hD
          have hP : va_P (dC, dI) vwCl [(h1, kAi cint 40 f_34), (h2, kAi cint 40 f_35), (h3, kAi cint 40 f_36), (h0, kO9 h1 h2 h3 n0_size)] H := hP
          have hD : va_D A [(h1, kAi cint 40 f_34), (h2, kAi cint 40 f_35), (h3, kAi cint 40 f_36), (h0, kO9 h1 h2 h3 n0_size)] := hD
          refine lv_aload_n hx hb dX9_insert_108 rfl (lv_at hl 1 rfl) ?_
          refine lv_dup hx hb dX9_insert_109 rfl ?_
          refine va_get (D := (dC, dI)) (ci := 9) (v := .int n0_size) (C := RX9) (T := TX9) (N := 4) hx hb hts (fun _ h => List.mem_cons_of_mem _ (List.mem_append_right _ h)) hown hK hP 3 rfl rfl 3 (by decide) (hts (.fieldLink RX9 21 "KinkStreet$Street" "size" "I") (List.mem_of_getElem? (i := 1) rfl)) (fun _ h9 => h9) rfl dX9_insert_110 ?_
          refine lv_iconst (v := 1) hx hb dX9_insert_113 kk_ic_1 ?_
          refine lv_iadd hx hb dX9_insert_114 ?_
          refine va_put (D := (dC, dI)) (ci := 9) (v := .int (n0_size + 1)) (ty := .int) (C := RX9) (T := TX9) (N := 4) hx hb hts (fun _ h => List.mem_cons_of_mem _ (List.mem_append_right _ h)) tyX9 tyX9_ok nmX9 hown hK hP hD hS 3 rfl rfl 3 (by decide) (hts (.fieldLink RX9 21 "KinkStreet$Street" "size" "I") (List.mem_of_getElem? (i := 1) rfl)) (fun _ h9 => h9) rfl (by decide +kernel) rfl rfl (Nat.le_of_ble_eq_true rfl) dX9_insert_115 (fun H locs hP hD hS => ?_)
          have hP : va_P (dC, dI) vwCl [(h1, kAi cint 40 f_34), (h2, kAi cint 40 f_35), (h3, kAi cint 40 f_36), (h0, kO9 h1 h2 h3 (n0_size + 1))] H := hP
          have hD : va_D A [(h1, kAi cint 40 f_34), (h2, kAi cint 40 f_35), (h3, kAi cint 40 f_36), (h0, kO9 h1 h2 h3 (n0_size + 1))] := hD
          have hP9 := kk_Ps (wq := [(h0, kO9 h1 h2 h3 (n0_size + 1)), (h1, kAi cint 40 f_34), (h2, kAi cint 40 f_35), (h3, kAi cint 40 f_36)]) hP [3, 0, 1, 2] rfl
          have hD9 := kk_Ds (wq := [(h0, kO9 h1 h2 h3 (n0_size + 1)), (h1, kAi cint 40 f_34), (h2, kAi cint 40 f_35), (h3, kAi cint 40 f_36)]) hD [3, 0, 1, 2] (by decide) rfl
          have hK9 := kk_Ks (tq := []) hK [] rfl
          try have := kk_add2 (x := n0_size) (y := 1) (a := n0_size.toInt) (b := 1) rfl rfl (by omega) (by omega)
          exact W.vret hx hb hr (fun t ht hW => ⟨⟨(), rfl, trivial, (n0_size + 1), f_34, f_35, f_36, (by show 0 ≤ ((n0_size + 1) : Int32).toInt ∧ ((n0_size + 1) : Int32).toInt ≤ 40; first | decide | ((omega))), by rw [ht]; exact hP9, va_K.moved hW.alike hK9, hD9⟩, hS.F ht⟩) hS.2.2 dX9_insert_118
        · have t_33 : p0.toInt < i_4_0.toInt := kk_nle c_33
          refine lv_aload_n hx hb dX9_insert_32 rfl (lv_at hl 1 rfl) ?_
          refine va_get (D := (dC, dI)) (ci := 9) (v := .ref h1) (C := RX9) (T := TX9) (N := 4) hx hb hts (fun _ h => List.mem_cons_of_mem _ (List.mem_append_right _ h)) hown hK hP 3 rfl rfl 0 (by decide) (hts (.fieldLink RX9 9 "KinkStreet$Street" "widths" "[I") (List.mem_of_getElem? (i := 2) rfl)) (fun _ h9 => h9) rfl dX9_insert_33 ?_
          refine lv_iload hx hb dX9_insert_36 (lv_at hl 0 rfl) ?_
          refine lv_aload_n hx hb dX9_insert_38 rfl (lv_at hl 1 rfl) ?_
          refine va_get (D := (dC, dI)) (ci := 9) (v := .ref h1) (C := RX9) (T := TX9) (N := 4) hx hb hts (fun _ h => List.mem_cons_of_mem _ (List.mem_append_right _ h)) hown hK hP 3 rfl rfl 0 (by decide) (hts (.fieldLink RX9 9 "KinkStreet$Street" "widths" "[I") (List.mem_of_getElem? (i := 2) rfl)) (fun _ h9 => h9) rfl dX9_insert_39 ?_
          refine lv_iload hx hb dX9_insert_42 (lv_at hl 0 rfl) ?_
          refine lv_iconst (v := 1) hx hb dX9_insert_44 kk_ic_1 ?_
          refine lv_isub hx hb dX9_insert_45 ?_
          try have := kk_sub2 (x := i_4_0) (y := 1) (a := i_4_0.toInt) (b := 1) rfl rfl (by omega) (by omega)
          have hi_37 : vp_in (i_4_0 - 1) 40 := (vp_in_iff.mpr ⟨by omega, by omega⟩)
          refine va_iald hx hb hK hP 0 0 rfl rfl hi_37 dX9_insert_46 ?_
          refine lv_topi (fun y_37 e_37 => ?_)
          clear e_37
          refine va_iast hx hb hK hP hD hS 0 0 rfl rfl (vp_in_iff.mpr ⟨by omega, by omega⟩) dX9_insert_47 (fun H locs hP hD hS => ?_)
          generalize upd f_4_1 (i_4_0 : Int32).toNatClampNeg y_37 = f_38 at hP hD
          have hP : va_P (dC, dI) vwCl [(h1, kAi cint 40 f_38), (h2, kAi cint 40 f_4_2), (h3, kAi cint 40 f_4_3), (h0, kO9 h1 h2 h3 n0_size)] H := hP
          have hD : va_D A [(h1, kAi cint 40 f_38), (h2, kAi cint 40 f_4_2), (h3, kAi cint 40 f_4_3), (h0, kO9 h1 h2 h3 n0_size)] := hD
          refine lv_aload_n hx hb dX9_insert_48 rfl (lv_at hl 1 rfl) ?_
          refine va_get (D := (dC, dI)) (ci := 9) (v := .ref h2) (C := RX9) (T := TX9) (N := 4) hx hb hts (fun _ h => List.mem_cons_of_mem _ (List.mem_append_right _ h)) hown hK hP 3 rfl rfl 1 (by decide) (hts (.fieldLink RX9 15 "KinkStreet$Street" "depths" "[I") (List.mem_of_getElem? (i := 3) rfl)) (fun _ h9 => h9) rfl dX9_insert_49 ?_
          refine lv_iload hx hb dX9_insert_52 (lv_at hl 0 rfl) ?_
          refine lv_aload_n hx hb dX9_insert_54 rfl (lv_at hl 1 rfl) ?_
          refine va_get (D := (dC, dI)) (ci := 9) (v := .ref h2) (C := RX9) (T := TX9) (N := 4) hx hb hts (fun _ h => List.mem_cons_of_mem _ (List.mem_append_right _ h)) hown hK hP 3 rfl rfl 1 (by decide) (hts (.fieldLink RX9 15 "KinkStreet$Street" "depths" "[I") (List.mem_of_getElem? (i := 3) rfl)) (fun _ h9 => h9) rfl dX9_insert_55 ?_
          refine lv_iload hx hb dX9_insert_58 (lv_at hl 0 rfl) ?_
          refine lv_iconst (v := 1) hx hb dX9_insert_60 kk_ic_1 ?_
          refine lv_isub hx hb dX9_insert_61 ?_
          have hi_39 : vp_in (i_4_0 - 1) 40 := (vp_in_iff.mpr ⟨by omega, by omega⟩)
          refine va_iald hx hb hK hP 1 0 rfl rfl hi_39 dX9_insert_62 ?_
          refine lv_topi (fun y_39 e_39 => ?_)
          clear e_39
          refine va_iast hx hb hK hP hD hS 1 0 rfl rfl (vp_in_iff.mpr ⟨by omega, by omega⟩) dX9_insert_63 (fun H locs hP hD hS => ?_)
          generalize upd f_4_2 (i_4_0 : Int32).toNatClampNeg y_39 = f_40 at hP hD
          have hP : va_P (dC, dI) vwCl [(h1, kAi cint 40 f_38), (h2, kAi cint 40 f_40), (h3, kAi cint 40 f_4_3), (h0, kO9 h1 h2 h3 n0_size)] H := hP
          have hD : va_D A [(h1, kAi cint 40 f_38), (h2, kAi cint 40 f_40), (h3, kAi cint 40 f_4_3), (h0, kO9 h1 h2 h3 n0_size)] := hD
          refine lv_aload_n hx hb dX9_insert_64 rfl (lv_at hl 1 rfl) ?_
          refine va_get (D := (dC, dI)) (ci := 9) (v := .ref h3) (C := RX9) (T := TX9) (N := 4) hx hb hts (fun _ h => List.mem_cons_of_mem _ (List.mem_append_right _ h)) hown hK hP 3 rfl rfl 2 (by decide) (hts (.fieldLink RX9 18 "KinkStreet$Street" "asides" "[I") (List.mem_of_getElem? (i := 4) rfl)) (fun _ h9 => h9) rfl dX9_insert_65 ?_
          refine lv_iload hx hb dX9_insert_68 (lv_at hl 0 rfl) ?_
          refine lv_aload_n hx hb dX9_insert_70 rfl (lv_at hl 1 rfl) ?_
          refine va_get (D := (dC, dI)) (ci := 9) (v := .ref h3) (C := RX9) (T := TX9) (N := 4) hx hb hts (fun _ h => List.mem_cons_of_mem _ (List.mem_append_right _ h)) hown hK hP 3 rfl rfl 2 (by decide) (hts (.fieldLink RX9 18 "KinkStreet$Street" "asides" "[I") (List.mem_of_getElem? (i := 4) rfl)) (fun _ h9 => h9) rfl dX9_insert_71 ?_
          refine lv_iload hx hb dX9_insert_74 (lv_at hl 0 rfl) ?_
          refine lv_iconst (v := 1) hx hb dX9_insert_76 kk_ic_1 ?_
          refine lv_isub hx hb dX9_insert_77 ?_
          have hi_41 : vp_in (i_4_0 - 1) 40 := (vp_in_iff.mpr ⟨by omega, by omega⟩)
          refine va_iald hx hb hK hP 2 0 rfl rfl hi_41 dX9_insert_78 ?_
          refine lv_topi (fun y_41 e_41 => ?_)
          clear e_41
          refine va_iast hx hb hK hP hD hS 2 0 rfl rfl (vp_in_iff.mpr ⟨by omega, by omega⟩) dX9_insert_79 (fun H locs hP hD hS => ?_)
          generalize upd f_4_3 (i_4_0 : Int32).toNatClampNeg y_41 = f_42 at hP hD
          have hP : va_P (dC, dI) vwCl [(h1, kAi cint 40 f_38), (h2, kAi cint 40 f_40), (h3, kAi cint 40 f_42), (h0, kO9 h1 h2 h3 n0_size)] H := hP
          have hD : va_D A [(h1, kAi cint 40 f_38), (h2, kAi cint 40 f_40), (h3, kAi cint 40 f_42), (h0, kO9 h1 h2 h3 n0_size)] := hD
          refine lv_iinc (v := (i_4_0 + (-1))) hx hb dX9_insert_80 hl (k := 0) rfl (by first | rfl | decide) (by decide) (rfl : _ = ([(5, .int (i_4_0 + (-1))), (0, .ref h0), (1, .int p0), (2, .int p1), (3, .int p2), (4, .int p3)] : List (Nat × Value))) (fun ls hl => ?_)
          refine lv_goto (tgt := 26) hx hb dX9_insert_83 (by decide) ?_
          try have := kk_add2 (x := i_4_0) (y := (-1)) (a := i_4_0.toInt) (b := (-1)) rfl rfl (by omega) (by omega)
          exact ih_4 ((i_4_0 + (-1)), f_38, f_40, f_42) _ _ _ (by show (((i_4_0 + (-1))).toInt - (0 : Int)).toNat < (i_4_0.toInt - (0 : Int)).toNat; exact kk_mu (by omega) (by omega)) ⟨(by show 0 ≤ ((i_4_0 + (-1)) : Int32).toInt ∧ ((i_4_0 + (-1)) : Int32).toInt ≤ 39; first | decide | ((omega))), (by show ((i_4_0 + (-1)) : Int32).toInt ≤ (n0_size : Int32).toInt; first | decide | (omega)), hP, hD, hS, lv_sub hl [0, 1, 2, 3, 4, 5] rfl⟩
      · have t_3 : n0_size.toInt < p0.toInt := kk_nle c_3
        have hP9 := kk_Ps (wq := [(h0, kO9 h1 h2 h3 n0_size), (h1, kAi cint 40 f1), (h2, kAi cint 40 f2), (h3, kAi cint 40 f3)]) hP [3, 0, 1, 2] rfl
        have hD9 := kk_Ds (wq := [(h0, kO9 h1 h2 h3 n0_size), (h1, kAi cint 40 f1), (h2, kAi cint 40 f2), (h3, kAi cint 40 f3)]) hD [3, 0, 1, 2] (by decide) rfl
        have hK9 := kk_Ks (tq := []) hK [] rfl
        exact W.vret hx hb hr (fun t ht hW => ⟨⟨(), rfl, trivial, n0_size, f1, f2, f3, tn0_size, by rw [ht]; exact hP9, va_K.moved hW.alike hK9, hD9⟩, hS.F ht⟩) hS.2.2 dX9_insert_19
  · skip
    have t_1_0 : (40 : Int) ≤ n0_size.toInt := t_1_0
    refine lv_if_ne (tgt := 19) hx hb dX9_insert_4 (by decide) (fun _ => ?_) (fun c => absurd c (by decide))
    have hP9 := kk_Ps (wq := [(h0, kO9 h1 h2 h3 n0_size), (h1, kAi cint 40 f1), (h2, kAi cint 40 f2), (h3, kAi cint 40 f3)]) hP [3, 0, 1, 2] rfl
    have hD9 := kk_Ds (wq := [(h0, kO9 h1 h2 h3 n0_size), (h1, kAi cint 40 f1), (h2, kAi cint 40 f2), (h3, kAi cint 40 f3)]) hD [3, 0, 1, 2] (by decide) rfl
    have hK9 := kk_Ks (tq := []) hK [] rfl
    exact W.vret hx hb hr (fun t ht hW => ⟨⟨(), rfl, trivial, n0_size, f1, f2, f3, tn0_size, by rw [ht]; exact hP9, va_K.moved hW.alike hK9, hD9⟩, hS.F ht⟩) hS.2.2 dX9_insert_19
set_option maxHeartbeats 4000000 in
set_option maxRecDepth 100000 in
theorem g_X9_append_0 (l : Launch) (dC : Nat → ClassId) (dI : Nat → Nat → Nat) (h0 : Nat) (h1 : Nat) (h2 : Nat) (h3 : Nat) (cint : ClassId) (sz : Nat) (p0 : Int32) (p1 : Int32) (p2 : Int32) (n0_size : Int32) (f1 : Nat → Int32) (f2 : Nat → Int32) (f3 : Nat → Int32) (tn0_size : 0 ≤ n0_size.toInt ∧ n0_size.toInt ≤ 40) : Met l yX9_append wsX9_append ({ frames := 2, cells := 0, slots := 0, locals := 45 }) (va_Pc [.ref h0, .int p0, .int p1, .int p2] (fun U => U.heap.size = sz ∧ va_P (dC, dI) vwCl [(h0, kO9 h1 h2 h3 n0_size), (h1, kAi cint 40 f1), (h2, kAi cint 40 f2), (h3, kAi cint 40 f3)] U.heap ∧ va_K (dC, dI) vwCl [(cint, .int)] U ∧ va_D (fun _ => True) [(h0, kO9 h1 h2 h3 n0_size), (h1, kAi cint 40 f1), (h2, kAi cint 40 f2), (h3, kAi cint 40 f3)])) (va_Qv (fun (_ : Unit) => True) (fun (_ : Unit) t => ∃ (m0_size : Int32) (g1 : Nat → Int32) (g2 : Nat → Int32) (g3 : Nat → Int32), (0 ≤ m0_size.toInt ∧ m0_size.toInt ≤ 40) ∧ va_P (dC, dI) vwCl [(h0, kO9 h1 h2 h3 m0_size), (h1, kAi cint 40 g1), (h2, kAi cint 40 g2), (h3, kAi cint 40 g3)] t.heap ∧ va_K (dC, dI) vwCl [] t ∧ va_D (va_A [(h0, kO9 h1 h2 h3 n0_size), (h1, kAi cint 40 f1), (h2, kAi cint 40 f2), (h3, kAi cint 40 f3)] sz) [(h0, kO9 h1 h2 h3 m0_size), (h1, kAi cint 40 g1), (h2, kAi cint 40 g2), (h3, kAi cint 40 g3)]) (va_A [(h0, kO9 h1 h2 h3 n0_size), (h1, kAi cint 40 f1), (h2, kAi cint 40 f2), (h3, kAi cint 40 f3)] sz)) 0 0 (va_A [(h0, kO9 h1 h2 h3 n0_size), (h1, kAi cint 40 f1), (h2, kAi cint 40 f2), (h3, kAi cint 40 f3)] sz) := by
  refine Met.ofW (cc := cX9_append) (maxL := 4) (ret := none) (by decide) rfl ?_
  intro p e s m args below meth c s₁ B hml hv
  obtain ⟨rfl, hsz, hP, hK, hD0⟩ := hv
  have hx := B.exec
  have hb := B.bytes
  have hr := B.returns
  have hts := atoms_spec (ws := wsX9_append) B.pre
  have hown : s.vm.findClass RX9 = some m.cls := findClass_of_methodNamed B.named
  have hlocks := B.notSynchronized
  subst hsz
  have hD := hD0.self (sz := s.heap.size)
  generalize hAe : va_A [(h0, kO9 h1 h2 h3 n0_size), (h1, kAi cint 40 f1), (h2, kAi cint 40 f2), (h3, kAi cint 40 f3)] s.heap.size = A at hD ⊢
  have hA : ∀ q : Nat, s.heap.size ≤ q → A q := fun q h => by rw [← hAe]; exact Or.inr h
  have hS : va_S A s.heap s.heap [] := va_S.rf
  have hP : va_P (dC, dI) vwCl [(h0, kO9 h1 h2 h3 n0_size), (h1, kAi cint 40 f1), (h2, kAi cint 40 f2), (h3, kAi cint 40 f3)] s.heap := hP
  have hl := lv_entry ([.ref h0, .int p0, .int p1, .int p2]) (n := 4) (Nat.le_of_ble_eq_true rfl)
  rw [lg_entry_eq]
  generalize (lg_sl ([.ref h0, .int p0, .int p1, .int p2]) ++ List.replicate (4 - (lg_sl ([.ref h0, .int p0, .int p1, .int p2])).length) Slot.unset).toArray = ls at hl ⊢
  have hl : lv_has ls 4 [(0, .ref h0), (1, .int p0), (2, .int p1), (3, .int p2)] := hl
  refine lv_aload_n hx hb dX9_append_0 rfl (lv_at hl 0 rfl) ?_
  refine lv_aload_n hx hb dX9_append_1 rfl (lv_at hl 0 rfl) ?_
  refine va_get (D := (dC, dI)) (ci := 9) (v := .int n0_size) (C := RX9) (T := TX9) (N := 4) hx hb hts (fun _ h => List.mem_cons_of_mem _ (List.mem_append_right _ h)) hown hK hP 0 rfl rfl 3 (by decide) (hts (.fieldLink RX9 21 "KinkStreet$Street" "size" "I") (List.mem_of_getElem? (i := 1) rfl)) (fun _ h9 => h9) rfl dX9_append_2 ?_
  refine lv_iload_n hx hb dX9_append_5 rfl (lv_at hl 1 rfl) ?_
  refine lv_iload_n hx hb dX9_append_6 rfl (lv_at hl 2 rfl) ?_
  refine lv_iload_n hx hb dX9_append_7 rfl (lv_at hl 3 rfl) ?_
  have hPc := kk_Ps (wq := [(h0, kO9 h1 h2 h3 n0_size), (h1, kAi cint 40 f1), (h2, kAi cint 40 f2), (h3, kAi cint 40 f3)]) hP [0, 1, 2, 3] rfl
  have hDc := kk_Ds (wq := [(h0, kO9 h1 h2 h3 n0_size), (h1, kAi cint 40 f1), (h2, kAi cint 40 f2), (h3, kAi cint 40 f3)]) hD [0, 1, 2, 3] (by decide) rfl
  have hKc := kk_Ks (tq := [(cint, .int)]) hK [0] rfl
  have hFc := va_free (wc := [(h0, kO9 h1 h2 h3 n0_size), (h1, kAi cint 40 f1), (h2, kAi cint 40 f2), (h3, kAi cint 40 f3)]) hD hS hA [0, 1, 2, 3] rfl
  refine va_callv (va_runV (As := [.int n0_size, .int p0, .int p1, .int p2]) (rest := []) ⟨hx, hb, hml, hown, hts⟩ (g_X9_insert_0 l dC dI h0 h1 h2 h3 cint s.heap.size n0_size p0 p1 p2 n0_size f1 f2 f3 tn0_size) (cwV 4 hts gX9_append_X9_insert rfl rfl rfl ⟨rfl, kh_X9_insert⟩ ⟨Nat.le_of_ble_eq_true rfl, Nat.le_of_ble_eq_true rfl⟩) ⟨fun a U g mk q => by obtain ⟨q0, q1, qP, qK, qD⟩ := q; exact ⟨q0, q1, qP, va_K.moved (u := U) (U := U.calling g mk a) (Vm.Alike.refl U.vm) qK, qD⟩, va_recv hKc hPc (ci := 9) (q0 := 0) rfl rfl, fun U hU hW => ⟨rfl, by rw [hU], by rw [hU]; exact hPc, va_K.moved hW.alike hKc, hDc.weaken (fun _ _ _ _ => trivial)⟩⟩ rfl rfl hl.1 rfl (lv_room (Nat.le_of_ble_eq_true rfl)) dX9_append_8 ⟨Nat.le_of_ble_eq_true rfl, Nat.le_of_ble_eq_true rfl⟩) hS (fun q _ h => hFc q h) hFc (fun u t H1 locs ht hvm hw hB hz1 hk1 hS => ?_)
  refine hB.elim (fun y_2 hB => ?_)
  refine hB.elim (fun f_3 hB => ?_)
  refine hB.elim (fun f_4 hB => ?_)
  refine hB.elim (fun f_5 hB => ?_)
  refine hB.elim (fun by_2 hB => ?_)
  have hP1 := hB.1
  have hK1 := hB.2.1
  have hD1 := hB.2.2
  rw [ht] at hP1
  have hK1 := va_K.moved hvm.symm hK1
  obtain ⟨hP, hD⟩ := va_join (wr := []) (w1 := [(h0, kO9 h1 h2 h3 y_2), (h1, kAi cint 40 f_3), (h2, kAi cint 40 f_4), (h3, kAi cint 40 f_5)]) hP hD [0, 1, 2, 3] [] rfl rfl (by decide) (by decide) hk1 hFc hP1 hD1
  generalize H1 = H at hP hS ⊢
  have hP : va_P (dC, dI) vwCl [(h0, kO9 h1 h2 h3 y_2), (h1, kAi cint 40 f_3), (h2, kAi cint 40 f_4), (h3, kAi cint 40 f_5)] H := hP
  have hD : va_D A [(h0, kO9 h1 h2 h3 y_2), (h1, kAi cint 40 f_3), (h2, kAi cint 40 f_4), (h3, kAi cint 40 f_5)] := hD
  have hP9 := kk_Ps (wq := [(h0, kO9 h1 h2 h3 y_2), (h1, kAi cint 40 f_3), (h2, kAi cint 40 f_4), (h3, kAi cint 40 f_5)]) hP [0, 1, 2, 3] rfl
  have hD9 := kk_Ds (wq := [(h0, kO9 h1 h2 h3 y_2), (h1, kAi cint 40 f_3), (h2, kAi cint 40 f_4), (h3, kAi cint 40 f_5)]) hD [0, 1, 2, 3] (by decide) rfl
  have hK9 := kk_Ks (tq := []) hK [] rfl
  exact W.vret hx hb hr (fun t ht hW => ⟨⟨(), rfl, trivial, y_2, f_3, f_4, f_5, (by show 0 ≤ (y_2 : Int32).toInt ∧ (y_2 : Int32).toInt ≤ 40; first | decide | ((omega))), by rw [ht]; exact hP9, va_K.moved hW.alike hK9, hD9⟩, hS.F ht⟩) hS.2.2 dX9_append_11
set_option maxHeartbeats 4000000 in
set_option maxRecDepth 100000 in
theorem g_X9_facts_0 (l : Launch) (dC : Nat → ClassId) (dI : Nat → Nat → Nat) (h0 : Nat) (h1 : Nat) (h2 : Nat) (h3 : Nat) (sz : Nat) (p0 : Int32) (n0_size : Int32) (tn0_size : kk_bx (0 ≤ n0_size.toInt ∧ n0_size.toInt ≤ 40)) : Met l yX9_facts wsX9_facts ({ frames := 0, cells := 0, slots := 0, locals := 0 }) (va_Pc [.ref h0, .int p0] (fun U => U.heap.size = sz ∧ va_P (dC, dI) vwCl [(h0, kO9 h1 h2 h3 n0_size)] U.heap ∧ va_K (dC, dI) vwCl [] U ∧ va_D (fun _ => True) [(h0, kO9 h1 h2 h3 n0_size)])) (va_Qq (fun (r : Option Nat) (_ : Unit) => (p0.toInt ≠ 0 ∧ p0.toInt ≠ 1 ∧ some h3 = r) ∨ (p0.toInt ≠ 0 ∧ p0.toInt = 1 ∧ some h2 = r) ∨ (p0.toInt = 0 ∧ some h1 = r)) (fun (_ : Unit) t => va_P (dC, dI) vwCl [(h0, kO9 h1 h2 h3 n0_size)] t.heap ∧ va_K (dC, dI) vwCl [] t ∧ va_D (va_A [(h0, kO9 h1 h2 h3 n0_size)] sz) [(h0, kO9 h1 h2 h3 n0_size)]) (va_A [(h0, kO9 h1 h2 h3 n0_size)] sz)) 0 0 (va_A [(h0, kO9 h1 h2 h3 n0_size)] sz) := by
  refine Met.ofW (cc := cX9_facts) (maxL := 2) (ret := (some (.array .int))) (by decide) rfl ?_
  intro p e s m args below meth c s₁ B hml hv
  obtain ⟨rfl, hsz, hP, hK, hD0⟩ := hv
  have hx := B.exec
  have hb := B.bytes
  have hr := B.returns
  have hts := atoms_spec (ws := wsX9_facts) B.pre
  have hown : s.vm.findClass RX9 = some m.cls := findClass_of_methodNamed B.named
  have hlocks := B.notSynchronized
  subst hsz
  have hD := hD0.self (sz := s.heap.size)
  generalize hAe : va_A [(h0, kO9 h1 h2 h3 n0_size)] s.heap.size = A at hD ⊢
  have hA : ∀ q : Nat, s.heap.size ≤ q → A q := fun q h => by rw [← hAe]; exact Or.inr h
  have hS : va_S A s.heap s.heap [] := va_S.rf
  have hP : va_P (dC, dI) vwCl [(h0, kO9 h1 h2 h3 n0_size)] s.heap := hP
  have hl := lv_entry ([.ref h0, .int p0]) (n := 2) (Nat.le_of_ble_eq_true rfl)
  rw [lg_entry_eq]
  generalize (lg_sl ([.ref h0, .int p0]) ++ List.replicate (2 - (lg_sl ([.ref h0, .int p0])).length) Slot.unset).toArray = ls at hl ⊢
  have hl : lv_has ls 2 [(0, .ref h0), (1, .int p0)] := hl
  refine lv_iload_n hx hb dX9_facts_0 rfl (lv_at hl 1 rfl) ?_
  refine lv_if_ne (tgt := 11) hx hb dX9_facts_1 (by decide) (fun c_1 => ?_) (fun c_1 => ?_)
  · have t_1 : p0.toInt ≠ 0 := kk_ne c_1
    refine lv_iload_n hx hb dX9_facts_11 rfl (lv_at hl 1 rfl) ?_
    refine lv_iconst (v := 1) hx hb dX9_facts_12 kk_ic_1 ?_
    refine lv_icmp_ne (tgt := 23) hx hb dX9_facts_13 (by decide) (fun c_2 => ?_) (fun c_2 => ?_)
    · have t_2 : p0.toInt ≠ 1 := kk_ne c_2
      refine lv_aload_n hx hb dX9_facts_23 rfl (lv_at hl 0 rfl) ?_
      refine va_get (D := (dC, dI)) (ci := 9) (v := .ref h3) (C := RX9) (T := TX9) (N := 4) hx hb hts (fun _ h => List.mem_cons_of_mem _ (List.mem_append_right _ h)) hown hK hP 0 rfl rfl 2 (by decide) (hts (.fieldLink RX9 18 "KinkStreet$Street" "asides" "[I") (List.mem_of_getElem? (i := 3) rfl)) (fun _ h9 => h9) rfl dX9_facts_24 ?_
      have hP9 := kk_Ps (wq := [(h0, kO9 h1 h2 h3 n0_size)]) hP [0] rfl
      have hD9 := kk_Ds (wq := [(h0, kO9 h1 h2 h3 n0_size)]) hD [0] (by decide) rfl
      have hK9 := kk_Ks (tq := []) hK [] rfl
      exact W.aret (v := .ref h3) hx hb hr (Or.inr ⟨_, rfl⟩) (Or.inr ⟨_, rfl⟩) (fun t ht hW => ⟨⟨some h3, (), rfl, Or.inl ⟨by first | with_reducible assumption | (omega) | assumption, by first | with_reducible assumption | (omega) | assumption, rfl⟩, by rw [ht]; exact hP9, va_K.moved hW.alike hK9, hD9⟩, hS.F ht⟩) hS.2.2 dX9_facts_27
    · have t_2 : p0.toInt = 1 := kk_eq c_2
      refine lv_aload_n hx hb dX9_facts_16 rfl (lv_at hl 0 rfl) ?_
      refine va_get (D := (dC, dI)) (ci := 9) (v := .ref h2) (C := RX9) (T := TX9) (N := 4) hx hb hts (fun _ h => List.mem_cons_of_mem _ (List.mem_append_right _ h)) hown hK hP 0 rfl rfl 1 (by decide) (hts (.fieldLink RX9 15 "KinkStreet$Street" "depths" "[I") (List.mem_of_getElem? (i := 2) rfl)) (fun _ h9 => h9) rfl dX9_facts_17 ?_
      refine lv_goto (tgt := 27) hx hb dX9_facts_20 (by decide) ?_
      have hP9 := kk_Ps (wq := [(h0, kO9 h1 h2 h3 n0_size)]) hP [0] rfl
      have hD9 := kk_Ds (wq := [(h0, kO9 h1 h2 h3 n0_size)]) hD [0] (by decide) rfl
      have hK9 := kk_Ks (tq := []) hK [] rfl
      exact W.aret (v := .ref h2) hx hb hr (Or.inr ⟨_, rfl⟩) (Or.inr ⟨_, rfl⟩) (fun t ht hW => ⟨⟨some h2, (), rfl, Or.inr (Or.inl ⟨by first | with_reducible assumption | (omega) | assumption, by first | with_reducible assumption | (omega) | assumption, rfl⟩), by rw [ht]; exact hP9, va_K.moved hW.alike hK9, hD9⟩, hS.F ht⟩) hS.2.2 dX9_facts_27
  · have t_1 : p0.toInt = 0 := kk_eq c_1
    refine lv_aload_n hx hb dX9_facts_4 rfl (lv_at hl 0 rfl) ?_
    refine va_get (D := (dC, dI)) (ci := 9) (v := .ref h1) (C := RX9) (T := TX9) (N := 4) hx hb hts (fun _ h => List.mem_cons_of_mem _ (List.mem_append_right _ h)) hown hK hP 0 rfl rfl 0 (by decide) (hts (.fieldLink RX9 9 "KinkStreet$Street" "widths" "[I") (List.mem_of_getElem? (i := 1) rfl)) (fun _ h9 => h9) rfl dX9_facts_5 ?_
    refine lv_goto (tgt := 27) hx hb dX9_facts_8 (by decide) ?_
    have hP9 := kk_Ps (wq := [(h0, kO9 h1 h2 h3 n0_size)]) hP [0] rfl
    have hD9 := kk_Ds (wq := [(h0, kO9 h1 h2 h3 n0_size)]) hD [0] (by decide) rfl
    have hK9 := kk_Ks (tq := []) hK [] rfl
    exact W.aret (v := .ref h1) hx hb hr (Or.inr ⟨_, rfl⟩) (Or.inr ⟨_, rfl⟩) (fun t ht hW => ⟨⟨some h1, (), rfl, Or.inr (Or.inr (⟨by first | with_reducible assumption | (omega) | assumption, rfl⟩)), by rw [ht]; exact hP9, va_K.moved hW.alike hK9, hD9⟩, hS.F ht⟩) hS.2.2 dX9_facts_27
set_option maxHeartbeats 4000000 in
set_option maxRecDepth 100000 in
theorem g_X9_fact_0 (l : Launch) (dC : Nat → ClassId) (dI : Nat → Nat → Nat) (h0 : Nat) (h1 : Nat) (h2 : Nat) (h3 : Nat) (cint : ClassId) (sz : Nat) (p0 : Int32) (p1 : Int32) (n0_size : Int32) (f1 : Nat → Int32) (f2 : Nat → Int32) (f3 : Nat → Int32) (tn0_size : kk_bx (0 ≤ n0_size.toInt ∧ n0_size.toInt ≤ 40)) : Met l yX9_fact wsX9_fact ({ frames := 1, cells := 0, slots := 0, locals := 21 }) (va_Pc [.ref h0, .int p0, .int p1] (fun U => U.heap.size = sz ∧ va_P (dC, dI) vwCl [(h0, kO9 h1 h2 h3 n0_size), (h1, kAi cint 40 f1), (h2, kAi cint 40 f2), (h3, kAi cint 40 f3)] U.heap ∧ va_K (dC, dI) vwCl [(cint, .int)] U ∧ va_D (fun _ => True) [(h0, kO9 h1 h2 h3 n0_size), (h1, kAi cint 40 f1), (h2, kAi cint 40 f2), (h3, kAi cint 40 f3)])) (va_Qi (fun (r : Int32) (_ : Unit) => True) (fun (_ : Unit) t => va_P (dC, dI) vwCl [(h0, kO9 h1 h2 h3 n0_size), (h1, kAi cint 40 f1), (h2, kAi cint 40 f2), (h3, kAi cint 40 f3)] t.heap ∧ va_K (dC, dI) vwCl [] t ∧ va_D (va_A [(h0, kO9 h1 h2 h3 n0_size), (h1, kAi cint 40 f1), (h2, kAi cint 40 f2), (h3, kAi cint 40 f3)] sz) [(h0, kO9 h1 h2 h3 n0_size), (h1, kAi cint 40 f1), (h2, kAi cint 40 f2), (h3, kAi cint 40 f3)]) (va_A [(h0, kO9 h1 h2 h3 n0_size), (h1, kAi cint 40 f1), (h2, kAi cint 40 f2), (h3, kAi cint 40 f3)] sz)) 0 0 (va_A [(h0, kO9 h1 h2 h3 n0_size), (h1, kAi cint 40 f1), (h2, kAi cint 40 f2), (h3, kAi cint 40 f3)] sz) := by
  refine Met.ofW (cc := cX9_fact) (maxL := 3) (ret := (some .int)) (by decide) rfl ?_
  intro p e s m args below meth c s₁ B hml hv
  obtain ⟨rfl, hsz, hP, hK, hD0⟩ := hv
  have hx := B.exec
  have hb := B.bytes
  have hr := B.returns
  have hts := atoms_spec (ws := wsX9_fact) B.pre
  have hown : s.vm.findClass RX9 = some m.cls := findClass_of_methodNamed B.named
  have hlocks := B.notSynchronized
  subst hsz
  have hD := hD0.self (sz := s.heap.size)
  generalize hAe : va_A [(h0, kO9 h1 h2 h3 n0_size), (h1, kAi cint 40 f1), (h2, kAi cint 40 f2), (h3, kAi cint 40 f3)] s.heap.size = A at hD ⊢
  have hA : ∀ q : Nat, s.heap.size ≤ q → A q := fun q h => by rw [← hAe]; exact Or.inr h
  have hS : va_S A s.heap s.heap [] := va_S.rf
  have hP : va_P (dC, dI) vwCl [(h0, kO9 h1 h2 h3 n0_size), (h1, kAi cint 40 f1), (h2, kAi cint 40 f2), (h3, kAi cint 40 f3)] s.heap := hP
  have hl := lv_entry ([.ref h0, .int p0, .int p1]) (n := 3) (Nat.le_of_ble_eq_true rfl)
  rw [lg_entry_eq]
  generalize (lg_sl ([.ref h0, .int p0, .int p1]) ++ List.replicate (3 - (lg_sl ([.ref h0, .int p0, .int p1])).length) Slot.unset).toArray = ls at hl ⊢
  have hl : lv_has ls 3 [(0, .ref h0), (1, .int p0), (2, .int p1)] := hl
  refine lv_aload_n hx hb dX9_fact_0 rfl (lv_at hl 0 rfl) ?_
  refine lv_iload_n hx hb dX9_fact_1 rfl (lv_at hl 2 rfl) ?_
  have hPc := kk_Ps (wq := [(h0, kO9 h1 h2 h3 n0_size)]) hP [0] rfl
  have hDc := kk_Ds (wq := [(h0, kO9 h1 h2 h3 n0_size)]) hD [0] (by decide) rfl
  have hKc := kk_Ks (tq := []) hK [] rfl
  have hFc := va_free (wc := [(h0, kO9 h1 h2 h3 n0_size)]) hD hS hA [0] rfl
  refine va_calli (va_runV (As := [.int p1]) (rest := []) ⟨hx, hb, hml, hown, hts⟩ (g_X9_has_0 l dC dI h0 h1 h2 h3 s.heap.size p1 n0_size tn0_size) (cwV 1 hts gX9_fact_X9_has rfl rfl rfl ⟨rfl, kh_X9_has⟩ ⟨Nat.le_of_ble_eq_true rfl, Nat.le_of_ble_eq_true rfl⟩) ⟨fun a U g mk q => by obtain ⟨q0, q1, qP, qK, qD⟩ := q; exact ⟨q0, q1, qP, va_K.moved (u := U) (U := U.calling g mk a) (Vm.Alike.refl U.vm) qK, qD⟩, va_recv hKc hPc (ci := 9) (q0 := 0) rfl rfl, fun U hU hW => ⟨rfl, by rw [hU], by rw [hU]; exact hPc, va_K.moved hW.alike hKc, hDc.weaken (fun _ _ _ _ => trivial)⟩⟩ rfl rfl hl.1 rfl (lv_room (Nat.le_of_ble_eq_true rfl)) dX9_fact_2 ⟨Nat.le_of_ble_eq_true rfl, Nat.le_of_ble_eq_true rfl⟩) hS (fun q _ h => hFc q h) hFc (fun r_1 u t H1 locs ht hvm hw hB hz1 hk1 hS => ?_)
  obtain ⟨hP1, hK1, hD1⟩ := hB
  rw [ht] at hP1
  have hK1 := va_K.moved hvm.symm hK1
  obtain ⟨hP, hD⟩ := va_join (wr := [(h1, kAi cint 40 f1), (h2, kAi cint 40 f2), (h3, kAi cint 40 f3)]) (w1 := [(h0, kO9 h1 h2 h3 n0_size)]) hP hD [0] [1, 2, 3] rfl rfl (by decide) (by decide) hk1 hFc hP1 hD1
  generalize H1 = H at hP hS ⊢
  have hP : va_P (dC, dI) vwCl [(h1, kAi cint 40 f1), (h2, kAi cint 40 f2), (h3, kAi cint 40 f3), (h0, kO9 h1 h2 h3 n0_size)] H := hP
  have hD : va_D A [(h1, kAi cint 40 f1), (h2, kAi cint 40 f2), (h3, kAi cint 40 f3), (h0, kO9 h1 h2 h3 n0_size)] := hD
  rcases hw with ⟨rfl⟩ | ⟨t_1_0, t_1_1, t_1_2, rfl⟩
  · skip
    refine lv_if_eq (tgt := 18) hx hb dX9_fact_5 (by decide) (fun _ => ?_) (fun c => absurd c (by decide))
    refine lv_iconst (v := 0) hx hb dX9_fact_18 kk_ic_0 ?_
    have hP9 := kk_Ps (wq := [(h0, kO9 h1 h2 h3 n0_size), (h1, kAi cint 40 f1), (h2, kAi cint 40 f2), (h3, kAi cint 40 f3)]) hP [3, 0, 1, 2] rfl
    have hD9 := kk_Ds (wq := [(h0, kO9 h1 h2 h3 n0_size), (h1, kAi cint 40 f1), (h2, kAi cint 40 f2), (h3, kAi cint 40 f3)]) hD [3, 0, 1, 2] (by decide) rfl
    have hK9 := kk_Ks (tq := []) hK [] rfl
    exact W.iret (v := 0) hx hb hr (fun t ht hW => ⟨⟨0, (), rfl, trivial, by rw [ht]; exact hP9, va_K.moved hW.alike hK9, hD9⟩, hS.F ht⟩) hS.2.2 dX9_fact_19
  · skip
    have t_1_0 : (0 : Int) ≤ p1.toInt := t_1_0
    have t_1_2 : (p1.toInt : Int) ≤ 39 := t_1_2
    refine lv_if_eq (tgt := 18) hx hb dX9_fact_5 (by decide) (fun c => absurd c (by decide)) (fun _ => ?_)
    refine lv_aload_n hx hb dX9_fact_8 rfl (lv_at hl 0 rfl) ?_
    refine lv_iload_n hx hb dX9_fact_9 rfl (lv_at hl 1 rfl) ?_
    have hPc := kk_Ps (wq := [(h0, kO9 h1 h2 h3 n0_size)]) hP [3] rfl
    have hDc := kk_Ds (wq := [(h0, kO9 h1 h2 h3 n0_size)]) hD [3] (by decide) rfl
    have hKc := kk_Ks (tq := []) hK [] rfl
    have hFc := va_free (wc := [(h0, kO9 h1 h2 h3 n0_size)]) hD hS hA [3] rfl
    refine va_callq (va_runV (As := [.int p0]) (rest := []) ⟨hx, hb, hml, hown, hts⟩ (g_X9_facts_0 l dC dI h0 h1 h2 h3 H.size p0 n0_size tn0_size) (cwV 1 hts gX9_fact_X9_facts rfl rfl rfl ⟨rfl, kh_X9_facts⟩ ⟨Nat.le_of_ble_eq_true rfl, Nat.le_of_ble_eq_true rfl⟩) ⟨fun a U g mk q => by obtain ⟨q0, q1, qP, qK, qD⟩ := q; exact ⟨q0, q1, qP, va_K.moved (u := U) (U := U.calling g mk a) (Vm.Alike.refl U.vm) qK, qD⟩, va_recv hKc hPc (ci := 9) (q0 := 0) rfl rfl, fun U hU hW => ⟨rfl, by rw [hU], by rw [hU]; exact hPc, va_K.moved hW.alike hKc, hDc.weaken (fun _ _ _ _ => trivial)⟩⟩ rfl rfl hl.1 rfl (lv_room (Nat.le_of_ble_eq_true rfl)) dX9_fact_10 ⟨Nat.le_of_ble_eq_true rfl, Nat.le_of_ble_eq_true rfl⟩) hS (fun q _ h => hFc q h) hFc (fun r_2 u t H1 locs ht hvm hw hB hz1 hk1 hS => ?_)
    obtain ⟨hP1, hK1, hD1⟩ := hB
    rw [ht] at hP1
    have hK1 := va_K.moved hvm.symm hK1
    obtain ⟨hP, hD⟩ := va_join (wr := [(h1, kAi cint 40 f1), (h2, kAi cint 40 f2), (h3, kAi cint 40 f3)]) (w1 := [(h0, kO9 h1 h2 h3 n0_size)]) hP hD [3] [0, 1, 2] rfl rfl (by decide) (by decide) hk1 hFc hP1 hD1
    generalize H1 = H at hP hS ⊢
    have hP : va_P (dC, dI) vwCl [(h1, kAi cint 40 f1), (h2, kAi cint 40 f2), (h3, kAi cint 40 f3), (h0, kO9 h1 h2 h3 n0_size)] H := hP
    have hD : va_D A [(h1, kAi cint 40 f1), (h2, kAi cint 40 f2), (h3, kAi cint 40 f3), (h0, kO9 h1 h2 h3 n0_size)] := hD
    rcases hw with ⟨t_2_0, t_2_1, rfl⟩ | ⟨t_2_0, t_2_1, rfl⟩ | ⟨t_2_0, rfl⟩
    · skip
      have t_2_0 : (p0.toInt : Int) ≠ 0 := t_2_0
      have t_2_1 : (p0.toInt : Int) ≠ 1 := t_2_1
      refine W.eq (g2 := F0 m 13 ls [.ref h3]) rfl ?_
      refine lv_iload_n hx hb dX9_fact_13 rfl (lv_at hl 2 rfl) ?_
      have hi_3 : vp_in p1 40 := (vp_in_iff.mpr ⟨by omega, by omega⟩)
      refine va_iald hx hb hK hP 2 0 rfl rfl hi_3 dX9_fact_14 ?_
      refine lv_topi (fun y_3 e_3 => ?_)
      clear e_3
      refine lv_goto (tgt := 19) hx hb dX9_fact_15 (by decide) ?_
      have hP9 := kk_Ps (wq := [(h0, kO9 h1 h2 h3 n0_size), (h1, kAi cint 40 f1), (h2, kAi cint 40 f2), (h3, kAi cint 40 f3)]) hP [3, 0, 1, 2] rfl
      have hD9 := kk_Ds (wq := [(h0, kO9 h1 h2 h3 n0_size), (h1, kAi cint 40 f1), (h2, kAi cint 40 f2), (h3, kAi cint 40 f3)]) hD [3, 0, 1, 2] (by decide) rfl
      have hK9 := kk_Ks (tq := []) hK [] rfl
      exact W.iret (v := y_3) hx hb hr (fun t ht hW => ⟨⟨y_3, (), rfl, trivial, by rw [ht]; exact hP9, va_K.moved hW.alike hK9, hD9⟩, hS.F ht⟩) hS.2.2 dX9_fact_19
    · skip
      have t_2_0 : (p0.toInt : Int) ≠ 0 := t_2_0
      have t_2_1 : (p0.toInt : Int) = 1 := t_2_1
      refine W.eq (g2 := F0 m 13 ls [.ref h2]) rfl ?_
      refine lv_iload_n hx hb dX9_fact_13 rfl (lv_at hl 2 rfl) ?_
      have hi_4 : vp_in p1 40 := (vp_in_iff.mpr ⟨by omega, by omega⟩)
      refine va_iald hx hb hK hP 1 0 rfl rfl hi_4 dX9_fact_14 ?_
      refine lv_topi (fun y_4 e_4 => ?_)
      clear e_4
      refine lv_goto (tgt := 19) hx hb dX9_fact_15 (by decide) ?_
      have hP9 := kk_Ps (wq := [(h0, kO9 h1 h2 h3 n0_size), (h1, kAi cint 40 f1), (h2, kAi cint 40 f2), (h3, kAi cint 40 f3)]) hP [3, 0, 1, 2] rfl
      have hD9 := kk_Ds (wq := [(h0, kO9 h1 h2 h3 n0_size), (h1, kAi cint 40 f1), (h2, kAi cint 40 f2), (h3, kAi cint 40 f3)]) hD [3, 0, 1, 2] (by decide) rfl
      have hK9 := kk_Ks (tq := []) hK [] rfl
      exact W.iret (v := y_4) hx hb hr (fun t ht hW => ⟨⟨y_4, (), rfl, trivial, by rw [ht]; exact hP9, va_K.moved hW.alike hK9, hD9⟩, hS.F ht⟩) hS.2.2 dX9_fact_19
    · skip
      have t_2_0 : (p0.toInt : Int) = 0 := t_2_0
      refine W.eq (g2 := F0 m 13 ls [.ref h1]) rfl ?_
      refine lv_iload_n hx hb dX9_fact_13 rfl (lv_at hl 2 rfl) ?_
      have hi_5 : vp_in p1 40 := (vp_in_iff.mpr ⟨by omega, by omega⟩)
      refine va_iald hx hb hK hP 0 0 rfl rfl hi_5 dX9_fact_14 ?_
      refine lv_topi (fun y_5 e_5 => ?_)
      clear e_5
      refine lv_goto (tgt := 19) hx hb dX9_fact_15 (by decide) ?_
      have hP9 := kk_Ps (wq := [(h0, kO9 h1 h2 h3 n0_size), (h1, kAi cint 40 f1), (h2, kAi cint 40 f2), (h3, kAi cint 40 f3)]) hP [3, 0, 1, 2] rfl
      have hD9 := kk_Ds (wq := [(h0, kO9 h1 h2 h3 n0_size), (h1, kAi cint 40 f1), (h2, kAi cint 40 f2), (h3, kAi cint 40 f3)]) hD [3, 0, 1, 2] (by decide) rfl
      have hK9 := kk_Ks (tq := []) hK [] rfl
      exact W.iret (v := y_5) hx hb hr (fun t ht hW => ⟨⟨y_5, (), rfl, trivial, by rw [ht]; exact hP9, va_K.moved hW.alike hK9, hD9⟩, hS.F ht⟩) hS.2.2 dX9_fact_19
set_option maxHeartbeats 4000000 in
set_option maxRecDepth 100000 in
theorem g_X9_tell_0 (l : Launch) (dC : Nat → ClassId) (dI : Nat → Nat → Nat) (h0 : Nat) (h1 : Nat) (h2 : Nat) (h3 : Nat) (cint : ClassId) (sz : Nat) (p0 : Int32) (p1 : Int32) (p2 : Int32) (n0_size : Int32) (f1 : Nat → Int32) (f2 : Nat → Int32) (f3 : Nat → Int32) (tn0_size : kk_bx (0 ≤ n0_size.toInt ∧ n0_size.toInt ≤ 40)) : Met l yX9_tell wsX9_tell ({ frames := 1, cells := 0, slots := 0, locals := 21 }) (va_Pc [.ref h0, .int p0, .int p1, .int p2] (fun U => U.heap.size = sz ∧ va_P (dC, dI) vwCl [(h0, kO9 h1 h2 h3 n0_size), (h1, kAi cint 40 f1), (h2, kAi cint 40 f2), (h3, kAi cint 40 f3)] U.heap ∧ va_K (dC, dI) vwCl [(cint, .int)] U ∧ va_D (fun _ => True) [(h0, kO9 h1 h2 h3 n0_size), (h1, kAi cint 40 f1), (h2, kAi cint 40 f2), (h3, kAi cint 40 f3)])) (va_Qv (fun (_ : Unit) => True) (fun (_ : Unit) t => ∃ (g1 : Nat → Int32) (g2 : Nat → Int32) (g3 : Nat → Int32), va_P (dC, dI) vwCl [(h0, kO9 h1 h2 h3 n0_size), (h1, kAi cint 40 g1), (h2, kAi cint 40 g2), (h3, kAi cint 40 g3)] t.heap ∧ va_K (dC, dI) vwCl [] t ∧ va_D (va_A [(h0, kO9 h1 h2 h3 n0_size), (h1, kAi cint 40 f1), (h2, kAi cint 40 f2), (h3, kAi cint 40 f3)] sz) [(h0, kO9 h1 h2 h3 n0_size), (h1, kAi cint 40 g1), (h2, kAi cint 40 g2), (h3, kAi cint 40 g3)]) (va_A [(h0, kO9 h1 h2 h3 n0_size), (h1, kAi cint 40 f1), (h2, kAi cint 40 f2), (h3, kAi cint 40 f3)] sz)) 0 0 (va_A [(h0, kO9 h1 h2 h3 n0_size), (h1, kAi cint 40 f1), (h2, kAi cint 40 f2), (h3, kAi cint 40 f3)] sz) := by
  refine Met.ofW (cc := cX9_tell) (maxL := 4) (ret := none) (by decide) rfl ?_
  intro p e s m args below meth c s₁ B hml hv
  obtain ⟨rfl, hsz, hP, hK, hD0⟩ := hv
  have hx := B.exec
  have hb := B.bytes
  have hr := B.returns
  have hts := atoms_spec (ws := wsX9_tell) B.pre
  have hown : s.vm.findClass RX9 = some m.cls := findClass_of_methodNamed B.named
  have hlocks := B.notSynchronized
  subst hsz
  have hD := hD0.self (sz := s.heap.size)
  generalize hAe : va_A [(h0, kO9 h1 h2 h3 n0_size), (h1, kAi cint 40 f1), (h2, kAi cint 40 f2), (h3, kAi cint 40 f3)] s.heap.size = A at hD ⊢
  have hA : ∀ q : Nat, s.heap.size ≤ q → A q := fun q h => by rw [← hAe]; exact Or.inr h
  have hS : va_S A s.heap s.heap [] := va_S.rf
  have hP : va_P (dC, dI) vwCl [(h0, kO9 h1 h2 h3 n0_size), (h1, kAi cint 40 f1), (h2, kAi cint 40 f2), (h3, kAi cint 40 f3)] s.heap := hP
  have hl := lv_entry ([.ref h0, .int p0, .int p1, .int p2]) (n := 4) (Nat.le_of_ble_eq_true rfl)
  rw [lg_entry_eq]
  generalize (lg_sl ([.ref h0, .int p0, .int p1, .int p2]) ++ List.replicate (4 - (lg_sl ([.ref h0, .int p0, .int p1, .int p2])).length) Slot.unset).toArray = ls at hl ⊢
  have hl : lv_has ls 4 [(0, .ref h0), (1, .int p0), (2, .int p1), (3, .int p2)] := hl
  refine lv_aload_n hx hb dX9_tell_0 rfl (lv_at hl 0 rfl) ?_
  refine lv_iload_n hx hb dX9_tell_1 rfl (lv_at hl 2 rfl) ?_
  have hPc := kk_Ps (wq := [(h0, kO9 h1 h2 h3 n0_size)]) hP [0] rfl
  have hDc := kk_Ds (wq := [(h0, kO9 h1 h2 h3 n0_size)]) hD [0] (by decide) rfl
  have hKc := kk_Ks (tq := []) hK [] rfl
  have hFc := va_free (wc := [(h0, kO9 h1 h2 h3 n0_size)]) hD hS hA [0] rfl
  refine va_calli (va_runV (As := [.int p1]) (rest := []) ⟨hx, hb, hml, hown, hts⟩ (g_X9_has_0 l dC dI h0 h1 h2 h3 s.heap.size p1 n0_size tn0_size) (cwV 1 hts gX9_tell_X9_has rfl rfl rfl ⟨rfl, kh_X9_has⟩ ⟨Nat.le_of_ble_eq_true rfl, Nat.le_of_ble_eq_true rfl⟩) ⟨fun a U g mk q => by obtain ⟨q0, q1, qP, qK, qD⟩ := q; exact ⟨q0, q1, qP, va_K.moved (u := U) (U := U.calling g mk a) (Vm.Alike.refl U.vm) qK, qD⟩, va_recv hKc hPc (ci := 9) (q0 := 0) rfl rfl, fun U hU hW => ⟨rfl, by rw [hU], by rw [hU]; exact hPc, va_K.moved hW.alike hKc, hDc.weaken (fun _ _ _ _ => trivial)⟩⟩ rfl rfl hl.1 rfl (lv_room (Nat.le_of_ble_eq_true rfl)) dX9_tell_2 ⟨Nat.le_of_ble_eq_true rfl, Nat.le_of_ble_eq_true rfl⟩) hS (fun q _ h => hFc q h) hFc (fun r_1 u t H1 locs ht hvm hw hB hz1 hk1 hS => ?_)
  obtain ⟨hP1, hK1, hD1⟩ := hB
  rw [ht] at hP1
  have hK1 := va_K.moved hvm.symm hK1
  obtain ⟨hP, hD⟩ := va_join (wr := [(h1, kAi cint 40 f1), (h2, kAi cint 40 f2), (h3, kAi cint 40 f3)]) (w1 := [(h0, kO9 h1 h2 h3 n0_size)]) hP hD [0] [1, 2, 3] rfl rfl (by decide) (by decide) hk1 hFc hP1 hD1
  generalize H1 = H at hP hS ⊢
  have hP : va_P (dC, dI) vwCl [(h1, kAi cint 40 f1), (h2, kAi cint 40 f2), (h3, kAi cint 40 f3), (h0, kO9 h1 h2 h3 n0_size)] H := hP
  have hD : va_D A [(h1, kAi cint 40 f1), (h2, kAi cint 40 f2), (h3, kAi cint 40 f3), (h0, kO9 h1 h2 h3 n0_size)] := hD
  rcases hw with ⟨rfl⟩ | ⟨t_1_0, t_1_1, t_1_2, rfl⟩
  · skip
    refine lv_if_eq (tgt := 16) hx hb dX9_tell_5 (by decide) (fun _ => ?_) (fun c => absurd c (by decide))
    have hP9 := kk_Ps (wq := [(h0, kO9 h1 h2 h3 n0_size), (h1, kAi cint 40 f1), (h2, kAi cint 40 f2), (h3, kAi cint 40 f3)]) hP [3, 0, 1, 2] rfl
    have hD9 := kk_Ds (wq := [(h0, kO9 h1 h2 h3 n0_size), (h1, kAi cint 40 f1), (h2, kAi cint 40 f2), (h3, kAi cint 40 f3)]) hD [3, 0, 1, 2] (by decide) rfl
    have hK9 := kk_Ks (tq := []) hK [] rfl
    exact W.vret hx hb hr (fun t ht hW => ⟨⟨(), rfl, trivial, f1, f2, f3, by rw [ht]; exact hP9, va_K.moved hW.alike hK9, hD9⟩, hS.F ht⟩) hS.2.2 dX9_tell_16
  · skip
    have t_1_0 : (0 : Int) ≤ p1.toInt := t_1_0
    have t_1_2 : (p1.toInt : Int) ≤ 39 := t_1_2
    refine lv_if_eq (tgt := 16) hx hb dX9_tell_5 (by decide) (fun c => absurd c (by decide)) (fun _ => ?_)
    refine lv_aload_n hx hb dX9_tell_8 rfl (lv_at hl 0 rfl) ?_
    refine lv_iload_n hx hb dX9_tell_9 rfl (lv_at hl 1 rfl) ?_
    have hPc := kk_Ps (wq := [(h0, kO9 h1 h2 h3 n0_size)]) hP [3] rfl
    have hDc := kk_Ds (wq := [(h0, kO9 h1 h2 h3 n0_size)]) hD [3] (by decide) rfl
    have hKc := kk_Ks (tq := []) hK [] rfl
    have hFc := va_free (wc := [(h0, kO9 h1 h2 h3 n0_size)]) hD hS hA [3] rfl
    refine va_callq (va_runV (As := [.int p0]) (rest := []) ⟨hx, hb, hml, hown, hts⟩ (g_X9_facts_0 l dC dI h0 h1 h2 h3 H.size p0 n0_size tn0_size) (cwV 1 hts gX9_tell_X9_facts rfl rfl rfl ⟨rfl, kh_X9_facts⟩ ⟨Nat.le_of_ble_eq_true rfl, Nat.le_of_ble_eq_true rfl⟩) ⟨fun a U g mk q => by obtain ⟨q0, q1, qP, qK, qD⟩ := q; exact ⟨q0, q1, qP, va_K.moved (u := U) (U := U.calling g mk a) (Vm.Alike.refl U.vm) qK, qD⟩, va_recv hKc hPc (ci := 9) (q0 := 0) rfl rfl, fun U hU hW => ⟨rfl, by rw [hU], by rw [hU]; exact hPc, va_K.moved hW.alike hKc, hDc.weaken (fun _ _ _ _ => trivial)⟩⟩ rfl rfl hl.1 rfl (lv_room (Nat.le_of_ble_eq_true rfl)) dX9_tell_10 ⟨Nat.le_of_ble_eq_true rfl, Nat.le_of_ble_eq_true rfl⟩) hS (fun q _ h => hFc q h) hFc (fun r_2 u t H1 locs ht hvm hw hB hz1 hk1 hS => ?_)
    obtain ⟨hP1, hK1, hD1⟩ := hB
    rw [ht] at hP1
    have hK1 := va_K.moved hvm.symm hK1
    obtain ⟨hP, hD⟩ := va_join (wr := [(h1, kAi cint 40 f1), (h2, kAi cint 40 f2), (h3, kAi cint 40 f3)]) (w1 := [(h0, kO9 h1 h2 h3 n0_size)]) hP hD [3] [0, 1, 2] rfl rfl (by decide) (by decide) hk1 hFc hP1 hD1
    generalize H1 = H at hP hS ⊢
    have hP : va_P (dC, dI) vwCl [(h1, kAi cint 40 f1), (h2, kAi cint 40 f2), (h3, kAi cint 40 f3), (h0, kO9 h1 h2 h3 n0_size)] H := hP
    have hD : va_D A [(h1, kAi cint 40 f1), (h2, kAi cint 40 f2), (h3, kAi cint 40 f3), (h0, kO9 h1 h2 h3 n0_size)] := hD
    rcases hw with ⟨t_2_0, t_2_1, rfl⟩ | ⟨t_2_0, t_2_1, rfl⟩ | ⟨t_2_0, rfl⟩
    · skip
      have t_2_0 : (p0.toInt : Int) ≠ 0 := t_2_0
      have t_2_1 : (p0.toInt : Int) ≠ 1 := t_2_1
      refine W.eq (g2 := F0 m 13 ls [.ref h3]) rfl ?_
      refine lv_iload_n hx hb dX9_tell_13 rfl (lv_at hl 2 rfl) ?_
      refine lv_iload_n hx hb dX9_tell_14 rfl (lv_at hl 3 rfl) ?_
      refine va_iast hx hb hK hP hD hS 2 0 rfl rfl (vp_in_iff.mpr ⟨by omega, by omega⟩) dX9_tell_15 (fun H locs hP hD hS => ?_)
      generalize upd f3 (p1 : Int32).toNatClampNeg p2 = f_3 at hP hD
      have hP : va_P (dC, dI) vwCl [(h1, kAi cint 40 f1), (h2, kAi cint 40 f2), (h3, kAi cint 40 f_3), (h0, kO9 h1 h2 h3 n0_size)] H := hP
      have hD : va_D A [(h1, kAi cint 40 f1), (h2, kAi cint 40 f2), (h3, kAi cint 40 f_3), (h0, kO9 h1 h2 h3 n0_size)] := hD
      have hP9 := kk_Ps (wq := [(h0, kO9 h1 h2 h3 n0_size), (h1, kAi cint 40 f1), (h2, kAi cint 40 f2), (h3, kAi cint 40 f_3)]) hP [3, 0, 1, 2] rfl
      have hD9 := kk_Ds (wq := [(h0, kO9 h1 h2 h3 n0_size), (h1, kAi cint 40 f1), (h2, kAi cint 40 f2), (h3, kAi cint 40 f_3)]) hD [3, 0, 1, 2] (by decide) rfl
      have hK9 := kk_Ks (tq := []) hK [] rfl
      exact W.vret hx hb hr (fun t ht hW => ⟨⟨(), rfl, trivial, f1, f2, f_3, by rw [ht]; exact hP9, va_K.moved hW.alike hK9, hD9⟩, hS.F ht⟩) hS.2.2 dX9_tell_16
    · skip
      have t_2_0 : (p0.toInt : Int) ≠ 0 := t_2_0
      have t_2_1 : (p0.toInt : Int) = 1 := t_2_1
      refine W.eq (g2 := F0 m 13 ls [.ref h2]) rfl ?_
      refine lv_iload_n hx hb dX9_tell_13 rfl (lv_at hl 2 rfl) ?_
      refine lv_iload_n hx hb dX9_tell_14 rfl (lv_at hl 3 rfl) ?_
      refine va_iast hx hb hK hP hD hS 1 0 rfl rfl (vp_in_iff.mpr ⟨by omega, by omega⟩) dX9_tell_15 (fun H locs hP hD hS => ?_)
      generalize upd f2 (p1 : Int32).toNatClampNeg p2 = f_4 at hP hD
      have hP : va_P (dC, dI) vwCl [(h1, kAi cint 40 f1), (h2, kAi cint 40 f_4), (h3, kAi cint 40 f3), (h0, kO9 h1 h2 h3 n0_size)] H := hP
      have hD : va_D A [(h1, kAi cint 40 f1), (h2, kAi cint 40 f_4), (h3, kAi cint 40 f3), (h0, kO9 h1 h2 h3 n0_size)] := hD
      have hP9 := kk_Ps (wq := [(h0, kO9 h1 h2 h3 n0_size), (h1, kAi cint 40 f1), (h2, kAi cint 40 f_4), (h3, kAi cint 40 f3)]) hP [3, 0, 1, 2] rfl
      have hD9 := kk_Ds (wq := [(h0, kO9 h1 h2 h3 n0_size), (h1, kAi cint 40 f1), (h2, kAi cint 40 f_4), (h3, kAi cint 40 f3)]) hD [3, 0, 1, 2] (by decide) rfl
      have hK9 := kk_Ks (tq := []) hK [] rfl
      exact W.vret hx hb hr (fun t ht hW => ⟨⟨(), rfl, trivial, f1, f_4, f3, by rw [ht]; exact hP9, va_K.moved hW.alike hK9, hD9⟩, hS.F ht⟩) hS.2.2 dX9_tell_16
    · skip
      have t_2_0 : (p0.toInt : Int) = 0 := t_2_0
      refine W.eq (g2 := F0 m 13 ls [.ref h1]) rfl ?_
      refine lv_iload_n hx hb dX9_tell_13 rfl (lv_at hl 2 rfl) ?_
      refine lv_iload_n hx hb dX9_tell_14 rfl (lv_at hl 3 rfl) ?_
      refine va_iast hx hb hK hP hD hS 0 0 rfl rfl (vp_in_iff.mpr ⟨by omega, by omega⟩) dX9_tell_15 (fun H locs hP hD hS => ?_)
      generalize upd f1 (p1 : Int32).toNatClampNeg p2 = f_5 at hP hD
      have hP : va_P (dC, dI) vwCl [(h1, kAi cint 40 f_5), (h2, kAi cint 40 f2), (h3, kAi cint 40 f3), (h0, kO9 h1 h2 h3 n0_size)] H := hP
      have hD : va_D A [(h1, kAi cint 40 f_5), (h2, kAi cint 40 f2), (h3, kAi cint 40 f3), (h0, kO9 h1 h2 h3 n0_size)] := hD
      have hP9 := kk_Ps (wq := [(h0, kO9 h1 h2 h3 n0_size), (h1, kAi cint 40 f_5), (h2, kAi cint 40 f2), (h3, kAi cint 40 f3)]) hP [3, 0, 1, 2] rfl
      have hD9 := kk_Ds (wq := [(h0, kO9 h1 h2 h3 n0_size), (h1, kAi cint 40 f_5), (h2, kAi cint 40 f2), (h3, kAi cint 40 f3)]) hD [3, 0, 1, 2] (by decide) rfl
      have hK9 := kk_Ks (tq := []) hK [] rfl
      exact W.vret hx hb hr (fun t ht hW => ⟨⟨(), rfl, trivial, f_5, f2, f3, by rw [ht]; exact hP9, va_K.moved hW.alike hK9, hD9⟩, hS.F ht⟩) hS.2.2 dX9_tell_16
set_option maxHeartbeats 4000000 in
set_option maxRecDepth 100000 in
theorem g_X9_width_0 (l : Launch) (dC : Nat → ClassId) (dI : Nat → Nat → Nat) (h0 : Nat) (h1 : Nat) (h2 : Nat) (h3 : Nat) (cint : ClassId) (sz : Nat) (p0 : Int32) (n0_size : Int32) (f1 : Nat → Int32) (tn0_size : kk_bx (0 ≤ n0_size.toInt ∧ n0_size.toInt ≤ 40)) : Met l yX9_width wsX9_width ({ frames := 1, cells := 0, slots := 0, locals := 21 }) (va_Pc [.ref h0, .int p0] (fun U => U.heap.size = sz ∧ va_P (dC, dI) vwCl [(h0, kO9 h1 h2 h3 n0_size), (h1, kAi cint 40 f1)] U.heap ∧ va_K (dC, dI) vwCl [(cint, .int)] U ∧ va_D (fun _ => True) [(h0, kO9 h1 h2 h3 n0_size), (h1, kAi cint 40 f1)])) (va_Qi (fun (r : Int32) (_ : Unit) => True) (fun (_ : Unit) t => va_P (dC, dI) vwCl [(h0, kO9 h1 h2 h3 n0_size), (h1, kAi cint 40 f1)] t.heap ∧ va_K (dC, dI) vwCl [] t ∧ va_D (va_A [(h0, kO9 h1 h2 h3 n0_size), (h1, kAi cint 40 f1)] sz) [(h0, kO9 h1 h2 h3 n0_size), (h1, kAi cint 40 f1)]) (va_A [(h0, kO9 h1 h2 h3 n0_size), (h1, kAi cint 40 f1)] sz)) 0 0 (va_A [(h0, kO9 h1 h2 h3 n0_size), (h1, kAi cint 40 f1)] sz) := by
  refine Met.ofW (cc := cX9_width) (maxL := 2) (ret := (some .int)) (by decide) rfl ?_
  intro p e s m args below meth c s₁ B hml hv
  obtain ⟨rfl, hsz, hP, hK, hD0⟩ := hv
  have hx := B.exec
  have hb := B.bytes
  have hr := B.returns
  have hts := atoms_spec (ws := wsX9_width) B.pre
  have hown : s.vm.findClass RX9 = some m.cls := findClass_of_methodNamed B.named
  have hlocks := B.notSynchronized
  subst hsz
  have hD := hD0.self (sz := s.heap.size)
  generalize hAe : va_A [(h0, kO9 h1 h2 h3 n0_size), (h1, kAi cint 40 f1)] s.heap.size = A at hD ⊢
  have hA : ∀ q : Nat, s.heap.size ≤ q → A q := fun q h => by rw [← hAe]; exact Or.inr h
  have hS : va_S A s.heap s.heap [] := va_S.rf
  have hP : va_P (dC, dI) vwCl [(h0, kO9 h1 h2 h3 n0_size), (h1, kAi cint 40 f1)] s.heap := hP
  have hl := lv_entry ([.ref h0, .int p0]) (n := 2) (Nat.le_of_ble_eq_true rfl)
  rw [lg_entry_eq]
  generalize (lg_sl ([.ref h0, .int p0]) ++ List.replicate (2 - (lg_sl ([.ref h0, .int p0])).length) Slot.unset).toArray = ls at hl ⊢
  have hl : lv_has ls 2 [(0, .ref h0), (1, .int p0)] := hl
  refine lv_aload_n hx hb dX9_width_0 rfl (lv_at hl 0 rfl) ?_
  refine lv_iload_n hx hb dX9_width_1 rfl (lv_at hl 1 rfl) ?_
  have hPc := kk_Ps (wq := [(h0, kO9 h1 h2 h3 n0_size)]) hP [0] rfl
  have hDc := kk_Ds (wq := [(h0, kO9 h1 h2 h3 n0_size)]) hD [0] (by decide) rfl
  have hKc := kk_Ks (tq := []) hK [] rfl
  have hFc := va_free (wc := [(h0, kO9 h1 h2 h3 n0_size)]) hD hS hA [0] rfl
  refine va_calli (va_runV (As := [.int p0]) (rest := []) ⟨hx, hb, hml, hown, hts⟩ (g_X9_has_0 l dC dI h0 h1 h2 h3 s.heap.size p0 n0_size tn0_size) (cwV 1 hts gX9_width_X9_has rfl rfl rfl ⟨rfl, kh_X9_has⟩ ⟨Nat.le_of_ble_eq_true rfl, Nat.le_of_ble_eq_true rfl⟩) ⟨fun a U g mk q => by obtain ⟨q0, q1, qP, qK, qD⟩ := q; exact ⟨q0, q1, qP, va_K.moved (u := U) (U := U.calling g mk a) (Vm.Alike.refl U.vm) qK, qD⟩, va_recv hKc hPc (ci := 9) (q0 := 0) rfl rfl, fun U hU hW => ⟨rfl, by rw [hU], by rw [hU]; exact hPc, va_K.moved hW.alike hKc, hDc.weaken (fun _ _ _ _ => trivial)⟩⟩ rfl rfl hl.1 rfl (lv_room (Nat.le_of_ble_eq_true rfl)) dX9_width_2 ⟨Nat.le_of_ble_eq_true rfl, Nat.le_of_ble_eq_true rfl⟩) hS (fun q _ h => hFc q h) hFc (fun r_1 u t H1 locs ht hvm hw hB hz1 hk1 hS => ?_)
  obtain ⟨hP1, hK1, hD1⟩ := hB
  rw [ht] at hP1
  have hK1 := va_K.moved hvm.symm hK1
  obtain ⟨hP, hD⟩ := va_join (wr := [(h1, kAi cint 40 f1)]) (w1 := [(h0, kO9 h1 h2 h3 n0_size)]) hP hD [0] [1] rfl rfl (by decide) (by decide) hk1 hFc hP1 hD1
  generalize H1 = H at hP hS ⊢
  have hP : va_P (dC, dI) vwCl [(h1, kAi cint 40 f1), (h0, kO9 h1 h2 h3 n0_size)] H := hP
  have hD : va_D A [(h1, kAi cint 40 f1), (h0, kO9 h1 h2 h3 n0_size)] := hD
  rcases hw with ⟨rfl⟩ | ⟨t_1_0, t_1_1, t_1_2, rfl⟩
  · skip
    refine lv_if_eq (tgt := 17) hx hb dX9_width_5 (by decide) (fun _ => ?_) (fun c => absurd c (by decide))
    refine lv_iconst (v := 0) hx hb dX9_width_17 kk_ic_0 ?_
    have hP9 := kk_Ps (wq := [(h0, kO9 h1 h2 h3 n0_size), (h1, kAi cint 40 f1)]) hP [1, 0] rfl
    have hD9 := kk_Ds (wq := [(h0, kO9 h1 h2 h3 n0_size), (h1, kAi cint 40 f1)]) hD [1, 0] (by decide) rfl
    have hK9 := kk_Ks (tq := []) hK [] rfl
    exact W.iret (v := 0) hx hb hr (fun t ht hW => ⟨⟨0, (), rfl, trivial, by rw [ht]; exact hP9, va_K.moved hW.alike hK9, hD9⟩, hS.F ht⟩) hS.2.2 dX9_width_18
  · skip
    have t_1_0 : (0 : Int) ≤ p0.toInt := t_1_0
    have t_1_2 : (p0.toInt : Int) ≤ 39 := t_1_2
    refine lv_if_eq (tgt := 17) hx hb dX9_width_5 (by decide) (fun c => absurd c (by decide)) (fun _ => ?_)
    refine lv_aload_n hx hb dX9_width_8 rfl (lv_at hl 0 rfl) ?_
    refine va_get (D := (dC, dI)) (ci := 9) (v := .ref h1) (C := RX9) (T := TX9) (N := 4) hx hb hts (fun _ h => List.mem_cons_of_mem _ (List.mem_append_right _ h)) hown hK hP 1 rfl rfl 0 (by decide) (hts (.fieldLink RX9 9 "KinkStreet$Street" "widths" "[I") (List.mem_of_getElem? (i := 1) rfl)) (fun _ h9 => h9) rfl dX9_width_9 ?_
    refine lv_iload_n hx hb dX9_width_12 rfl (lv_at hl 1 rfl) ?_
    have hi_2 : vp_in p0 40 := (vp_in_iff.mpr ⟨by omega, by omega⟩)
    refine va_iald hx hb hK hP 0 0 rfl rfl hi_2 dX9_width_13 ?_
    refine lv_topi (fun y_2 e_2 => ?_)
    clear e_2
    refine lv_goto (tgt := 18) hx hb dX9_width_14 (by decide) ?_
    have hP9 := kk_Ps (wq := [(h0, kO9 h1 h2 h3 n0_size), (h1, kAi cint 40 f1)]) hP [1, 0] rfl
    have hD9 := kk_Ds (wq := [(h0, kO9 h1 h2 h3 n0_size), (h1, kAi cint 40 f1)]) hD [1, 0] (by decide) rfl
    have hK9 := kk_Ks (tq := []) hK [] rfl
    exact W.iret (v := y_2) hx hb hr (fun t ht hW => ⟨⟨y_2, (), rfl, trivial, by rw [ht]; exact hP9, va_K.moved hW.alike hK9, hD9⟩, hS.F ht⟩) hS.2.2 dX9_width_18
set_option maxHeartbeats 4000000 in
set_option maxRecDepth 100000 in
theorem g_X9_aside_0 (l : Launch) (dC : Nat → ClassId) (dI : Nat → Nat → Nat) (h0 : Nat) (h1 : Nat) (h2 : Nat) (h3 : Nat) (cint : ClassId) (sz : Nat) (p0 : Int32) (n0_size : Int32) (f1 : Nat → Int32) (tn0_size : kk_bx (0 ≤ n0_size.toInt ∧ n0_size.toInt ≤ 40)) : Met l yX9_aside wsX9_aside ({ frames := 1, cells := 0, slots := 0, locals := 21 }) (va_Pc [.ref h0, .int p0] (fun U => U.heap.size = sz ∧ va_P (dC, dI) vwCl [(h0, kO9 h2 h3 h1 n0_size), (h1, kAi cint 40 f1)] U.heap ∧ va_K (dC, dI) vwCl [(cint, .int)] U ∧ va_D (fun _ => True) [(h0, kO9 h2 h3 h1 n0_size), (h1, kAi cint 40 f1)])) (va_Qi (fun (r : Int32) (_ : Unit) => True) (fun (_ : Unit) t => va_P (dC, dI) vwCl [(h0, kO9 h2 h3 h1 n0_size), (h1, kAi cint 40 f1)] t.heap ∧ va_K (dC, dI) vwCl [] t ∧ va_D (va_A [(h0, kO9 h2 h3 h1 n0_size), (h1, kAi cint 40 f1)] sz) [(h0, kO9 h2 h3 h1 n0_size), (h1, kAi cint 40 f1)]) (va_A [(h0, kO9 h2 h3 h1 n0_size), (h1, kAi cint 40 f1)] sz)) 0 0 (va_A [(h0, kO9 h2 h3 h1 n0_size), (h1, kAi cint 40 f1)] sz) := by
  refine Met.ofW (cc := cX9_aside) (maxL := 2) (ret := (some .int)) (by decide) rfl ?_
  intro p e s m args below meth c s₁ B hml hv
  obtain ⟨rfl, hsz, hP, hK, hD0⟩ := hv
  have hx := B.exec
  have hb := B.bytes
  have hr := B.returns
  have hts := atoms_spec (ws := wsX9_aside) B.pre
  have hown : s.vm.findClass RX9 = some m.cls := findClass_of_methodNamed B.named
  have hlocks := B.notSynchronized
  subst hsz
  have hD := hD0.self (sz := s.heap.size)
  generalize hAe : va_A [(h0, kO9 h2 h3 h1 n0_size), (h1, kAi cint 40 f1)] s.heap.size = A at hD ⊢
  have hA : ∀ q : Nat, s.heap.size ≤ q → A q := fun q h => by rw [← hAe]; exact Or.inr h
  have hS : va_S A s.heap s.heap [] := va_S.rf
  have hP : va_P (dC, dI) vwCl [(h0, kO9 h2 h3 h1 n0_size), (h1, kAi cint 40 f1)] s.heap := hP
  have hl := lv_entry ([.ref h0, .int p0]) (n := 2) (Nat.le_of_ble_eq_true rfl)
  rw [lg_entry_eq]
  generalize (lg_sl ([.ref h0, .int p0]) ++ List.replicate (2 - (lg_sl ([.ref h0, .int p0])).length) Slot.unset).toArray = ls at hl ⊢
  have hl : lv_has ls 2 [(0, .ref h0), (1, .int p0)] := hl
  refine lv_aload_n hx hb dX9_aside_0 rfl (lv_at hl 0 rfl) ?_
  refine lv_iload_n hx hb dX9_aside_1 rfl (lv_at hl 1 rfl) ?_
  have hPc := kk_Ps (wq := [(h0, kO9 h2 h3 h1 n0_size)]) hP [0] rfl
  have hDc := kk_Ds (wq := [(h0, kO9 h2 h3 h1 n0_size)]) hD [0] (by decide) rfl
  have hKc := kk_Ks (tq := []) hK [] rfl
  have hFc := va_free (wc := [(h0, kO9 h2 h3 h1 n0_size)]) hD hS hA [0] rfl
  refine va_calli (va_runV (As := [.int p0]) (rest := []) ⟨hx, hb, hml, hown, hts⟩ (g_X9_has_0 l dC dI h0 h2 h3 h1 s.heap.size p0 n0_size tn0_size) (cwV 1 hts gX9_aside_X9_has rfl rfl rfl ⟨rfl, kh_X9_has⟩ ⟨Nat.le_of_ble_eq_true rfl, Nat.le_of_ble_eq_true rfl⟩) ⟨fun a U g mk q => by obtain ⟨q0, q1, qP, qK, qD⟩ := q; exact ⟨q0, q1, qP, va_K.moved (u := U) (U := U.calling g mk a) (Vm.Alike.refl U.vm) qK, qD⟩, va_recv hKc hPc (ci := 9) (q0 := 0) rfl rfl, fun U hU hW => ⟨rfl, by rw [hU], by rw [hU]; exact hPc, va_K.moved hW.alike hKc, hDc.weaken (fun _ _ _ _ => trivial)⟩⟩ rfl rfl hl.1 rfl (lv_room (Nat.le_of_ble_eq_true rfl)) dX9_aside_2 ⟨Nat.le_of_ble_eq_true rfl, Nat.le_of_ble_eq_true rfl⟩) hS (fun q _ h => hFc q h) hFc (fun r_1 u t H1 locs ht hvm hw hB hz1 hk1 hS => ?_)
  obtain ⟨hP1, hK1, hD1⟩ := hB
  rw [ht] at hP1
  have hK1 := va_K.moved hvm.symm hK1
  obtain ⟨hP, hD⟩ := va_join (wr := [(h1, kAi cint 40 f1)]) (w1 := [(h0, kO9 h2 h3 h1 n0_size)]) hP hD [0] [1] rfl rfl (by decide) (by decide) hk1 hFc hP1 hD1
  generalize H1 = H at hP hS ⊢
  have hP : va_P (dC, dI) vwCl [(h1, kAi cint 40 f1), (h0, kO9 h2 h3 h1 n0_size)] H := hP
  have hD : va_D A [(h1, kAi cint 40 f1), (h0, kO9 h2 h3 h1 n0_size)] := hD
  rcases hw with ⟨rfl⟩ | ⟨t_1_0, t_1_1, t_1_2, rfl⟩
  · skip
    refine lv_if_eq (tgt := 17) hx hb dX9_aside_5 (by decide) (fun _ => ?_) (fun c => absurd c (by decide))
    refine lv_iconst (v := 0) hx hb dX9_aside_17 kk_ic_0 ?_
    have hP9 := kk_Ps (wq := [(h0, kO9 h2 h3 h1 n0_size), (h1, kAi cint 40 f1)]) hP [1, 0] rfl
    have hD9 := kk_Ds (wq := [(h0, kO9 h2 h3 h1 n0_size), (h1, kAi cint 40 f1)]) hD [1, 0] (by decide) rfl
    have hK9 := kk_Ks (tq := []) hK [] rfl
    exact W.iret (v := 0) hx hb hr (fun t ht hW => ⟨⟨0, (), rfl, trivial, by rw [ht]; exact hP9, va_K.moved hW.alike hK9, hD9⟩, hS.F ht⟩) hS.2.2 dX9_aside_18
  · skip
    have t_1_0 : (0 : Int) ≤ p0.toInt := t_1_0
    have t_1_2 : (p0.toInt : Int) ≤ 39 := t_1_2
    refine lv_if_eq (tgt := 17) hx hb dX9_aside_5 (by decide) (fun c => absurd c (by decide)) (fun _ => ?_)
    refine lv_aload_n hx hb dX9_aside_8 rfl (lv_at hl 0 rfl) ?_
    refine va_get (D := (dC, dI)) (ci := 9) (v := .ref h1) (C := RX9) (T := TX9) (N := 4) hx hb hts (fun _ h => List.mem_cons_of_mem _ (List.mem_append_right _ h)) hown hK hP 1 rfl rfl 2 (by decide) (hts (.fieldLink RX9 18 "KinkStreet$Street" "asides" "[I") (List.mem_of_getElem? (i := 1) rfl)) (fun _ h9 => h9) rfl dX9_aside_9 ?_
    refine lv_iload_n hx hb dX9_aside_12 rfl (lv_at hl 1 rfl) ?_
    have hi_2 : vp_in p0 40 := (vp_in_iff.mpr ⟨by omega, by omega⟩)
    refine va_iald hx hb hK hP 0 0 rfl rfl hi_2 dX9_aside_13 ?_
    refine lv_topi (fun y_2 e_2 => ?_)
    clear e_2
    refine lv_goto (tgt := 18) hx hb dX9_aside_14 (by decide) ?_
    have hP9 := kk_Ps (wq := [(h0, kO9 h2 h3 h1 n0_size), (h1, kAi cint 40 f1)]) hP [1, 0] rfl
    have hD9 := kk_Ds (wq := [(h0, kO9 h2 h3 h1 n0_size), (h1, kAi cint 40 f1)]) hD [1, 0] (by decide) rfl
    have hK9 := kk_Ks (tq := []) hK [] rfl
    exact W.iret (v := y_2) hx hb hr (fun t ht hW => ⟨⟨y_2, (), rfl, trivial, by rw [ht]; exact hP9, va_K.moved hW.alike hK9, hD9⟩, hS.F ht⟩) hS.2.2 dX9_aside_18
set_option maxHeartbeats 4000000 in
set_option maxRecDepth 100000 in
theorem g_X9_begin_0 (l : Launch) (dC : Nat → ClassId) (dI : Nat → Nat → Nat) (h0 : Nat) (h1 : Nat) (h2 : Nat) (h3 : Nat) (cint : ClassId) (sz : Nat) (p0 : Int32) (n0_size : Int32) (f1 : Nat → Int32) (tn0_size : 0 ≤ n0_size.toInt ∧ n0_size.toInt ≤ 40) : Met l yX9_begin wsX9_begin ({ frames := 0, cells := 0, slots := 0, locals := 0 }) (va_Pc [.ref h0, .int p0] (fun U => U.heap.size = sz ∧ va_P (dC, dI) vwCl [(h0, kO9 h1 h2 h3 n0_size), (h1, kAi cint 40 f1)] U.heap ∧ va_K (dC, dI) vwCl [(cint, .int)] U ∧ va_D (fun _ => True) [(h0, kO9 h1 h2 h3 n0_size), (h1, kAi cint 40 f1)])) (va_Qi (fun (r : Int32) (_ : Unit) => True) (fun (_ : Unit) t => va_P (dC, dI) vwCl [(h0, kO9 h1 h2 h3 n0_size), (h1, kAi cint 40 f1)] t.heap ∧ va_K (dC, dI) vwCl [] t ∧ va_D (va_A [(h0, kO9 h1 h2 h3 n0_size), (h1, kAi cint 40 f1)] sz) [(h0, kO9 h1 h2 h3 n0_size), (h1, kAi cint 40 f1)]) (va_A [(h0, kO9 h1 h2 h3 n0_size), (h1, kAi cint 40 f1)] sz)) 0 0 (va_A [(h0, kO9 h1 h2 h3 n0_size), (h1, kAi cint 40 f1)] sz) := by
  refine Met.ofW (cc := cX9_begin) (maxL := 4) (ret := (some .int)) (by decide) rfl ?_
  intro p e s m args below meth c s₁ B hml hv
  obtain ⟨rfl, hsz, hP, hK, hD0⟩ := hv
  have hx := B.exec
  have hb := B.bytes
  have hr := B.returns
  have hts := atoms_spec (ws := wsX9_begin) B.pre
  have hown : s.vm.findClass RX9 = some m.cls := findClass_of_methodNamed B.named
  have hlocks := B.notSynchronized
  subst hsz
  have hD := hD0.self (sz := s.heap.size)
  generalize hAe : va_A [(h0, kO9 h1 h2 h3 n0_size), (h1, kAi cint 40 f1)] s.heap.size = A at hD ⊢
  have hA : ∀ q : Nat, s.heap.size ≤ q → A q := fun q h => by rw [← hAe]; exact Or.inr h
  have hS : va_S A s.heap s.heap [] := va_S.rf
  have hP : va_P (dC, dI) vwCl [(h0, kO9 h1 h2 h3 n0_size), (h1, kAi cint 40 f1)] s.heap := hP
  have hl := lv_entry ([.ref h0, .int p0]) (n := 4) (Nat.le_of_ble_eq_true rfl)
  rw [lg_entry_eq]
  generalize (lg_sl ([.ref h0, .int p0]) ++ List.replicate (4 - (lg_sl ([.ref h0, .int p0])).length) Slot.unset).toArray = ls at hl ⊢
  have hl : lv_has ls 4 [(0, .ref h0), (1, .int p0)] := hl
  refine lv_iconst (v := 0) hx hb dX9_begin_0 kk_ic_0 ?_
  refine lv_istore_n hx hb dX9_begin_1 rfl hl (by decide) (rfl : _ = ([(2, .int 0), (0, .ref h0), (1, .int p0)] : List (Nat × Value))) (fun ls hl => ?_)
  refine lv_iconst (v := 0) hx hb dX9_begin_2 kk_ic_0 ?_
  refine lv_istore_n hx hb dX9_begin_3 rfl hl (by decide) (rfl : _ = ([(3, .int 0), (2, .int 0), (0, .ref h0), (1, .int p0)] : List (Nat × Value))) (fun ls hl => ?_)
  refine kk_loop (σ := Int32 × Int32) (fun x H locs ls => (0 ≤ x.1.toInt ∧ x.1.toInt ≤ 40) ∧ va_P (dC, dI) vwCl [(h0, kO9 h1 h2 h3 n0_size), (h1, kAi cint 40 f1)] H ∧ va_D A [(h0, kO9 h1 h2 h3 n0_size), (h1, kAi cint 40 f1)] ∧ va_S A s.heap H locs ∧ lv_has ls 4 [(3, .int x.1), (2, .int x.2), (0, .ref h0), (1, .int p0)]) (fun x => ((40 : Int) - x.1.toInt).toNat) ?_ (0, 0) _ _ _ ⟨(by show 0 ≤ (0 : Int32).toInt ∧ (0 : Int32).toInt ≤ 40; first | decide | ((omega))), hP, hD, hS, hl⟩
  rintro ⟨i_1_0, i_1_1⟩ H locs ls ⟨t_1_0, hP, hD, hS, hl⟩ ih_1
  have t_1_0 : (0 ≤ i_1_0.toInt ∧ i_1_0.toInt ≤ 40) := t_1_0
  have hl : lv_has ls 4 [(3, .int i_1_0), (2, .int i_1_1), (0, .ref h0), (1, .int p0)] := hl
  have hP : va_P (dC, dI) vwCl [(h0, kO9 h1 h2 h3 n0_size), (h1, kAi cint 40 f1)] H := hP
  have hD : va_D A [(h0, kO9 h1 h2 h3 n0_size), (h1, kAi cint 40 f1)] := hD
  refine lv_iload_n hx hb dX9_begin_4 rfl (lv_at hl 0 rfl) ?_
  refine lv_iload_n hx hb dX9_begin_5 rfl (lv_at hl 3 rfl) ?_
  refine lv_icmp_ge (tgt := 32) hx hb dX9_begin_6 (by decide) (fun c_26 => ?_) (fun c_26 => ?_)
  · have t_26 : p0.toInt ≤ i_1_0.toInt := kk_le c_26
    refine lv_iload_n hx hb dX9_begin_32 rfl (lv_at hl 1 rfl) ?_
    have hP9 := kk_Ps (wq := [(h0, kO9 h1 h2 h3 n0_size), (h1, kAi cint 40 f1)]) hP [0, 1] rfl
    have hD9 := kk_Ds (wq := [(h0, kO9 h1 h2 h3 n0_size), (h1, kAi cint 40 f1)]) hD [0, 1] (by decide) rfl
    have hK9 := kk_Ks (tq := []) hK [] rfl
    exact W.iret (v := i_1_1) hx hb hr (fun t ht hW => ⟨⟨i_1_1, (), rfl, trivial, by rw [ht]; exact hP9, va_K.moved hW.alike hK9, hD9⟩, hS.F ht⟩) hS.2.2 dX9_begin_33
  · have t_26 : i_1_0.toInt < p0.toInt := kk_nle c_26
    refine lv_iload_n hx hb dX9_begin_9 rfl (lv_at hl 0 rfl) ?_
    refine lv_aload_n hx hb dX9_begin_10 rfl (lv_at hl 2 rfl) ?_
    refine va_get (D := (dC, dI)) (ci := 9) (v := .int n0_size) (C := RX9) (T := TX9) (N := 4) hx hb hts (fun _ h => List.mem_cons_of_mem _ (List.mem_append_right _ h)) hown hK hP 0 rfl rfl 3 (by decide) (hts (.fieldLink RX9 21 "KinkStreet$Street" "size" "I") (List.mem_of_getElem? (i := 1) rfl)) (fun _ h9 => h9) rfl dX9_begin_11 ?_
    refine lv_icmp_ge (tgt := 32) hx hb dX9_begin_14 (by decide) (fun c_27 => ?_) (fun c_27 => ?_)
    · have t_27 : n0_size.toInt ≤ i_1_0.toInt := kk_le c_27
      refine lv_iload_n hx hb dX9_begin_32 rfl (lv_at hl 1 rfl) ?_
      have hP9 := kk_Ps (wq := [(h0, kO9 h1 h2 h3 n0_size), (h1, kAi cint 40 f1)]) hP [0, 1] rfl
      have hD9 := kk_Ds (wq := [(h0, kO9 h1 h2 h3 n0_size), (h1, kAi cint 40 f1)]) hD [0, 1] (by decide) rfl
      have hK9 := kk_Ks (tq := []) hK [] rfl
      exact W.iret (v := i_1_1) hx hb hr (fun t ht hW => ⟨⟨i_1_1, (), rfl, trivial, by rw [ht]; exact hP9, va_K.moved hW.alike hK9, hD9⟩, hS.F ht⟩) hS.2.2 dX9_begin_33
    · have t_27 : i_1_0.toInt < n0_size.toInt := kk_nle c_27
      refine lv_iload_n hx hb dX9_begin_17 rfl (lv_at hl 1 rfl) ?_
      refine lv_aload_n hx hb dX9_begin_18 rfl (lv_at hl 2 rfl) ?_
      refine va_get (D := (dC, dI)) (ci := 9) (v := .ref h1) (C := RX9) (T := TX9) (N := 4) hx hb hts (fun _ h => List.mem_cons_of_mem _ (List.mem_append_right _ h)) hown hK hP 0 rfl rfl 0 (by decide) (hts (.fieldLink RX9 9 "KinkStreet$Street" "widths" "[I") (List.mem_of_getElem? (i := 2) rfl)) (fun _ h9 => h9) rfl dX9_begin_19 ?_
      refine lv_iload_n hx hb dX9_begin_22 rfl (lv_at hl 0 rfl) ?_
      try have := kk_rng p0
      have hi_28 : vp_in i_1_0 40 := (vp_in_iff.mpr ⟨by omega, by omega⟩)
      refine va_iald hx hb hK hP 1 0 rfl rfl hi_28 dX9_begin_23 ?_
      refine lv_topi (fun y_28 e_28 => ?_)
      clear e_28
      refine lv_iadd hx hb dX9_begin_24 ?_
      refine lv_istore_n hx hb dX9_begin_25 rfl hl (by decide) (rfl : _ = ([(2, .int (i_1_1 + y_28)), (3, .int i_1_0), (0, .ref h0), (1, .int p0)] : List (Nat × Value))) (fun ls hl => ?_)
      refine lv_iinc (v := (i_1_0 + 1)) hx hb dX9_begin_26 hl (k := 1) rfl (by first | rfl | decide) (by decide) (rfl : _ = ([(3, .int (i_1_0 + 1)), (2, .int (i_1_1 + y_28)), (0, .ref h0), (1, .int p0)] : List (Nat × Value))) (fun ls hl => ?_)
      refine lv_goto (tgt := 4) hx hb dX9_begin_29 (by decide) ?_
      try have := kk_add2 (x := i_1_0) (y := 1) (a := i_1_0.toInt) (b := 1) rfl rfl (by omega) (by omega)
      exact ih_1 ((i_1_0 + 1), (i_1_1 + y_28)) _ _ _ (by show ((40 : Int) - ((i_1_0 + 1)).toInt).toNat < ((40 : Int) - i_1_0.toInt).toNat; exact kk_mu (by omega) (by omega)) ⟨(by show 0 ≤ ((i_1_0 + 1) : Int32).toInt ∧ ((i_1_0 + 1) : Int32).toInt ≤ 40; first | decide | ((omega))), hP, hD, hS, lv_sub hl [0, 1, 2, 3] rfl⟩
set_option maxHeartbeats 4000000 in
set_option maxRecDepth 100000 in
theorem g_X9_length_0 (l : Launch) (dC : Nat → ClassId) (dI : Nat → Nat → Nat) (h0 : Nat) (h1 : Nat) (h2 : Nat) (h3 : Nat) (cint : ClassId) (sz : Nat) (p0 : Int32) (n0_size : Int32) (f1 : Nat → Int32) (tn0_size : kk_bx (0 ≤ n0_size.toInt ∧ n0_size.toInt ≤ 40)) : Met l yX9_length wsX9_length ({ frames := 1, cells := 0, slots := 0, locals := 23 }) (va_Pc [.ref h0, .int p0] (fun U => U.heap.size = sz ∧ va_P (dC, dI) vwCl [(h0, kO9 h1 h2 h3 n0_size), (h1, kAi cint 40 f1)] U.heap ∧ va_K (dC, dI) vwCl [(cint, .int)] U ∧ va_D (fun _ => True) [(h0, kO9 h1 h2 h3 n0_size), (h1, kAi cint 40 f1)])) (va_Qi (fun (r : Int32) (_ : Unit) => True) (fun (_ : Unit) t => va_P (dC, dI) vwCl [(h0, kO9 h1 h2 h3 n0_size), (h1, kAi cint 40 f1)] t.heap ∧ va_K (dC, dI) vwCl [] t ∧ va_D (va_A [(h0, kO9 h1 h2 h3 n0_size), (h1, kAi cint 40 f1)] sz) [(h0, kO9 h1 h2 h3 n0_size), (h1, kAi cint 40 f1)]) (va_A [(h0, kO9 h1 h2 h3 n0_size), (h1, kAi cint 40 f1)] sz)) 0 0 (va_A [(h0, kO9 h1 h2 h3 n0_size), (h1, kAi cint 40 f1)] sz) := by
  refine Met.ofW (cc := cX9_length) (maxL := 2) (ret := (some .int)) (by decide) rfl ?_
  intro p e s m args below meth c s₁ B hml hv
  obtain ⟨rfl, hsz, hP, hK, hD0⟩ := hv
  have hx := B.exec
  have hb := B.bytes
  have hr := B.returns
  have hts := atoms_spec (ws := wsX9_length) B.pre
  have hown : s.vm.findClass RX9 = some m.cls := findClass_of_methodNamed B.named
  have hlocks := B.notSynchronized
  subst hsz
  have hD := hD0.self (sz := s.heap.size)
  generalize hAe : va_A [(h0, kO9 h1 h2 h3 n0_size), (h1, kAi cint 40 f1)] s.heap.size = A at hD ⊢
  have hA : ∀ q : Nat, s.heap.size ≤ q → A q := fun q h => by rw [← hAe]; exact Or.inr h
  have hS : va_S A s.heap s.heap [] := va_S.rf
  have hP : va_P (dC, dI) vwCl [(h0, kO9 h1 h2 h3 n0_size), (h1, kAi cint 40 f1)] s.heap := hP
  have hl := lv_entry ([.ref h0, .int p0]) (n := 2) (Nat.le_of_ble_eq_true rfl)
  rw [lg_entry_eq]
  generalize (lg_sl ([.ref h0, .int p0]) ++ List.replicate (2 - (lg_sl ([.ref h0, .int p0])).length) Slot.unset).toArray = ls at hl ⊢
  have hl : lv_has ls 2 [(0, .ref h0), (1, .int p0)] := hl
  refine lv_aload_n hx hb dX9_length_0 rfl (lv_at hl 0 rfl) ?_
  refine lv_iload_n hx hb dX9_length_1 rfl (lv_at hl 1 rfl) ?_
  refine lv_bipush (v := 100) hx hb dX9_length_2 kk_bi_100 ?_
  refine lv_irem hx hb dX9_length_4 (by decide) ?_
  refine lv_iconst (v := 1) hx hb dX9_length_5 kk_ic_1 ?_
  refine lv_iadd hx hb dX9_length_6 ?_
  have hPc := kk_Ps (wq := [(h0, kO9 h1 h2 h3 n0_size), (h1, kAi cint 40 f1)]) hP [0, 1] rfl
  have hDc := kk_Ds (wq := [(h0, kO9 h1 h2 h3 n0_size), (h1, kAi cint 40 f1)]) hD [0, 1] (by decide) rfl
  have hKc := kk_Ks (tq := [(cint, .int)]) hK [0] rfl
  have hFc := va_free (wc := [(h0, kO9 h1 h2 h3 n0_size), (h1, kAi cint 40 f1)]) hD hS hA [0, 1] rfl
  refine va_calli (va_runV (As := [.int ((p0 - p0 / 100 * 100) + 1)]) (rest := []) ⟨hx, hb, hml, hown, hts⟩ (g_X9_begin_0 l dC dI h0 h1 h2 h3 cint s.heap.size ((p0 - p0 / 100 * 100) + 1) n0_size f1 tn0_size) (cwV 1 hts gX9_length_X9_begin rfl rfl rfl ⟨rfl, kh_X9_begin⟩ ⟨Nat.le_of_ble_eq_true rfl, Nat.le_of_ble_eq_true rfl⟩) ⟨fun a U g mk q => by obtain ⟨q0, q1, qP, qK, qD⟩ := q; exact ⟨q0, q1, qP, va_K.moved (u := U) (U := U.calling g mk a) (Vm.Alike.refl U.vm) qK, qD⟩, va_recv hKc hPc (ci := 9) (q0 := 0) rfl rfl, fun U hU hW => ⟨rfl, by rw [hU], by rw [hU]; exact hPc, va_K.moved hW.alike hKc, hDc.weaken (fun _ _ _ _ => trivial)⟩⟩ rfl rfl hl.1 rfl (lv_room (Nat.le_of_ble_eq_true rfl)) dX9_length_7 ⟨Nat.le_of_ble_eq_true rfl, Nat.le_of_ble_eq_true rfl⟩) hS (fun q _ h => hFc q h) hFc (fun r_1 u t H1 locs ht hvm hw hB hz1 hk1 hS => ?_)
  obtain ⟨hP1, hK1, hD1⟩ := hB
  rw [ht] at hP1
  have hK1 := va_K.moved hvm.symm hK1
  obtain ⟨hP, hD⟩ := va_join (wr := []) (w1 := [(h0, kO9 h1 h2 h3 n0_size), (h1, kAi cint 40 f1)]) hP hD [0, 1] [] rfl rfl (by decide) (by decide) hk1 hFc hP1 hD1
  generalize H1 = H at hP hS ⊢
  have hP : va_P (dC, dI) vwCl [(h0, kO9 h1 h2 h3 n0_size), (h1, kAi cint 40 f1)] H := hP
  have hD : va_D A [(h0, kO9 h1 h2 h3 n0_size), (h1, kAi cint 40 f1)] := hD
  refine lv_aload_n hx hb dX9_length_10 rfl (lv_at hl 0 rfl) ?_
  refine lv_iload_n hx hb dX9_length_11 rfl (lv_at hl 1 rfl) ?_
  refine lv_bipush (v := 100) hx hb dX9_length_12 kk_bi_100 ?_
  refine lv_idiv hx hb dX9_length_14 (by decide) ?_
  have hPc := kk_Ps (wq := [(h0, kO9 h1 h2 h3 n0_size), (h1, kAi cint 40 f1)]) hP [0, 1] rfl
  have hDc := kk_Ds (wq := [(h0, kO9 h1 h2 h3 n0_size), (h1, kAi cint 40 f1)]) hD [0, 1] (by decide) rfl
  have hKc := kk_Ks (tq := [(cint, .int)]) hK [0] rfl
  have hFc := va_free (wc := [(h0, kO9 h1 h2 h3 n0_size), (h1, kAi cint 40 f1)]) hD hS hA [0, 1] rfl
  refine va_calli (va_runV (As := [.int (p0 / 100)]) (rest := [.int r_1]) ⟨hx, hb, hml, hown, hts⟩ (g_X9_begin_0 l dC dI h0 h1 h2 h3 cint H.size (p0 / 100) n0_size f1 tn0_size) (cwV 1 hts gX9_length_X9_begin rfl rfl rfl ⟨rfl, kh_X9_begin⟩ ⟨Nat.le_of_ble_eq_true rfl, Nat.le_of_ble_eq_true rfl⟩) ⟨fun a U g mk q => by obtain ⟨q0, q1, qP, qK, qD⟩ := q; exact ⟨q0, q1, qP, va_K.moved (u := U) (U := U.calling g mk a) (Vm.Alike.refl U.vm) qK, qD⟩, va_recv hKc hPc (ci := 9) (q0 := 0) rfl rfl, fun U hU hW => ⟨rfl, by rw [hU], by rw [hU]; exact hPc, va_K.moved hW.alike hKc, hDc.weaken (fun _ _ _ _ => trivial)⟩⟩ rfl rfl hl.1 rfl (lv_room (Nat.le_of_ble_eq_true rfl)) dX9_length_15 ⟨Nat.le_of_ble_eq_true rfl, Nat.le_of_ble_eq_true rfl⟩) hS (fun q _ h => hFc q h) hFc (fun r_2 u t H1 locs ht hvm hw hB hz1 hk1 hS => ?_)
  obtain ⟨hP1, hK1, hD1⟩ := hB
  rw [ht] at hP1
  have hK1 := va_K.moved hvm.symm hK1
  obtain ⟨hP, hD⟩ := va_join (wr := []) (w1 := [(h0, kO9 h1 h2 h3 n0_size), (h1, kAi cint 40 f1)]) hP hD [0, 1] [] rfl rfl (by decide) (by decide) hk1 hFc hP1 hD1
  generalize H1 = H at hP hS ⊢
  have hP : va_P (dC, dI) vwCl [(h0, kO9 h1 h2 h3 n0_size), (h1, kAi cint 40 f1)] H := hP
  have hD : va_D A [(h0, kO9 h1 h2 h3 n0_size), (h1, kAi cint 40 f1)] := hD
  refine lv_isub hx hb dX9_length_18 ?_
  have hP9 := kk_Ps (wq := [(h0, kO9 h1 h2 h3 n0_size), (h1, kAi cint 40 f1)]) hP [0, 1] rfl
  have hD9 := kk_Ds (wq := [(h0, kO9 h1 h2 h3 n0_size), (h1, kAi cint 40 f1)]) hD [0, 1] (by decide) rfl
  have hK9 := kk_Ks (tq := []) hK [] rfl
  exact W.iret (v := (r_1 - r_2)) hx hb hr (fun t ht hW => ⟨⟨(r_1 - r_2), (), rfl, trivial, by rw [ht]; exact hP9, va_K.moved hW.alike hK9, hD9⟩, hS.F ht⟩) hS.2.2 dX9_length_19
set_option maxHeartbeats 4000000 in
set_option maxRecDepth 100000 in
theorem g_X9_endsAt_0 (l : Launch) (dC : Nat → ClassId) (dI : Nat → Nat → Nat) (h0 : Nat) (h1 : Nat) (h2 : Nat) (h3 : Nat) (cint : ClassId) (sz : Nat) (p0 : Int32) (n0_size : Int32) (f1 : Nat → Int32) (tn0_size : 0 ≤ n0_size.toInt ∧ n0_size.toInt ≤ 40) : Met l yX9_endsAt wsX9_endsAt ({ frames := 0, cells := 0, slots := 0, locals := 0 }) (va_Pc [.ref h0, .int p0] (fun U => U.heap.size = sz ∧ va_P (dC, dI) vwCl [(h0, kO9 h1 h2 h3 n0_size), (h1, kAi cint 40 f1)] U.heap ∧ va_K (dC, dI) vwCl [(cint, .int)] U ∧ va_D (fun _ => True) [(h0, kO9 h1 h2 h3 n0_size), (h1, kAi cint 40 f1)])) (va_Qi (fun (r : Int32) (_ : Unit) => ((0 : Int32) = r) ∨ (1 ≤ n0_size.toInt ∧ (1 : Int32) = r)) (fun (_ : Unit) t => va_P (dC, dI) vwCl [(h0, kO9 h1 h2 h3 n0_size), (h1, kAi cint 40 f1)] t.heap ∧ va_K (dC, dI) vwCl [] t ∧ va_D (va_A [(h0, kO9 h1 h2 h3 n0_size), (h1, kAi cint 40 f1)] sz) [(h0, kO9 h1 h2 h3 n0_size), (h1, kAi cint 40 f1)]) (va_A [(h0, kO9 h1 h2 h3 n0_size), (h1, kAi cint 40 f1)] sz)) 0 0 (va_A [(h0, kO9 h1 h2 h3 n0_size), (h1, kAi cint 40 f1)] sz) := by
  refine Met.ofW (cc := cX9_endsAt) (maxL := 4) (ret := (some .boolean)) (by decide) rfl ?_
  intro p e s m args below meth c s₁ B hml hv
  obtain ⟨rfl, hsz, hP, hK, hD0⟩ := hv
  have hx := B.exec
  have hb := B.bytes
  have hr := B.returns
  have hts := atoms_spec (ws := wsX9_endsAt) B.pre
  have hown : s.vm.findClass RX9 = some m.cls := findClass_of_methodNamed B.named
  have hlocks := B.notSynchronized
  subst hsz
  have hD := hD0.self (sz := s.heap.size)
  generalize hAe : va_A [(h0, kO9 h1 h2 h3 n0_size), (h1, kAi cint 40 f1)] s.heap.size = A at hD ⊢
  have hA : ∀ q : Nat, s.heap.size ≤ q → A q := fun q h => by rw [← hAe]; exact Or.inr h
  have hS : va_S A s.heap s.heap [] := va_S.rf
  have hP : va_P (dC, dI) vwCl [(h0, kO9 h1 h2 h3 n0_size), (h1, kAi cint 40 f1)] s.heap := hP
  have hl := lv_entry ([.ref h0, .int p0]) (n := 4) (Nat.le_of_ble_eq_true rfl)
  rw [lg_entry_eq]
  generalize (lg_sl ([.ref h0, .int p0]) ++ List.replicate (4 - (lg_sl ([.ref h0, .int p0])).length) Slot.unset).toArray = ls at hl ⊢
  have hl : lv_has ls 4 [(0, .ref h0), (1, .int p0)] := hl
  refine lv_iconst (v := 0) hx hb dX9_endsAt_0 kk_ic_0 ?_
  refine lv_istore_n hx hb dX9_endsAt_1 rfl hl (by decide) (rfl : _ = ([(2, .int 0), (0, .ref h0), (1, .int p0)] : List (Nat × Value))) (fun ls hl => ?_)
  refine lv_iconst (v := 0) hx hb dX9_endsAt_2 kk_ic_0 ?_
  refine lv_istore_n hx hb dX9_endsAt_3 rfl hl (by decide) (rfl : _ = ([(3, .int 0), (2, .int 0), (0, .ref h0), (1, .int p0)] : List (Nat × Value))) (fun ls hl => ?_)
  refine kk_loop (σ := Int32 × Int32) (fun x H locs ls => (0 ≤ x.1.toInt ∧ x.1.toInt ≤ 40) ∧ va_P (dC, dI) vwCl [(h0, kO9 h1 h2 h3 n0_size), (h1, kAi cint 40 f1)] H ∧ va_D A [(h0, kO9 h1 h2 h3 n0_size), (h1, kAi cint 40 f1)] ∧ va_S A s.heap H locs ∧ lv_has ls 4 [(3, .int x.1), (2, .int x.2), (0, .ref h0), (1, .int p0)]) (fun x => ((40 : Int) - x.1.toInt).toNat) ?_ (0, 0) _ _ _ ⟨(by show 0 ≤ (0 : Int32).toInt ∧ (0 : Int32).toInt ≤ 40; first | decide | ((omega))), hP, hD, hS, hl⟩
  rintro ⟨i_1_0, i_1_1⟩ H locs ls ⟨t_1_0, hP, hD, hS, hl⟩ ih_1
  have t_1_0 : (0 ≤ i_1_0.toInt ∧ i_1_0.toInt ≤ 40) := t_1_0
  have hl : lv_has ls 4 [(3, .int i_1_0), (2, .int i_1_1), (0, .ref h0), (1, .int p0)] := hl
  have hP : va_P (dC, dI) vwCl [(h0, kO9 h1 h2 h3 n0_size), (h1, kAi cint 40 f1)] H := hP
  have hD : va_D A [(h0, kO9 h1 h2 h3 n0_size), (h1, kAi cint 40 f1)] := hD
  refine lv_iload_n hx hb dX9_endsAt_4 rfl (lv_at hl 0 rfl) ?_
  refine lv_aload_n hx hb dX9_endsAt_5 rfl (lv_at hl 2 rfl) ?_
  refine va_get (D := (dC, dI)) (ci := 9) (v := .int n0_size) (C := RX9) (T := TX9) (N := 4) hx hb hts (fun _ h => List.mem_cons_of_mem _ (List.mem_append_right _ h)) hown hK hP 0 rfl rfl 3 (by decide) (hts (.fieldLink RX9 21 "KinkStreet$Street" "size" "I") (List.mem_of_getElem? (i := 1) rfl)) (fun _ h9 => h9) rfl dX9_endsAt_6 ?_
  refine lv_icmp_ge (tgt := 34) hx hb dX9_endsAt_9 (by decide) (fun c_26 => ?_) (fun c_26 => ?_)
  · have t_26 : n0_size.toInt ≤ i_1_0.toInt := kk_le c_26
    refine lv_iconst (v := 0) hx hb dX9_endsAt_34 kk_ic_0 ?_
    have hP9 := kk_Ps (wq := [(h0, kO9 h1 h2 h3 n0_size), (h1, kAi cint 40 f1)]) hP [0, 1] rfl
    have hD9 := kk_Ds (wq := [(h0, kO9 h1 h2 h3 n0_size), (h1, kAi cint 40 f1)]) hD [0, 1] (by decide) rfl
    have hK9 := kk_Ks (tq := []) hK [] rfl
    exact W.zret (v := 0) hx hb hr rfl (fun t ht hW => ⟨⟨0, (), rfl, Or.inl rfl, by rw [ht]; exact hP9, va_K.moved hW.alike hK9, hD9⟩, hS.F ht⟩) hS.2.2 dX9_endsAt_35
  · have t_26 : i_1_0.toInt < n0_size.toInt := kk_nle c_26
    refine lv_iload_n hx hb dX9_endsAt_12 rfl (lv_at hl 1 rfl) ?_
    refine lv_aload_n hx hb dX9_endsAt_13 rfl (lv_at hl 2 rfl) ?_
    refine va_get (D := (dC, dI)) (ci := 9) (v := .ref h1) (C := RX9) (T := TX9) (N := 4) hx hb hts (fun _ h => List.mem_cons_of_mem _ (List.mem_append_right _ h)) hown hK hP 0 rfl rfl 0 (by decide) (hts (.fieldLink RX9 9 "KinkStreet$Street" "widths" "[I") (List.mem_of_getElem? (i := 2) rfl)) (fun _ h9 => h9) rfl dX9_endsAt_14 ?_
    refine lv_iload_n hx hb dX9_endsAt_17 rfl (lv_at hl 0 rfl) ?_
    have hi_27 : vp_in i_1_0 40 := (vp_in_iff.mpr ⟨by omega, by omega⟩)
    refine va_iald hx hb hK hP 1 0 rfl rfl hi_27 dX9_endsAt_18 ?_
    refine lv_topi (fun y_27 e_27 => ?_)
    clear e_27
    refine lv_iadd hx hb dX9_endsAt_19 ?_
    refine lv_istore_n hx hb dX9_endsAt_20 rfl hl (by decide) (rfl : _ = ([(2, .int (i_1_1 + y_27)), (3, .int i_1_0), (0, .ref h0), (1, .int p0)] : List (Nat × Value))) (fun ls hl => ?_)
    refine lv_iload_n hx hb dX9_endsAt_21 rfl (lv_at hl 0 rfl) ?_
    refine lv_iload_n hx hb dX9_endsAt_22 rfl (lv_at hl 3 rfl) ?_
    refine lv_icmp_ne (tgt := 28) hx hb dX9_endsAt_23 (by decide) (fun c_28 => ?_) (fun c_28 => ?_)
    · have t_28 : (i_1_1 + y_27).toInt ≠ p0.toInt := kk_ne c_28
      refine lv_iinc (v := (i_1_0 + 1)) hx hb dX9_endsAt_28 hl (k := 1) rfl (by first | rfl | decide) (by decide) (rfl : _ = ([(3, .int (i_1_0 + 1)), (2, .int (i_1_1 + y_27)), (0, .ref h0), (1, .int p0)] : List (Nat × Value))) (fun ls hl => ?_)
      refine lv_goto (tgt := 4) hx hb dX9_endsAt_31 (by decide) ?_
      try have := kk_add2 (x := i_1_0) (y := 1) (a := i_1_0.toInt) (b := 1) rfl rfl (by omega) (by omega)
      exact ih_1 ((i_1_0 + 1), (i_1_1 + y_27)) _ _ _ (by show ((40 : Int) - ((i_1_0 + 1)).toInt).toNat < ((40 : Int) - i_1_0.toInt).toNat; exact kk_mu (by omega) (by omega)) ⟨(by show 0 ≤ ((i_1_0 + 1) : Int32).toInt ∧ ((i_1_0 + 1) : Int32).toInt ≤ 40; first | decide | ((omega))), hP, hD, hS, lv_sub hl [0, 1, 2, 3] rfl⟩
    · have t_28 : (i_1_1 + y_27).toInt = p0.toInt := kk_eq c_28
      refine lv_iconst (v := 1) hx hb dX9_endsAt_26 kk_ic_1 ?_
      have hP9 := kk_Ps (wq := [(h0, kO9 h1 h2 h3 n0_size), (h1, kAi cint 40 f1)]) hP [0, 1] rfl
      have hD9 := kk_Ds (wq := [(h0, kO9 h1 h2 h3 n0_size), (h1, kAi cint 40 f1)]) hD [0, 1] (by decide) rfl
      have hK9 := kk_Ks (tq := []) hK [] rfl
      try have := kk_rng i_1_1
      try have := kk_rng y_27
      try have := kk_rng p0
      exact W.zret (v := 1) hx hb hr rfl (fun t ht hW => ⟨⟨1, (), rfl, Or.inr (⟨by first | with_reducible assumption | (omega) | assumption, rfl⟩), by rw [ht]; exact hP9, va_K.moved hW.alike hK9, hD9⟩, hS.F ht⟩) hS.2.2 dX9_endsAt_27
set_option maxHeartbeats 4000000 in
set_option maxRecDepth 100000 in
theorem g_X9_kinks_0 (l : Launch) (dC : Nat → ClassId) (dI : Nat → Nat → Nat) (h0 : Nat) (h1 : Nat) (h2 : Nat) (h3 : Nat) (cint : ClassId) (sz : Nat) (n0_size : Int32) (f1 : Nat → Int32) (tn0_size : 0 ≤ n0_size.toInt ∧ n0_size.toInt ≤ 40) : Met l yX9_kinks wsX9_kinks ({ frames := 0, cells := 0, slots := 0, locals := 0 }) (va_Pc [.ref h0] (fun U => U.heap.size = sz ∧ va_P (dC, dI) vwCl [(h0, kO9 h2 h3 h1 n0_size), (h1, kAi cint 40 f1)] U.heap ∧ va_K (dC, dI) vwCl [(cint, .int)] U ∧ va_D (fun _ => True) [(h0, kO9 h2 h3 h1 n0_size), (h1, kAi cint 40 f1)])) (va_Qi (fun (r : Int32) (_ : Unit) => True) (fun (_ : Unit) t => va_P (dC, dI) vwCl [(h0, kO9 h2 h3 h1 n0_size), (h1, kAi cint 40 f1)] t.heap ∧ va_K (dC, dI) vwCl [] t ∧ va_D (va_A [(h0, kO9 h2 h3 h1 n0_size), (h1, kAi cint 40 f1)] sz) [(h0, kO9 h2 h3 h1 n0_size), (h1, kAi cint 40 f1)]) (va_A [(h0, kO9 h2 h3 h1 n0_size), (h1, kAi cint 40 f1)] sz)) 0 0 (va_A [(h0, kO9 h2 h3 h1 n0_size), (h1, kAi cint 40 f1)] sz) := by
  refine Met.ofW (cc := cX9_kinks) (maxL := 3) (ret := (some .int)) (by decide) rfl ?_
  intro p e s m args below meth c s₁ B hml hv
  obtain ⟨rfl, hsz, hP, hK, hD0⟩ := hv
  have hx := B.exec
  have hb := B.bytes
  have hr := B.returns
  have hts := atoms_spec (ws := wsX9_kinks) B.pre
  have hown : s.vm.findClass RX9 = some m.cls := findClass_of_methodNamed B.named
  have hlocks := B.notSynchronized
  subst hsz
  have hD := hD0.self (sz := s.heap.size)
  generalize hAe : va_A [(h0, kO9 h2 h3 h1 n0_size), (h1, kAi cint 40 f1)] s.heap.size = A at hD ⊢
  have hA : ∀ q : Nat, s.heap.size ≤ q → A q := fun q h => by rw [← hAe]; exact Or.inr h
  have hS : va_S A s.heap s.heap [] := va_S.rf
  have hP : va_P (dC, dI) vwCl [(h0, kO9 h2 h3 h1 n0_size), (h1, kAi cint 40 f1)] s.heap := hP
  have hl := lv_entry ([.ref h0]) (n := 3) (Nat.le_of_ble_eq_true rfl)
  rw [lg_entry_eq]
  generalize (lg_sl ([.ref h0]) ++ List.replicate (3 - (lg_sl ([.ref h0])).length) Slot.unset).toArray = ls at hl ⊢
  have hl : lv_has ls 3 [(0, .ref h0)] := hl
  refine lv_iconst (v := 0) hx hb dX9_kinks_0 kk_ic_0 ?_
  refine lv_istore_n hx hb dX9_kinks_1 rfl hl (by decide) (rfl : _ = ([(1, .int 0), (0, .ref h0)] : List (Nat × Value))) (fun ls hl => ?_)
  refine lv_iconst (v := 0) hx hb dX9_kinks_2 kk_ic_0 ?_
  refine lv_istore_n hx hb dX9_kinks_3 rfl hl (by decide) (rfl : _ = ([(2, .int 0), (1, .int 0), (0, .ref h0)] : List (Nat × Value))) (fun ls hl => ?_)
  refine kk_loop (σ := Int32 × Int32) (fun x H locs ls => (0 ≤ x.1.toInt ∧ x.1.toInt ≤ 40) ∧ va_P (dC, dI) vwCl [(h0, kO9 h2 h3 h1 n0_size), (h1, kAi cint 40 f1)] H ∧ va_D A [(h0, kO9 h2 h3 h1 n0_size), (h1, kAi cint 40 f1)] ∧ va_S A s.heap H locs ∧ lv_has ls 3 [(2, .int x.1), (1, .int x.2), (0, .ref h0)]) (fun x => ((40 : Int) - x.1.toInt).toNat) ?_ (0, 0) _ _ _ ⟨(by show 0 ≤ (0 : Int32).toInt ∧ (0 : Int32).toInt ≤ 40; first | decide | ((omega))), hP, hD, hS, hl⟩
  rintro ⟨i_1_0, i_1_1⟩ H locs ls ⟨t_1_0, hP, hD, hS, hl⟩ ih_1
  have t_1_0 : (0 ≤ i_1_0.toInt ∧ i_1_0.toInt ≤ 40) := t_1_0
  have hl : lv_has ls 3 [(2, .int i_1_0), (1, .int i_1_1), (0, .ref h0)] := hl
  have hP : va_P (dC, dI) vwCl [(h0, kO9 h2 h3 h1 n0_size), (h1, kAi cint 40 f1)] H := hP
  have hD : va_D A [(h0, kO9 h2 h3 h1 n0_size), (h1, kAi cint 40 f1)] := hD
  refine lv_iload_n hx hb dX9_kinks_4 rfl (lv_at hl 0 rfl) ?_
  refine lv_aload_n hx hb dX9_kinks_5 rfl (lv_at hl 2 rfl) ?_
  refine va_get (D := (dC, dI)) (ci := 9) (v := .int n0_size) (C := RX9) (T := TX9) (N := 4) hx hb hts (fun _ h => List.mem_cons_of_mem _ (List.mem_append_right _ h)) hown hK hP 0 rfl rfl 3 (by decide) (hts (.fieldLink RX9 21 "KinkStreet$Street" "size" "I") (List.mem_of_getElem? (i := 1) rfl)) (fun _ h9 => h9) rfl dX9_kinks_6 ?_
  refine lv_icmp_ge (tgt := 30) hx hb dX9_kinks_9 (by decide) (fun c_29 => ?_) (fun c_29 => ?_)
  · have t_29 : n0_size.toInt ≤ i_1_0.toInt := kk_le c_29
    refine lv_iload_n hx hb dX9_kinks_30 rfl (lv_at hl 1 rfl) ?_
    have hP9 := kk_Ps (wq := [(h0, kO9 h2 h3 h1 n0_size), (h1, kAi cint 40 f1)]) hP [0, 1] rfl
    have hD9 := kk_Ds (wq := [(h0, kO9 h2 h3 h1 n0_size), (h1, kAi cint 40 f1)]) hD [0, 1] (by decide) rfl
    have hK9 := kk_Ks (tq := []) hK [] rfl
    exact W.iret (v := i_1_1) hx hb hr (fun t ht hW => ⟨⟨i_1_1, (), rfl, trivial, by rw [ht]; exact hP9, va_K.moved hW.alike hK9, hD9⟩, hS.F ht⟩) hS.2.2 dX9_kinks_31
  · have t_29 : i_1_0.toInt < n0_size.toInt := kk_nle c_29
    refine lv_aload_n hx hb dX9_kinks_12 rfl (lv_at hl 2 rfl) ?_
    refine va_get (D := (dC, dI)) (ci := 9) (v := .ref h1) (C := RX9) (T := TX9) (N := 4) hx hb hts (fun _ h => List.mem_cons_of_mem _ (List.mem_append_right _ h)) hown hK hP 0 rfl rfl 2 (by decide) (hts (.fieldLink RX9 18 "KinkStreet$Street" "asides" "[I") (List.mem_of_getElem? (i := 2) rfl)) (fun _ h9 => h9) rfl dX9_kinks_13 ?_
    refine lv_iload_n hx hb dX9_kinks_16 rfl (lv_at hl 0 rfl) ?_
    have hi_30 : vp_in i_1_0 40 := (vp_in_iff.mpr ⟨by omega, by omega⟩)
    refine va_iald hx hb hK hP 1 0 rfl rfl hi_30 dX9_kinks_17 ?_
    refine lv_topi (fun y_30 e_30 => ?_)
    clear e_30
    refine lv_if_eq (tgt := 24) hx hb dX9_kinks_18 (by decide) (fun c_31 => ?_) (fun c_31 => ?_)
    · have t_31 : y_30.toInt = 0 := kk_eq c_31
      refine lv_iinc (v := (i_1_0 + 1)) hx hb dX9_kinks_24 hl (k := 0) rfl (by first | rfl | decide) (by decide) (rfl : _ = ([(2, .int (i_1_0 + 1)), (1, .int i_1_1), (0, .ref h0)] : List (Nat × Value))) (fun ls hl => ?_)
      refine lv_goto (tgt := 4) hx hb dX9_kinks_27 (by decide) ?_
      try have := kk_add2 (x := i_1_0) (y := 1) (a := i_1_0.toInt) (b := 1) rfl rfl (by omega) (by omega)
      exact ih_1 ((i_1_0 + 1), i_1_1) _ _ _ (by show ((40 : Int) - ((i_1_0 + 1)).toInt).toNat < ((40 : Int) - i_1_0.toInt).toNat; exact kk_mu (by omega) (by omega)) ⟨(by show 0 ≤ ((i_1_0 + 1) : Int32).toInt ∧ ((i_1_0 + 1) : Int32).toInt ≤ 40; first | decide | ((omega))), hP, hD, hS, lv_sub hl [0, 1, 2] rfl⟩
    · have t_31 : y_30.toInt ≠ 0 := kk_ne c_31
      refine lv_iinc (v := (i_1_1 + 1)) hx hb dX9_kinks_21 hl (k := 1) rfl (by first | rfl | decide) (by decide) (rfl : _ = ([(1, .int (i_1_1 + 1)), (2, .int i_1_0), (0, .ref h0)] : List (Nat × Value))) (fun ls hl => ?_)
      refine lv_iinc (v := (i_1_0 + 1)) hx hb dX9_kinks_24 hl (k := 1) rfl (by first | rfl | decide) (by decide) (rfl : _ = ([(2, .int (i_1_0 + 1)), (1, .int (i_1_1 + 1)), (0, .ref h0)] : List (Nat × Value))) (fun ls hl => ?_)
      refine lv_goto (tgt := 4) hx hb dX9_kinks_27 (by decide) ?_
      try have := kk_add2 (x := i_1_0) (y := 1) (a := i_1_0.toInt) (b := 1) rfl rfl (by omega) (by omega)
      exact ih_1 ((i_1_0 + 1), (i_1_1 + 1)) _ _ _ (by show ((40 : Int) - ((i_1_0 + 1)).toInt).toNat < ((40 : Int) - i_1_0.toInt).toNat; exact kk_mu (by omega) (by omega)) ⟨(by show 0 ≤ ((i_1_0 + 1) : Int32).toInt ∧ ((i_1_0 + 1) : Int32).toInt ≤ 40; first | decide | ((omega))), hP, hD, hS, lv_sub hl [0, 1, 2] rfl⟩
set_option maxHeartbeats 4000000 in
set_option maxRecDepth 100000 in
theorem g_J6_signum_0f7a4_0 (l : Launch) (dC : Nat → ClassId) (dI : Nat → Nat → Nat) (sz : Nat) (p0 : Int32) : Met l yJ6_signum_0f7a4 wsJ6_signum_0f7a4 ({ frames := 0, cells := 0, slots := 0, locals := 0 }) (va_Pc [.int p0] (fun U => U.heap.size = sz ∧ va_P (dC, dI) vwCl [] U.heap ∧ va_K (dC, dI) vwCl [] U ∧ va_D (fun _ => True) [])) (va_Qi (fun (r : Int32) (_ : Unit) => True) (fun (_ : Unit) t => va_P (dC, dI) vwCl [] t.heap ∧ va_K (dC, dI) vwCl [] t ∧ va_D (va_A [] sz) []) (va_A [] sz)) 0 0 (va_A [] sz) := by
  refine Met.ofW (cc := cJ6_signum_0f7a4) (maxL := 1) (ret := (some .int)) (by decide) rfl ?_
  intro p e s m args below meth c s₁ B hml hv
  obtain ⟨rfl, hsz, hP, hK, hD0⟩ := hv
  have hx := B.exec
  have hb := B.bytes
  have hr := B.returns
  have hts := atoms_spec (ws := wsJ6_signum_0f7a4) B.pre
  have hown : s.vm.findClass RJ6 = some m.cls := findClass_of_methodNamed B.named
  have hlocks := B.notSynchronized
  subst hsz
  have hD := hD0.self (sz := s.heap.size)
  generalize hAe : va_A [] s.heap.size = A at hD ⊢
  have hA : ∀ q : Nat, s.heap.size ≤ q → A q := fun q h => by rw [← hAe]; exact Or.inr h
  have hS : va_S A s.heap s.heap [] := va_S.rf
  have hP : va_P (dC, dI) vwCl [] s.heap := hP
  have hl := lv_entry ([.int p0]) (n := 1) (Nat.le_of_ble_eq_true rfl)
  rw [lg_entry_eq]
  generalize (lg_sl ([.int p0]) ++ List.replicate (1 - (lg_sl ([.int p0])).length) Slot.unset).toArray = ls at hl ⊢
  have hl : lv_has ls 1 [(0, .int p0)] := hl
  refine lv_iload_n hx hb dJ6_signum_0f7a4_0 rfl (lv_at hl 0 rfl) ?_
  refine lv_bipush (v := 31) hx hb dJ6_signum_0f7a4_1 kk_bi_31 ?_
  refine lv_ishr hx hb dJ6_signum_0f7a4_3 ?_
  refine lv_topi (fun y_1 e_1 => ?_)
  clear e_1
  refine lv_iload_n hx hb dJ6_signum_0f7a4_4 rfl (lv_at hl 0 rfl) ?_
  refine lv_ineg hx hb dJ6_signum_0f7a4_5 ?_
  refine lv_topi (fun y_2 e_2 => ?_)
  clear e_2
  refine lv_bipush (v := 31) hx hb dJ6_signum_0f7a4_6 kk_bi_31 ?_
  refine lv_iushr hx hb dJ6_signum_0f7a4_8 rfl ?_
  refine lv_topi (fun y_3 e_3 => ?_)
  have t_3 : 0 ≤ y_3.toInt ∧ y_3.toInt ≤ 1 := by rw [e_3]; exact kk_ushr31 _
  clear e_3
  refine lv_ior hx hb dJ6_signum_0f7a4_9 ?_
  refine lv_topi (fun y_4 e_4 => ?_)
  clear e_4
  have hP9 := kk_Ps (wq := []) hP [] rfl
  have hD9 := kk_Ds (wq := []) hD [] (by decide) rfl
  have hK9 := kk_Ks (tq := []) hK [] rfl
  exact W.iret (v := y_4) hx hb hr (fun t ht hW => ⟨⟨y_4, (), rfl, trivial, by rw [ht]; exact hP9, va_K.moved hW.alike hK9, hD9⟩, hS.F ht⟩) hS.2.2 dJ6_signum_0f7a4_10
set_option maxHeartbeats 4000000 in
set_option maxRecDepth 100000 in
theorem g_X9_turns_0 (l : Launch) (dC : Nat → ClassId) (dI : Nat → Nat → Nat) (h0 : Nat) (h1 : Nat) (h2 : Nat) (h3 : Nat) (cint : ClassId) (sz : Nat) (n0_size : Int32) (f1 : Nat → Int32) (tn0_size : 0 ≤ n0_size.toInt ∧ n0_size.toInt ≤ 40) : Met l yX9_turns wsX9_turns ({ frames := 1, cells := 0, slots := 0, locals := 20 }) (va_Pc [.ref h0] (fun U => U.heap.size = sz ∧ va_P (dC, dI) vwCl [(h0, kO9 h2 h3 h1 n0_size), (h1, kAi cint 40 f1)] U.heap ∧ va_K (dC, dI) vwCl [(cint, .int)] U ∧ va_D (fun _ => True) [(h0, kO9 h2 h3 h1 n0_size), (h1, kAi cint 40 f1)])) (va_Qi (fun (r : Int32) (_ : Unit) => True) (fun (_ : Unit) t => va_P (dC, dI) vwCl [(h0, kO9 h2 h3 h1 n0_size), (h1, kAi cint 40 f1)] t.heap ∧ va_K (dC, dI) vwCl [] t ∧ va_D (va_A [(h0, kO9 h2 h3 h1 n0_size), (h1, kAi cint 40 f1)] sz) [(h0, kO9 h2 h3 h1 n0_size), (h1, kAi cint 40 f1)]) (va_A [(h0, kO9 h2 h3 h1 n0_size), (h1, kAi cint 40 f1)] sz)) 0 0 (va_A [(h0, kO9 h2 h3 h1 n0_size), (h1, kAi cint 40 f1)] sz) := by
  refine Met.ofW (cc := cX9_turns) (maxL := 5) (ret := (some .int)) (by decide) rfl ?_
  intro p e s m args below meth c s₁ B hml hv
  obtain ⟨rfl, hsz, hP, hK, hD0⟩ := hv
  have hx := B.exec
  have hb := B.bytes
  have hr := B.returns
  have hts := atoms_spec (ws := wsX9_turns) B.pre
  have hown : s.vm.findClass RX9 = some m.cls := findClass_of_methodNamed B.named
  have hlocks := B.notSynchronized
  subst hsz
  have hD := hD0.self (sz := s.heap.size)
  generalize hAe : va_A [(h0, kO9 h2 h3 h1 n0_size), (h1, kAi cint 40 f1)] s.heap.size = A at hD ⊢
  have hA : ∀ q : Nat, s.heap.size ≤ q → A q := fun q h => by rw [← hAe]; exact Or.inr h
  have hS : va_S A s.heap s.heap [] := va_S.rf
  have hP : va_P (dC, dI) vwCl [(h0, kO9 h2 h3 h1 n0_size), (h1, kAi cint 40 f1)] s.heap := hP
  have hl := lv_entry ([.ref h0]) (n := 5) (Nat.le_of_ble_eq_true rfl)
  rw [lg_entry_eq]
  generalize (lg_sl ([.ref h0]) ++ List.replicate (5 - (lg_sl ([.ref h0])).length) Slot.unset).toArray = ls at hl ⊢
  have hl : lv_has ls 5 [(0, .ref h0)] := hl
  refine lv_iconst (v := 0) hx hb dX9_turns_0 kk_ic_0 ?_
  refine lv_istore_n hx hb dX9_turns_1 rfl hl (by decide) (rfl : _ = ([(1, .int 0), (0, .ref h0)] : List (Nat × Value))) (fun ls hl => ?_)
  refine lv_iconst (v := 0) hx hb dX9_turns_2 kk_ic_0 ?_
  refine lv_istore_n hx hb dX9_turns_3 rfl hl (by decide) (rfl : _ = ([(2, .int 0), (1, .int 0), (0, .ref h0)] : List (Nat × Value))) (fun ls hl => ?_)
  refine lv_iconst (v := 0) hx hb dX9_turns_4 kk_ic_0 ?_
  refine lv_istore_n hx hb dX9_turns_5 rfl hl (by decide) (rfl : _ = ([(3, .int 0), (2, .int 0), (1, .int 0), (0, .ref h0)] : List (Nat × Value))) (fun ls hl => ?_)
  refine kk_loop (σ := Int32 × Int32 × Int32) (fun x H locs ls => (0 ≤ x.1.toInt ∧ x.1.toInt ≤ 40) ∧ va_P (dC, dI) vwCl [(h0, kO9 h2 h3 h1 n0_size), (h1, kAi cint 40 f1)] H ∧ va_D A [(h0, kO9 h2 h3 h1 n0_size), (h1, kAi cint 40 f1)] ∧ va_S A s.heap H locs ∧ lv_has ls 5 [(3, .int x.1), (2, .int x.2.1), (1, .int x.2.2), (0, .ref h0)]) (fun x => ((40 : Int) - x.1.toInt).toNat) ?_ (0, 0, 0) _ _ _ ⟨(by show 0 ≤ (0 : Int32).toInt ∧ (0 : Int32).toInt ≤ 40; first | decide | ((omega))), hP, hD, hS, hl⟩
  rintro ⟨i_1_0, i_1_1, i_1_2⟩ H locs ls ⟨t_1_0, hP, hD, hS, hl⟩ ih_1
  have t_1_0 : (0 ≤ i_1_0.toInt ∧ i_1_0.toInt ≤ 40) := t_1_0
  have hl : lv_has ls 5 [(3, .int i_1_0), (2, .int i_1_1), (1, .int i_1_2), (0, .ref h0)] := hl
  have hP : va_P (dC, dI) vwCl [(h0, kO9 h2 h3 h1 n0_size), (h1, kAi cint 40 f1)] H := hP
  have hD : va_D A [(h0, kO9 h2 h3 h1 n0_size), (h1, kAi cint 40 f1)] := hD
  refine lv_iload_n hx hb dX9_turns_6 rfl (lv_at hl 0 rfl) ?_
  refine lv_aload_n hx hb dX9_turns_7 rfl (lv_at hl 3 rfl) ?_
  refine va_get (D := (dC, dI)) (ci := 9) (v := .int n0_size) (C := RX9) (T := TX9) (N := 4) hx hb hts (fun _ h => List.mem_cons_of_mem _ (List.mem_append_right _ h)) hown hK hP 0 rfl rfl 3 (by decide) (hts (.fieldLink RX9 21 "KinkStreet$Street" "size" "I") (List.mem_of_getElem? (i := 1) rfl)) (fun _ h9 => h9) rfl dX9_turns_8 ?_
  refine lv_icmp_ge (tgt := 54) hx hb dX9_turns_11 (by decide) (fun c_58 => ?_) (fun c_58 => ?_)
  · have t_58 : n0_size.toInt ≤ i_1_0.toInt := kk_le c_58
    refine lv_iload_n hx hb dX9_turns_54 rfl (lv_at hl 2 rfl) ?_
    have hP9 := kk_Ps (wq := [(h0, kO9 h2 h3 h1 n0_size), (h1, kAi cint 40 f1)]) hP [0, 1] rfl
    have hD9 := kk_Ds (wq := [(h0, kO9 h2 h3 h1 n0_size), (h1, kAi cint 40 f1)]) hD [0, 1] (by decide) rfl
    have hK9 := kk_Ks (tq := []) hK [] rfl
    exact W.iret (v := i_1_2) hx hb hr (fun t ht hW => ⟨⟨i_1_2, (), rfl, trivial, by rw [ht]; exact hP9, va_K.moved hW.alike hK9, hD9⟩, hS.F ht⟩) hS.2.2 dX9_turns_55
  · have t_58 : i_1_0.toInt < n0_size.toInt := kk_nle c_58
    refine lv_aload_n hx hb dX9_turns_14 rfl (lv_at hl 3 rfl) ?_
    refine va_get (D := (dC, dI)) (ci := 9) (v := .ref h1) (C := RX9) (T := TX9) (N := 4) hx hb hts (fun _ h => List.mem_cons_of_mem _ (List.mem_append_right _ h)) hown hK hP 0 rfl rfl 2 (by decide) (hts (.fieldLink RX9 18 "KinkStreet$Street" "asides" "[I") (List.mem_of_getElem? (i := 2) rfl)) (fun _ h9 => h9) rfl dX9_turns_15 ?_
    refine lv_iload_n hx hb dX9_turns_18 rfl (lv_at hl 0 rfl) ?_
    have hi_59 : vp_in i_1_0 40 := (vp_in_iff.mpr ⟨by omega, by omega⟩)
    refine va_iald hx hb hK hP 1 0 rfl rfl hi_59 dX9_turns_19 ?_
    refine lv_topi (fun y_59 e_59 => ?_)
    clear e_59
    have hPc := kk_Ps (wq := []) hP [] rfl
    have hDc := kk_Ds (wq := []) hD [] (by decide) rfl
    have hKc := kk_Ks (tq := []) hK [] rfl
    have hFc := va_free (wc := []) hD hS hA [] rfl
    refine va_calli (va_runS (As := [.int y_59]) (rest := []) ⟨hx, hb, hml, hown, hts⟩ (g_J6_signum_0f7a4_0 l dC dI H.size y_59) (va_cwS 1 hts gX9_turns_J6_signum_0f7a4 rfl rfl rfl kh_J6_signum_0f7a4 ⟨Nat.le_of_ble_eq_true rfl, Nat.le_of_ble_eq_true rfl⟩) ⟨fun a U g mk q => by obtain ⟨q0, q1, qP, qK, qD⟩ := q; exact ⟨q0, q1, qP, va_K.moved (u := U) (U := U.calling g mk a) (Vm.Alike.refl U.vm) qK, qD⟩, fun U hU hW => ⟨rfl, by rw [hU], by rw [hU]; exact hPc, va_K.moved hW.alike hKc, hDc.weaken (fun _ _ _ _ => trivial)⟩⟩ rfl rfl hl.1 rfl (lv_room (Nat.le_of_ble_eq_true rfl)) dX9_turns_20 ⟨Nat.le_of_ble_eq_true rfl, Nat.le_of_ble_eq_true rfl⟩) hS (fun q _ h => hFc q h) hFc (fun r_60 u t H1 locs ht hvm hw hB hz1 hk1 hS => ?_)
    obtain ⟨hP1, hK1, hD1⟩ := hB
    rw [ht] at hP1
    have hK1 := va_K.moved hvm.symm hK1
    obtain ⟨hP, hD⟩ := va_join (wr := [(h0, kO9 h2 h3 h1 n0_size), (h1, kAi cint 40 f1)]) (w1 := []) hP hD [] [0, 1] rfl rfl (by decide) (by decide) hk1 hFc hP1 hD1
    generalize H1 = H at hP hS ⊢
    have hP : va_P (dC, dI) vwCl [(h0, kO9 h2 h3 h1 n0_size), (h1, kAi cint 40 f1)] H := hP
    have hD : va_D A [(h0, kO9 h2 h3 h1 n0_size), (h1, kAi cint 40 f1)] := hD
    refine lv_istore hx hb dX9_turns_23 hl (by decide) (rfl : _ = ([(4, .int r_60), (3, .int i_1_0), (2, .int i_1_1), (1, .int i_1_2), (0, .ref h0)] : List (Nat × Value))) (fun ls hl => ?_)
    refine lv_iload hx hb dX9_turns_25 (lv_at hl 0 rfl) ?_
    refine lv_if_eq (tgt := 48) hx hb dX9_turns_27 (by decide) (fun c_61 => ?_) (fun c_61 => ?_)
    · have t_61 : r_60.toInt = 0 := kk_eq c_61
      refine lv_iinc (v := (i_1_0 + 1)) hx hb dX9_turns_48 hl (k := 1) rfl (by first | rfl | decide) (by decide) (rfl : _ = ([(3, .int (i_1_0 + 1)), (4, .int r_60), (2, .int i_1_1), (1, .int i_1_2), (0, .ref h0)] : List (Nat × Value))) (fun ls hl => ?_)
      refine lv_goto (tgt := 6) hx hb dX9_turns_51 (by decide) ?_
      try have := kk_add2 (x := i_1_0) (y := 1) (a := i_1_0.toInt) (b := 1) rfl rfl (by omega) (by omega)
      exact ih_1 ((i_1_0 + 1), i_1_1, i_1_2) _ _ _ (by show ((40 : Int) - ((i_1_0 + 1)).toInt).toNat < ((40 : Int) - i_1_0.toInt).toNat; exact kk_mu (by omega) (by omega)) ⟨(by show 0 ≤ ((i_1_0 + 1) : Int32).toInt ∧ ((i_1_0 + 1) : Int32).toInt ≤ 40; first | decide | ((omega))), hP, hD, hS, lv_sub hl [0, 2, 3, 4] rfl⟩
    · have t_61 : r_60.toInt ≠ 0 := kk_ne c_61
      refine lv_iload_n hx hb dX9_turns_30 rfl (lv_at hl 3 rfl) ?_
      refine lv_iload hx hb dX9_turns_31 (lv_at hl 0 rfl) ?_
      refine lv_iload_n hx hb dX9_turns_33 rfl (lv_at hl 2 rfl) ?_
      refine lv_ineg hx hb dX9_turns_34 ?_
      refine lv_topi (fun y_62 e_62 => ?_)
      clear e_62
      refine lv_icmp_ne (tgt := 42) hx hb dX9_turns_35 (by decide) (fun c_63 => ?_) (fun c_63 => ?_)
      · have t_63 : r_60.toInt ≠ y_62.toInt := kk_ne c_63
        refine lv_iconst (v := 0) hx hb dX9_turns_42 kk_ic_0 ?_
        refine lv_iadd hx hb dX9_turns_43 ?_
        refine lv_istore_n hx hb dX9_turns_44 rfl hl (by decide) (rfl : _ = ([(1, .int (i_1_2 + 0)), (4, .int r_60), (3, .int i_1_0), (2, .int i_1_1), (0, .ref h0)] : List (Nat × Value))) (fun ls hl => ?_)
        refine lv_iload hx hb dX9_turns_45 (lv_at hl 1 rfl) ?_
        refine lv_istore_n hx hb dX9_turns_47 rfl hl (by decide) (rfl : _ = ([(2, .int r_60), (1, .int (i_1_2 + 0)), (4, .int r_60), (3, .int i_1_0), (0, .ref h0)] : List (Nat × Value))) (fun ls hl => ?_)
        refine lv_iinc (v := (i_1_0 + 1)) hx hb dX9_turns_48 hl (k := 3) rfl (by first | rfl | decide) (by decide) (rfl : _ = ([(3, .int (i_1_0 + 1)), (2, .int r_60), (1, .int (i_1_2 + 0)), (4, .int r_60), (0, .ref h0)] : List (Nat × Value))) (fun ls hl => ?_)
        refine lv_goto (tgt := 6) hx hb dX9_turns_51 (by decide) ?_
        try have := kk_add2 (x := i_1_0) (y := 1) (a := i_1_0.toInt) (b := 1) rfl rfl (by omega) (by omega)
        exact ih_1 ((i_1_0 + 1), r_60, (i_1_2 + 0)) _ _ _ (by show ((40 : Int) - ((i_1_0 + 1)).toInt).toNat < ((40 : Int) - i_1_0.toInt).toNat; exact kk_mu (by omega) (by omega)) ⟨(by show 0 ≤ ((i_1_0 + 1) : Int32).toInt ∧ ((i_1_0 + 1) : Int32).toInt ≤ 40; first | decide | ((omega))), hP, hD, hS, lv_sub hl [0, 1, 2, 4] rfl⟩
      · have t_63 : r_60.toInt = y_62.toInt := kk_eq c_63
        refine lv_iconst (v := 1) hx hb dX9_turns_38 kk_ic_1 ?_
        refine lv_goto (tgt := 43) hx hb dX9_turns_39 (by decide) ?_
        refine lv_iadd hx hb dX9_turns_43 ?_
        refine lv_istore_n hx hb dX9_turns_44 rfl hl (by decide) (rfl : _ = ([(1, .int (i_1_2 + 1)), (4, .int r_60), (3, .int i_1_0), (2, .int i_1_1), (0, .ref h0)] : List (Nat × Value))) (fun ls hl => ?_)
        refine lv_iload hx hb dX9_turns_45 (lv_at hl 1 rfl) ?_
        refine lv_istore_n hx hb dX9_turns_47 rfl hl (by decide) (rfl : _ = ([(2, .int r_60), (1, .int (i_1_2 + 1)), (4, .int r_60), (3, .int i_1_0), (0, .ref h0)] : List (Nat × Value))) (fun ls hl => ?_)
        refine lv_iinc (v := (i_1_0 + 1)) hx hb dX9_turns_48 hl (k := 3) rfl (by first | rfl | decide) (by decide) (rfl : _ = ([(3, .int (i_1_0 + 1)), (2, .int r_60), (1, .int (i_1_2 + 1)), (4, .int r_60), (0, .ref h0)] : List (Nat × Value))) (fun ls hl => ?_)
        refine lv_goto (tgt := 6) hx hb dX9_turns_51 (by decide) ?_
        try have := kk_rng r_60
        try have := kk_rng y_62
        try have := kk_add2 (x := i_1_0) (y := 1) (a := i_1_0.toInt) (b := 1) rfl rfl (by omega) (by omega)
        exact ih_1 ((i_1_0 + 1), r_60, (i_1_2 + 1)) _ _ _ (by show ((40 : Int) - ((i_1_0 + 1)).toInt).toNat < ((40 : Int) - i_1_0.toInt).toNat; exact kk_mu (by omega) (by omega)) ⟨(by show 0 ≤ ((i_1_0 + 1) : Int32).toInt ∧ ((i_1_0 + 1) : Int32).toInt ≤ 40; first | decide | ((omega))), hP, hD, hS, lv_sub hl [0, 1, 2, 4] rfl⟩
set_option maxHeartbeats 4000000 in
set_option maxRecDepth 100000 in
theorem g_X9_longestAbove_0 (l : Launch) (dC : Nat → ClassId) (dI : Nat → Nat → Nat) (h0 : Nat) (h1 : Nat) (h2 : Nat) (h3 : Nat) (cint : ClassId) (sz : Nat) (p0 : Int32) (n0_size : Int32) (f1 : Nat → Int32) (f2 : Nat → Int32) (tn0_size : 0 ≤ n0_size.toInt ∧ n0_size.toInt ≤ 40) : Met l yX9_longestAbove wsX9_longestAbove ({ frames := 2, cells := 0, slots := 0, locals := 44 }) (va_Pc [.ref h0, .int p0] (fun U => U.heap.size = sz ∧ va_P (dC, dI) vwCl [(h0, kO9 h1 h2 h3 n0_size), (h1, kAi cint 40 f1), (h2, kAi cint 40 f2)] U.heap ∧ va_K (dC, dI) vwCl [(cint, .int)] U ∧ va_D (fun _ => True) [(h0, kO9 h1 h2 h3 n0_size), (h1, kAi cint 40 f1), (h2, kAi cint 40 f2)])) (va_Qi (fun (r : Int32) (_ : Unit) => ((-2) ≤ r.toInt ∧ r.toInt ≤ 4139)) (fun (_ : Unit) t => va_P (dC, dI) vwCl [(h0, kO9 h1 h2 h3 n0_size), (h1, kAi cint 40 f1), (h2, kAi cint 40 f2)] t.heap ∧ va_K (dC, dI) vwCl [] t ∧ va_D (va_A [(h0, kO9 h1 h2 h3 n0_size), (h1, kAi cint 40 f1), (h2, kAi cint 40 f2)] sz) [(h0, kO9 h1 h2 h3 n0_size), (h1, kAi cint 40 f1), (h2, kAi cint 40 f2)]) (va_A [(h0, kO9 h1 h2 h3 n0_size), (h1, kAi cint 40 f1), (h2, kAi cint 40 f2)] sz)) 0 0 (va_A [(h0, kO9 h1 h2 h3 n0_size), (h1, kAi cint 40 f1), (h2, kAi cint 40 f2)] sz) := by
  refine Met.ofW (cc := cX9_longestAbove) (maxL := 7) (ret := (some .int)) (by decide) rfl ?_
  intro p e s m args below meth c s₁ B hml hv
  obtain ⟨rfl, hsz, hP, hK, hD0⟩ := hv
  have hx := B.exec
  have hb := B.bytes
  have hr := B.returns
  have hts := atoms_spec (ws := wsX9_longestAbove) B.pre
  have hown : s.vm.findClass RX9 = some m.cls := findClass_of_methodNamed B.named
  have hlocks := B.notSynchronized
  subst hsz
  have hD := hD0.self (sz := s.heap.size)
  generalize hAe : va_A [(h0, kO9 h1 h2 h3 n0_size), (h1, kAi cint 40 f1), (h2, kAi cint 40 f2)] s.heap.size = A at hD ⊢
  have hA : ∀ q : Nat, s.heap.size ≤ q → A q := fun q h => by rw [← hAe]; exact Or.inr h
  have hS : va_S A s.heap s.heap [] := va_S.rf
  have hP : va_P (dC, dI) vwCl [(h0, kO9 h1 h2 h3 n0_size), (h1, kAi cint 40 f1), (h2, kAi cint 40 f2)] s.heap := hP
  have hl := lv_entry ([.ref h0, .int p0]) (n := 7) (Nat.le_of_ble_eq_true rfl)
  rw [lg_entry_eq]
  generalize (lg_sl ([.ref h0, .int p0]) ++ List.replicate (7 - (lg_sl ([.ref h0, .int p0])).length) Slot.unset).toArray = ls at hl ⊢
  have hl : lv_has ls 7 [(0, .ref h0), (1, .int p0)] := hl
  refine lv_bipush (v := (-2)) hx hb dX9_longestAbove_0 kk_bi_m2 ?_
  refine lv_istore_n hx hb dX9_longestAbove_2 rfl hl (by decide) (rfl : _ = ([(2, .int (-2)), (0, .ref h0), (1, .int p0)] : List (Nat × Value))) (fun ls hl => ?_)
  refine lv_iconst (v := 0) hx hb dX9_longestAbove_3 kk_ic_0 ?_
  refine lv_istore_n hx hb dX9_longestAbove_4 rfl hl (by decide) (rfl : _ = ([(3, .int 0), (2, .int (-2)), (0, .ref h0), (1, .int p0)] : List (Nat × Value))) (fun ls hl => ?_)
  refine lv_iconst (v := 0) hx hb dX9_longestAbove_5 kk_ic_0 ?_
  refine lv_istore hx hb dX9_longestAbove_6 hl (by decide) (rfl : _ = ([(4, .int 0), (3, .int 0), (2, .int (-2)), (0, .ref h0), (1, .int p0)] : List (Nat × Value))) (fun ls hl => ?_)
  refine lv_iconst (v := 0) hx hb dX9_longestAbove_8 kk_ic_0 ?_
  refine lv_istore hx hb dX9_longestAbove_9 hl (by decide) (rfl : _ = ([(5, .int 0), (4, .int 0), (3, .int 0), (2, .int (-2)), (0, .ref h0), (1, .int p0)] : List (Nat × Value))) (fun ls hl => ?_)
  refine kk_loop (σ := Int32 × Int32 × Int32 × Int32) (fun x H locs ls => (0 ≤ x.1.toInt ∧ x.1.toInt ≤ 41) ∧ (0 ≤ x.2.1.toInt ∧ x.2.1.toInt ≤ 41) ∧ ((-2) ≤ x.2.2.2.toInt ∧ x.2.2.2.toInt ≤ 4139) ∧ va_P (dC, dI) vwCl [(h0, kO9 h1 h2 h3 n0_size), (h1, kAi cint 40 f1), (h2, kAi cint 40 f2)] H ∧ va_D A [(h0, kO9 h1 h2 h3 n0_size), (h1, kAi cint 40 f1), (h2, kAi cint 40 f2)] ∧ va_S A s.heap H locs ∧ lv_has ls 7 [(5, .int x.1), (4, .int x.2.1), (3, .int x.2.2.1), (2, .int x.2.2.2), (0, .ref h0), (1, .int p0)]) (fun x => ((41 : Int) - x.1.toInt).toNat) ?_ (0, 0, 0, (-2)) _ _ _ ⟨(by show 0 ≤ (0 : Int32).toInt ∧ (0 : Int32).toInt ≤ 41; first | decide | ((omega))), (by show 0 ≤ (0 : Int32).toInt ∧ (0 : Int32).toInt ≤ 41; first | decide | ((omega))), (by show (-2) ≤ ((-2) : Int32).toInt ∧ ((-2) : Int32).toInt ≤ 4139; first | decide | ((omega))), hP, hD, hS, hl⟩
  rintro ⟨i_1_0, i_1_1, i_1_2, i_1_3⟩ H locs ls ⟨t_1_0, t_1_1, t_1_3, hP, hD, hS, hl⟩ ih_1
  have t_1_0 : (0 ≤ i_1_0.toInt ∧ i_1_0.toInt ≤ 41) := t_1_0
  have t_1_1 : (0 ≤ i_1_1.toInt ∧ i_1_1.toInt ≤ 41) := t_1_1
  have t_1_3 : ((-2) ≤ i_1_3.toInt ∧ i_1_3.toInt ≤ 4139) := t_1_3
  have hl : lv_has ls 7 [(5, .int i_1_0), (4, .int i_1_1), (3, .int i_1_2), (2, .int i_1_3), (0, .ref h0), (1, .int p0)] := hl
  have hP : va_P (dC, dI) vwCl [(h0, kO9 h1 h2 h3 n0_size), (h1, kAi cint 40 f1), (h2, kAi cint 40 f2)] H := hP
  have hD : va_D A [(h0, kO9 h1 h2 h3 n0_size), (h1, kAi cint 40 f1), (h2, kAi cint 40 f2)] := hD
  refine lv_iload hx hb dX9_longestAbove_11 (lv_at hl 0 rfl) ?_
  refine lv_aload_n hx hb dX9_longestAbove_13 rfl (lv_at hl 4 rfl) ?_
  refine va_get (D := (dC, dI)) (ci := 9) (v := .int n0_size) (C := RX9) (T := TX9) (N := 4) hx hb hts (fun _ h => List.mem_cons_of_mem _ (List.mem_append_right _ h)) hown hK hP 0 rfl rfl 3 (by decide) (hts (.fieldLink RX9 21 "KinkStreet$Street" "size" "I") (List.mem_of_getElem? (i := 1) rfl)) (fun _ h9 => h9) rfl dX9_longestAbove_14 ?_
  refine lv_icmp_gt (tgt := 96) hx hb dX9_longestAbove_17 (by decide) (fun c_124 => ?_) (fun c_124 => ?_)
  · have t_124 : n0_size.toInt < i_1_0.toInt := kk_lt c_124
    refine lv_iload_n hx hb dX9_longestAbove_96 rfl (lv_at hl 3 rfl) ?_
    have hP9 := kk_Ps (wq := [(h0, kO9 h1 h2 h3 n0_size), (h1, kAi cint 40 f1), (h2, kAi cint 40 f2)]) hP [0, 1, 2] rfl
    have hD9 := kk_Ds (wq := [(h0, kO9 h1 h2 h3 n0_size), (h1, kAi cint 40 f1), (h2, kAi cint 40 f2)]) hD [0, 1, 2] (by decide) rfl
    have hK9 := kk_Ks (tq := []) hK [] rfl
    exact W.iret (v := i_1_3) hx hb hr (fun t ht hW => ⟨⟨i_1_3, (), rfl, (by show (-2) ≤ (i_1_3 : Int32).toInt ∧ (i_1_3 : Int32).toInt ≤ 4139; first | decide | ((omega))), by rw [ht]; exact hP9, va_K.moved hW.alike hK9, hD9⟩, hS.F ht⟩) hS.2.2 dX9_longestAbove_97
  · have t_124 : i_1_0.toInt ≤ n0_size.toInt := kk_nlt c_124
    refine lv_iload hx hb dX9_longestAbove_20 (lv_at hl 0 rfl) ?_
    refine lv_aload_n hx hb dX9_longestAbove_22 rfl (lv_at hl 4 rfl) ?_
    refine va_get (D := (dC, dI)) (ci := 9) (v := .int n0_size) (C := RX9) (T := TX9) (N := 4) hx hb hts (fun _ h => List.mem_cons_of_mem _ (List.mem_append_right _ h)) hown hK hP 0 rfl rfl 3 (by decide) (hts (.fieldLink RX9 21 "KinkStreet$Street" "size" "I") (List.mem_of_getElem? (i := 1) rfl)) (fun _ h9 => h9) rfl dX9_longestAbove_23 ?_
    refine lv_icmp_ge (tgt := 43) hx hb dX9_longestAbove_26 (by decide) (fun c_125 => ?_) (fun c_125 => ?_)
    · have t_125 : n0_size.toInt ≤ i_1_0.toInt := kk_le c_125
      refine lv_bipush (v := 100) hx hb dX9_longestAbove_43 kk_bi_100 ?_
      refine lv_iload hx hb dX9_longestAbove_45 (lv_at hl 1 rfl) ?_
      refine lv_imul hx hb dX9_longestAbove_47 ?_
      refine lv_iload hx hb dX9_longestAbove_48 (lv_at hl 0 rfl) ?_
      refine lv_iadd hx hb dX9_longestAbove_50 ?_
      refine lv_iconst (v := 1) hx hb dX9_longestAbove_51 kk_ic_1 ?_
      refine lv_isub hx hb dX9_longestAbove_52 ?_
      refine lv_istore hx hb dX9_longestAbove_53 hl (by decide) (rfl : _ = ([(6, .int (((100 * i_1_1) + i_1_0) - 1)), (5, .int i_1_0), (4, .int i_1_1), (3, .int i_1_2), (2, .int i_1_3), (0, .ref h0), (1, .int p0)] : List (Nat × Value))) (fun ls hl => ?_)
      refine lv_iload hx hb dX9_longestAbove_55 (lv_at hl 1 rfl) ?_
      refine lv_iload hx hb dX9_longestAbove_57 (lv_at hl 2 rfl) ?_
      refine lv_isub hx hb dX9_longestAbove_59 ?_
      refine lv_iconst (v := 2) hx hb dX9_longestAbove_60 kk_ic_2 ?_
      refine lv_icmp_lt (tgt := 84) hx hb dX9_longestAbove_61 (by decide) (fun c_126 => ?_) (fun c_126 => ?_)
      · have t_126 : (i_1_0 - i_1_1).toInt < 2 := kk_lt c_126
        refine lv_iload hx hb dX9_longestAbove_84 (lv_at hl 1 rfl) ?_
        refine lv_iconst (v := 1) hx hb dX9_longestAbove_86 kk_ic_1 ?_
        refine lv_iadd hx hb dX9_longestAbove_87 ?_
        refine lv_istore hx hb dX9_longestAbove_88 hl (by decide) (rfl : _ = ([(4, .int (i_1_0 + 1)), (6, .int (((100 * i_1_1) + i_1_0) - 1)), (5, .int i_1_0), (3, .int i_1_2), (2, .int i_1_3), (0, .ref h0), (1, .int p0)] : List (Nat × Value))) (fun ls hl => ?_)
        refine lv_iinc (v := (i_1_0 + 1)) hx hb dX9_longestAbove_90 hl (k := 2) rfl (by first | rfl | decide) (by decide) (rfl : _ = ([(5, .int (i_1_0 + 1)), (4, .int (i_1_0 + 1)), (6, .int (((100 * i_1_1) + i_1_0) - 1)), (3, .int i_1_2), (2, .int i_1_3), (0, .ref h0), (1, .int p0)] : List (Nat × Value))) (fun ls hl => ?_)
        refine lv_goto (tgt := 11) hx hb dX9_longestAbove_93 (by decide) ?_
        try have := kk_mul2 (x := 100) (y := i_1_1) (a := 100) (b := i_1_1.toInt) rfl rfl (by omega) (by omega)
        try have := kk_add2 (x := (100 * i_1_1)) (y := i_1_0) (a := (100 * i_1_1).toInt) (b := i_1_0.toInt) rfl rfl (by omega) (by omega)
        try have := kk_sub2 (x := ((100 * i_1_1) + i_1_0)) (y := 1) (a := ((100 * i_1_1) + i_1_0).toInt) (b := 1) rfl rfl (by omega) (by omega)
        try have := kk_sub2 (x := i_1_0) (y := i_1_1) (a := i_1_0.toInt) (b := i_1_1.toInt) rfl rfl (by omega) (by omega)
        try have := kk_add2 (x := i_1_0) (y := 1) (a := i_1_0.toInt) (b := 1) rfl rfl (by omega) (by omega)
        exact ih_1 ((i_1_0 + 1), (i_1_0 + 1), i_1_2, i_1_3) _ _ _ (by show ((41 : Int) - ((i_1_0 + 1)).toInt).toNat < ((41 : Int) - i_1_0.toInt).toNat; exact kk_mu (by omega) (by omega)) ⟨(by show 0 ≤ ((i_1_0 + 1) : Int32).toInt ∧ ((i_1_0 + 1) : Int32).toInt ≤ 41; first | decide | ((omega))), (by show 0 ≤ ((i_1_0 + 1) : Int32).toInt ∧ ((i_1_0 + 1) : Int32).toInt ≤ 41; first | decide | ((omega))), (by show (-2) ≤ (i_1_3 : Int32).toInt ∧ (i_1_3 : Int32).toInt ≤ 4139; first | decide | ((omega))), hP, hD, hS, lv_sub hl [0, 1, 3, 4, 5, 6] rfl⟩
      · have t_126 : 2 ≤ (i_1_0 - i_1_1).toInt := kk_nlt c_126
        refine lv_aload_n hx hb dX9_longestAbove_64 rfl (lv_at hl 5 rfl) ?_
        refine lv_iload hx hb dX9_longestAbove_65 (lv_at hl 0 rfl) ?_
        have hPc := kk_Ps (wq := [(h0, kO9 h1 h2 h3 n0_size), (h1, kAi cint 40 f1)]) hP [0, 1] rfl
        have hDc := kk_Ds (wq := [(h0, kO9 h1 h2 h3 n0_size), (h1, kAi cint 40 f1)]) hD [0, 1] (by decide) rfl
        have hKc := kk_Ks (tq := [(cint, .int)]) hK [0] rfl
        have hFc := va_free (wc := [(h0, kO9 h1 h2 h3 n0_size), (h1, kAi cint 40 f1)]) hD hS hA [0, 1] rfl
        refine va_calli (va_runV (As := [.int (((100 * i_1_1) + i_1_0) - 1)]) (rest := []) ⟨hx, hb, hml, hown, hts⟩ (g_X9_length_0 l dC dI h0 h1 h2 h3 cint H.size (((100 * i_1_1) + i_1_0) - 1) n0_size f1 tn0_size) (cwV 1 hts gX9_longestAbove_X9_length rfl rfl rfl ⟨rfl, kh_X9_length⟩ ⟨Nat.le_of_ble_eq_true rfl, Nat.le_of_ble_eq_true rfl⟩) ⟨fun a U g mk q => by obtain ⟨q0, q1, qP, qK, qD⟩ := q; exact ⟨q0, q1, qP, va_K.moved (u := U) (U := U.calling g mk a) (Vm.Alike.refl U.vm) qK, qD⟩, va_recv hKc hPc (ci := 9) (q0 := 0) rfl rfl, fun U hU hW => ⟨rfl, by rw [hU], by rw [hU]; exact hPc, va_K.moved hW.alike hKc, hDc.weaken (fun _ _ _ _ => trivial)⟩⟩ rfl rfl hl.1 rfl (lv_room (Nat.le_of_ble_eq_true rfl)) dX9_longestAbove_67 ⟨Nat.le_of_ble_eq_true rfl, Nat.le_of_ble_eq_true rfl⟩) hS (fun q _ h => hFc q h) hFc (fun r_127 u t H1 locs ht hvm hw hB hz1 hk1 hS => ?_)
        obtain ⟨hP1, hK1, hD1⟩ := hB
        rw [ht] at hP1
        have hK1 := va_K.moved hvm.symm hK1
        obtain ⟨hP, hD⟩ := va_join (wr := [(h2, kAi cint 40 f2)]) (w1 := [(h0, kO9 h1 h2 h3 n0_size), (h1, kAi cint 40 f1)]) hP hD [0, 1] [2] rfl rfl (by decide) (by decide) hk1 hFc hP1 hD1
        generalize H1 = H at hP hS ⊢
        have hP : va_P (dC, dI) vwCl [(h2, kAi cint 40 f2), (h0, kO9 h1 h2 h3 n0_size), (h1, kAi cint 40 f1)] H := hP
        have hD : va_D A [(h2, kAi cint 40 f2), (h0, kO9 h1 h2 h3 n0_size), (h1, kAi cint 40 f1)] := hD
        refine lv_iload_n hx hb dX9_longestAbove_70 rfl (lv_at hl 3 rfl) ?_
        refine lv_icmp_le (tgt := 84) hx hb dX9_longestAbove_71 (by decide) (fun c_128 => ?_) (fun c_128 => ?_)
        · have t_128 : r_127.toInt ≤ i_1_2.toInt := kk_le c_128
          refine lv_iload hx hb dX9_longestAbove_84 (lv_at hl 1 rfl) ?_
          refine lv_iconst (v := 1) hx hb dX9_longestAbove_86 kk_ic_1 ?_
          refine lv_iadd hx hb dX9_longestAbove_87 ?_
          refine lv_istore hx hb dX9_longestAbove_88 hl (by decide) (rfl : _ = ([(4, .int (i_1_0 + 1)), (6, .int (((100 * i_1_1) + i_1_0) - 1)), (5, .int i_1_0), (3, .int i_1_2), (2, .int i_1_3), (0, .ref h0), (1, .int p0)] : List (Nat × Value))) (fun ls hl => ?_)
          refine lv_iinc (v := (i_1_0 + 1)) hx hb dX9_longestAbove_90 hl (k := 2) rfl (by first | rfl | decide) (by decide) (rfl : _ = ([(5, .int (i_1_0 + 1)), (4, .int (i_1_0 + 1)), (6, .int (((100 * i_1_1) + i_1_0) - 1)), (3, .int i_1_2), (2, .int i_1_3), (0, .ref h0), (1, .int p0)] : List (Nat × Value))) (fun ls hl => ?_)
          refine lv_goto (tgt := 11) hx hb dX9_longestAbove_93 (by decide) ?_
          try have := kk_rng r_127
          try have := kk_rng i_1_2
          try have := kk_mul2 (x := 100) (y := i_1_1) (a := 100) (b := i_1_1.toInt) rfl rfl (by omega) (by omega)
          try have := kk_add2 (x := (100 * i_1_1)) (y := i_1_0) (a := (100 * i_1_1).toInt) (b := i_1_0.toInt) rfl rfl (by omega) (by omega)
          try have := kk_sub2 (x := ((100 * i_1_1) + i_1_0)) (y := 1) (a := ((100 * i_1_1) + i_1_0).toInt) (b := 1) rfl rfl (by omega) (by omega)
          try have := kk_sub2 (x := i_1_0) (y := i_1_1) (a := i_1_0.toInt) (b := i_1_1.toInt) rfl rfl (by omega) (by omega)
          try have := kk_add2 (x := i_1_0) (y := 1) (a := i_1_0.toInt) (b := 1) rfl rfl (by omega) (by omega)
          exact ih_1 ((i_1_0 + 1), (i_1_0 + 1), i_1_2, i_1_3) _ _ _ (by show ((41 : Int) - ((i_1_0 + 1)).toInt).toNat < ((41 : Int) - i_1_0.toInt).toNat; exact kk_mu (by omega) (by omega)) ⟨(by show 0 ≤ ((i_1_0 + 1) : Int32).toInt ∧ ((i_1_0 + 1) : Int32).toInt ≤ 41; first | decide | ((omega))), (by show 0 ≤ ((i_1_0 + 1) : Int32).toInt ∧ ((i_1_0 + 1) : Int32).toInt ≤ 41; first | decide | ((omega))), (by show (-2) ≤ (i_1_3 : Int32).toInt ∧ (i_1_3 : Int32).toInt ≤ 4139; first | decide | ((omega))), hP.sub [1, 2, 0] rfl, hD.sub [1, 2, 0] (by decide) rfl, hS, lv_sub hl [0, 1, 3, 4, 5, 6] rfl⟩
        · have t_128 : i_1_2.toInt < r_127.toInt := kk_nle c_128
          refine lv_aload_n hx hb dX9_longestAbove_74 rfl (lv_at hl 5 rfl) ?_
          refine lv_iload hx hb dX9_longestAbove_75 (lv_at hl 0 rfl) ?_
          have hPc := kk_Ps (wq := [(h0, kO9 h1 h2 h3 n0_size), (h1, kAi cint 40 f1)]) hP [1, 2] rfl
          have hDc := kk_Ds (wq := [(h0, kO9 h1 h2 h3 n0_size), (h1, kAi cint 40 f1)]) hD [1, 2] (by decide) rfl
          have hKc := kk_Ks (tq := [(cint, .int)]) hK [0] rfl
          have hFc := va_free (wc := [(h0, kO9 h1 h2 h3 n0_size), (h1, kAi cint 40 f1)]) hD hS hA [1, 2] rfl
          refine va_calli (va_runV (As := [.int (((100 * i_1_1) + i_1_0) - 1)]) (rest := []) ⟨hx, hb, hml, hown, hts⟩ (g_X9_length_0 l dC dI h0 h1 h2 h3 cint H.size (((100 * i_1_1) + i_1_0) - 1) n0_size f1 tn0_size) (cwV 1 hts gX9_longestAbove_X9_length rfl rfl rfl ⟨rfl, kh_X9_length⟩ ⟨Nat.le_of_ble_eq_true rfl, Nat.le_of_ble_eq_true rfl⟩) ⟨fun a U g mk q => by obtain ⟨q0, q1, qP, qK, qD⟩ := q; exact ⟨q0, q1, qP, va_K.moved (u := U) (U := U.calling g mk a) (Vm.Alike.refl U.vm) qK, qD⟩, va_recv hKc hPc (ci := 9) (q0 := 0) rfl rfl, fun U hU hW => ⟨rfl, by rw [hU], by rw [hU]; exact hPc, va_K.moved hW.alike hKc, hDc.weaken (fun _ _ _ _ => trivial)⟩⟩ rfl rfl hl.1 rfl (lv_room (Nat.le_of_ble_eq_true rfl)) dX9_longestAbove_77 ⟨Nat.le_of_ble_eq_true rfl, Nat.le_of_ble_eq_true rfl⟩) hS (fun q _ h => hFc q h) hFc (fun r_129 u t H1 locs ht hvm hw hB hz1 hk1 hS => ?_)
          obtain ⟨hP1, hK1, hD1⟩ := hB
          rw [ht] at hP1
          have hK1 := va_K.moved hvm.symm hK1
          obtain ⟨hP, hD⟩ := va_join (wr := [(h2, kAi cint 40 f2)]) (w1 := [(h0, kO9 h1 h2 h3 n0_size), (h1, kAi cint 40 f1)]) hP hD [1, 2] [0] rfl rfl (by decide) (by decide) hk1 hFc hP1 hD1
          generalize H1 = H at hP hS ⊢
          have hP : va_P (dC, dI) vwCl [(h2, kAi cint 40 f2), (h0, kO9 h1 h2 h3 n0_size), (h1, kAi cint 40 f1)] H := hP
          have hD : va_D A [(h2, kAi cint 40 f2), (h0, kO9 h1 h2 h3 n0_size), (h1, kAi cint 40 f1)] := hD
          refine lv_istore_n hx hb dX9_longestAbove_80 rfl hl (by decide) (rfl : _ = ([(3, .int r_129), (6, .int (((100 * i_1_1) + i_1_0) - 1)), (5, .int i_1_0), (4, .int i_1_1), (2, .int i_1_3), (0, .ref h0), (1, .int p0)] : List (Nat × Value))) (fun ls hl => ?_)
          refine lv_iload hx hb dX9_longestAbove_81 (lv_at hl 1 rfl) ?_
          refine lv_istore_n hx hb dX9_longestAbove_83 rfl hl (by decide) (rfl : _ = ([(2, .int (((100 * i_1_1) + i_1_0) - 1)), (3, .int r_129), (6, .int (((100 * i_1_1) + i_1_0) - 1)), (5, .int i_1_0), (4, .int i_1_1), (0, .ref h0), (1, .int p0)] : List (Nat × Value))) (fun ls hl => ?_)
          refine lv_iload hx hb dX9_longestAbove_84 (lv_at hl 3 rfl) ?_
          refine lv_iconst (v := 1) hx hb dX9_longestAbove_86 kk_ic_1 ?_
          refine lv_iadd hx hb dX9_longestAbove_87 ?_
          refine lv_istore hx hb dX9_longestAbove_88 hl (by decide) (rfl : _ = ([(4, .int (i_1_0 + 1)), (2, .int (((100 * i_1_1) + i_1_0) - 1)), (3, .int r_129), (6, .int (((100 * i_1_1) + i_1_0) - 1)), (5, .int i_1_0), (0, .ref h0), (1, .int p0)] : List (Nat × Value))) (fun ls hl => ?_)
          refine lv_iinc (v := (i_1_0 + 1)) hx hb dX9_longestAbove_90 hl (k := 4) rfl (by first | rfl | decide) (by decide) (rfl : _ = ([(5, .int (i_1_0 + 1)), (4, .int (i_1_0 + 1)), (2, .int (((100 * i_1_1) + i_1_0) - 1)), (3, .int r_129), (6, .int (((100 * i_1_1) + i_1_0) - 1)), (0, .ref h0), (1, .int p0)] : List (Nat × Value))) (fun ls hl => ?_)
          refine lv_goto (tgt := 11) hx hb dX9_longestAbove_93 (by decide) ?_
          try have := kk_rng i_1_2
          try have := kk_rng r_127
          try have := kk_mul2 (x := 100) (y := i_1_1) (a := 100) (b := i_1_1.toInt) rfl rfl (by omega) (by omega)
          try have := kk_add2 (x := (100 * i_1_1)) (y := i_1_0) (a := (100 * i_1_1).toInt) (b := i_1_0.toInt) rfl rfl (by omega) (by omega)
          try have := kk_sub2 (x := ((100 * i_1_1) + i_1_0)) (y := 1) (a := ((100 * i_1_1) + i_1_0).toInt) (b := 1) rfl rfl (by omega) (by omega)
          try have := kk_sub2 (x := i_1_0) (y := i_1_1) (a := i_1_0.toInt) (b := i_1_1.toInt) rfl rfl (by omega) (by omega)
          try have := kk_add2 (x := i_1_0) (y := 1) (a := i_1_0.toInt) (b := 1) rfl rfl (by omega) (by omega)
          exact ih_1 ((i_1_0 + 1), (i_1_0 + 1), r_129, (((100 * i_1_1) + i_1_0) - 1)) _ _ _ (by show ((41 : Int) - ((i_1_0 + 1)).toInt).toNat < ((41 : Int) - i_1_0.toInt).toNat; exact kk_mu (by omega) (by omega)) ⟨(by show 0 ≤ ((i_1_0 + 1) : Int32).toInt ∧ ((i_1_0 + 1) : Int32).toInt ≤ 41; first | decide | ((omega))), (by show 0 ≤ ((i_1_0 + 1) : Int32).toInt ∧ ((i_1_0 + 1) : Int32).toInt ≤ 41; first | decide | ((omega))), (by show (-2) ≤ ((((100 * i_1_1) + i_1_0) - 1) : Int32).toInt ∧ ((((100 * i_1_1) + i_1_0) - 1) : Int32).toInt ≤ 4139; first | decide | ((omega))), hP.sub [1, 2, 0] rfl, hD.sub [1, 2, 0] (by decide) rfl, hS, lv_sub hl [0, 1, 3, 2, 5, 6] rfl⟩
    · have t_125 : i_1_0.toInt < n0_size.toInt := kk_nle c_125
      refine lv_aload_n hx hb dX9_longestAbove_29 rfl (lv_at hl 4 rfl) ?_
      refine va_get (D := (dC, dI)) (ci := 9) (v := .ref h2) (C := RX9) (T := TX9) (N := 4) hx hb hts (fun _ h => List.mem_cons_of_mem _ (List.mem_append_right _ h)) hown hK hP 0 rfl rfl 1 (by decide) (hts (.fieldLink RX9 15 "KinkStreet$Street" "depths" "[I") (List.mem_of_getElem? (i := 2) rfl)) (fun _ h9 => h9) rfl dX9_longestAbove_30 ?_
      refine lv_iload hx hb dX9_longestAbove_33 (lv_at hl 0 rfl) ?_
      have hi_130 : vp_in i_1_0 40 := (vp_in_iff.mpr ⟨by omega, by omega⟩)
      refine va_iald hx hb hK hP 2 0 rfl rfl hi_130 dX9_longestAbove_35 ?_
      refine lv_topi (fun y_130 e_130 => ?_)
      clear e_130
      refine lv_iload_n hx hb dX9_longestAbove_36 rfl (lv_at hl 5 rfl) ?_
      refine lv_icmp_le (tgt := 43) hx hb dX9_longestAbove_37 (by decide) (fun c_131 => ?_) (fun c_131 => ?_)
      · have t_131 : y_130.toInt ≤ p0.toInt := kk_le c_131
        refine lv_bipush (v := 100) hx hb dX9_longestAbove_43 kk_bi_100 ?_
        refine lv_iload hx hb dX9_longestAbove_45 (lv_at hl 1 rfl) ?_
        refine lv_imul hx hb dX9_longestAbove_47 ?_
        refine lv_iload hx hb dX9_longestAbove_48 (lv_at hl 0 rfl) ?_
        refine lv_iadd hx hb dX9_longestAbove_50 ?_
        refine lv_iconst (v := 1) hx hb dX9_longestAbove_51 kk_ic_1 ?_
        refine lv_isub hx hb dX9_longestAbove_52 ?_
        refine lv_istore hx hb dX9_longestAbove_53 hl (by decide) (rfl : _ = ([(6, .int (((100 * i_1_1) + i_1_0) - 1)), (5, .int i_1_0), (4, .int i_1_1), (3, .int i_1_2), (2, .int i_1_3), (0, .ref h0), (1, .int p0)] : List (Nat × Value))) (fun ls hl => ?_)
        refine lv_iload hx hb dX9_longestAbove_55 (lv_at hl 1 rfl) ?_
        refine lv_iload hx hb dX9_longestAbove_57 (lv_at hl 2 rfl) ?_
        refine lv_isub hx hb dX9_longestAbove_59 ?_
        refine lv_iconst (v := 2) hx hb dX9_longestAbove_60 kk_ic_2 ?_
        refine lv_icmp_lt (tgt := 84) hx hb dX9_longestAbove_61 (by decide) (fun c_132 => ?_) (fun c_132 => ?_)
        · have t_132 : (i_1_0 - i_1_1).toInt < 2 := kk_lt c_132
          refine lv_iload hx hb dX9_longestAbove_84 (lv_at hl 1 rfl) ?_
          refine lv_iconst (v := 1) hx hb dX9_longestAbove_86 kk_ic_1 ?_
          refine lv_iadd hx hb dX9_longestAbove_87 ?_
          refine lv_istore hx hb dX9_longestAbove_88 hl (by decide) (rfl : _ = ([(4, .int (i_1_0 + 1)), (6, .int (((100 * i_1_1) + i_1_0) - 1)), (5, .int i_1_0), (3, .int i_1_2), (2, .int i_1_3), (0, .ref h0), (1, .int p0)] : List (Nat × Value))) (fun ls hl => ?_)
          refine lv_iinc (v := (i_1_0 + 1)) hx hb dX9_longestAbove_90 hl (k := 2) rfl (by first | rfl | decide) (by decide) (rfl : _ = ([(5, .int (i_1_0 + 1)), (4, .int (i_1_0 + 1)), (6, .int (((100 * i_1_1) + i_1_0) - 1)), (3, .int i_1_2), (2, .int i_1_3), (0, .ref h0), (1, .int p0)] : List (Nat × Value))) (fun ls hl => ?_)
          refine lv_goto (tgt := 11) hx hb dX9_longestAbove_93 (by decide) ?_
          try have := kk_rng y_130
          try have := kk_rng p0
          try have := kk_mul2 (x := 100) (y := i_1_1) (a := 100) (b := i_1_1.toInt) rfl rfl (by omega) (by omega)
          try have := kk_add2 (x := (100 * i_1_1)) (y := i_1_0) (a := (100 * i_1_1).toInt) (b := i_1_0.toInt) rfl rfl (by omega) (by omega)
          try have := kk_sub2 (x := ((100 * i_1_1) + i_1_0)) (y := 1) (a := ((100 * i_1_1) + i_1_0).toInt) (b := 1) rfl rfl (by omega) (by omega)
          try have := kk_sub2 (x := i_1_0) (y := i_1_1) (a := i_1_0.toInt) (b := i_1_1.toInt) rfl rfl (by omega) (by omega)
          try have := kk_add2 (x := i_1_0) (y := 1) (a := i_1_0.toInt) (b := 1) rfl rfl (by omega) (by omega)
          exact ih_1 ((i_1_0 + 1), (i_1_0 + 1), i_1_2, i_1_3) _ _ _ (by show ((41 : Int) - ((i_1_0 + 1)).toInt).toNat < ((41 : Int) - i_1_0.toInt).toNat; exact kk_mu (by omega) (by omega)) ⟨(by show 0 ≤ ((i_1_0 + 1) : Int32).toInt ∧ ((i_1_0 + 1) : Int32).toInt ≤ 41; first | decide | ((omega))), (by show 0 ≤ ((i_1_0 + 1) : Int32).toInt ∧ ((i_1_0 + 1) : Int32).toInt ≤ 41; first | decide | ((omega))), (by show (-2) ≤ (i_1_3 : Int32).toInt ∧ (i_1_3 : Int32).toInt ≤ 4139; first | decide | ((omega))), hP, hD, hS, lv_sub hl [0, 1, 3, 4, 5, 6] rfl⟩
        · have t_132 : 2 ≤ (i_1_0 - i_1_1).toInt := kk_nlt c_132
          refine lv_aload_n hx hb dX9_longestAbove_64 rfl (lv_at hl 5 rfl) ?_
          refine lv_iload hx hb dX9_longestAbove_65 (lv_at hl 0 rfl) ?_
          have hPc := kk_Ps (wq := [(h0, kO9 h1 h2 h3 n0_size), (h1, kAi cint 40 f1)]) hP [0, 1] rfl
          have hDc := kk_Ds (wq := [(h0, kO9 h1 h2 h3 n0_size), (h1, kAi cint 40 f1)]) hD [0, 1] (by decide) rfl
          have hKc := kk_Ks (tq := [(cint, .int)]) hK [0] rfl
          have hFc := va_free (wc := [(h0, kO9 h1 h2 h3 n0_size), (h1, kAi cint 40 f1)]) hD hS hA [0, 1] rfl
          refine va_calli (va_runV (As := [.int (((100 * i_1_1) + i_1_0) - 1)]) (rest := []) ⟨hx, hb, hml, hown, hts⟩ (g_X9_length_0 l dC dI h0 h1 h2 h3 cint H.size (((100 * i_1_1) + i_1_0) - 1) n0_size f1 tn0_size) (cwV 1 hts gX9_longestAbove_X9_length rfl rfl rfl ⟨rfl, kh_X9_length⟩ ⟨Nat.le_of_ble_eq_true rfl, Nat.le_of_ble_eq_true rfl⟩) ⟨fun a U g mk q => by obtain ⟨q0, q1, qP, qK, qD⟩ := q; exact ⟨q0, q1, qP, va_K.moved (u := U) (U := U.calling g mk a) (Vm.Alike.refl U.vm) qK, qD⟩, va_recv hKc hPc (ci := 9) (q0 := 0) rfl rfl, fun U hU hW => ⟨rfl, by rw [hU], by rw [hU]; exact hPc, va_K.moved hW.alike hKc, hDc.weaken (fun _ _ _ _ => trivial)⟩⟩ rfl rfl hl.1 rfl (lv_room (Nat.le_of_ble_eq_true rfl)) dX9_longestAbove_67 ⟨Nat.le_of_ble_eq_true rfl, Nat.le_of_ble_eq_true rfl⟩) hS (fun q _ h => hFc q h) hFc (fun r_133 u t H1 locs ht hvm hw hB hz1 hk1 hS => ?_)
          obtain ⟨hP1, hK1, hD1⟩ := hB
          rw [ht] at hP1
          have hK1 := va_K.moved hvm.symm hK1
          obtain ⟨hP, hD⟩ := va_join (wr := [(h2, kAi cint 40 f2)]) (w1 := [(h0, kO9 h1 h2 h3 n0_size), (h1, kAi cint 40 f1)]) hP hD [0, 1] [2] rfl rfl (by decide) (by decide) hk1 hFc hP1 hD1
          generalize H1 = H at hP hS ⊢
          have hP : va_P (dC, dI) vwCl [(h2, kAi cint 40 f2), (h0, kO9 h1 h2 h3 n0_size), (h1, kAi cint 40 f1)] H := hP
          have hD : va_D A [(h2, kAi cint 40 f2), (h0, kO9 h1 h2 h3 n0_size), (h1, kAi cint 40 f1)] := hD
          refine lv_iload_n hx hb dX9_longestAbove_70 rfl (lv_at hl 3 rfl) ?_
          refine lv_icmp_le (tgt := 84) hx hb dX9_longestAbove_71 (by decide) (fun c_134 => ?_) (fun c_134 => ?_)
          · have t_134 : r_133.toInt ≤ i_1_2.toInt := kk_le c_134
            refine lv_iload hx hb dX9_longestAbove_84 (lv_at hl 1 rfl) ?_
            refine lv_iconst (v := 1) hx hb dX9_longestAbove_86 kk_ic_1 ?_
            refine lv_iadd hx hb dX9_longestAbove_87 ?_
            refine lv_istore hx hb dX9_longestAbove_88 hl (by decide) (rfl : _ = ([(4, .int (i_1_0 + 1)), (6, .int (((100 * i_1_1) + i_1_0) - 1)), (5, .int i_1_0), (3, .int i_1_2), (2, .int i_1_3), (0, .ref h0), (1, .int p0)] : List (Nat × Value))) (fun ls hl => ?_)
            refine lv_iinc (v := (i_1_0 + 1)) hx hb dX9_longestAbove_90 hl (k := 2) rfl (by first | rfl | decide) (by decide) (rfl : _ = ([(5, .int (i_1_0 + 1)), (4, .int (i_1_0 + 1)), (6, .int (((100 * i_1_1) + i_1_0) - 1)), (3, .int i_1_2), (2, .int i_1_3), (0, .ref h0), (1, .int p0)] : List (Nat × Value))) (fun ls hl => ?_)
            refine lv_goto (tgt := 11) hx hb dX9_longestAbove_93 (by decide) ?_
            try have := kk_rng r_133
            try have := kk_rng i_1_2
            try have := kk_rng y_130
            try have := kk_rng p0
            try have := kk_mul2 (x := 100) (y := i_1_1) (a := 100) (b := i_1_1.toInt) rfl rfl (by omega) (by omega)
            try have := kk_add2 (x := (100 * i_1_1)) (y := i_1_0) (a := (100 * i_1_1).toInt) (b := i_1_0.toInt) rfl rfl (by omega) (by omega)
            try have := kk_sub2 (x := ((100 * i_1_1) + i_1_0)) (y := 1) (a := ((100 * i_1_1) + i_1_0).toInt) (b := 1) rfl rfl (by omega) (by omega)
            try have := kk_sub2 (x := i_1_0) (y := i_1_1) (a := i_1_0.toInt) (b := i_1_1.toInt) rfl rfl (by omega) (by omega)
            try have := kk_add2 (x := i_1_0) (y := 1) (a := i_1_0.toInt) (b := 1) rfl rfl (by omega) (by omega)
            exact ih_1 ((i_1_0 + 1), (i_1_0 + 1), i_1_2, i_1_3) _ _ _ (by show ((41 : Int) - ((i_1_0 + 1)).toInt).toNat < ((41 : Int) - i_1_0.toInt).toNat; exact kk_mu (by omega) (by omega)) ⟨(by show 0 ≤ ((i_1_0 + 1) : Int32).toInt ∧ ((i_1_0 + 1) : Int32).toInt ≤ 41; first | decide | ((omega))), (by show 0 ≤ ((i_1_0 + 1) : Int32).toInt ∧ ((i_1_0 + 1) : Int32).toInt ≤ 41; first | decide | ((omega))), (by show (-2) ≤ (i_1_3 : Int32).toInt ∧ (i_1_3 : Int32).toInt ≤ 4139; first | decide | ((omega))), hP.sub [1, 2, 0] rfl, hD.sub [1, 2, 0] (by decide) rfl, hS, lv_sub hl [0, 1, 3, 4, 5, 6] rfl⟩
          · have t_134 : i_1_2.toInt < r_133.toInt := kk_nle c_134
            refine lv_aload_n hx hb dX9_longestAbove_74 rfl (lv_at hl 5 rfl) ?_
            refine lv_iload hx hb dX9_longestAbove_75 (lv_at hl 0 rfl) ?_
            have hPc := kk_Ps (wq := [(h0, kO9 h1 h2 h3 n0_size), (h1, kAi cint 40 f1)]) hP [1, 2] rfl
            have hDc := kk_Ds (wq := [(h0, kO9 h1 h2 h3 n0_size), (h1, kAi cint 40 f1)]) hD [1, 2] (by decide) rfl
            have hKc := kk_Ks (tq := [(cint, .int)]) hK [0] rfl
            have hFc := va_free (wc := [(h0, kO9 h1 h2 h3 n0_size), (h1, kAi cint 40 f1)]) hD hS hA [1, 2] rfl
            refine va_calli (va_runV (As := [.int (((100 * i_1_1) + i_1_0) - 1)]) (rest := []) ⟨hx, hb, hml, hown, hts⟩ (g_X9_length_0 l dC dI h0 h1 h2 h3 cint H.size (((100 * i_1_1) + i_1_0) - 1) n0_size f1 tn0_size) (cwV 1 hts gX9_longestAbove_X9_length rfl rfl rfl ⟨rfl, kh_X9_length⟩ ⟨Nat.le_of_ble_eq_true rfl, Nat.le_of_ble_eq_true rfl⟩) ⟨fun a U g mk q => by obtain ⟨q0, q1, qP, qK, qD⟩ := q; exact ⟨q0, q1, qP, va_K.moved (u := U) (U := U.calling g mk a) (Vm.Alike.refl U.vm) qK, qD⟩, va_recv hKc hPc (ci := 9) (q0 := 0) rfl rfl, fun U hU hW => ⟨rfl, by rw [hU], by rw [hU]; exact hPc, va_K.moved hW.alike hKc, hDc.weaken (fun _ _ _ _ => trivial)⟩⟩ rfl rfl hl.1 rfl (lv_room (Nat.le_of_ble_eq_true rfl)) dX9_longestAbove_77 ⟨Nat.le_of_ble_eq_true rfl, Nat.le_of_ble_eq_true rfl⟩) hS (fun q _ h => hFc q h) hFc (fun r_135 u t H1 locs ht hvm hw hB hz1 hk1 hS => ?_)
            obtain ⟨hP1, hK1, hD1⟩ := hB
            rw [ht] at hP1
            have hK1 := va_K.moved hvm.symm hK1
            obtain ⟨hP, hD⟩ := va_join (wr := [(h2, kAi cint 40 f2)]) (w1 := [(h0, kO9 h1 h2 h3 n0_size), (h1, kAi cint 40 f1)]) hP hD [1, 2] [0] rfl rfl (by decide) (by decide) hk1 hFc hP1 hD1
            generalize H1 = H at hP hS ⊢
            have hP : va_P (dC, dI) vwCl [(h2, kAi cint 40 f2), (h0, kO9 h1 h2 h3 n0_size), (h1, kAi cint 40 f1)] H := hP
            have hD : va_D A [(h2, kAi cint 40 f2), (h0, kO9 h1 h2 h3 n0_size), (h1, kAi cint 40 f1)] := hD
            refine lv_istore_n hx hb dX9_longestAbove_80 rfl hl (by decide) (rfl : _ = ([(3, .int r_135), (6, .int (((100 * i_1_1) + i_1_0) - 1)), (5, .int i_1_0), (4, .int i_1_1), (2, .int i_1_3), (0, .ref h0), (1, .int p0)] : List (Nat × Value))) (fun ls hl => ?_)
            refine lv_iload hx hb dX9_longestAbove_81 (lv_at hl 1 rfl) ?_
            refine lv_istore_n hx hb dX9_longestAbove_83 rfl hl (by decide) (rfl : _ = ([(2, .int (((100 * i_1_1) + i_1_0) - 1)), (3, .int r_135), (6, .int (((100 * i_1_1) + i_1_0) - 1)), (5, .int i_1_0), (4, .int i_1_1), (0, .ref h0), (1, .int p0)] : List (Nat × Value))) (fun ls hl => ?_)
            refine lv_iload hx hb dX9_longestAbove_84 (lv_at hl 3 rfl) ?_
            refine lv_iconst (v := 1) hx hb dX9_longestAbove_86 kk_ic_1 ?_
            refine lv_iadd hx hb dX9_longestAbove_87 ?_
            refine lv_istore hx hb dX9_longestAbove_88 hl (by decide) (rfl : _ = ([(4, .int (i_1_0 + 1)), (2, .int (((100 * i_1_1) + i_1_0) - 1)), (3, .int r_135), (6, .int (((100 * i_1_1) + i_1_0) - 1)), (5, .int i_1_0), (0, .ref h0), (1, .int p0)] : List (Nat × Value))) (fun ls hl => ?_)
            refine lv_iinc (v := (i_1_0 + 1)) hx hb dX9_longestAbove_90 hl (k := 4) rfl (by first | rfl | decide) (by decide) (rfl : _ = ([(5, .int (i_1_0 + 1)), (4, .int (i_1_0 + 1)), (2, .int (((100 * i_1_1) + i_1_0) - 1)), (3, .int r_135), (6, .int (((100 * i_1_1) + i_1_0) - 1)), (0, .ref h0), (1, .int p0)] : List (Nat × Value))) (fun ls hl => ?_)
            refine lv_goto (tgt := 11) hx hb dX9_longestAbove_93 (by decide) ?_
            try have := kk_rng i_1_2
            try have := kk_rng r_133
            try have := kk_rng y_130
            try have := kk_rng p0
            try have := kk_mul2 (x := 100) (y := i_1_1) (a := 100) (b := i_1_1.toInt) rfl rfl (by omega) (by omega)
            try have := kk_add2 (x := (100 * i_1_1)) (y := i_1_0) (a := (100 * i_1_1).toInt) (b := i_1_0.toInt) rfl rfl (by omega) (by omega)
            try have := kk_sub2 (x := ((100 * i_1_1) + i_1_0)) (y := 1) (a := ((100 * i_1_1) + i_1_0).toInt) (b := 1) rfl rfl (by omega) (by omega)
            try have := kk_sub2 (x := i_1_0) (y := i_1_1) (a := i_1_0.toInt) (b := i_1_1.toInt) rfl rfl (by omega) (by omega)
            try have := kk_add2 (x := i_1_0) (y := 1) (a := i_1_0.toInt) (b := 1) rfl rfl (by omega) (by omega)
            exact ih_1 ((i_1_0 + 1), (i_1_0 + 1), r_135, (((100 * i_1_1) + i_1_0) - 1)) _ _ _ (by show ((41 : Int) - ((i_1_0 + 1)).toInt).toNat < ((41 : Int) - i_1_0.toInt).toNat; exact kk_mu (by omega) (by omega)) ⟨(by show 0 ≤ ((i_1_0 + 1) : Int32).toInt ∧ ((i_1_0 + 1) : Int32).toInt ≤ 41; first | decide | ((omega))), (by show 0 ≤ ((i_1_0 + 1) : Int32).toInt ∧ ((i_1_0 + 1) : Int32).toInt ≤ 41; first | decide | ((omega))), (by show (-2) ≤ ((((100 * i_1_1) + i_1_0) - 1) : Int32).toInt ∧ ((((100 * i_1_1) + i_1_0) - 1) : Int32).toInt ≤ 4139; first | decide | ((omega))), hP.sub [1, 2, 0] rfl, hD.sub [1, 2, 0] (by decide) rfl, hS, lv_sub hl [0, 1, 3, 2, 5, 6] rfl⟩
      · have t_131 : p0.toInt < y_130.toInt := kk_nle c_131
        refine lv_goto (tgt := 90) hx hb dX9_longestAbove_40 (by decide) ?_
        refine lv_iinc (v := (i_1_0 + 1)) hx hb dX9_longestAbove_90 hl (k := 0) rfl (by first | rfl | decide) (by decide) (rfl : _ = ([(5, .int (i_1_0 + 1)), (4, .int i_1_1), (3, .int i_1_2), (2, .int i_1_3), (0, .ref h0), (1, .int p0)] : List (Nat × Value))) (fun ls hl => ?_)
        refine lv_goto (tgt := 11) hx hb dX9_longestAbove_93 (by decide) ?_
        try have := kk_rng p0
        try have := kk_rng y_130
        try have := kk_add2 (x := i_1_0) (y := 1) (a := i_1_0.toInt) (b := 1) rfl rfl (by omega) (by omega)
        exact ih_1 ((i_1_0 + 1), i_1_1, i_1_2, i_1_3) _ _ _ (by show ((41 : Int) - ((i_1_0 + 1)).toInt).toNat < ((41 : Int) - i_1_0.toInt).toNat; exact kk_mu (by omega) (by omega)) ⟨(by show 0 ≤ ((i_1_0 + 1) : Int32).toInt ∧ ((i_1_0 + 1) : Int32).toInt ≤ 41; first | decide | ((omega))), (by show 0 ≤ (i_1_1 : Int32).toInt ∧ (i_1_1 : Int32).toInt ≤ 41; first | decide | ((omega))), (by show (-2) ≤ (i_1_3 : Int32).toInt ∧ (i_1_3 : Int32).toInt ≤ 4139; first | decide | ((omega))), hP, hD, hS, lv_sub hl [0, 1, 2, 3, 4, 5] rfl⟩
