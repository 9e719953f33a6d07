set_option maxHeartbeats 4000000 in
set_option maxRecDepth 100000 in
theorem g_X4_quotient_0 (l : Launch) (dC : Nat → ClassId) (dI : Nat → Nat → Nat) (sz : Nat) (p0 : Int32) (p1 : Int32) : Met l yX4_quotient wsX4_quotient ({ frames := 0, cells := 0, slots := 0, locals := 0 }) (va_Pc [.int p0, .int p1] (fun U => U.heap.size = sz ∧ va_P (dC, dI) vwCl [] U.heap ∧ va_K (dC, dI) vwCl [] U ∧ va_D (fun _ => True) [])) (va_Qi (fun (r : Int32) (_ : Unit) => True) (fun (_ : Unit) t => va_P (dC, dI) vwCl [] t.heap ∧ va_K (dC, dI) vwCl [] t ∧ va_D (va_A [] sz) []) (va_A [] sz)) 0 0 (va_A [] sz) := by
  refine Met.ofW (cc := cX4_quotient) (maxL := 2) (ret := (some .int)) (by decide) rfl ?_
  intro p e s m args below meth c s₁ B hml hv
  obtain ⟨rfl, hsz, hP, hK, hD0⟩ := hv
  have hx := B.exec
  have hb := B.bytes
  have hr := B.returns
  have hts := atoms_spec (ws := wsX4_quotient) B.pre
  have hown : s.vm.findClass RX4 = some m.cls := findClass_of_methodNamed B.named
  have hlocks := B.notSynchronized
  subst hsz
  have hD := hD0.self (sz := s.heap.size)
  generalize hAe : va_A [] s.heap.size = A at hD ⊢
  have hA : ∀ q : Nat, s.heap.size ≤ q → A q := fun q h => by rw [← hAe]; exact Or.inr h
  have hS : va_S A s.heap s.heap [] := va_S.rf
  have hP : va_P (dC, dI) vwCl [] s.heap := hP
  have hl := lv_entry ([.int p0, .int p1]) (n := 2) (Nat.le_of_ble_eq_true rfl)
  rw [lg_entry_eq]
  generalize (lg_sl ([.int p0, .int p1]) ++ List.replicate (2 - (lg_sl ([.int p0, .int p1])).length) Slot.unset).toArray = ls at hl ⊢
  have hl : lv_has ls 2 [(0, .int p0), (1, .int p1)] := hl
  refine lv_iload_n hx hb dX4_quotient_0 rfl (lv_at hl 1 rfl) ?_
  refine lv_if_ne (tgt := 8) hx hb dX4_quotient_1 (by decide) (fun c_1 => ?_) (fun c_1 => ?_)
  · have t_1 : p1.toInt ≠ 0 := kk_ne c_1
    refine lv_iload_n hx hb dX4_quotient_8 rfl (lv_at hl 0 rfl) ?_
    refine lv_iload_n hx hb dX4_quotient_9 rfl (lv_at hl 1 rfl) ?_
    refine lv_idiv hx hb dX4_quotient_10 (fun h => by have h : p1.toInt = 0 := kk_eq h; omega) ?_
    refine lv_topi (fun y_2 e_2 => ?_)
    clear e_2
    have hP9 := kk_Ps (wq := []) hP [] rfl
    have hD9 := kk_Ds (wq := []) hD [] (by decide) rfl
    have hK9 := kk_Ks (tq := []) hK [] rfl
    exact W.iret (v := y_2) hx hb hr (fun t ht hW => ⟨⟨y_2, (), rfl, trivial, by rw [ht]; exact hP9, va_K.moved hW.alike hK9, hD9⟩, hS.F ht⟩) hS.2.2 dX4_quotient_11
  · have t_1 : p1.toInt = 0 := kk_eq c_1
    refine lv_iconst (v := 0) hx hb dX4_quotient_4 kk_ic_0 ?_
    refine lv_goto (tgt := 11) hx hb dX4_quotient_5 (by decide) ?_
    have hP9 := kk_Ps (wq := []) hP [] rfl
    have hD9 := kk_Ds (wq := []) hD [] (by decide) rfl
    have hK9 := kk_Ks (tq := []) hK [] rfl
    exact W.iret (v := 0) hx hb hr (fun t ht hW => ⟨⟨0, (), rfl, trivial, by rw [ht]; exact hP9, va_K.moved hW.alike hK9, hD9⟩, hS.F ht⟩) hS.2.2 dX4_quotient_11
set_option maxHeartbeats 4000000 in
set_option maxRecDepth 100000 in
theorem g_X4_learn_0 (l : Launch) (dC : Nat → ClassId) (dI : Nat → Nat → Nat) (h0 : Nat) (h1 : Nat) (h2 : Nat) (h3 : Nat) (h4 : Nat) (h5 : Nat) (h6 : Nat) (h7 : Nat) (cint : ClassId) (sz : Nat) (p1 : Int32) (p2 : Int32) (p3 : Int32) (p4 : Int32) (n0_size : Int32) (n0_top : Int32) (n1_size : Int32) (f2 : Nat → Int32) (f3 : Nat → Int32) (f4 : Nat → Int32) (f5 : Nat → Int32) (tn0_size : kk_bx (0 ≤ n0_size.toInt ∧ n0_size.toInt ≤ 128)) (tn0_top : kk_bx (0 ≤ n0_top.toInt ∧ n0_top.toInt ≤ 64)) (tn1_size : kk_bx (0 ≤ n1_size.toInt ∧ n1_size.toInt ≤ 40)) : Met l yX4_learn wsX4_learn ({ frames := 2, cells := 0, slots := 0, locals := 43 }) (va_Pc [.ref h0, .ref h1, .int p1, .int p2, .int p3, .int p4] (fun U => U.heap.size = sz ∧ va_P (dC, dI) vwCl [(h0, kO4 h6 n0_size h2 h7 n0_top), (h1, kO9 h3 h4 h5 n1_size), (h2, kAi cint 8 f2), (h3, kAi cint 40 f3), (h4, kAi cint 40 f4), (h5, kAi cint 40 f5)] U.heap ∧ va_K (dC, dI) vwCl [(cint, .int)] U ∧ va_D (fun _ => True) [(h0, kO4 h6 n0_size h2 h7 n0_top), (h1, kO9 h3 h4 h5 n1_size), (h2, kAi cint 8 f2), (h3, kAi cint 40 f3), (h4, kAi cint 40 f4), (h5, kAi cint 40 f5)])) (va_Qv (fun (_ : Unit) => True) (fun (_ : Unit) t => ∃ (g2 : Nat → Int32), va_P (dC, dI) vwCl [(h0, kO4 h6 n0_size h2 h7 n0_top), (h1, kO9 h3 h4 h5 n1_size), (h2, kAi cint 8 g2), (h3, kAi cint 40 f3), (h4, kAi cint 40 f4), (h5, kAi cint 40 f5)] t.heap ∧ va_K (dC, dI) vwCl [] t ∧ va_D (va_A [(h0, kO4 h6 n0_size h2 h7 n0_top), (h1, kO9 h3 h4 h5 n1_size), (h2, kAi cint 8 f2), (h3, kAi cint 40 f3), (h4, kAi cint 40 f4), (h5, kAi cint 40 f5)] sz) [(h0, kO4 h6 n0_size h2 h7 n0_top), (h1, kO9 h3 h4 h5 n1_size), (h2, kAi cint 8 g2), (h3, kAi cint 40 f3), (h4, kAi cint 40 f4), (h5, kAi cint 40 f5)]) (va_A [(h0, kO4 h6 n0_size h2 h7 n0_top), (h1, kO9 h3 h4 h5 n1_size), (h2, kAi cint 8 f2), (h3, kAi cint 40 f3), (h4, kAi cint 40 f4), (h5, kAi cint 40 f5)] sz)) 0 0 (va_A [(h0, kO4 h6 n0_size h2 h7 n0_top), (h1, kO9 h3 h4 h5 n1_size), (h2, kAi cint 8 f2), (h3, kAi cint 40 f3), (h4, kAi cint 40 f4), (h5, kAi cint 40 f5)] sz) := by
  refine Met.ofW (cc := cX4_learn) (maxL := 6) (ret := none) (by decide) rfl ?_
  intro p e s m args below meth c s₁ B hml hv
  obtain ⟨rfl, hsz, hP, hK, hD0⟩ := hv
  have hx := B.exec
  have hb := B.bytes
  have hr := B.returns
  have hts := atoms_spec (ws := wsX4_learn) B.pre
  have hown : s.vm.findClass RX4 = some m.cls := findClass_of_methodNamed B.named
  have hlocks := B.notSynchronized
  subst hsz
  have hD := hD0.self (sz := s.heap.size)
  generalize hAe : va_A [(h0, kO4 h6 n0_size h2 h7 n0_top), (h1, kO9 h3 h4 h5 n1_size), (h2, kAi cint 8 f2), (h3, kAi cint 40 f3), (h4, kAi cint 40 f4), (h5, kAi cint 40 f5)] s.heap.size = A at hD ⊢
  have hA : ∀ q : Nat, s.heap.size ≤ q → A q := fun q h => by rw [← hAe]; exact Or.inr h
  have hS : va_S A s.heap s.heap [] := va_S.rf
  have hP : va_P (dC, dI) vwCl [(h0, kO4 h6 n0_size h2 h7 n0_top), (h1, kO9 h3 h4 h5 n1_size), (h2, kAi cint 8 f2), (h3, kAi cint 40 f3), (h4, kAi cint 40 f4), (h5, kAi cint 40 f5)] s.heap := hP
  have hl := lv_entry ([.ref h0, .ref h1, .int p1, .int p2, .int p3, .int p4]) (n := 6) (Nat.le_of_ble_eq_true rfl)
  rw [lg_entry_eq]
  generalize (lg_sl ([.ref h0, .ref h1, .int p1, .int p2, .int p3, .int p4]) ++ List.replicate (6 - (lg_sl ([.ref h0, .ref h1, .int p1, .int p2, .int p3, .int p4])).length) Slot.unset).toArray = ls at hl ⊢
  have hl : lv_has ls 6 [(0, .ref h0), (1, .ref h1), (2, .int p1), (3, .int p2), (4, .int p3), (5, .int p4)] := hl
  refine lv_aload_n hx hb dX4_learn_0 rfl (lv_at hl 0 rfl) ?_
  refine va_get (D := (dC, dI)) (ci := 4) (v := .ref h2) (C := RX4) (T := TX4) (N := 5) hx hb hts (fun _ h => List.mem_cons_of_mem _ (List.mem_append_left _ (List.mem_append_right _ h))) hown hK hP 0 rfl rfl 2 (by decide) (hts (.fieldLink RX4 19 "KinkStreet$Law" "known" "[I") (List.mem_of_getElem? (i := 1) rfl)) (fun _ h9 => h9) rfl dX4_learn_1 ?_
  refine lv_iconst (v := 0) hx hb dX4_learn_4 kk_ic_0 ?_
  refine lv_aload_n hx hb dX4_learn_5 rfl (lv_at hl 1 rfl) ?_
  refine lv_iload_n hx hb dX4_learn_6 rfl (lv_at hl 2 rfl) ?_
  have hPc := kk_Ps (wq := [(h1, kO9 h3 h4 h5 n1_size), (h3, kAi cint 40 f3)]) hP [1, 3] rfl
  have hDc := kk_Ds (wq := [(h1, kO9 h3 h4 h5 n1_size), (h3, kAi cint 40 f3)]) hD [1, 3] (by decide) rfl
  have hKc := kk_Ks (tq := [(cint, .int)]) hK [0] rfl
  have hFc := va_free (wc := [(h1, kO9 h3 h4 h5 n1_size), (h3, kAi cint 40 f3)]) hD hS hA [1, 3] rfl
  refine va_calli (va_runV (As := [.int p1]) (rest := [.int 0, .ref h2]) ⟨hx, hb, hml, hown, hts⟩ (g_X9_width_0 l dC dI h1 h3 h4 h5 cint s.heap.size p1 n1_size f3 tn1_size) (cwV 1 hts gX4_learn_X9_width rfl rfl rfl ⟨rfl, kh_X9_width⟩ ⟨Nat.le_of_ble_eq_true rfl, Nat.le_of_ble_eq_true rfl⟩) ⟨fun a U g mk q => by obtain ⟨q0, q1, qP, qK, qD⟩ := q; exact ⟨q0, q1, qP, va_K.moved (u := U) (U := U.calling g mk a) (Vm.Alike.refl U.vm) qK, qD⟩, va_recv hKc hPc (ci := 9) (q0 := 0) rfl rfl, fun U hU hW => ⟨rfl, by rw [hU], by rw [hU]; exact hPc, va_K.moved hW.alike hKc, hDc.weaken (fun _ _ _ _ => trivial)⟩⟩ rfl rfl hl.1 rfl (lv_room (Nat.le_of_ble_eq_true rfl)) dX4_learn_7 ⟨Nat.le_of_ble_eq_true rfl, Nat.le_of_ble_eq_true rfl⟩) hS (fun q _ h => hFc q h) hFc (fun r_1 u t H1 locs ht hvm hw hB hz1 hk1 hS => ?_)
  obtain ⟨hP1, hK1, hD1⟩ := hB
  rw [ht] at hP1
  have hK1 := va_K.moved hvm.symm hK1
  obtain ⟨hP, hD⟩ := va_join (wr := [(h0, kO4 h6 n0_size h2 h7 n0_top), (h2, kAi cint 8 f2), (h4, kAi cint 40 f4), (h5, kAi cint 40 f5)]) (w1 := [(h1, kO9 h3 h4 h5 n1_size), (h3, kAi cint 40 f3)]) hP hD [1, 3] [0, 2, 4, 5] rfl rfl (by decide) (by decide) hk1 hFc hP1 hD1
  generalize H1 = H at hP hS ⊢
  have hP : va_P (dC, dI) vwCl [(h0, kO4 h6 n0_size h2 h7 n0_top), (h2, kAi cint 8 f2), (h4, kAi cint 40 f4), (h5, kAi cint 40 f5), (h1, kO9 h3 h4 h5 n1_size), (h3, kAi cint 40 f3)] H := hP
  have hD : va_D A [(h0, kO4 h6 n0_size h2 h7 n0_top), (h2, kAi cint 8 f2), (h4, kAi cint 40 f4), (h5, kAi cint 40 f5), (h1, kO9 h3 h4 h5 n1_size), (h3, kAi cint 40 f3)] := hD
  refine va_iast hx hb hK hP hD hS 1 0 rfl rfl (by unfold vp_in; decide) dX4_learn_10 (fun H locs hP hD hS => ?_)
  generalize upd f2 (0 : Int32).toNatClampNeg r_1 = f_2 at hP hD
  have hP : va_P (dC, dI) vwCl [(h0, kO4 h6 n0_size h2 h7 n0_top), (h2, kAi cint 8 f_2), (h4, kAi cint 40 f4), (h5, kAi cint 40 f5), (h1, kO9 h3 h4 h5 n1_size), (h3, kAi cint 40 f3)] H := hP
  have hD : va_D A [(h0, kO4 h6 n0_size h2 h7 n0_top), (h2, kAi cint 8 f_2), (h4, kAi cint 40 f4), (h5, kAi cint 40 f5), (h1, kO9 h3 h4 h5 n1_size), (h3, kAi cint 40 f3)] := hD
  refine lv_aload_n hx hb dX4_learn_11 rfl (lv_at hl 0 rfl) ?_
  refine va_get (D := (dC, dI)) (ci := 4) (v := .ref h2) (C := RX4) (T := TX4) (N := 5) hx hb hts (fun _ h => List.mem_cons_of_mem _ (List.mem_append_left _ (List.mem_append_right _ h))) hown hK hP 0 rfl rfl 2 (by decide) (hts (.fieldLink RX4 19 "KinkStreet$Law" "known" "[I") (List.mem_of_getElem? (i := 1) rfl)) (fun _ h9 => h9) rfl dX4_learn_12 ?_
  refine lv_iconst (v := 1) hx hb dX4_learn_15 kk_ic_1 ?_
  refine lv_aload_n hx hb dX4_learn_16 rfl (lv_at hl 1 rfl) ?_
  refine lv_iload_n hx hb dX4_learn_17 rfl (lv_at hl 2 rfl) ?_
  refine lv_iconst (v := 1) hx hb dX4_learn_18 kk_ic_1 ?_
  refine lv_iadd hx hb dX4_learn_19 ?_
  have hPc := kk_Ps (wq := [(h1, kO9 h3 h4 h5 n1_size), (h3, kAi cint 40 f3)]) hP [4, 5] rfl
  have hDc := kk_Ds (wq := [(h1, kO9 h3 h4 h5 n1_size), (h3, kAi cint 40 f3)]) hD [4, 5] (by decide) rfl
  have hKc := kk_Ks (tq := [(cint, .int)]) hK [0] rfl
  have hFc := va_free (wc := [(h1, kO9 h3 h4 h5 n1_size), (h3, kAi cint 40 f3)]) hD hS hA [4, 5] rfl
  refine va_calli (va_runV (As := [.int (p1 + 1)]) (rest := [.int 1, .ref h2]) ⟨hx, hb, hml, hown, hts⟩ (g_X9_width_0 l dC dI h1 h3 h4 h5 cint H.size (p1 + 1) n1_size f3 tn1_size) (cwV 1 hts gX4_learn_X9_width rfl rfl rfl ⟨rfl, kh_X9_width⟩ ⟨Nat.le_of_ble_eq_true rfl, Nat.le_of_ble_eq_true rfl⟩) ⟨fun a U g mk q => by obtain ⟨q0, q1, qP, qK, qD⟩ := q; exact ⟨q0, q1, qP, va_K.moved (u := U) (U := U.calling g mk a) (Vm.Alike.refl U.vm) qK, qD⟩, va_recv hKc hPc (ci := 9) (q0 := 0) rfl rfl, fun U hU hW => ⟨rfl, by rw [hU], by rw [hU]; exact hPc, va_K.moved hW.alike hKc, hDc.weaken (fun _ _ _ _ => trivial)⟩⟩ rfl rfl hl.1 rfl (lv_room (Nat.le_of_ble_eq_true rfl)) dX4_learn_20 ⟨Nat.le_of_ble_eq_true rfl, Nat.le_of_ble_eq_true rfl⟩) hS (fun q _ h => hFc q h) hFc (fun r_3 u t H1 locs ht hvm hw hB hz1 hk1 hS => ?_)
  obtain ⟨hP1, hK1, hD1⟩ := hB
  rw [ht] at hP1
  have hK1 := va_K.moved hvm.symm hK1
  obtain ⟨hP, hD⟩ := va_join (wr := [(h0, kO4 h6 n0_size h2 h7 n0_top), (h2, kAi cint 8 f_2), (h4, kAi cint 40 f4), (h5, kAi cint 40 f5)]) (w1 := [(h1, kO9 h3 h4 h5 n1_size), (h3, kAi cint 40 f3)]) hP hD [4, 5] [0, 1, 2, 3] rfl rfl (by decide) (by decide) hk1 hFc hP1 hD1
  generalize H1 = H at hP hS ⊢
  have hP : va_P (dC, dI) vwCl [(h0, kO4 h6 n0_size h2 h7 n0_top), (h2, kAi cint 8 f_2), (h4, kAi cint 40 f4), (h5, kAi cint 40 f5), (h1, kO9 h3 h4 h5 n1_size), (h3, kAi cint 40 f3)] H := hP
  have hD : va_D A [(h0, kO4 h6 n0_size h2 h7 n0_top), (h2, kAi cint 8 f_2), (h4, kAi cint 40 f4), (h5, kAi cint 40 f5), (h1, kO9 h3 h4 h5 n1_size), (h3, kAi cint 40 f3)] := hD
  refine va_iast hx hb hK hP hD hS 1 0 rfl rfl (by unfold vp_in; decide) dX4_learn_23 (fun H locs hP hD hS => ?_)
  generalize upd f_2 (1 : Int32).toNatClampNeg r_3 = f_4 at hP hD
  have hP : va_P (dC, dI) vwCl [(h0, kO4 h6 n0_size h2 h7 n0_top), (h2, kAi cint 8 f_4), (h4, kAi cint 40 f4), (h5, kAi cint 40 f5), (h1, kO9 h3 h4 h5 n1_size), (h3, kAi cint 40 f3)] H := hP
  have hD : va_D A [(h0, kO4 h6 n0_size h2 h7 n0_top), (h2, kAi cint 8 f_4), (h4, kAi cint 40 f4), (h5, kAi cint 40 f5), (h1, kO9 h3 h4 h5 n1_size), (h3, kAi cint 40 f3)] := hD
  refine lv_aload_n hx hb dX4_learn_24 rfl (lv_at hl 0 rfl) ?_
  refine va_get (D := (dC, dI)) (ci := 4) (v := .ref h2) (C := RX4) (T := TX4) (N := 5) hx hb hts (fun _ h => List.mem_cons_of_mem _ (List.mem_append_left _ (List.mem_append_right _ h))) hown hK hP 0 rfl rfl 2 (by decide) (hts (.fieldLink RX4 19 "KinkStreet$Law" "known" "[I") (List.mem_of_getElem? (i := 1) rfl)) (fun _ h9 => h9) rfl dX4_learn_25 ?_
  refine lv_iconst (v := 2) hx hb dX4_learn_28 kk_ic_2 ?_
  refine lv_aload_n hx hb dX4_learn_29 rfl (lv_at hl 1 rfl) ?_
  refine lv_iconst (v := 1) hx hb dX4_learn_30 kk_ic_1 ?_
  refine lv_iload_n hx hb dX4_learn_31 rfl (lv_at hl 2 rfl) ?_
  have hPc := kk_Ps (wq := [(h1, kO9 h3 h4 h5 n1_size), (h3, kAi cint 40 f3), (h4, kAi cint 40 f4), (h5, kAi cint 40 f5)]) hP [4, 5, 2, 3] rfl
  have hDc := kk_Ds (wq := [(h1, kO9 h3 h4 h5 n1_size), (h3, kAi cint 40 f3), (h4, kAi cint 40 f4), (h5, kAi cint 40 f5)]) hD [4, 5, 2, 3] (by decide) rfl
  have hKc := kk_Ks (tq := [(cint, .int)]) hK [0] rfl
  have hFc := va_free (wc := [(h1, kO9 h3 h4 h5 n1_size), (h3, kAi cint 40 f3), (h4, kAi cint 40 f4), (h5, kAi cint 40 f5)]) hD hS hA [4, 5, 2, 3] rfl
  refine va_calli (va_runV (As := [.int 1, .int p1]) (rest := [.int 2, .ref h2]) ⟨hx, hb, hml, hown, hts⟩ (g_X9_fact_0 l dC dI h1 h3 h4 h5 cint H.size 1 p1 n1_size f3 f4 f5 tn1_size) (cwV 2 hts gX4_learn_X9_fact rfl rfl rfl ⟨rfl, kh_X9_fact⟩ ⟨Nat.le_of_ble_eq_true rfl, Nat.le_of_ble_eq_true rfl⟩) ⟨fun a U g mk q => by obtain ⟨q0, q1, qP, qK, qD⟩ := q; exact ⟨q0, q1, qP, va_K.moved (u := U) (U := U.calling g mk a) (Vm.Alike.refl U.vm) qK, qD⟩, va_recv hKc hPc (ci := 9) (q0 := 0) rfl rfl, fun U hU hW => ⟨rfl, by rw [hU], by rw [hU]; exact hPc, va_K.moved hW.alike hKc, hDc.weaken (fun _ _ _ _ => trivial)⟩⟩ rfl rfl hl.1 rfl (lv_room (Nat.le_of_ble_eq_true rfl)) dX4_learn_32 ⟨Nat.le_of_ble_eq_true rfl, Nat.le_of_ble_eq_true rfl⟩) hS (fun q _ h => hFc q h) hFc (fun r_5 u t H1 locs ht hvm hw hB hz1 hk1 hS => ?_)
  obtain ⟨hP1, hK1, hD1⟩ := hB
  rw [ht] at hP1
  have hK1 := va_K.moved hvm.symm hK1
  obtain ⟨hP, hD⟩ := va_join (wr := [(h0, kO4 h6 n0_size h2 h7 n0_top), (h2, kAi cint 8 f_4)]) (w1 := [(h1, kO9 h3 h4 h5 n1_size), (h3, kAi cint 40 f3), (h4, kAi cint 40 f4), (h5, kAi cint 40 f5)]) hP hD [4, 5, 2, 3] [0, 1] rfl rfl (by decide) (by decide) hk1 hFc hP1 hD1
  generalize H1 = H at hP hS ⊢
  have hP : va_P (dC, dI) vwCl [(h0, kO4 h6 n0_size h2 h7 n0_top), (h2, kAi cint 8 f_4), (h1, kO9 h3 h4 h5 n1_size), (h3, kAi cint 40 f3), (h4, kAi cint 40 f4), (h5, kAi cint 40 f5)] H := hP
  have hD : va_D A [(h0, kO4 h6 n0_size h2 h7 n0_top), (h2, kAi cint 8 f_4), (h1, kO9 h3 h4 h5 n1_size), (h3, kAi cint 40 f3), (h4, kAi cint 40 f4), (h5, kAi cint 40 f5)] := hD
  refine va_iast hx hb hK hP hD hS 1 0 rfl rfl (by unfold vp_in; decide) dX4_learn_35 (fun H locs hP hD hS => ?_)
  generalize upd f_4 (2 : Int32).toNatClampNeg r_5 = f_6 at hP hD
  have hP : va_P (dC, dI) vwCl [(h0, kO4 h6 n0_size h2 h7 n0_top), (h2, kAi cint 8 f_6), (h1, kO9 h3 h4 h5 n1_size), (h3, kAi cint 40 f3), (h4, kAi cint 40 f4), (h5, kAi cint 40 f5)] H := hP
  have hD : va_D A [(h0, kO4 h6 n0_size h2 h7 n0_top), (h2, kAi cint 8 f_6), (h1, kO9 h3 h4 h5 n1_size), (h3, kAi cint 40 f3), (h4, kAi cint 40 f4), (h5, kAi cint 40 f5)] := hD
  refine lv_aload_n hx hb dX4_learn_36 rfl (lv_at hl 0 rfl) ?_
  refine va_get (D := (dC, dI)) (ci := 4) (v := .ref h2) (C := RX4) (T := TX4) (N := 5) hx hb hts (fun _ h => List.mem_cons_of_mem _ (List.mem_append_left _ (List.mem_append_right _ h))) hown hK hP 0 rfl rfl 2 (by decide) (hts (.fieldLink RX4 19 "KinkStreet$Law" "known" "[I") (List.mem_of_getElem? (i := 1) rfl)) (fun _ h9 => h9) rfl dX4_learn_37 ?_
  refine lv_iconst (v := 3) hx hb dX4_learn_40 kk_ic_3 ?_
  refine lv_iload_n hx hb dX4_learn_41 rfl (lv_at hl 3 rfl) ?_
  refine va_iast hx hb hK hP hD hS 1 0 rfl rfl (by unfold vp_in; decide) dX4_learn_42 (fun H locs hP hD hS => ?_)
  generalize upd f_6 (3 : Int32).toNatClampNeg p2 = f_7 at hP hD
  have hP : va_P (dC, dI) vwCl [(h0, kO4 h6 n0_size h2 h7 n0_top), (h2, kAi cint 8 f_7), (h1, kO9 h3 h4 h5 n1_size), (h3, kAi cint 40 f3), (h4, kAi cint 40 f4), (h5, kAi cint 40 f5)] H := hP
  have hD : va_D A [(h0, kO4 h6 n0_size h2 h7 n0_top), (h2, kAi cint 8 f_7), (h1, kO9 h3 h4 h5 n1_size), (h3, kAi cint 40 f3), (h4, kAi cint 40 f4), (h5, kAi cint 40 f5)] := hD
  refine lv_aload_n hx hb dX4_learn_43 rfl (lv_at hl 0 rfl) ?_
  refine va_get (D := (dC, dI)) (ci := 4) (v := .ref h2) (C := RX4) (T := TX4) (N := 5) hx hb hts (fun _ h => List.mem_cons_of_mem _ (List.mem_append_left _ (List.mem_append_right _ h))) hown hK hP 0 rfl rfl 2 (by decide) (hts (.fieldLink RX4 19 "KinkStreet$Law" "known" "[I") (List.mem_of_getElem? (i := 1) rfl)) (fun _ h9 => h9) rfl dX4_learn_44 ?_
  refine lv_iconst (v := 4) hx hb dX4_learn_47 kk_ic_4 ?_
  refine lv_iload hx hb dX4_learn_48 (lv_at hl 4 rfl) ?_
  refine va_iast hx hb hK hP hD hS 1 0 rfl rfl (by unfold vp_in; decide) dX4_learn_50 (fun H locs hP hD hS => ?_)
  generalize upd f_7 (4 : Int32).toNatClampNeg p3 = f_8 at hP hD
  have hP : va_P (dC, dI) vwCl [(h0, kO4 h6 n0_size h2 h7 n0_top), (h2, kAi cint 8 f_8), (h1, kO9 h3 h4 h5 n1_size), (h3, kAi cint 40 f3), (h4, kAi cint 40 f4), (h5, kAi cint 40 f5)] H := hP
  have hD : va_D A [(h0, kO4 h6 n0_size h2 h7 n0_top), (h2, kAi cint 8 f_8), (h1, kO9 h3 h4 h5 n1_size), (h3, kAi cint 40 f3), (h4, kAi cint 40 f4), (h5, kAi cint 40 f5)] := hD
  refine lv_aload_n hx hb dX4_learn_51 rfl (lv_at hl 0 rfl) ?_
  refine va_get (D := (dC, dI)) (ci := 4) (v := .ref h2) (C := RX4) (T := TX4) (N := 5) hx hb hts (fun _ h => List.mem_cons_of_mem _ (List.mem_append_left _ (List.mem_append_right _ h))) hown hK hP 0 rfl rfl 2 (by decide) (hts (.fieldLink RX4 19 "KinkStreet$Law" "known" "[I") (List.mem_of_getElem? (i := 1) rfl)) (fun _ h9 => h9) rfl dX4_learn_52 ?_
  refine lv_iconst (v := 5) hx hb dX4_learn_55 kk_ic_5 ?_
  refine lv_aload_n hx hb dX4_learn_56 rfl (lv_at hl 1 rfl) ?_
  refine lv_iload_n hx hb dX4_learn_57 rfl (lv_at hl 2 rfl) ?_
  have hPc := kk_Ps (wq := [(h1, kO9 h3 h4 h5 n1_size), (h3, kAi cint 40 f3)]) hP [2, 3] rfl
  have hDc := kk_Ds (wq := [(h1, kO9 h3 h4 h5 n1_size), (h3, kAi cint 40 f3)]) hD [2, 3] (by decide) rfl
  have hKc := kk_Ks (tq := [(cint, .int)]) hK [0] rfl
  have hFc := va_free (wc := [(h1, kO9 h3 h4 h5 n1_size), (h3, kAi cint 40 f3)]) hD hS hA [2, 3] rfl
  refine va_calli (va_runV (As := [.int p1]) (rest := [.int 5, .ref h2]) ⟨hx, hb, hml, hown, hts⟩ (g_X9_width_0 l dC dI h1 h3 h4 h5 cint H.size p1 n1_size f3 tn1_size) (cwV 1 hts gX4_learn_X9_width rfl rfl rfl ⟨rfl, kh_X9_width⟩ ⟨Nat.le_of_ble_eq_true rfl, Nat.le_of_ble_eq_true rfl⟩) ⟨fun a U g mk q => by obtain ⟨q0, q1, qP, qK, qD⟩ := q; exact ⟨q0, q1, qP, va_K.moved (u := U) (U := U.calling g mk a) (Vm.Alike.refl U.vm) qK, qD⟩, va_recv hKc hPc (ci := 9) (q0 := 0) rfl rfl, fun U hU hW => ⟨rfl, by rw [hU], by rw [hU]; exact hPc, va_K.moved hW.alike hKc, hDc.weaken (fun _ _ _ _ => trivial)⟩⟩ rfl rfl hl.1 rfl (lv_room (Nat.le_of_ble_eq_true rfl)) dX4_learn_58 ⟨Nat.le_of_ble_eq_true rfl, Nat.le_of_ble_eq_true rfl⟩) hS (fun q _ h => hFc q h) hFc (fun r_9 u t H1 locs ht hvm hw hB hz1 hk1 hS => ?_)
  obtain ⟨hP1, hK1, hD1⟩ := hB
  rw [ht] at hP1
  have hK1 := va_K.moved hvm.symm hK1
  obtain ⟨hP, hD⟩ := va_join (wr := [(h0, kO4 h6 n0_size h2 h7 n0_top), (h2, kAi cint 8 f_8), (h4, kAi cint 40 f4), (h5, kAi cint 40 f5)]) (w1 := [(h1, kO9 h3 h4 h5 n1_size), (h3, kAi cint 40 f3)]) hP hD [2, 3] [0, 1, 4, 5] rfl rfl (by decide) (by decide) hk1 hFc hP1 hD1
  generalize H1 = H at hP hS ⊢
  have hP : va_P (dC, dI) vwCl [(h0, kO4 h6 n0_size h2 h7 n0_top), (h2, kAi cint 8 f_8), (h4, kAi cint 40 f4), (h5, kAi cint 40 f5), (h1, kO9 h3 h4 h5 n1_size), (h3, kAi cint 40 f3)] H := hP
  have hD : va_D A [(h0, kO4 h6 n0_size h2 h7 n0_top), (h2, kAi cint 8 f_8), (h4, kAi cint 40 f4), (h5, kAi cint 40 f5), (h1, kO9 h3 h4 h5 n1_size), (h3, kAi cint 40 f3)] := hD
  refine lv_iload hx hb dX4_learn_61 (lv_at hl 5 rfl) ?_
  have hPc := kk_Ps (wq := []) hP [] rfl
  have hDc := kk_Ds (wq := []) hD [] (by decide) rfl
  have hKc := kk_Ks (tq := []) hK [] rfl
  have hFc := va_free (wc := []) hD hS hA [] rfl
  refine va_calli (va_runS (As := [.int r_9, .int p4]) (rest := [.int 5, .ref h2]) ⟨hx, hb, hml, hown, hts⟩ (g_X4_quotient_0 l dC dI H.size r_9 p4) (va_cwS 2 hts gX4_learn_X4_quotient rfl rfl rfl kh_X4_quotient ⟨Nat.le_of_ble_eq_true rfl, Nat.le_of_ble_eq_true rfl⟩) ⟨fun a U g mk q => by obtain ⟨q0, q1, qP, qK, qD⟩ := q; exact ⟨q0, q1, qP, va_K.moved (u := U) (U := U.calling g mk a) (Vm.Alike.refl U.vm) qK, qD⟩, fun U hU hW => ⟨rfl, by rw [hU], by rw [hU]; exact hPc, va_K.moved hW.alike hKc, hDc.weaken (fun _ _ _ _ => trivial)⟩⟩ rfl rfl hl.1 rfl (lv_room (Nat.le_of_ble_eq_true rfl)) dX4_learn_63 ⟨Nat.le_of_ble_eq_true rfl, Nat.le_of_ble_eq_true rfl⟩) hS (fun q _ h => hFc q h) hFc (fun r_10 u t H1 locs ht hvm hw hB hz1 hk1 hS => ?_)
  obtain ⟨hP1, hK1, hD1⟩ := hB
  rw [ht] at hP1
  have hK1 := va_K.moved hvm.symm hK1
  obtain ⟨hP, hD⟩ := va_join (wr := [(h0, kO4 h6 n0_size h2 h7 n0_top), (h2, kAi cint 8 f_8), (h4, kAi cint 40 f4), (h5, kAi cint 40 f5), (h1, kO9 h3 h4 h5 n1_size), (h3, kAi cint 40 f3)]) (w1 := []) hP hD [] [0, 1, 2, 3, 4, 5] rfl rfl (by decide) (by decide) hk1 hFc hP1 hD1
  generalize H1 = H at hP hS ⊢
  have hP : va_P (dC, dI) vwCl [(h0, kO4 h6 n0_size h2 h7 n0_top), (h2, kAi cint 8 f_8), (h4, kAi cint 40 f4), (h5, kAi cint 40 f5), (h1, kO9 h3 h4 h5 n1_size), (h3, kAi cint 40 f3)] H := hP
  have hD : va_D A [(h0, kO4 h6 n0_size h2 h7 n0_top), (h2, kAi cint 8 f_8), (h4, kAi cint 40 f4), (h5, kAi cint 40 f5), (h1, kO9 h3 h4 h5 n1_size), (h3, kAi cint 40 f3)] := hD
  refine va_iast hx hb hK hP hD hS 1 0 rfl rfl (by unfold vp_in; decide) dX4_learn_66 (fun H locs hP hD hS => ?_)
  generalize upd f_8 (5 : Int32).toNatClampNeg r_10 = f_11 at hP hD
  have hP : va_P (dC, dI) vwCl [(h0, kO4 h6 n0_size h2 h7 n0_top), (h2, kAi cint 8 f_11), (h4, kAi cint 40 f4), (h5, kAi cint 40 f5), (h1, kO9 h3 h4 h5 n1_size), (h3, kAi cint 40 f3)] H := hP
  have hD : va_D A [(h0, kO4 h6 n0_size h2 h7 n0_top), (h2, kAi cint 8 f_11), (h4, kAi cint 40 f4), (h5, kAi cint 40 f5), (h1, kO9 h3 h4 h5 n1_size), (h3, kAi cint 40 f3)] := hD
  refine lv_aload_n hx hb dX4_learn_67 rfl (lv_at hl 0 rfl) ?_
  refine va_get (D := (dC, dI)) (ci := 4) (v := .ref h2) (C := RX4) (T := TX4) (N := 5) hx hb hts (fun _ h => List.mem_cons_of_mem _ (List.mem_append_left _ (List.mem_append_right _ h))) hown hK hP 0 rfl rfl 2 (by decide) (hts (.fieldLink RX4 19 "KinkStreet$Law" "known" "[I") (List.mem_of_getElem? (i := 1) rfl)) (fun _ h9 => h9) rfl dX4_learn_68 ?_
  refine lv_bipush (v := 6) hx hb dX4_learn_71 kk_bi_6 ?_
  refine lv_iload_n hx hb dX4_learn_73 rfl (lv_at hl 2 rfl) ?_
  refine va_iast hx hb hK hP hD hS 1 0 rfl rfl (by unfold vp_in; decide) dX4_learn_74 (fun H locs hP hD hS => ?_)
  generalize upd f_11 (6 : Int32).toNatClampNeg p1 = f_12 at hP hD
  have hP : va_P (dC, dI) vwCl [(h0, kO4 h6 n0_size h2 h7 n0_top), (h2, kAi cint 8 f_12), (h4, kAi cint 40 f4), (h5, kAi cint 40 f5), (h1, kO9 h3 h4 h5 n1_size), (h3, kAi cint 40 f3)] H := hP
  have hD : va_D A [(h0, kO4 h6 n0_size h2 h7 n0_top), (h2, kAi cint 8 f_12), (h4, kAi cint 40 f4), (h5, kAi cint 40 f5), (h1, kO9 h3 h4 h5 n1_size), (h3, kAi cint 40 f3)] := hD
  refine lv_aload_n hx hb dX4_learn_75 rfl (lv_at hl 0 rfl) ?_
  refine va_get (D := (dC, dI)) (ci := 4) (v := .ref h2) (C := RX4) (T := TX4) (N := 5) hx hb hts (fun _ h => List.mem_cons_of_mem _ (List.mem_append_left _ (List.mem_append_right _ h))) hown hK hP 0 rfl rfl 2 (by decide) (hts (.fieldLink RX4 19 "KinkStreet$Law" "known" "[I") (List.mem_of_getElem? (i := 1) rfl)) (fun _ h9 => h9) rfl dX4_learn_76 ?_
  refine lv_bipush (v := 7) hx hb dX4_learn_79 kk_bi_7 ?_
  refine lv_aload_n hx hb dX4_learn_81 rfl (lv_at hl 1 rfl) ?_
  have hPc := kk_Ps (wq := [(h1, kO9 h3 h4 h5 n1_size)]) hP [4] rfl
  have hDc := kk_Ds (wq := [(h1, kO9 h3 h4 h5 n1_size)]) hD [4] (by decide) rfl
  have hKc := kk_Ks (tq := []) hK [] rfl
  have hFc := va_free (wc := [(h1, kO9 h3 h4 h5 n1_size)]) hD hS hA [4] rfl
  refine va_calli (va_runV (As := []) (rest := [.int 7, .ref h2]) ⟨hx, hb, hml, hown, hts⟩ (g_X9_size_0 l dC dI h1 h3 h4 h5 H.size n1_size tn1_size) (cwV 0 hts gX4_learn_X9_size rfl rfl rfl ⟨rfl, kh_X9_size⟩ ⟨Nat.le_of_ble_eq_true rfl, Nat.le_of_ble_eq_true rfl⟩) ⟨fun a U g mk q => by obtain ⟨q0, q1, qP, qK, qD⟩ := q; exact ⟨q0, q1, qP, va_K.moved (u := U) (U := U.calling g mk a) (Vm.Alike.refl U.vm) qK, qD⟩, va_recv hKc hPc (ci := 9) (q0 := 0) rfl rfl, fun U hU hW => ⟨rfl, by rw [hU], by rw [hU]; exact hPc, va_K.moved hW.alike hKc, hDc.weaken (fun _ _ _ _ => trivial)⟩⟩ rfl rfl hl.1 rfl (lv_room (Nat.le_of_ble_eq_true rfl)) dX4_learn_82 ⟨Nat.le_of_ble_eq_true rfl, Nat.le_of_ble_eq_true rfl⟩) hS (fun q _ h => hFc q h) hFc (fun r_13 u t H1 locs ht hvm hw hB hz1 hk1 hS => ?_)
  obtain ⟨hP1, hK1, hD1⟩ := hB
  rw [ht] at hP1
  have hK1 := va_K.moved hvm.symm hK1
  obtain ⟨hP, hD⟩ := va_join (wr := [(h0, kO4 h6 n0_size h2 h7 n0_top), (h2, kAi cint 8 f_12), (h4, kAi cint 40 f4), (h5, kAi cint 40 f5), (h3, kAi cint 40 f3)]) (w1 := [(h1, kO9 h3 h4 h5 n1_size)]) hP hD [4] [0, 1, 2, 3, 5] rfl rfl (by decide) (by decide) hk1 hFc hP1 hD1
  generalize H1 = H at hP hS ⊢
  have hP : va_P (dC, dI) vwCl [(h0, kO4 h6 n0_size h2 h7 n0_top), (h2, kAi cint 8 f_12), (h4, kAi cint 40 f4), (h5, kAi cint 40 f5), (h3, kAi cint 40 f3), (h1, kO9 h3 h4 h5 n1_size)] H := hP
  have hD : va_D A [(h0, kO4 h6 n0_size h2 h7 n0_top), (h2, kAi cint 8 f_12), (h4, kAi cint 40 f4), (h5, kAi cint 40 f5), (h3, kAi cint 40 f3), (h1, kO9 h3 h4 h5 n1_size)] := hD
  obtain rfl := hw
  refine va_iast hx hb hK hP hD hS 1 0 rfl rfl (by unfold vp_in; decide) dX4_learn_85 (fun H locs hP hD hS => ?_)
  generalize upd f_12 (7 : Int32).toNatClampNeg n1_size = f_14 at hP hD
  have hP : va_P (dC, dI) vwCl [(h0, kO4 h6 n0_size h2 h7 n0_top), (h2, kAi cint 8 f_14), (h4, kAi cint 40 f4), (h5, kAi cint 40 f5), (h3, kAi cint 40 f3), (h1, kO9 h3 h4 h5 n1_size)] H := hP
  have hD : va_D A [(h0, kO4 h6 n0_size h2 h7 n0_top), (h2, kAi cint 8 f_14), (h4, kAi cint 40 f4), (h5, kAi cint 40 f5), (h3, kAi cint 40 f3), (h1, kO9 h3 h4 h5 n1_size)] := hD
  have hP9 := kk_Ps (wq := [(h0, kO4 h6 n0_size h2 h7 n0_top), (h1, kO9 h3 h4 h5 n1_size), (h2, kAi cint 8 f_14), (h3, kAi cint 40 f3), (h4, kAi cint 40 f4), (h5, kAi cint 40 f5)]) hP [0, 5, 1, 4, 2, 3] rfl
  have hD9 := kk_Ds (wq := [(h0, kO4 h6 n0_size h2 h7 n0_top), (h1, kO9 h3 h4 h5 n1_size), (h2, kAi cint 8 f_14), (h3, kAi cint 40 f3), (h4, kAi cint 40 f4), (h5, kAi cint 40 f5)]) hD [0, 5, 1, 4, 2, 3] (by decide) rfl
  have hK9 := kk_Ks (tq := []) hK [] rfl
  exact W.vret hx hb hr (fun t ht hW => ⟨⟨(), rfl, trivial, f_14, by rw [ht]; exact hP9, va_K.moved hW.alike hK9, hD9⟩, hS.F ht⟩) hS.2.2 dX4_learn_86
set_option maxHeartbeats 4000000 in
set_option maxRecDepth 100000 in
theorem g_X4_pop_0 (l : Launch) (dC : Nat → ClassId) (dI : Nat → Nat → Nat) (h0 : Nat) (h1 : Nat) (h2 : Nat) (h3 : Nat) (cint : ClassId) (sz : Nat) (n0_size : Int32) (n0_top : Int32) (f1 : Nat → Int32) (tn0_size : kk_bx (0 ≤ n0_size.toInt ∧ n0_size.toInt ≤ 128)) (tn0_top : 0 ≤ n0_top.toInt ∧ n0_top.toInt ≤ 64) : Met l yX4_pop wsX4_pop ({ frames := 0, cells := 0, slots := 0, locals := 0 }) (va_Pc [.ref h0] (fun U => U.heap.size = sz ∧ va_P (dC, dI) vwCl [(h0, kO4 h2 n0_size h3 h1 n0_top), (h1, kAi cint 64 f1)] U.heap ∧ va_K (dC, dI) vwCl [(cint, .int)] U ∧ va_D (fun _ => True) [(h0, kO4 h2 n0_size h3 h1 n0_top), (h1, kAi cint 64 f1)])) (va_Qi (fun (r : Int32) (_ : Unit) => True) (fun (_ : Unit) t => ∃ (m0_top : Int32), (0 ≤ m0_top.toInt ∧ m0_top.toInt ≤ 63) ∧ va_P (dC, dI) vwCl [(h0, kO4 h2 n0_size h3 h1 m0_top), (h1, kAi cint 64 f1)] t.heap ∧ va_K (dC, dI) vwCl [] t ∧ va_D (va_A [(h0, kO4 h2 n0_size h3 h1 n0_top), (h1, kAi cint 64 f1)] sz) [(h0, kO4 h2 n0_size h3 h1 m0_top), (h1, kAi cint 64 f1)]) (va_A [(h0, kO4 h2 n0_size h3 h1 n0_top), (h1, kAi cint 64 f1)] sz)) 0 0 (va_A [(h0, kO4 h2 n0_size h3 h1 n0_top), (h1, kAi cint 64 f1)] sz) := by
  refine Met.ofW (cc := cX4_pop) (maxL := 1) (ret := (some .int)) (by decide) rfl ?_
  intro p e s m args below meth c s₁ B hml hv
  obtain ⟨rfl, hsz, hP, hK, hD0⟩ := hv
  have hx := B.exec
  have hb := B.bytes
  have hr := B.returns
  have hts := atoms_spec (ws := wsX4_pop) B.pre
  have hown : s.vm.findClass RX4 = some m.cls := findClass_of_methodNamed B.named
  have hlocks := B.notSynchronized
  subst hsz
  have hD := hD0.self (sz := s.heap.size)
  generalize hAe : va_A [(h0, kO4 h2 n0_size h3 h1 n0_top), (h1, kAi cint 64 f1)] s.heap.size = A at hD ⊢
  have hA : ∀ q : Nat, s.heap.size ≤ q → A q := fun q h => by rw [← hAe]; exact Or.inr h
  have hS : va_S A s.heap s.heap [] := va_S.rf
  have hP : va_P (dC, dI) vwCl [(h0, kO4 h2 n0_size h3 h1 n0_top), (h1, kAi cint 64 f1)] s.heap := hP
  have hl := lv_entry ([.ref h0]) (n := 1) (Nat.le_of_ble_eq_true rfl)
  rw [lg_entry_eq]
  generalize (lg_sl ([.ref h0]) ++ List.replicate (1 - (lg_sl ([.ref h0])).length) Slot.unset).toArray = ls at hl ⊢
  have hl : lv_has ls 1 [(0, .ref h0)] := hl
  refine lv_aload_n hx hb dX4_pop_0 rfl (lv_at hl 0 rfl) ?_
  refine va_get (D := (dC, dI)) (ci := 4) (v := .int n0_top) (C := RX4) (T := TX4) (N := 5) hx hb hts (fun _ h => List.mem_cons_of_mem _ (List.mem_append_right _ h)) hown hK hP 0 rfl rfl 4 (by decide) (hts (.fieldLink RX4 76 "KinkStreet$Law" "top" "I") (List.mem_of_getElem? (i := 1) rfl)) (fun _ h9 => h9) rfl dX4_pop_1 ?_
  refine lv_if_le (tgt := 26) hx hb dX4_pop_4 (by decide) (fun c_1 => ?_) (fun c_1 => ?_)
  · have t_1 : n0_top.toInt ≤ 0 := kk_le c_1
    refine lv_iconst (v := 0) hx hb dX4_pop_26 kk_ic_0 ?_
    have hP9 := kk_Ps (wq := [(h0, kO4 h2 n0_size h3 h1 n0_top), (h1, kAi cint 64 f1)]) hP [0, 1] rfl
    have hD9 := kk_Ds (wq := [(h0, kO4 h2 n0_size h3 h1 n0_top), (h1, kAi cint 64 f1)]) hD [0, 1] (by decide) rfl
    have hK9 := kk_Ks (tq := []) hK [] rfl
    exact W.iret (v := 0) hx hb hr (fun t ht hW => ⟨⟨0, (), rfl, trivial, n0_top, (by show 0 ≤ (n0_top : Int32).toInt ∧ (n0_top : Int32).toInt ≤ 63; first | decide | ((omega))), by rw [ht]; exact hP9, va_K.moved hW.alike hK9, hD9⟩, hS.F ht⟩) hS.2.2 dX4_pop_27
  · have t_1 : 0 < n0_top.toInt := kk_nle c_1
    refine lv_aload_n hx hb dX4_pop_7 rfl (lv_at hl 0 rfl) ?_
    refine va_get (D := (dC, dI)) (ci := 4) (v := .ref h1) (C := RX4) (T := TX4) (N := 5) hx hb hts (fun _ h => List.mem_cons_of_mem _ (List.mem_append_right _ h)) hown hK hP 0 rfl rfl 3 (by decide) (hts (.fieldLink RX4 22 "KinkStreet$Law" "operands" "[I") (List.mem_of_getElem? (i := 2) rfl)) (fun _ h9 => h9) rfl dX4_pop_8 ?_
    refine lv_aload_n hx hb dX4_pop_11 rfl (lv_at hl 0 rfl) ?_
    refine lv_dup hx hb dX4_pop_12 rfl ?_
    refine va_get (D := (dC, dI)) (ci := 4) (v := .int n0_top) (C := RX4) (T := TX4) (N := 5) hx hb hts (fun _ h => List.mem_cons_of_mem _ (List.mem_append_right _ h)) hown hK hP 0 rfl rfl 4 (by decide) (hts (.fieldLink RX4 76 "KinkStreet$Law" "top" "I") (List.mem_of_getElem? (i := 1) rfl)) (fun _ h9 => h9) rfl dX4_pop_13 ?_
    refine lv_iconst (v := 1) hx hb dX4_pop_16 kk_ic_1 ?_
    refine lv_isub hx hb dX4_pop_17 ?_
    refine lv_dup_x1 hx hb dX4_pop_18 rfl rfl ?_
    refine va_put (D := (dC, dI)) (ci := 4) (v := .int (n0_top - 1)) (ty := .int) (C := RX4) (T := TX4) (N := 5) hx hb hts (fun _ h => List.mem_cons_of_mem _ (List.mem_append_right _ h)) tyX4 tyX4_ok nmX4 hown hK hP hD hS 0 rfl rfl 4 (by decide) (hts (.fieldLink RX4 76 "KinkStreet$Law" "top" "I") (List.mem_of_getElem? (i := 1) rfl)) (fun _ h9 => h9) rfl (by decide +kernel) rfl rfl (Nat.le_of_ble_eq_true rfl) dX4_pop_19 (fun H locs hP hD hS => ?_)
    have hP : va_P (dC, dI) vwCl [(h0, kO4 h2 n0_size h3 h1 (n0_top - 1)), (h1, kAi cint 64 f1)] H := hP
    have hD : va_D A [(h0, kO4 h2 n0_size h3 h1 (n0_top - 1)), (h1, kAi cint 64 f1)] := hD
    try have := kk_sub2 (x := n0_top) (y := 1) (a := n0_top.toInt) (b := 1) rfl rfl (by omega) (by omega)
    have hi_2 : vp_in (n0_top - 1) 64 := (vp_in_iff.mpr ⟨by omega, by omega⟩)
    refine va_iald hx hb hK hP 1 0 rfl rfl hi_2 dX4_pop_22 ?_
    refine lv_topi (fun y_2 e_2 => ?_)
    clear e_2
    refine lv_goto (tgt := 27) hx hb dX4_pop_23 (by decide) ?_
    have hP9 := kk_Ps (wq := [(h0, kO4 h2 n0_size h3 h1 (n0_top - 1)), (h1, kAi cint 64 f1)]) hP [0, 1] rfl
    have hD9 := kk_Ds (wq := [(h0, kO4 h2 n0_size h3 h1 (n0_top - 1)), (h1, kAi cint 64 f1)]) hD [0, 1] (by decide) rfl
    have hK9 := kk_Ks (tq := []) hK [] rfl
    exact W.iret (v := y_2) hx hb hr (fun t ht hW => ⟨⟨y_2, (), rfl, trivial, (n0_top - 1), (by show 0 ≤ ((n0_top - 1) : Int32).toInt ∧ ((n0_top - 1) : Int32).toInt ≤ 63; first | decide | ((omega))), by rw [ht]; exact hP9, va_K.moved hW.alike hK9, hD9⟩, hS.F ht⟩) hS.2.2 dX4_pop_27
set_option maxHeartbeats 4000000 in
set_option maxRecDepth 100000 in
theorem g_X4_truth_0 (l : Launch) (dC : Nat → ClassId) (dI : Nat → Nat → Nat) (sz : Nat) (p0 : Int32) : Met l yX4_truth wsX4_truth ({ frames := 0, cells := 0, slots := 0, locals := 0 }) (va_Pc [.int p0] (fun U => U.heap.size = sz ∧ va_P (dC, dI) vwCl [] U.heap ∧ va_K (dC, dI) vwCl [] U ∧ va_D (fun _ => True) [])) (va_Qi (fun (r : Int32) (_ : Unit) => (0 ≤ r.toInt ∧ r.toInt ≤ 1)) (fun (_ : Unit) t => va_P (dC, dI) vwCl [] t.heap ∧ va_K (dC, dI) vwCl [] t ∧ va_D (va_A [] sz) []) (va_A [] sz)) 0 0 (va_A [] sz) := by
  refine Met.ofW (cc := cX4_truth) (maxL := 1) (ret := (some .int)) (by decide) rfl ?_
  intro p e s m args below meth c s₁ B hml hv
  obtain ⟨rfl, hsz, hP, hK, hD0⟩ := hv
  have hx := B.exec
  have hb := B.bytes
  have hr := B.returns
  have hts := atoms_spec (ws := wsX4_truth) B.pre
  have hown : s.vm.findClass RX4 = some m.cls := findClass_of_methodNamed B.named
  have hlocks := B.notSynchronized
  subst hsz
  have hD := hD0.self (sz := s.heap.size)
  generalize hAe : va_A [] s.heap.size = A at hD ⊢
  have hA : ∀ q : Nat, s.heap.size ≤ q → A q := fun q h => by rw [← hAe]; exact Or.inr h
  have hS : va_S A s.heap s.heap [] := va_S.rf
  have hP : va_P (dC, dI) vwCl [] s.heap := hP
  have hl := lv_entry ([.int p0]) (n := 1) (Nat.le_of_ble_eq_true rfl)
  rw [lg_entry_eq]
  generalize (lg_sl ([.int p0]) ++ List.replicate (1 - (lg_sl ([.int p0])).length) Slot.unset).toArray = ls at hl ⊢
  have hl : lv_has ls 1 [(0, .int p0)] := hl
  refine lv_iload_n hx hb dX4_truth_0 rfl (lv_at hl 0 rfl) ?_
  refine lv_if_eq (tgt := 8) hx hb dX4_truth_1 (by decide) (fun c_1 => ?_) (fun c_1 => ?_)
  · have t_1 : p0.toInt = 0 := kk_eq c_1
    refine lv_iconst (v := 0) hx hb dX4_truth_8 kk_ic_0 ?_
    have hP9 := kk_Ps (wq := []) hP [] rfl
    have hD9 := kk_Ds (wq := []) hD [] (by decide) rfl
    have hK9 := kk_Ks (tq := []) hK [] rfl
    exact W.iret (v := 0) hx hb hr (fun t ht hW => ⟨⟨0, (), rfl, (by show 0 ≤ (0 : Int32).toInt ∧ (0 : Int32).toInt ≤ 1; first | decide | ((omega))), by rw [ht]; exact hP9, va_K.moved hW.alike hK9, hD9⟩, hS.F ht⟩) hS.2.2 dX4_truth_9
  · have t_1 : p0.toInt ≠ 0 := kk_ne c_1
    refine lv_iconst (v := 1) hx hb dX4_truth_4 kk_ic_1 ?_
    refine lv_goto (tgt := 9) hx hb dX4_truth_5 (by decide) ?_
    have hP9 := kk_Ps (wq := []) hP [] rfl
    have hD9 := kk_Ds (wq := []) hD [] (by decide) rfl
    have hK9 := kk_Ks (tq := []) hK [] rfl
    exact W.iret (v := 1) hx hb hr (fun t ht hW => ⟨⟨1, (), rfl, (by show 0 ≤ (1 : Int32).toInt ∧ (1 : Int32).toInt ≤ 1; first | decide | ((omega))), by rw [ht]; exact hP9, va_K.moved hW.alike hK9, hD9⟩, hS.F ht⟩) hS.2.2 dX4_truth_9
set_option maxHeartbeats 4000000 in
set_option maxRecDepth 100000 in
theorem g_X4_join_0 (l : Launch) (dC : Nat → ClassId) (dI : Nat → Nat → Nat) (sz : Nat) (p0 : Int32) (p1 : Int32) (p2 : Int32) : Met l yX4_join wsX4_join ({ frames := 1, cells := 0, slots := 0, locals := 21 }) (va_Pc [.int p0, .int p1, .int p2] (fun U => U.heap.size = sz ∧ va_P (dC, dI) vwCl [] U.heap ∧ va_K (dC, dI) vwCl [] U ∧ va_D (fun _ => True) [])) (va_Qi (fun (r : Int32) (_ : Unit) => True) (fun (_ : Unit) t => va_P (dC, dI) vwCl [] t.heap ∧ va_K (dC, dI) vwCl [] t ∧ va_D (va_A [] sz) []) (va_A [] sz)) 0 0 (va_A [] sz) := by
  refine Met.ofW (cc := cX4_join) (maxL := 3) (ret := (some .int)) (by decide) rfl ?_
  intro p e s m args below meth c s₁ B hml hv
  obtain ⟨rfl, hsz, hP, hK, hD0⟩ := hv
  have hx := B.exec
  have hb := B.bytes
  have hr := B.returns
  have hts := atoms_spec (ws := wsX4_join) B.pre
  have hown : s.vm.findClass RX4 = some m.cls := findClass_of_methodNamed B.named
  have hlocks := B.notSynchronized
  subst hsz
  have hD := hD0.self (sz := s.heap.size)
  generalize hAe : va_A [] s.heap.size = A at hD ⊢
  have hA : ∀ q : Nat, s.heap.size ≤ q → A q := fun q h => by rw [← hAe]; exact Or.inr h
  have hS : va_S A s.heap s.heap [] := va_S.rf
  have hP : va_P (dC, dI) vwCl [] s.heap := hP
  have hl := lv_entry ([.int p0, .int p1, .int p2]) (n := 3) (Nat.le_of_ble_eq_true rfl)
  rw [lg_entry_eq]
  generalize (lg_sl ([.int p0, .int p1, .int p2]) ++ List.replicate (3 - (lg_sl ([.int p0, .int p1, .int p2])).length) Slot.unset).toArray = ls at hl ⊢
  have hl : lv_has ls 3 [(0, .int p0), (1, .int p1), (2, .int p2)] := hl
  refine lv_iload_n hx hb dX4_join_0 rfl (lv_at hl 0 rfl) ?_
  rcases (show p0.toInt = 37 ∨ p0.toInt = 38 ∨ p0.toInt = 42 ∨ p0.toInt = 43 ∨ p0.toInt = 45 ∨ p0.toInt = 47 ∨ p0.toInt = 60 ∨ p0.toInt = 61 ∨ p0.toInt = 62 ∨ p0.toInt = 124 ∨ (p0.toInt ≠ 37 ∧ p0.toInt ≠ 38 ∧ p0.toInt ≠ 42 ∧ p0.toInt ≠ 43 ∧ p0.toInt ≠ 45 ∧ p0.toInt ≠ 47 ∧ p0.toInt ≠ 60 ∧ p0.toInt ≠ 61 ∧ p0.toInt ≠ 62 ∧ p0.toInt ≠ 124) from by omega) with t_1 | t_1 | t_1 | t_1 | t_1 | t_1 | t_1 | t_1 | t_1 | t_1 | t_1
  · refine lv_lookup (tgt := 186) (off := 185) hx hb dX4_join_1 (by decide) (by rw [t_1]; decide) (by decide) ?_
    refine lv_iload_n hx hb dX4_join_186 rfl (lv_at hl 2 rfl) ?_
    refine lv_if_ne (tgt := 194) hx hb dX4_join_187 (by decide) (fun c_2 => ?_) (fun c_2 => ?_)
    · have t_2 : p2.toInt ≠ 0 := kk_ne c_2
      refine lv_iload_n hx hb dX4_join_194 rfl (lv_at hl 1 rfl) ?_
      refine lv_iload_n hx hb dX4_join_195 rfl (lv_at hl 2 rfl) ?_
      refine lv_irem hx hb dX4_join_196 (fun h => by have h : p2.toInt = 0 := kk_eq h; omega) ?_
      refine lv_topi (fun y_3 e_3 => ?_)
      clear e_3
      have hP9 := kk_Ps (wq := []) hP [] rfl
      have hD9 := kk_Ds (wq := []) hD [] (by decide) rfl
      have hK9 := kk_Ks (tq := []) hK [] rfl
      exact W.iret (v := y_3) hx hb hr (fun t ht hW => ⟨⟨y_3, (), rfl, trivial, by rw [ht]; exact hP9, va_K.moved hW.alike hK9, hD9⟩, hS.F ht⟩) hS.2.2 dX4_join_197
    · have t_2 : p2.toInt = 0 := kk_eq c_2
      refine lv_iconst (v := 0) hx hb dX4_join_190 kk_ic_0 ?_
      refine lv_goto (tgt := 197) hx hb dX4_join_191 (by decide) ?_
      have hP9 := kk_Ps (wq := []) hP [] rfl
      have hD9 := kk_Ds (wq := []) hD [] (by decide) rfl
      have hK9 := kk_Ks (tq := []) hK [] rfl
      exact W.iret (v := 0) hx hb hr (fun t ht hW => ⟨⟨0, (), rfl, trivial, by rw [ht]; exact hP9, va_K.moved hW.alike hK9, hD9⟩, hS.F ht⟩) hS.2.2 dX4_join_197
  · refine lv_lookup (tgt := 109) (off := 108) hx hb dX4_join_1 (by decide) (by rw [t_1]; decide) (by decide) ?_
    refine lv_iload_n hx hb dX4_join_109 rfl (lv_at hl 1 rfl) ?_
    refine lv_if_eq (tgt := 121) hx hb dX4_join_110 (by decide) (fun c_4 => ?_) (fun c_4 => ?_)
    · have t_4 : p1.toInt = 0 := kk_eq c_4
      refine lv_iconst (v := 0) hx hb dX4_join_121 kk_ic_0 ?_
      have hPc := kk_Ps (wq := []) hP [] rfl
      have hDc := kk_Ds (wq := []) hD [] (by decide) rfl
      have hKc := kk_Ks (tq := []) hK [] rfl
      have hFc := va_free (wc := []) hD hS hA [] rfl
      refine va_calli (va_runS (As := [.int 0]) (rest := []) ⟨hx, hb, hml, hown, hts⟩ (g_X4_truth_0 l dC dI s.heap.size 0) (va_cwS 1 hts gX4_join_X4_truth rfl rfl rfl kh_X4_truth ⟨Nat.le_of_ble_eq_true rfl, Nat.le_of_ble_eq_true rfl⟩) ⟨fun a U g mk q => by obtain ⟨q0, q1, qP, qK, qD⟩ := q; exact ⟨q0, q1, qP, va_K.moved (u := U) (U := U.calling g mk a) (Vm.Alike.refl U.vm) qK, qD⟩, fun U hU hW => ⟨rfl, by rw [hU], by rw [hU]; exact hPc, va_K.moved hW.alike hKc, hDc.weaken (fun _ _ _ _ => trivial)⟩⟩ rfl rfl hl.1 rfl (lv_room (Nat.le_of_ble_eq_true rfl)) dX4_join_122 ⟨Nat.le_of_ble_eq_true rfl, Nat.le_of_ble_eq_true rfl⟩) hS (fun q _ h => hFc q h) hFc (fun r_5 u t H1 locs ht hvm hw hB hz1 hk1 hS => ?_)
      obtain ⟨hP1, hK1, hD1⟩ := hB
      rw [ht] at hP1
      have hK1 := va_K.moved hvm.symm hK1
      obtain ⟨hP, hD⟩ := va_join (wr := []) (w1 := []) hP hD [] [] rfl rfl (by decide) (by decide) hk1 hFc hP1 hD1
      generalize H1 = H at hP hS ⊢
      have hP : va_P (dC, dI) vwCl [] H := hP
      have hD : va_D A [] := hD
      have t_5 : 0 ≤ r_5.toInt ∧ r_5.toInt ≤ 1 := hw
      have hP9 := kk_Ps (wq := []) hP [] rfl
      have hD9 := kk_Ds (wq := []) hD [] (by decide) rfl
      have hK9 := kk_Ks (tq := []) hK [] rfl
      exact W.iret (v := r_5) hx hb hr (fun t ht hW => ⟨⟨r_5, (), rfl, trivial, by rw [ht]; exact hP9, va_K.moved hW.alike hK9, hD9⟩, hS.F ht⟩) hS.2.2 dX4_join_125
    · have t_4 : p1.toInt ≠ 0 := kk_ne c_4
      refine lv_iload_n hx hb dX4_join_113 rfl (lv_at hl 2 rfl) ?_
      refine lv_if_eq (tgt := 121) hx hb dX4_join_114 (by decide) (fun c_6 => ?_) (fun c_6 => ?_)
      · have t_6 : p2.toInt = 0 := kk_eq c_6
        refine lv_iconst (v := 0) hx hb dX4_join_121 kk_ic_0 ?_
        have hPc := kk_Ps (wq := []) hP [] rfl
        have hDc := kk_Ds (wq := []) hD [] (by decide) rfl
        have hKc := kk_Ks (tq := []) hK [] rfl
        have hFc := va_free (wc := []) hD hS hA [] rfl
        refine va_calli (va_runS (As := [.int 0]) (rest := []) ⟨hx, hb, hml, hown, hts⟩ (g_X4_truth_0 l dC dI s.heap.size 0) (va_cwS 1 hts gX4_join_X4_truth rfl rfl rfl kh_X4_truth ⟨Nat.le_of_ble_eq_true rfl, Nat.le_of_ble_eq_true rfl⟩) ⟨fun a U g mk q => by obtain ⟨q0, q1, qP, qK, qD⟩ := q; exact ⟨q0, q1, qP, va_K.moved (u := U) (U := U.calling g mk a) (Vm.Alike.refl U.vm) qK, qD⟩, fun U hU hW => ⟨rfl, by rw [hU], by rw [hU]; exact hPc, va_K.moved hW.alike hKc, hDc.weaken (fun _ _ _ _ => trivial)⟩⟩ rfl rfl hl.1 rfl (lv_room (Nat.le_of_ble_eq_true rfl)) dX4_join_122 ⟨Nat.le_of_ble_eq_true rfl, Nat.le_of_ble_eq_true rfl⟩) hS (fun q _ h => hFc q h) hFc (fun r_7 u t H1 locs ht hvm hw hB hz1 hk1 hS => ?_)
        obtain ⟨hP1, hK1, hD1⟩ := hB
        rw [ht] at hP1
        have hK1 := va_K.moved hvm.symm hK1
        obtain ⟨hP, hD⟩ := va_join (wr := []) (w1 := []) hP hD [] [] rfl rfl (by decide) (by decide) hk1 hFc hP1 hD1
        generalize H1 = H at hP hS ⊢
        have hP : va_P (dC, dI) vwCl [] H := hP
        have hD : va_D A [] := hD
        have t_7 : 0 ≤ r_7.toInt ∧ r_7.toInt ≤ 1 := hw
        have hP9 := kk_Ps (wq := []) hP [] rfl
        have hD9 := kk_Ds (wq := []) hD [] (by decide) rfl
        have hK9 := kk_Ks (tq := []) hK [] rfl
        exact W.iret (v := r_7) hx hb hr (fun t ht hW => ⟨⟨r_7, (), rfl, trivial, by rw [ht]; exact hP9, va_K.moved hW.alike hK9, hD9⟩, hS.F ht⟩) hS.2.2 dX4_join_125
      · have t_6 : p2.toInt ≠ 0 := kk_ne c_6
        refine lv_iconst (v := 1) hx hb dX4_join_117 kk_ic_1 ?_
        refine lv_goto (tgt := 122) hx hb dX4_join_118 (by decide) ?_
        have hPc := kk_Ps (wq := []) hP [] rfl
        have hDc := kk_Ds (wq := []) hD [] (by decide) rfl
        have hKc := kk_Ks (tq := []) hK [] rfl
        have hFc := va_free (wc := []) hD hS hA [] rfl
        refine va_calli (va_runS (As := [.int 1]) (rest := []) ⟨hx, hb, hml, hown, hts⟩ (g_X4_truth_0 l dC dI s.heap.size 1) (va_cwS 1 hts gX4_join_X4_truth rfl rfl rfl kh_X4_truth ⟨Nat.le_of_ble_eq_true rfl, Nat.le_of_ble_eq_true rfl⟩) ⟨fun a U g mk q => by obtain ⟨q0, q1, qP, qK, qD⟩ := q; exact ⟨q0, q1, qP, va_K.moved (u := U) (U := U.calling g mk a) (Vm.Alike.refl U.vm) qK, qD⟩, fun U hU hW => ⟨rfl, by rw [hU], by rw [hU]; exact hPc, va_K.moved hW.alike hKc, hDc.weaken (fun _ _ _ _ => trivial)⟩⟩ rfl rfl hl.1 rfl (lv_room (Nat.le_of_ble_eq_true rfl)) dX4_join_122 ⟨Nat.le_of_ble_eq_true rfl, Nat.le_of_ble_eq_true rfl⟩) hS (fun q _ h => hFc q h) hFc (fun r_8 u t H1 locs ht hvm hw hB hz1 hk1 hS => ?_)
        obtain ⟨hP1, hK1, hD1⟩ := hB
        rw [ht] at hP1
        have hK1 := va_K.moved hvm.symm hK1
        obtain ⟨hP, hD⟩ := va_join (wr := []) (w1 := []) hP hD [] [] rfl rfl (by decide) (by decide) hk1 hFc hP1 hD1
        generalize H1 = H at hP hS ⊢
        have hP : va_P (dC, dI) vwCl [] H := hP
        have hD : va_D A [] := hD
        have t_8 : 0 ≤ r_8.toInt ∧ r_8.toInt ≤ 1 := hw
        have hP9 := kk_Ps (wq := []) hP [] rfl
        have hD9 := kk_Ds (wq := []) hD [] (by decide) rfl
        have hK9 := kk_Ks (tq := []) hK [] rfl
        exact W.iret (v := r_8) hx hb hr (fun t ht hW => ⟨⟨r_8, (), rfl, trivial, by rw [ht]; exact hP9, va_K.moved hW.alike hK9, hD9⟩, hS.F ht⟩) hS.2.2 dX4_join_125
  · refine lv_lookup (tgt := 176) (off := 175) hx hb dX4_join_1 (by decide) (by rw [t_1]; decide) (by decide) ?_
    refine lv_iload_n hx hb dX4_join_176 rfl (lv_at hl 1 rfl) ?_
    refine lv_iload_n hx hb dX4_join_177 rfl (lv_at hl 2 rfl) ?_
    refine lv_imul hx hb dX4_join_178 ?_
    have hP9 := kk_Ps (wq := []) hP [] rfl
    have hD9 := kk_Ds (wq := []) hD [] (by decide) rfl
    have hK9 := kk_Ks (tq := []) hK [] rfl
    exact W.iret (v := (p1 * p2)) hx hb hr (fun t ht hW => ⟨⟨(p1 * p2), (), rfl, trivial, by rw [ht]; exact hP9, va_K.moved hW.alike hK9, hD9⟩, hS.F ht⟩) hS.2.2 dX4_join_179
  · refine lv_lookup (tgt := 168) (off := 167) hx hb dX4_join_1 (by decide) (by rw [t_1]; decide) (by decide) ?_
    refine lv_iload_n hx hb dX4_join_168 rfl (lv_at hl 1 rfl) ?_
    refine lv_iload_n hx hb dX4_join_169 rfl (lv_at hl 2 rfl) ?_
    refine lv_iadd hx hb dX4_join_170 ?_
    have hP9 := kk_Ps (wq := []) hP [] rfl
    have hD9 := kk_Ds (wq := []) hD [] (by decide) rfl
    have hK9 := kk_Ks (tq := []) hK [] rfl
    exact W.iret (v := (p1 + p2)) hx hb hr (fun t ht hW => ⟨⟨(p1 + p2), (), rfl, trivial, by rw [ht]; exact hP9, va_K.moved hW.alike hK9, hD9⟩, hS.F ht⟩) hS.2.2 dX4_join_171
  · refine lv_lookup (tgt := 172) (off := 171) hx hb dX4_join_1 (by decide) (by rw [t_1]; decide) (by decide) ?_
    refine lv_iload_n hx hb dX4_join_172 rfl (lv_at hl 1 rfl) ?_
    refine lv_iload_n hx hb dX4_join_173 rfl (lv_at hl 2 rfl) ?_
    refine lv_isub hx hb dX4_join_174 ?_
    have hP9 := kk_Ps (wq := []) hP [] rfl
    have hD9 := kk_Ds (wq := []) hD [] (by decide) rfl
    have hK9 := kk_Ks (tq := []) hK [] rfl
    exact W.iret (v := (p1 - p2)) hx hb hr (fun t ht hW => ⟨⟨(p1 - p2), (), rfl, trivial, by rw [ht]; exact hP9, va_K.moved hW.alike hK9, hD9⟩, hS.F ht⟩) hS.2.2 dX4_join_175
  · refine lv_lookup (tgt := 180) (off := 179) hx hb dX4_join_1 (by decide) (by rw [t_1]; decide) (by decide) ?_
    refine lv_iload_n hx hb dX4_join_180 rfl (lv_at hl 1 rfl) ?_
    refine lv_iload_n hx hb dX4_join_181 rfl (lv_at hl 2 rfl) ?_
    have hPc := kk_Ps (wq := []) hP [] rfl
    have hDc := kk_Ds (wq := []) hD [] (by decide) rfl
    have hKc := kk_Ks (tq := []) hK [] rfl
    have hFc := va_free (wc := []) hD hS hA [] rfl
    refine va_calli (va_runS (As := [.int p1, .int p2]) (rest := []) ⟨hx, hb, hml, hown, hts⟩ (g_X4_quotient_0 l dC dI s.heap.size p1 p2) (va_cwS 2 hts gX4_join_X4_quotient rfl rfl rfl kh_X4_quotient ⟨Nat.le_of_ble_eq_true rfl, Nat.le_of_ble_eq_true rfl⟩) ⟨fun a U g mk q => by obtain ⟨q0, q1, qP, qK, qD⟩ := q; exact ⟨q0, q1, qP, va_K.moved (u := U) (U := U.calling g mk a) (Vm.Alike.refl U.vm) qK, qD⟩, fun U hU hW => ⟨rfl, by rw [hU], by rw [hU]; exact hPc, va_K.moved hW.alike hKc, hDc.weaken (fun _ _ _ _ => trivial)⟩⟩ rfl rfl hl.1 rfl (lv_room (Nat.le_of_ble_eq_true rfl)) dX4_join_182 ⟨Nat.le_of_ble_eq_true rfl, Nat.le_of_ble_eq_true rfl⟩) hS (fun q _ h => hFc q h) hFc (fun r_9 u t H1 locs ht hvm hw hB hz1 hk1 hS => ?_)
    obtain ⟨hP1, hK1, hD1⟩ := hB
    rw [ht] at hP1
    have hK1 := va_K.moved hvm.symm hK1
    obtain ⟨hP, hD⟩ := va_join (wr := []) (w1 := []) hP hD [] [] rfl rfl (by decide) (by decide) hk1 hFc hP1 hD1
    generalize H1 = H at hP hS ⊢
    have hP : va_P (dC, dI) vwCl [] H := hP
    have hD : va_D A [] := hD
    have hP9 := kk_Ps (wq := []) hP [] rfl
    have hD9 := kk_Ds (wq := []) hD [] (by decide) rfl
    have hK9 := kk_Ks (tq := []) hK [] rfl
    exact W.iret (v := r_9) hx hb hr (fun t ht hW => ⟨⟨r_9, (), rfl, trivial, by rw [ht]; exact hP9, va_K.moved hW.alike hK9, hD9⟩, hS.F ht⟩) hS.2.2 dX4_join_185
  · refine lv_lookup (tgt := 126) (off := 125) hx hb dX4_join_1 (by decide) (by rw [t_1]; decide) (by decide) ?_
    refine lv_iload_n hx hb dX4_join_126 rfl (lv_at hl 1 rfl) ?_
    refine lv_iload_n hx hb dX4_join_127 rfl (lv_at hl 2 rfl) ?_
    refine lv_icmp_ge (tgt := 135) hx hb dX4_join_128 (by decide) (fun c_10 => ?_) (fun c_10 => ?_)
    · have t_10 : p2.toInt ≤ p1.toInt := kk_le c_10
      refine lv_iconst (v := 0) hx hb dX4_join_135 kk_ic_0 ?_
      have hPc := kk_Ps (wq := []) hP [] rfl
      have hDc := kk_Ds (wq := []) hD [] (by decide) rfl
      have hKc := kk_Ks (tq := []) hK [] rfl
      have hFc := va_free (wc := []) hD hS hA [] rfl
      refine va_calli (va_runS (As := [.int 0]) (rest := []) ⟨hx, hb, hml, hown, hts⟩ (g_X4_truth_0 l dC dI s.heap.size 0) (va_cwS 1 hts gX4_join_X4_truth rfl rfl rfl kh_X4_truth ⟨Nat.le_of_ble_eq_true rfl, Nat.le_of_ble_eq_true rfl⟩) ⟨fun a U g mk q => by obtain ⟨q0, q1, qP, qK, qD⟩ := q; exact ⟨q0, q1, qP, va_K.moved (u := U) (U := U.calling g mk a) (Vm.Alike.refl U.vm) qK, qD⟩, fun U hU hW => ⟨rfl, by rw [hU], by rw [hU]; exact hPc, va_K.moved hW.alike hKc, hDc.weaken (fun _ _ _ _ => trivial)⟩⟩ rfl rfl hl.1 rfl (lv_room (Nat.le_of_ble_eq_true rfl)) dX4_join_136 ⟨Nat.le_of_ble_eq_true rfl, Nat.le_of_ble_eq_true rfl⟩) hS (fun q _ h => hFc q h) hFc (fun r_11 u t H1 locs ht hvm hw hB hz1 hk1 hS => ?_)
      obtain ⟨hP1, hK1, hD1⟩ := hB
      rw [ht] at hP1
      have hK1 := va_K.moved hvm.symm hK1
      obtain ⟨hP, hD⟩ := va_join (wr := []) (w1 := []) hP hD [] [] rfl rfl (by decide) (by decide) hk1 hFc hP1 hD1
      generalize H1 = H at hP hS ⊢
      have hP : va_P (dC, dI) vwCl [] H := hP
      have hD : va_D A [] := hD
      have t_11 : 0 ≤ r_11.toInt ∧ r_11.toInt ≤ 1 := hw
      have hP9 := kk_Ps (wq := []) hP [] rfl
      have hD9 := kk_Ds (wq := []) hD [] (by decide) rfl
      have hK9 := kk_Ks (tq := []) hK [] rfl
      exact W.iret (v := r_11) hx hb hr (fun t ht hW => ⟨⟨r_11, (), rfl, trivial, by rw [ht]; exact hP9, va_K.moved hW.alike hK9, hD9⟩, hS.F ht⟩) hS.2.2 dX4_join_139
    · have t_10 : p1.toInt < p2.toInt := kk_nle c_10
      refine lv_iconst (v := 1) hx hb dX4_join_131 kk_ic_1 ?_
      refine lv_goto (tgt := 136) hx hb dX4_join_132 (by decide) ?_
      have hPc := kk_Ps (wq := []) hP [] rfl
      have hDc := kk_Ds (wq := []) hD [] (by decide) rfl
      have hKc := kk_Ks (tq := []) hK [] rfl
      have hFc := va_free (wc := []) hD hS hA [] rfl
      refine va_calli (va_runS (As := [.int 1]) (rest := []) ⟨hx, hb, hml, hown, hts⟩ (g_X4_truth_0 l dC dI s.heap.size 1) (va_cwS 1 hts gX4_join_X4_truth rfl rfl rfl kh_X4_truth ⟨Nat.le_of_ble_eq_true rfl, Nat.le_of_ble_eq_true rfl⟩) ⟨fun a U g mk q => by obtain ⟨q0, q1, qP, qK, qD⟩ := q; exact ⟨q0, q1, qP, va_K.moved (u := U) (U := U.calling g mk a) (Vm.Alike.refl U.vm) qK, qD⟩, fun U hU hW => ⟨rfl, by rw [hU], by rw [hU]; exact hPc, va_K.moved hW.alike hKc, hDc.weaken (fun _ _ _ _ => trivial)⟩⟩ rfl rfl hl.1 rfl (lv_room (Nat.le_of_ble_eq_true rfl)) dX4_join_136 ⟨Nat.le_of_ble_eq_true rfl, Nat.le_of_ble_eq_true rfl⟩) hS (fun q _ h => hFc q h) hFc (fun r_12 u t H1 locs ht hvm hw hB hz1 hk1 hS => ?_)
      obtain ⟨hP1, hK1, hD1⟩ := hB
      rw [ht] at hP1
      have hK1 := va_K.moved hvm.symm hK1
      obtain ⟨hP, hD⟩ := va_join (wr := []) (w1 := []) hP hD [] [] rfl rfl (by decide) (by decide) hk1 hFc hP1 hD1
      generalize H1 = H at hP hS ⊢
      have hP : va_P (dC, dI) vwCl [] H := hP
      have hD : va_D A [] := hD
      have t_12 : 0 ≤ r_12.toInt ∧ r_12.toInt ≤ 1 := hw
      have hP9 := kk_Ps (wq := []) hP [] rfl
      have hD9 := kk_Ds (wq := []) hD [] (by decide) rfl
      have hK9 := kk_Ks (tq := []) hK [] rfl
      exact W.iret (v := r_12) hx hb hr (fun t ht hW => ⟨⟨r_12, (), rfl, trivial, by rw [ht]; exact hP9, va_K.moved hW.alike hK9, hD9⟩, hS.F ht⟩) hS.2.2 dX4_join_139
  · refine lv_lookup (tgt := 140) (off := 139) hx hb dX4_join_1 (by decide) (by rw [t_1]; decide) (by decide) ?_
    refine lv_iload_n hx hb dX4_join_140 rfl (lv_at hl 1 rfl) ?_
    refine lv_iload_n hx hb dX4_join_141 rfl (lv_at hl 2 rfl) ?_
    refine lv_icmp_ne (tgt := 149) hx hb dX4_join_142 (by decide) (fun c_13 => ?_) (fun c_13 => ?_)
    · have t_13 : p1.toInt ≠ p2.toInt := kk_ne c_13
      refine lv_iconst (v := 0) hx hb dX4_join_149 kk_ic_0 ?_
      have hPc := kk_Ps (wq := []) hP [] rfl
      have hDc := kk_Ds (wq := []) hD [] (by decide) rfl
      have hKc := kk_Ks (tq := []) hK [] rfl
      have hFc := va_free (wc := []) hD hS hA [] rfl
      refine va_calli (va_runS (As := [.int 0]) (rest := []) ⟨hx, hb, hml, hown, hts⟩ (g_X4_truth_0 l dC dI s.heap.size 0) (va_cwS 1 hts gX4_join_X4_truth rfl rfl rfl kh_X4_truth ⟨Nat.le_of_ble_eq_true rfl, Nat.le_of_ble_eq_true rfl⟩) ⟨fun a U g mk q => by obtain ⟨q0, q1, qP, qK, qD⟩ := q; exact ⟨q0, q1, qP, va_K.moved (u := U) (U := U.calling g mk a) (Vm.Alike.refl U.vm) qK, qD⟩, fun U hU hW => ⟨rfl, by rw [hU], by rw [hU]; exact hPc, va_K.moved hW.alike hKc, hDc.weaken (fun _ _ _ _ => trivial)⟩⟩ rfl rfl hl.1 rfl (lv_room (Nat.le_of_ble_eq_true rfl)) dX4_join_150 ⟨Nat.le_of_ble_eq_true rfl, Nat.le_of_ble_eq_true rfl⟩) hS (fun q _ h => hFc q h) hFc (fun r_14 u t H1 locs ht hvm hw hB hz1 hk1 hS => ?_)
      obtain ⟨hP1, hK1, hD1⟩ := hB
      rw [ht] at hP1
      have hK1 := va_K.moved hvm.symm hK1
      obtain ⟨hP, hD⟩ := va_join (wr := []) (w1 := []) hP hD [] [] rfl rfl (by decide) (by decide) hk1 hFc hP1 hD1
      generalize H1 = H at hP hS ⊢
      have hP : va_P (dC, dI) vwCl [] H := hP
      have hD : va_D A [] := hD
      have t_14 : 0 ≤ r_14.toInt ∧ r_14.toInt ≤ 1 := hw
      have hP9 := kk_Ps (wq := []) hP [] rfl
      have hD9 := kk_Ds (wq := []) hD [] (by decide) rfl
      have hK9 := kk_Ks (tq := []) hK [] rfl
      exact W.iret (v := r_14) hx hb hr (fun t ht hW => ⟨⟨r_14, (), rfl, trivial, by rw [ht]; exact hP9, va_K.moved hW.alike hK9, hD9⟩, hS.F ht⟩) hS.2.2 dX4_join_153
    · have t_13 : p1.toInt = p2.toInt := kk_eq c_13
      refine lv_iconst (v := 1) hx hb dX4_join_145 kk_ic_1 ?_
      refine lv_goto (tgt := 150) hx hb dX4_join_146 (by decide) ?_
      have hPc := kk_Ps (wq := []) hP [] rfl
      have hDc := kk_Ds (wq := []) hD [] (by decide) rfl
      have hKc := kk_Ks (tq := []) hK [] rfl
      have hFc := va_free (wc := []) hD hS hA [] rfl
      refine va_calli (va_runS (As := [.int 1]) (rest := []) ⟨hx, hb, hml, hown, hts⟩ (g_X4_truth_0 l dC dI s.heap.size 1) (va_cwS 1 hts gX4_join_X4_truth rfl rfl rfl kh_X4_truth ⟨Nat.le_of_ble_eq_true rfl, Nat.le_of_ble_eq_true rfl⟩) ⟨fun a U g mk q => by obtain ⟨q0, q1, qP, qK, qD⟩ := q; exact ⟨q0, q1, qP, va_K.moved (u := U) (U := U.calling g mk a) (Vm.Alike.refl U.vm) qK, qD⟩, fun U hU hW => ⟨rfl, by rw [hU], by rw [hU]; exact hPc, va_K.moved hW.alike hKc, hDc.weaken (fun _ _ _ _ => trivial)⟩⟩ rfl rfl hl.1 rfl (lv_room (Nat.le_of_ble_eq_true rfl)) dX4_join_150 ⟨Nat.le_of_ble_eq_true rfl, Nat.le_of_ble_eq_true rfl⟩) hS (fun q _ h => hFc q h) hFc (fun r_15 u t H1 locs ht hvm hw hB hz1 hk1 hS => ?_)
      obtain ⟨hP1, hK1, hD1⟩ := hB
      rw [ht] at hP1
      have hK1 := va_K.moved hvm.symm hK1
      obtain ⟨hP, hD⟩ := va_join (wr := []) (w1 := []) hP hD [] [] rfl rfl (by decide) (by decide) hk1 hFc hP1 hD1
      generalize H1 = H at hP hS ⊢
      have hP : va_P (dC, dI) vwCl [] H := hP
      have hD : va_D A [] := hD
      have t_15 : 0 ≤ r_15.toInt ∧ r_15.toInt ≤ 1 := hw
      have hP9 := kk_Ps (wq := []) hP [] rfl
      have hD9 := kk_Ds (wq := []) hD [] (by decide) rfl
      have hK9 := kk_Ks (tq := []) hK [] rfl
      exact W.iret (v := r_15) hx hb hr (fun t ht hW => ⟨⟨r_15, (), rfl, trivial, by rw [ht]; exact hP9, va_K.moved hW.alike hK9, hD9⟩, hS.F ht⟩) hS.2.2 dX4_join_153
  · refine lv_lookup (tgt := 154) (off := 153) hx hb dX4_join_1 (by decide) (by rw [t_1]; decide) (by decide) ?_
    refine lv_iload_n hx hb dX4_join_154 rfl (lv_at hl 1 rfl) ?_
    refine lv_iload_n hx hb dX4_join_155 rfl (lv_at hl 2 rfl) ?_
    refine lv_icmp_le (tgt := 163) hx hb dX4_join_156 (by decide) (fun c_16 => ?_) (fun c_16 => ?_)
    · have t_16 : p1.toInt ≤ p2.toInt := kk_le c_16
      refine lv_iconst (v := 0) hx hb dX4_join_163 kk_ic_0 ?_
      have hPc := kk_Ps (wq := []) hP [] rfl
      have hDc := kk_Ds (wq := []) hD [] (by decide) rfl
      have hKc := kk_Ks (tq := []) hK [] rfl
      have hFc := va_free (wc := []) hD hS hA [] rfl
      refine va_calli (va_runS (As := [.int 0]) (rest := []) ⟨hx, hb, hml, hown, hts⟩ (g_X4_truth_0 l dC dI s.heap.size 0) (va_cwS 1 hts gX4_join_X4_truth rfl rfl rfl kh_X4_truth ⟨Nat.le_of_ble_eq_true rfl, Nat.le_of_ble_eq_true rfl⟩) ⟨fun a U g mk q => by obtain ⟨q0, q1, qP, qK, qD⟩ := q; exact ⟨q0, q1, qP, va_K.moved (u := U) (U := U.calling g mk a) (Vm.Alike.refl U.vm) qK, qD⟩, fun U hU hW => ⟨rfl, by rw [hU], by rw [hU]; exact hPc, va_K.moved hW.alike hKc, hDc.weaken (fun _ _ _ _ => trivial)⟩⟩ rfl rfl hl.1 rfl (lv_room (Nat.le_of_ble_eq_true rfl)) dX4_join_164 ⟨Nat.le_of_ble_eq_true rfl, Nat.le_of_ble_eq_true rfl⟩) hS (fun q _ h => hFc q h) hFc (fun r_17 u t H1 locs ht hvm hw hB hz1 hk1 hS => ?_)
      obtain ⟨hP1, hK1, hD1⟩ := hB
      rw [ht] at hP1
      have hK1 := va_K.moved hvm.symm hK1
      obtain ⟨hP, hD⟩ := va_join (wr := []) (w1 := []) hP hD [] [] rfl rfl (by decide) (by decide) hk1 hFc hP1 hD1
      generalize H1 = H at hP hS ⊢
      have hP : va_P (dC, dI) vwCl [] H := hP
      have hD : va_D A [] := hD
      have t_17 : 0 ≤ r_17.toInt ∧ r_17.toInt ≤ 1 := hw
      have hP9 := kk_Ps (wq := []) hP [] rfl
      have hD9 := kk_Ds (wq := []) hD [] (by decide) rfl
      have hK9 := kk_Ks (tq := []) hK [] rfl
      exact W.iret (v := r_17) hx hb hr (fun t ht hW => ⟨⟨r_17, (), rfl, trivial, by rw [ht]; exact hP9, va_K.moved hW.alike hK9, hD9⟩, hS.F ht⟩) hS.2.2 dX4_join_167
    · have t_16 : p2.toInt < p1.toInt := kk_nle c_16
      refine lv_iconst (v := 1) hx hb dX4_join_159 kk_ic_1 ?_
      refine lv_goto (tgt := 164) hx hb dX4_join_160 (by decide) ?_
      have hPc := kk_Ps (wq := []) hP [] rfl
      have hDc := kk_Ds (wq := []) hD [] (by decide) rfl
      have hKc := kk_Ks (tq := []) hK [] rfl
      have hFc := va_free (wc := []) hD hS hA [] rfl
      refine va_calli (va_runS (As := [.int 1]) (rest := []) ⟨hx, hb, hml, hown, hts⟩ (g_X4_truth_0 l dC dI s.heap.size 1) (va_cwS 1 hts gX4_join_X4_truth rfl rfl rfl kh_X4_truth ⟨Nat.le_of_ble_eq_true rfl, Nat.le_of_ble_eq_true rfl⟩) ⟨fun a U g mk q => by obtain ⟨q0, q1, qP, qK, qD⟩ := q; exact ⟨q0, q1, qP, va_K.moved (u := U) (U := U.calling g mk a) (Vm.Alike.refl U.vm) qK, qD⟩, fun U hU hW => ⟨rfl, by rw [hU], by rw [hU]; exact hPc, va_K.moved hW.alike hKc, hDc.weaken (fun _ _ _ _ => trivial)⟩⟩ rfl rfl hl.1 rfl (lv_room (Nat.le_of_ble_eq_true rfl)) dX4_join_164 ⟨Nat.le_of_ble_eq_true rfl, Nat.le_of_ble_eq_true rfl⟩) hS (fun q _ h => hFc q h) hFc (fun r_18 u t H1 locs ht hvm hw hB hz1 hk1 hS => ?_)
      obtain ⟨hP1, hK1, hD1⟩ := hB
      rw [ht] at hP1
      have hK1 := va_K.moved hvm.symm hK1
      obtain ⟨hP, hD⟩ := va_join (wr := []) (w1 := []) hP hD [] [] rfl rfl (by decide) (by decide) hk1 hFc hP1 hD1
      generalize H1 = H at hP hS ⊢
      have hP : va_P (dC, dI) vwCl [] H := hP
      have hD : va_D A [] := hD
      have t_18 : 0 ≤ r_18.toInt ∧ r_18.toInt ≤ 1 := hw
      have hP9 := kk_Ps (wq := []) hP [] rfl
      have hD9 := kk_Ds (wq := []) hD [] (by decide) rfl
      have hK9 := kk_Ks (tq := []) hK [] rfl
      exact W.iret (v := r_18) hx hb hr (fun t ht hW => ⟨⟨r_18, (), rfl, trivial, by rw [ht]; exact hP9, va_K.moved hW.alike hK9, hD9⟩, hS.F ht⟩) hS.2.2 dX4_join_167
  · refine lv_lookup (tgt := 92) (off := 91) hx hb dX4_join_1 (by decide) (by rw [t_1]; decide) (by decide) ?_
    refine lv_iload_n hx hb dX4_join_92 rfl (lv_at hl 1 rfl) ?_
    refine lv_if_ne (tgt := 100) hx hb dX4_join_93 (by decide) (fun c_19 => ?_) (fun c_19 => ?_)
    · have t_19 : p1.toInt ≠ 0 := kk_ne c_19
      refine lv_iconst (v := 1) hx hb dX4_join_100 kk_ic_1 ?_
      refine lv_goto (tgt := 105) hx hb dX4_join_101 (by decide) ?_
      have hPc := kk_Ps (wq := []) hP [] rfl
      have hDc := kk_Ds (wq := []) hD [] (by decide) rfl
      have hKc := kk_Ks (tq := []) hK [] rfl
      have hFc := va_free (wc := []) hD hS hA [] rfl
      refine va_calli (va_runS (As := [.int 1]) (rest := []) ⟨hx, hb, hml, hown, hts⟩ (g_X4_truth_0 l dC dI s.heap.size 1) (va_cwS 1 hts gX4_join_X4_truth rfl rfl rfl kh_X4_truth ⟨Nat.le_of_ble_eq_true rfl, Nat.le_of_ble_eq_true rfl⟩) ⟨fun a U g mk q => by obtain ⟨q0, q1, qP, qK, qD⟩ := q; exact ⟨q0, q1, qP, va_K.moved (u := U) (U := U.calling g mk a) (Vm.Alike.refl U.vm) qK, qD⟩, fun U hU hW => ⟨rfl, by rw [hU], by rw [hU]; exact hPc, va_K.moved hW.alike hKc, hDc.weaken (fun _ _ _ _ => trivial)⟩⟩ rfl rfl hl.1 rfl (lv_room (Nat.le_of_ble_eq_true rfl)) dX4_join_105 ⟨Nat.le_of_ble_eq_true rfl, Nat.le_of_ble_eq_true rfl⟩) hS (fun q _ h => hFc q h) hFc (fun r_20 u t H1 locs ht hvm hw hB hz1 hk1 hS => ?_)
      obtain ⟨hP1, hK1, hD1⟩ := hB
      rw [ht] at hP1
      have hK1 := va_K.moved hvm.symm hK1
      obtain ⟨hP, hD⟩ := va_join (wr := []) (w1 := []) hP hD [] [] rfl rfl (by decide) (by decide) hk1 hFc hP1 hD1
      generalize H1 = H at hP hS ⊢
      have hP : va_P (dC, dI) vwCl [] H := hP
      have hD : va_D A [] := hD
      have t_20 : 0 ≤ r_20.toInt ∧ r_20.toInt ≤ 1 := hw
      have hP9 := kk_Ps (wq := []) hP [] rfl
      have hD9 := kk_Ds (wq := []) hD [] (by decide) rfl
      have hK9 := kk_Ks (tq := []) hK [] rfl
      exact W.iret (v := r_20) hx hb hr (fun t ht hW => ⟨⟨r_20, (), rfl, trivial, by rw [ht]; exact hP9, va_K.moved hW.alike hK9, hD9⟩, hS.F ht⟩) hS.2.2 dX4_join_108
    · have t_19 : p1.toInt = 0 := kk_eq c_19
      refine lv_iload_n hx hb dX4_join_96 rfl (lv_at hl 2 rfl) ?_
      refine lv_if_eq (tgt := 104) hx hb dX4_join_97 (by decide) (fun c_21 => ?_) (fun c_21 => ?_)
      · have t_21 : p2.toInt = 0 := kk_eq c_21
        refine lv_iconst (v := 0) hx hb dX4_join_104 kk_ic_0 ?_
        have hPc := kk_Ps (wq := []) hP [] rfl
        have hDc := kk_Ds (wq := []) hD [] (by decide) rfl
        have hKc := kk_Ks (tq := []) hK [] rfl
        have hFc := va_free (wc := []) hD hS hA [] rfl
        refine va_calli (va_runS (As := [.int 0]) (rest := []) ⟨hx, hb, hml, hown, hts⟩ (g_X4_truth_0 l dC dI s.heap.size 0) (va_cwS 1 hts gX4_join_X4_truth rfl rfl rfl kh_X4_truth ⟨Nat.le_of_ble_eq_true rfl, Nat.le_of_ble_eq_true rfl⟩) ⟨fun a U g mk q => by obtain ⟨q0, q1, qP, qK, qD⟩ := q; exact ⟨q0, q1, qP, va_K.moved (u := U) (U := U.calling g mk a) (Vm.Alike.refl U.vm) qK, qD⟩, fun U hU hW => ⟨rfl, by rw [hU], by rw [hU]; exact hPc, va_K.moved hW.alike hKc, hDc.weaken (fun _ _ _ _ => trivial)⟩⟩ rfl rfl hl.1 rfl (lv_room (Nat.le_of_ble_eq_true rfl)) dX4_join_105 ⟨Nat.le_of_ble_eq_true rfl, Nat.le_of_ble_eq_true rfl⟩) hS (fun q _ h => hFc q h) hFc (fun r_22 u t H1 locs ht hvm hw hB hz1 hk1 hS => ?_)
        obtain ⟨hP1, hK1, hD1⟩ := hB
        rw [ht] at hP1
        have hK1 := va_K.moved hvm.symm hK1
        obtain ⟨hP, hD⟩ := va_join (wr := []) (w1 := []) hP hD [] [] rfl rfl (by decide) (by decide) hk1 hFc hP1 hD1
        generalize H1 = H at hP hS ⊢
        have hP : va_P (dC, dI) vwCl [] H := hP
        have hD : va_D A [] := hD
        have t_22 : 0 ≤ r_22.toInt ∧ r_22.toInt ≤ 1 := hw
        have hP9 := kk_Ps (wq := []) hP [] rfl
        have hD9 := kk_Ds (wq := []) hD [] (by decide) rfl
        have hK9 := kk_Ks (tq := []) hK [] rfl
        exact W.iret (v := r_22) hx hb hr (fun t ht hW => ⟨⟨r_22, (), rfl, trivial, by rw [ht]; exact hP9, va_K.moved hW.alike hK9, hD9⟩, hS.F ht⟩) hS.2.2 dX4_join_108
      · have t_21 : p2.toInt ≠ 0 := kk_ne c_21
        refine lv_iconst (v := 1) hx hb dX4_join_100 kk_ic_1 ?_
        refine lv_goto (tgt := 105) hx hb dX4_join_101 (by decide) ?_
        have hPc := kk_Ps (wq := []) hP [] rfl
        have hDc := kk_Ds (wq := []) hD [] (by decide) rfl
        have hKc := kk_Ks (tq := []) hK [] rfl
        have hFc := va_free (wc := []) hD hS hA [] rfl
        refine va_calli (va_runS (As := [.int 1]) (rest := []) ⟨hx, hb, hml, hown, hts⟩ (g_X4_truth_0 l dC dI s.heap.size 1) (va_cwS 1 hts gX4_join_X4_truth rfl rfl rfl kh_X4_truth ⟨Nat.le_of_ble_eq_true rfl, Nat.le_of_ble_eq_true rfl⟩) ⟨fun a U g mk q => by obtain ⟨q0, q1, qP, qK, qD⟩ := q; exact ⟨q0, q1, qP, va_K.moved (u := U) (U := U.calling g mk a) (Vm.Alike.refl U.vm) qK, qD⟩, fun U hU hW => ⟨rfl, by rw [hU], by rw [hU]; exact hPc, va_K.moved hW.alike hKc, hDc.weaken (fun _ _ _ _ => trivial)⟩⟩ rfl rfl hl.1 rfl (lv_room (Nat.le_of_ble_eq_true rfl)) dX4_join_105 ⟨Nat.le_of_ble_eq_true rfl, Nat.le_of_ble_eq_true rfl⟩) hS (fun q _ h => hFc q h) hFc (fun r_23 u t H1 locs ht hvm hw hB hz1 hk1 hS => ?_)
        obtain ⟨hP1, hK1, hD1⟩ := hB
        rw [ht] at hP1
        have hK1 := va_K.moved hvm.symm hK1
        obtain ⟨hP, hD⟩ := va_join (wr := []) (w1 := []) hP hD [] [] rfl rfl (by decide) (by decide) hk1 hFc hP1 hD1
        generalize H1 = H at hP hS ⊢
        have hP : va_P (dC, dI) vwCl [] H := hP
        have hD : va_D A [] := hD
        have t_23 : 0 ≤ r_23.toInt ∧ r_23.toInt ≤ 1 := hw
        have hP9 := kk_Ps (wq := []) hP [] rfl
        have hD9 := kk_Ds (wq := []) hD [] (by decide) rfl
        have hK9 := kk_Ks (tq := []) hK [] rfl
        exact W.iret (v := r_23) hx hb hr (fun t ht hW => ⟨⟨r_23, (), rfl, trivial, by rw [ht]; exact hP9, va_K.moved hW.alike hK9, hD9⟩, hS.F ht⟩) hS.2.2 dX4_join_108
  · obtain ⟨u_1_0, u_1_1, u_1_2, u_1_3, u_1_4, u_1_5, u_1_6, u_1_7, u_1_8, u_1_9⟩ := t_1
    refine lv_lookup (tgt := 198) (off := 197) hx hb dX4_join_1 (by decide) (by simp only [Op.lookupswitch.offset_cons, if_neg (Ne.symm u_1_0), if_neg (Ne.symm u_1_1), if_neg (Ne.symm u_1_2), if_neg (Ne.symm u_1_3), if_neg (Ne.symm u_1_4), if_neg (Ne.symm u_1_5), if_neg (Ne.symm u_1_6), if_neg (Ne.symm u_1_7), if_neg (Ne.symm u_1_8), if_neg (Ne.symm u_1_9), if_false, if_neg, not_false_eq_true]; rfl) (by decide) ?_
    refine lv_iconst (v := 0) hx hb dX4_join_198 kk_ic_0 ?_
    have hP9 := kk_Ps (wq := []) hP [] rfl
    have hD9 := kk_Ds (wq := []) hD [] (by decide) rfl
    have hK9 := kk_Ks (tq := []) hK [] rfl
    exact W.iret (v := 0) hx hb hr (fun t ht hW => ⟨⟨0, (), rfl, trivial, by rw [ht]; exact hP9, va_K.moved hW.alike hK9, hD9⟩, hS.F ht⟩) hS.2.2 dX4_join_199
set_option maxHeartbeats 4000000 in
set_option maxRecDepth 100000 in
theorem g_X4_push_0 (l : Launch) (dC : Nat → ClassId) (dI : Nat → Nat → Nat) (h0 : Nat) (h1 : Nat) (h2 : Nat) (h3 : Nat) (cint : ClassId) (sz : Nat) (p0 : Int32) (n0_size : Int32) (n0_top : Int32) (f1 : Nat → Int32) (tn0_size : kk_bx (0 ≤ n0_size.toInt ∧ n0_size.toInt ≤ 128)) (tn0_top : 0 ≤ n0_top.toInt ∧ n0_top.toInt ≤ 64) : Met l yX4_push wsX4_push ({ frames := 0, cells := 0, slots := 0, locals := 0 }) (va_Pc [.ref h0, .int p0] (fun U => U.heap.size = sz ∧ va_P (dC, dI) vwCl [(h0, kO4 h2 n0_size h3 h1 n0_top), (h1, kAi cint 64 f1)] U.heap ∧ va_K (dC, dI) vwCl [(cint, .int)] U ∧ va_D (fun _ => True) [(h0, kO4 h2 n0_size h3 h1 n0_top), (h1, kAi cint 64 f1)])) (va_Qv (fun (_ : Unit) => True) (fun (_ : Unit) t => ∃ (m0_top : Int32) (g1 : Nat → Int32), (1 ≤ m0_top.toInt ∧ m0_top.toInt ≤ 64) ∧ va_P (dC, dI) vwCl [(h0, kO4 h2 n0_size h3 h1 m0_top), (h1, kAi cint 64 g1)] t.heap ∧ va_K (dC, dI) vwCl [] t ∧ va_D (va_A [(h0, kO4 h2 n0_size h3 h1 n0_top), (h1, kAi cint 64 f1)] sz) [(h0, kO4 h2 n0_size h3 h1 m0_top), (h1, kAi cint 64 g1)]) (va_A [(h0, kO4 h2 n0_size h3 h1 n0_top), (h1, kAi cint 64 f1)] sz)) 0 0 (va_A [(h0, kO4 h2 n0_size h3 h1 n0_top), (h1, kAi cint 64 f1)] sz) := by
  refine Met.ofW (cc := cX4_push) (maxL := 2) (ret := none) (by decide) rfl ?_
  intro p e s m args below meth c s₁ B hml hv
  obtain ⟨rfl, hsz, hP, hK, hD0⟩ := hv
  have hx := B.exec
  have hb := B.bytes
  have hr := B.returns
  have hts := atoms_spec (ws := wsX4_push) B.pre
  have hown : s.vm.findClass RX4 = some m.cls := findClass_of_methodNamed B.named
  have hlocks := B.notSynchronized
  subst hsz
  have hD := hD0.self (sz := s.heap.size)
  generalize hAe : va_A [(h0, kO4 h2 n0_size h3 h1 n0_top), (h1, kAi cint 64 f1)] s.heap.size = A at hD ⊢
  have hA : ∀ q : Nat, s.heap.size ≤ q → A q := fun q h => by rw [← hAe]; exact Or.inr h
  have hS : va_S A s.heap s.heap [] := va_S.rf
  have hP : va_P (dC, dI) vwCl [(h0, kO4 h2 n0_size h3 h1 n0_top), (h1, kAi cint 64 f1)] s.heap := hP
  have hl := lv_entry ([.ref h0, .int p0]) (n := 2) (Nat.le_of_ble_eq_true rfl)
  rw [lg_entry_eq]
  generalize (lg_sl ([.ref h0, .int p0]) ++ List.replicate (2 - (lg_sl ([.ref h0, .int p0])).length) Slot.unset).toArray = ls at hl ⊢
  have hl : lv_has ls 2 [(0, .ref h0), (1, .int p0)] := hl
  refine lv_aload_n hx hb dX4_push_0 rfl (lv_at hl 0 rfl) ?_
  refine va_get (D := (dC, dI)) (ci := 4) (v := .int n0_top) (C := RX4) (T := TX4) (N := 5) hx hb hts (fun _ h => List.mem_cons_of_mem _ (List.mem_append_right _ h)) hown hK hP 0 rfl rfl 4 (by decide) (hts (.fieldLink RX4 76 "KinkStreet$Law" "top" "I") (List.mem_of_getElem? (i := 1) rfl)) (fun _ h9 => h9) rfl dX4_push_1 ?_
  refine lv_bipush (v := 64) hx hb dX4_push_4 kk_bi_64 ?_
  refine lv_icmp_ge (tgt := 26) hx hb dX4_push_6 (by decide) (fun c_1 => ?_) (fun c_1 => ?_)
  · have t_1 : 64 ≤ n0_top.toInt := kk_le c_1
    have hP9 := kk_Ps (wq := [(h0, kO4 h2 n0_size h3 h1 n0_top), (h1, kAi cint 64 f1)]) hP [0, 1] rfl
    have hD9 := kk_Ds (wq := [(h0, kO4 h2 n0_size h3 h1 n0_top), (h1, kAi cint 64 f1)]) hD [0, 1] (by decide) rfl
    have hK9 := kk_Ks (tq := []) hK [] rfl
    exact W.vret hx hb hr (fun t ht hW => ⟨⟨(), rfl, trivial, n0_top, f1, (by show 1 ≤ (n0_top : Int32).toInt ∧ (n0_top : Int32).toInt ≤ 64; first | decide | ((omega))), by rw [ht]; exact hP9, va_K.moved hW.alike hK9, hD9⟩, hS.F ht⟩) hS.2.2 dX4_push_26
  · have t_1 : n0_top.toInt < 64 := kk_nle c_1
    refine lv_aload_n hx hb dX4_push_9 rfl (lv_at hl 0 rfl) ?_
    refine va_get (D := (dC, dI)) (ci := 4) (v := .ref h1) (C := RX4) (T := TX4) (N := 5) hx hb hts (fun _ h => List.mem_cons_of_mem _ (List.mem_append_right _ h)) hown hK hP 0 rfl rfl 3 (by decide) (hts (.fieldLink RX4 22 "KinkStreet$Law" "operands" "[I") (List.mem_of_getElem? (i := 2) rfl)) (fun _ h9 => h9) rfl dX4_push_10 ?_
    refine lv_aload_n hx hb dX4_push_13 rfl (lv_at hl 0 rfl) ?_
    refine lv_dup hx hb dX4_push_14 rfl ?_
    refine va_get (D := (dC, dI)) (ci := 4) (v := .int n0_top) (C := RX4) (T := TX4) (N := 5) hx hb hts (fun _ h => List.mem_cons_of_mem _ (List.mem_append_right _ h)) hown hK hP 0 rfl rfl 4 (by decide) (hts (.fieldLink RX4 76 "KinkStreet$Law" "top" "I") (List.mem_of_getElem? (i := 1) rfl)) (fun _ h9 => h9) rfl dX4_push_15 ?_
    refine lv_dup_x1 hx hb dX4_push_18 rfl rfl ?_
    refine lv_iconst (v := 1) hx hb dX4_push_19 kk_ic_1 ?_
    refine lv_iadd hx hb dX4_push_20 ?_
    refine va_put (D := (dC, dI)) (ci := 4) (v := .int (n0_top + 1)) (ty := .int) (C := RX4) (T := TX4) (N := 5) hx hb hts (fun _ h => List.mem_cons_of_mem _ (List.mem_append_right _ h)) tyX4 tyX4_ok nmX4 hown hK hP hD hS 0 rfl rfl 4 (by decide) (hts (.fieldLink RX4 76 "KinkStreet$Law" "top" "I") (List.mem_of_getElem? (i := 1) rfl)) (fun _ h9 => h9) rfl (by decide +kernel) rfl rfl (Nat.le_of_ble_eq_true rfl) dX4_push_21 (fun H locs hP hD hS => ?_)
    have hP : va_P (dC, dI) vwCl [(h0, kO4 h2 n0_size h3 h1 (n0_top + 1)), (h1, kAi cint 64 f1)] H := hP
    have hD : va_D A [(h0, kO4 h2 n0_size h3 h1 (n0_top + 1)), (h1, kAi cint 64 f1)] := hD
    refine lv_iload_n hx hb dX4_push_24 rfl (lv_at hl 1 rfl) ?_
    try have := kk_add2 (x := n0_top) (y := 1) (a := n0_top.toInt) (b := 1) rfl rfl (by omega) (by omega)
    refine va_iast hx hb hK hP hD hS 1 0 rfl rfl (vp_in_iff.mpr ⟨by omega, by omega⟩) dX4_push_25 (fun H locs hP hD hS => ?_)
    generalize upd f1 (n0_top : Int32).toNatClampNeg p0 = f_2 at hP hD
    have hP : va_P (dC, dI) vwCl [(h0, kO4 h2 n0_size h3 h1 (n0_top + 1)), (h1, kAi cint 64 f_2)] H := hP
    have hD : va_D A [(h0, kO4 h2 n0_size h3 h1 (n0_top + 1)), (h1, kAi cint 64 f_2)] := hD
    have hP9 := kk_Ps (wq := [(h0, kO4 h2 n0_size h3 h1 (n0_top + 1)), (h1, kAi cint 64 f_2)]) hP [0, 1] rfl
    have hD9 := kk_Ds (wq := [(h0, kO4 h2 n0_size h3 h1 (n0_top + 1)), (h1, kAi cint 64 f_2)]) hD [0, 1] (by decide) rfl
    have hK9 := kk_Ks (tq := []) hK [] rfl
    exact W.vret hx hb hr (fun t ht hW => ⟨⟨(), rfl, trivial, (n0_top + 1), f_2, (by show 1 ≤ ((n0_top + 1) : Int32).toInt ∧ ((n0_top + 1) : Int32).toInt ≤ 64; first | decide | ((omega))), by rw [ht]; exact hP9, va_K.moved hW.alike hK9, hD9⟩, hS.F ht⟩) hS.2.2 dX4_push_26
set_option maxHeartbeats 4000000 in
set_option maxRecDepth 100000 in
theorem g_X4_work_0 (l : Launch) (dC : Nat → ClassId) (dI : Nat → Nat → Nat) (h0 : Nat) (h1 : Nat) (h2 : Nat) (h3 : Nat) (cint : ClassId) (sz : Nat) (p0 : Int32) (n0_size : Int32) (n0_top : Int32) (f1 : Nat → Int32) (f2 : Nat → Int32) (tn0_size : kk_bx (0 ≤ n0_size.toInt ∧ n0_size.toInt ≤ 128)) (tn0_top : kk_bx (0 ≤ n0_top.toInt ∧ n0_top.toInt ≤ 64)) : Met l yX4_work wsX4_work ({ frames := 2, cells := 0, slots := 0, locals := 43 }) (va_Pc [.ref h0, .int p0] (fun U => U.heap.size = sz ∧ va_P (dC, dI) vwCl [(h0, kO4 h3 n0_size h1 h2 n0_top), (h1, kAi cint 8 f1), (h2, kAi cint 64 f2)] U.heap ∧ va_K (dC, dI) vwCl [(cint, .int)] U ∧ va_D (fun _ => True) [(h0, kO4 h3 n0_size h1 h2 n0_top), (h1, kAi cint 8 f1), (h2, kAi cint 64 f2)])) (va_Qv (fun (_ : Unit) => True) (fun (_ : Unit) t => ∃ (m0_top : Int32) (g2 : Nat → Int32), (1 ≤ m0_top.toInt ∧ m0_top.toInt ≤ 64) ∧ va_P (dC, dI) vwCl [(h0, kO4 h3 n0_size h1 h2 m0_top), (h1, kAi cint 8 f1), (h2, kAi cint 64 g2)] t.heap ∧ va_K (dC, dI) vwCl [] t ∧ va_D (va_A [(h0, kO4 h3 n0_size h1 h2 n0_top), (h1, kAi cint 8 f1), (h2, kAi cint 64 f2)] sz) [(h0, kO4 h3 n0_size h1 h2 m0_top), (h1, kAi cint 8 f1), (h2, kAi cint 64 g2)]) (va_A [(h0, kO4 h3 n0_size h1 h2 n0_top), (h1, kAi cint 8 f1), (h2, kAi cint 64 f2)] sz)) 0 0 (va_A [(h0, kO4 h3 n0_size h1 h2 n0_top), (h1, kAi cint 8 f1), (h2, kAi cint 64 f2)] sz) := by
  refine Met.ofW (cc := cX4_work) (maxL := 3) (ret := none) (by decide) rfl ?_
  intro p e s m args below meth c s₁ B hml hv
  obtain ⟨rfl, hsz, hP, hK, hD0⟩ := hv
  have hx := B.exec
  have hb := B.bytes
  have hr := B.returns
  have hts := atoms_spec (ws := wsX4_work) B.pre
  have hown : s.vm.findClass RX4 = some m.cls := findClass_of_methodNamed B.named
  have hlocks := B.notSynchronized
  subst hsz
  have hD := hD0.self (sz := s.heap.size)
  generalize hAe : va_A [(h0, kO4 h3 n0_size h1 h2 n0_top), (h1, kAi cint 8 f1), (h2, kAi cint 64 f2)] s.heap.size = A at hD ⊢
  have hA : ∀ q : Nat, s.heap.size ≤ q → A q := fun q h => by rw [← hAe]; exact Or.inr h
  have hS : va_S A s.heap s.heap [] := va_S.rf
  have hP : va_P (dC, dI) vwCl [(h0, kO4 h3 n0_size h1 h2 n0_top), (h1, kAi cint 8 f1), (h2, kAi cint 64 f2)] s.heap := hP
  have hl := lv_entry ([.ref h0, .int p0]) (n := 3) (Nat.le_of_ble_eq_true rfl)
  rw [lg_entry_eq]
  generalize (lg_sl ([.ref h0, .int p0]) ++ List.replicate (3 - (lg_sl ([.ref h0, .int p0])).length) Slot.unset).toArray = ls at hl ⊢
  have hl : lv_has ls 3 [(0, .ref h0), (1, .int p0)] := hl
  refine lv_iload_n hx hb dX4_work_0 rfl (lv_at hl 1 rfl) ?_
  refine lv_sipush (v := 256) hx hb dX4_work_1 kk_si_256 ?_
  refine lv_icmp_lt (tgt := 19) hx hb dX4_work_4 (by decide) (fun c_1 => ?_) (fun c_1 => ?_)
  · have t_1 : p0.toInt < 256 := kk_lt c_1
    refine lv_iload_n hx hb dX4_work_19 rfl (lv_at hl 1 rfl) ?_
    refine lv_if_lt (tgt := 45) hx hb dX4_work_20 (by decide) (fun c_2 => ?_) (fun c_2 => ?_)
    · have t_2 : p0.toInt < 0 := kk_lt c_2
      refine lv_iload_n hx hb dX4_work_45 rfl (lv_at hl 1 rfl) ?_
      refine lv_bipush (v := 33) hx hb dX4_work_46 kk_bi_33 ?_
      refine lv_icmp_ne (tgt := 73) hx hb dX4_work_48 (by decide) (fun c_3 => ?_) (fun c_3 => ?_)
      · have t_3 : p0.toInt ≠ 33 := kk_ne c_3
        refine lv_iload_n hx hb dX4_work_73 rfl (lv_at hl 1 rfl) ?_
        refine lv_bipush (v := 126) hx hb dX4_work_74 kk_bi_126 ?_
        refine lv_icmp_ne (tgt := 91) hx hb dX4_work_76 (by decide) (fun c_4 => ?_) (fun c_4 => ?_)
        · have t_4 : p0.toInt ≠ 126 := kk_ne c_4
          refine lv_aload_n hx hb dX4_work_91 rfl (lv_at hl 0 rfl) ?_
          have hPc := kk_Ps (wq := [(h0, kO4 h3 n0_size h1 h2 n0_top), (h2, kAi cint 64 f2)]) hP [0, 2] rfl
          have hDc := kk_Ds (wq := [(h0, kO4 h3 n0_size h1 h2 n0_top), (h2, kAi cint 64 f2)]) hD [0, 2] (by decide) rfl
          have hKc := kk_Ks (tq := [(cint, .int)]) hK [0] rfl
          have hFc := va_free (wc := [(h0, kO4 h3 n0_size h1 h2 n0_top), (h2, kAi cint 64 f2)]) hD hS hA [0, 2] rfl
          refine va_calli (va_runV (As := []) (rest := []) ⟨hx, hb, hml, hown, hts⟩ (g_X4_pop_0 l dC dI h0 h2 h3 h1 cint s.heap.size n0_size n0_top f2 tn0_size tn0_top) (cwV 0 hts gX4_work_X4_pop rfl rfl rfl ⟨rfl, kh_X4_pop⟩ ⟨Nat.le_of_ble_eq_true rfl, Nat.le_of_ble_eq_true rfl⟩) ⟨fun a U g mk q => by obtain ⟨q0, q1, qP, qK, qD⟩ := q; exact ⟨q0, q1, qP, va_K.moved (u := U) (U := U.calling g mk a) (Vm.Alike.refl U.vm) qK, qD⟩, va_recv hKc hPc (ci := 4) (q0 := 0) rfl rfl, fun U hU hW => ⟨rfl, by rw [hU], by rw [hU]; exact hPc, va_K.moved hW.alike hKc, hDc.weaken (fun _ _ _ _ => trivial)⟩⟩ rfl rfl hl.1 rfl (lv_room (Nat.le_of_ble_eq_true rfl)) dX4_work_92 ⟨Nat.le_of_ble_eq_true rfl, Nat.le_of_ble_eq_true rfl⟩) hS (fun q _ h => hFc q h) hFc (fun r_5 u t H1 locs ht hvm hw hB hz1 hk1 hS => ?_)
          refine hB.elim (fun y_6 hB => ?_)
          refine hB.elim (fun by_6 hB => ?_)
          have hP1 := hB.1
          have hK1 := hB.2.1
          have hD1 := hB.2.2
          rw [ht] at hP1
          have hK1 := va_K.moved hvm.symm hK1
          obtain ⟨hP, hD⟩ := va_join (wr := [(h1, kAi cint 8 f1)]) (w1 := [(h0, kO4 h3 n0_size h1 h2 y_6), (h2, kAi cint 64 f2)]) hP hD [0, 2] [1] rfl rfl (by decide) (by decide) hk1 hFc hP1 hD1
          generalize H1 = H at hP hS ⊢
          have hP : va_P (dC, dI) vwCl [(h1, kAi cint 8 f1), (h0, kO4 h3 n0_size h1 h2 y_6), (h2, kAi cint 64 f2)] H := hP
          have hD : va_D A [(h1, kAi cint 8 f1), (h0, kO4 h3 n0_size h1 h2 y_6), (h2, kAi cint 64 f2)] := hD
          refine lv_istore_n hx hb dX4_work_95 rfl hl (by decide) (rfl : _ = ([(2, .int r_5), (0, .ref h0), (1, .int p0)] : List (Nat × Value))) (fun ls hl => ?_)
          refine lv_aload_n hx hb dX4_work_96 rfl (lv_at hl 1 rfl) ?_
          refine lv_iload_n hx hb dX4_work_97 rfl (lv_at hl 2 rfl) ?_
          refine lv_aload_n hx hb dX4_work_98 rfl (lv_at hl 1 rfl) ?_
          have hPc := kk_Ps (wq := [(h0, kO4 h3 n0_size h1 h2 y_6), (h2, kAi cint 64 f2)]) hP [1, 2] rfl
          have hDc := kk_Ds (wq := [(h0, kO4 h3 n0_size h1 h2 y_6), (h2, kAi cint 64 f2)]) hD [1, 2] (by decide) rfl
          have hKc := kk_Ks (tq := [(cint, .int)]) hK [0] rfl
          have hFc := va_free (wc := [(h0, kO4 h3 n0_size h1 h2 y_6), (h2, kAi cint 64 f2)]) hD hS hA [1, 2] rfl
          try have := kk_rng p0
          refine va_calli (va_runV (As := []) (rest := [.int p0, .ref h0]) ⟨hx, hb, hml, hown, hts⟩ (g_X4_pop_0 l dC dI h0 h2 h3 h1 cint H.size n0_size y_6 f2 tn0_size (by show 0 ≤ (y_6 : Int32).toInt ∧ (y_6 : Int32).toInt ≤ 64; first | decide | ((omega)))) (cwV 0 hts gX4_work_X4_pop rfl rfl rfl ⟨rfl, kh_X4_pop⟩ ⟨Nat.le_of_ble_eq_true rfl, Nat.le_of_ble_eq_true rfl⟩) ⟨fun a U g mk q => by obtain ⟨q0, q1, qP, qK, qD⟩ := q; exact ⟨q0, q1, qP, va_K.moved (u := U) (U := U.calling g mk a) (Vm.Alike.refl U.vm) qK, qD⟩, va_recv hKc hPc (ci := 4) (q0 := 0) rfl rfl, fun U hU hW => ⟨rfl, by rw [hU], by rw [hU]; exact hPc, va_K.moved hW.alike hKc, hDc.weaken (fun _ _ _ _ => trivial)⟩⟩ rfl rfl hl.1 rfl (lv_room (Nat.le_of_ble_eq_true rfl)) dX4_work_99 ⟨Nat.le_of_ble_eq_true rfl, Nat.le_of_ble_eq_true rfl⟩) hS (fun q _ h => hFc q h) hFc (fun r_7 u t H1 locs ht hvm hw hB hz1 hk1 hS => ?_)
          refine hB.elim (fun y_8 hB => ?_)
          refine hB.elim (fun by_8 hB => ?_)
          have hP1 := hB.1
          have hK1 := hB.2.1
          have hD1 := hB.2.2
          rw [ht] at hP1
          have hK1 := va_K.moved hvm.symm hK1
          obtain ⟨hP, hD⟩ := va_join (wr := [(h1, kAi cint 8 f1)]) (w1 := [(h0, kO4 h3 n0_size h1 h2 y_8), (h2, kAi cint 64 f2)]) hP hD [1, 2] [0] rfl rfl (by decide) (by decide) hk1 hFc hP1 hD1
          generalize H1 = H at hP hS ⊢
          have hP : va_P (dC, dI) vwCl [(h1, kAi cint 8 f1), (h0, kO4 h3 n0_size h1 h2 y_8), (h2, kAi cint 64 f2)] H := hP
          have hD : va_D A [(h1, kAi cint 8 f1), (h0, kO4 h3 n0_size h1 h2 y_8), (h2, kAi cint 64 f2)] := hD
          refine lv_iload_n hx hb dX4_work_102 rfl (lv_at hl 0 rfl) ?_
          have hPc := kk_Ps (wq := []) hP [] rfl
          have hDc := kk_Ds (wq := []) hD [] (by decide) rfl
          have hKc := kk_Ks (tq := []) hK [] rfl
          have hFc := va_free (wc := []) hD hS hA [] rfl
          refine va_calli (va_runS (As := [.int p0, .int r_7, .int r_5]) (rest := [.ref h0]) ⟨hx, hb, hml, hown, hts⟩ (g_X4_join_0 l dC dI H.size p0 r_7 r_5) (va_cwS 3 hts gX4_work_X4_join rfl rfl rfl kh_X4_join ⟨Nat.le_of_ble_eq_true rfl, Nat.le_of_ble_eq_true rfl⟩) ⟨fun a U g mk q => by obtain ⟨q0, q1, qP, qK, qD⟩ := q; exact ⟨q0, q1, qP, va_K.moved (u := U) (U := U.calling g mk a) (Vm.Alike.refl U.vm) qK, qD⟩, fun U hU hW => ⟨rfl, by rw [hU], by rw [hU]; exact hPc, va_K.moved hW.alike hKc, hDc.weaken (fun _ _ _ _ => trivial)⟩⟩ rfl rfl hl.1 rfl (lv_room (Nat.le_of_ble_eq_true rfl)) dX4_work_103 ⟨Nat.le_of_ble_eq_true rfl, Nat.le_of_ble_eq_true rfl⟩) hS (fun q _ h => hFc q h) hFc (fun r_9 u t H1 locs ht hvm hw hB hz1 hk1 hS => ?_)
          obtain ⟨hP1, hK1, hD1⟩ := hB
          rw [ht] at hP1
          have hK1 := va_K.moved hvm.symm hK1
          obtain ⟨hP, hD⟩ := va_join (wr := [(h1, kAi cint 8 f1), (h0, kO4 h3 n0_size h1 h2 y_8), (h2, kAi cint 64 f2)]) (w1 := []) hP hD [] [0, 1, 2] rfl rfl (by decide) (by decide) hk1 hFc hP1 hD1
          generalize H1 = H at hP hS ⊢
          have hP : va_P (dC, dI) vwCl [(h1, kAi cint 8 f1), (h0, kO4 h3 n0_size h1 h2 y_8), (h2, kAi cint 64 f2)] H := hP
          have hD : va_D A [(h1, kAi cint 8 f1), (h0, kO4 h3 n0_size h1 h2 y_8), (h2, kAi cint 64 f2)] := hD
          have hPc := kk_Ps (wq := [(h0, kO4 h3 n0_size h1 h2 y_8), (h2, kAi cint 64 f2)]) hP [1, 2] rfl
          have hDc := kk_Ds (wq := [(h0, kO4 h3 n0_size h1 h2 y_8), (h2, kAi cint 64 f2)]) hD [1, 2] (by decide) rfl
          have hKc := kk_Ks (tq := [(cint, .int)]) hK [0] rfl
          have hFc := va_free (wc := [(h0, kO4 h3 n0_size h1 h2 y_8), (h2, kAi cint 64 f2)]) hD hS hA [1, 2] rfl
          refine va_callv (va_runV (As := [.int r_9]) (rest := []) ⟨hx, hb, hml, hown, hts⟩ (g_X4_push_0 l dC dI h0 h2 h3 h1 cint H.size r_9 n0_size y_8 f2 tn0_size (by show 0 ≤ (y_8 : Int32).toInt ∧ (y_8 : Int32).toInt ≤ 64; first | decide | ((omega)))) (cwV 1 hts gX4_work_X4_push rfl rfl rfl ⟨rfl, kh_X4_push⟩ ⟨Nat.le_of_ble_eq_true rfl, Nat.le_of_ble_eq_true rfl⟩) ⟨fun a U g mk q => by obtain ⟨q0, q1, qP, qK, qD⟩ := q; exact ⟨q0, q1, qP, va_K.moved (u := U) (U := U.calling g mk a) (Vm.Alike.refl U.vm) qK, qD⟩, va_recv hKc hPc (ci := 4) (q0 := 0) rfl rfl, fun U hU hW => ⟨rfl, by rw [hU], by rw [hU]; exact hPc, va_K.moved hW.alike hKc, hDc.weaken (fun _ _ _ _ => trivial)⟩⟩ rfl rfl hl.1 rfl (lv_room (Nat.le_of_ble_eq_true rfl)) dX4_work_106 ⟨Nat.le_of_ble_eq_true rfl, Nat.le_of_ble_eq_true rfl⟩) hS (fun q _ h => hFc q h) hFc (fun u t H1 locs ht hvm hw hB hz1 hk1 hS => ?_)
          refine hB.elim (fun y_11 hB => ?_)
          refine hB.elim (fun f_12 hB => ?_)
          refine hB.elim (fun by_11 hB => ?_)
          have hP1 := hB.1
          have hK1 := hB.2.1
          have hD1 := hB.2.2
          rw [ht] at hP1
          have hK1 := va_K.moved hvm.symm hK1
          obtain ⟨hP, hD⟩ := va_join (wr := [(h1, kAi cint 8 f1)]) (w1 := [(h0, kO4 h3 n0_size h1 h2 y_11), (h2, kAi cint 64 f_12)]) hP hD [1, 2] [0] rfl rfl (by decide) (by decide) hk1 hFc hP1 hD1
          generalize H1 = H at hP hS ⊢
          have hP : va_P (dC, dI) vwCl [(h1, kAi cint 8 f1), (h0, kO4 h3 n0_size h1 h2 y_11), (h2, kAi cint 64 f_12)] H := hP
          have hD : va_D A [(h1, kAi cint 8 f1), (h0, kO4 h3 n0_size h1 h2 y_11), (h2, kAi cint 64 f_12)] := hD
          have hP9 := kk_Ps (wq := [(h0, kO4 h3 n0_size h1 h2 y_11), (h1, kAi cint 8 f1), (h2, kAi cint 64 f_12)]) hP [1, 0, 2] rfl
          have hD9 := kk_Ds (wq := [(h0, kO4 h3 n0_size h1 h2 y_11), (h1, kAi cint 8 f1), (h2, kAi cint 64 f_12)]) hD [1, 0, 2] (by decide) rfl
          have hK9 := kk_Ks (tq := []) hK [] rfl
          exact W.vret hx hb hr (fun t ht hW => ⟨⟨(), rfl, trivial, y_11, f_12, (by show 1 ≤ (y_11 : Int32).toInt ∧ (y_11 : Int32).toInt ≤ 64; first | decide | ((omega))), by rw [ht]; exact hP9, va_K.moved hW.alike hK9, hD9⟩, hS.F ht⟩) hS.2.2 dX4_work_109
        · have t_4 : p0.toInt = 126 := kk_eq c_4
          try have := kk_rng p0
          exfalso; omega
      · have t_3 : p0.toInt = 33 := kk_eq c_3
        try have := kk_rng p0
        exfalso; omega
    · have t_2 : 0 ≤ p0.toInt := kk_nlt c_2
      refine lv_iload_n hx hb dX4_work_23 rfl (lv_at hl 1 rfl) ?_
      refine lv_aload_n hx hb dX4_work_24 rfl (lv_at hl 0 rfl) ?_
      refine va_get (D := (dC, dI)) (ci := 4) (v := .ref h1) (C := RX4) (T := TX4) (N := 5) hx hb hts (fun _ h => List.mem_cons_of_mem _ (List.mem_append_right _ h)) hown hK hP 0 rfl rfl 2 (by decide) (hts (.fieldLink RX4 19 "KinkStreet$Law" "known" "[I") (List.mem_of_getElem? (i := 1) rfl)) (fun _ h9 => h9) rfl dX4_work_25 ?_
      refine va_alen (v := 8) hx hb hK hP 1 0 rfl rfl rfl dX4_work_28 ?_
      refine lv_icmp_ge (tgt := 45) hx hb dX4_work_29 (by decide) (fun c_13 => ?_) (fun c_13 => ?_)
      · have t_13 : 8 ≤ p0.toInt := kk_le c_13
        refine lv_iload_n hx hb dX4_work_45 rfl (lv_at hl 1 rfl) ?_
        refine lv_bipush (v := 33) hx hb dX4_work_46 kk_bi_33 ?_
        refine lv_icmp_ne (tgt := 73) hx hb dX4_work_48 (by decide) (fun c_14 => ?_) (fun c_14 => ?_)
        · have t_14 : p0.toInt ≠ 33 := kk_ne c_14
          refine lv_iload_n hx hb dX4_work_73 rfl (lv_at hl 1 rfl) ?_
          refine lv_bipush (v := 126) hx hb dX4_work_74 kk_bi_126 ?_
          refine lv_icmp_ne (tgt := 91) hx hb dX4_work_76 (by decide) (fun c_15 => ?_) (fun c_15 => ?_)
          · have t_15 : p0.toInt ≠ 126 := kk_ne c_15
            refine lv_aload_n hx hb dX4_work_91 rfl (lv_at hl 0 rfl) ?_
            have hPc := kk_Ps (wq := [(h0, kO4 h3 n0_size h1 h2 n0_top), (h2, kAi cint 64 f2)]) hP [0, 2] rfl
            have hDc := kk_Ds (wq := [(h0, kO4 h3 n0_size h1 h2 n0_top), (h2, kAi cint 64 f2)]) hD [0, 2] (by decide) rfl
            have hKc := kk_Ks (tq := [(cint, .int)]) hK [0] rfl
            have hFc := va_free (wc := [(h0, kO4 h3 n0_size h1 h2 n0_top), (h2, kAi cint 64 f2)]) hD hS hA [0, 2] rfl
            refine va_calli (va_runV (As := []) (rest := []) ⟨hx, hb, hml, hown, hts⟩ (g_X4_pop_0 l dC dI h0 h2 h3 h1 cint s.heap.size n0_size n0_top f2 tn0_size tn0_top) (cwV 0 hts gX4_work_X4_pop rfl rfl rfl ⟨rfl, kh_X4_pop⟩ ⟨Nat.le_of_ble_eq_true rfl, Nat.le_of_ble_eq_true rfl⟩) ⟨fun a U g mk q => by obtain ⟨q0, q1, qP, qK, qD⟩ := q; exact ⟨q0, q1, qP, va_K.moved (u := U) (U := U.calling g mk a) (Vm.Alike.refl U.vm) qK, qD⟩, va_recv hKc hPc (ci := 4) (q0 := 0) rfl rfl, fun U hU hW => ⟨rfl, by rw [hU], by rw [hU]; exact hPc, va_K.moved hW.alike hKc, hDc.weaken (fun _ _ _ _ => trivial)⟩⟩ rfl rfl hl.1 rfl (lv_room (Nat.le_of_ble_eq_true rfl)) dX4_work_92 ⟨Nat.le_of_ble_eq_true rfl, Nat.le_of_ble_eq_true rfl⟩) hS (fun q _ h => hFc q h) hFc (fun r_16 u t H1 locs ht hvm hw hB hz1 hk1 hS => ?_)
            refine hB.elim (fun y_17 hB => ?_)
            refine hB.elim (fun by_17 hB => ?_)
            have hP1 := hB.1
            have hK1 := hB.2.1
            have hD1 := hB.2.2
            rw [ht] at hP1
            have hK1 := va_K.moved hvm.symm hK1
            obtain ⟨hP, hD⟩ := va_join (wr := [(h1, kAi cint 8 f1)]) (w1 := [(h0, kO4 h3 n0_size h1 h2 y_17), (h2, kAi cint 64 f2)]) hP hD [0, 2] [1] rfl rfl (by decide) (by decide) hk1 hFc hP1 hD1
            generalize H1 = H at hP hS ⊢
            have hP : va_P (dC, dI) vwCl [(h1, kAi cint 8 f1), (h0, kO4 h3 n0_size h1 h2 y_17), (h2, kAi cint 64 f2)] H := hP
            have hD : va_D A [(h1, kAi cint 8 f1), (h0, kO4 h3 n0_size h1 h2 y_17), (h2, kAi cint 64 f2)] := hD
            refine lv_istore_n hx hb dX4_work_95 rfl hl (by decide) (rfl : _ = ([(2, .int r_16), (0, .ref h0), (1, .int p0)] : List (Nat × Value))) (fun ls hl => ?_)
            refine lv_aload_n hx hb dX4_work_96 rfl (lv_at hl 1 rfl) ?_
            refine lv_iload_n hx hb dX4_work_97 rfl (lv_at hl 2 rfl) ?_
            refine lv_aload_n hx hb dX4_work_98 rfl (lv_at hl 1 rfl) ?_
            have hPc := kk_Ps (wq := [(h0, kO4 h3 n0_size h1 h2 y_17), (h2, kAi cint 64 f2)]) hP [1, 2] rfl
            have hDc := kk_Ds (wq := [(h0, kO4 h3 n0_size h1 h2 y_17), (h2, kAi cint 64 f2)]) hD [1, 2] (by decide) rfl
            have hKc := kk_Ks (tq := [(cint, .int)]) hK [0] rfl
            have hFc := va_free (wc := [(h0, kO4 h3 n0_size h1 h2 y_17), (h2, kAi cint 64 f2)]) hD hS hA [1, 2] rfl
            refine va_calli (va_runV (As := []) (rest := [.int p0, .ref h0]) ⟨hx, hb, hml, hown, hts⟩ (g_X4_pop_0 l dC dI h0 h2 h3 h1 cint H.size n0_size y_17 f2 tn0_size (by show 0 ≤ (y_17 : Int32).toInt ∧ (y_17 : Int32).toInt ≤ 64; first | decide | ((omega)))) (cwV 0 hts gX4_work_X4_pop rfl rfl rfl ⟨rfl, kh_X4_pop⟩ ⟨Nat.le_of_ble_eq_true rfl, Nat.le_of_ble_eq_true rfl⟩) ⟨fun a U g mk q => by obtain ⟨q0, q1, qP, qK, qD⟩ := q; exact ⟨q0, q1, qP, va_K.moved (u := U) (U := U.calling g mk a) (Vm.Alike.refl U.vm) qK, qD⟩, va_recv hKc hPc (ci := 4) (q0 := 0) rfl rfl, fun U hU hW => ⟨rfl, by rw [hU], by rw [hU]; exact hPc, va_K.moved hW.alike hKc, hDc.weaken (fun _ _ _ _ => trivial)⟩⟩ rfl rfl hl.1 rfl (lv_room (Nat.le_of_ble_eq_true rfl)) dX4_work_99 ⟨Nat.le_of_ble_eq_true rfl, Nat.le_of_ble_eq_true rfl⟩) hS (fun q _ h => hFc q h) hFc (fun r_18 u t H1 locs ht hvm hw hB hz1 hk1 hS => ?_)
            refine hB.elim (fun y_19 hB => ?_)
            refine hB.elim (fun by_19 hB => ?_)
            have hP1 := hB.1
            have hK1 := hB.2.1
            have hD1 := hB.2.2
            rw [ht] at hP1
            have hK1 := va_K.moved hvm.symm hK1
            obtain ⟨hP, hD⟩ := va_join (wr := [(h1, kAi cint 8 f1)]) (w1 := [(h0, kO4 h3 n0_size h1 h2 y_19), (h2, kAi cint 64 f2)]) hP hD [1, 2] [0] rfl rfl (by decide) (by decide) hk1 hFc hP1 hD1
            generalize H1 = H at hP hS ⊢
            have hP : va_P (dC, dI) vwCl [(h1, kAi cint 8 f1), (h0, kO4 h3 n0_size h1 h2 y_19), (h2, kAi cint 64 f2)] H := hP
            have hD : va_D A [(h1, kAi cint 8 f1), (h0, kO4 h3 n0_size h1 h2 y_19), (h2, kAi cint 64 f2)] := hD
            refine lv_iload_n hx hb dX4_work_102 rfl (lv_at hl 0 rfl) ?_
            have hPc := kk_Ps (wq := []) hP [] rfl
            have hDc := kk_Ds (wq := []) hD [] (by decide) rfl
            have hKc := kk_Ks (tq := []) hK [] rfl
            have hFc := va_free (wc := []) hD hS hA [] rfl
            refine va_calli (va_runS (As := [.int p0, .int r_18, .int r_16]) (rest := [.ref h0]) ⟨hx, hb, hml, hown, hts⟩ (g_X4_join_0 l dC dI H.size p0 r_18 r_16) (va_cwS 3 hts gX4_work_X4_join rfl rfl rfl kh_X4_join ⟨Nat.le_of_ble_eq_true rfl, Nat.le_of_ble_eq_true rfl⟩) ⟨fun a U g mk q => by obtain ⟨q0, q1, qP, qK, qD⟩ := q; exact ⟨q0, q1, qP, va_K.moved (u := U) (U := U.calling g mk a) (Vm.Alike.refl U.vm) qK, qD⟩, fun U hU hW => ⟨rfl, by rw [hU], by rw [hU]; exact hPc, va_K.moved hW.alike hKc, hDc.weaken (fun _ _ _ _ => trivial)⟩⟩ rfl rfl hl.1 rfl (lv_room (Nat.le_of_ble_eq_true rfl)) dX4_work_103 ⟨Nat.le_of_ble_eq_true rfl, Nat.le_of_ble_eq_true rfl⟩) hS (fun q _ h => hFc q h) hFc (fun r_20 u t H1 locs ht hvm hw hB hz1 hk1 hS => ?_)
            obtain ⟨hP1, hK1, hD1⟩ := hB
            rw [ht] at hP1
            have hK1 := va_K.moved hvm.symm hK1
            obtain ⟨hP, hD⟩ := va_join (wr := [(h1, kAi cint 8 f1), (h0, kO4 h3 n0_size h1 h2 y_19), (h2, kAi cint 64 f2)]) (w1 := []) hP hD [] [0, 1, 2] rfl rfl (by decide) (by decide) hk1 hFc hP1 hD1
            generalize H1 = H at hP hS ⊢
            have hP : va_P (dC, dI) vwCl [(h1, kAi cint 8 f1), (h0, kO4 h3 n0_size h1 h2 y_19), (h2, kAi cint 64 f2)] H := hP
            have hD : va_D A [(h1, kAi cint 8 f1), (h0, kO4 h3 n0_size h1 h2 y_19), (h2, kAi cint 64 f2)] := hD
            have hPc := kk_Ps (wq := [(h0, kO4 h3 n0_size h1 h2 y_19), (h2, kAi cint 64 f2)]) hP [1, 2] rfl
            have hDc := kk_Ds (wq := [(h0, kO4 h3 n0_size h1 h2 y_19), (h2, kAi cint 64 f2)]) hD [1, 2] (by decide) rfl
            have hKc := kk_Ks (tq := [(cint, .int)]) hK [0] rfl
            have hFc := va_free (wc := [(h0, kO4 h3 n0_size h1 h2 y_19), (h2, kAi cint 64 f2)]) hD hS hA [1, 2] rfl
            refine va_callv (va_runV (As := [.int r_20]) (rest := []) ⟨hx, hb, hml, hown, hts⟩ (g_X4_push_0 l dC dI h0 h2 h3 h1 cint H.size r_20 n0_size y_19 f2 tn0_size (by show 0 ≤ (y_19 : Int32).toInt ∧ (y_19 : Int32).toInt ≤ 64; first | decide | ((omega)))) (cwV 1 hts gX4_work_X4_push rfl rfl rfl ⟨rfl, kh_X4_push⟩ ⟨Nat.le_of_ble_eq_true rfl, Nat.le_of_ble_eq_true rfl⟩) ⟨fun a U g mk q => by obtain ⟨q0, q1, qP, qK, qD⟩ := q; exact ⟨q0, q1, qP, va_K.moved (u := U) (U := U.calling g mk a) (Vm.Alike.refl U.vm) qK, qD⟩, va_recv hKc hPc (ci := 4) (q0 := 0) rfl rfl, fun U hU hW => ⟨rfl, by rw [hU], by rw [hU]; exact hPc, va_K.moved hW.alike hKc, hDc.weaken (fun _ _ _ _ => trivial)⟩⟩ rfl rfl hl.1 rfl (lv_room (Nat.le_of_ble_eq_true rfl)) dX4_work_106 ⟨Nat.le_of_ble_eq_true rfl, Nat.le_of_ble_eq_true rfl⟩) hS (fun q _ h => hFc q h) hFc (fun u t H1 locs ht hvm hw hB hz1 hk1 hS => ?_)
            refine hB.elim (fun y_22 hB => ?_)
            refine hB.elim (fun f_23 hB => ?_)
            refine hB.elim (fun by_22 hB => ?_)
            have hP1 := hB.1
            have hK1 := hB.2.1
            have hD1 := hB.2.2
            rw [ht] at hP1
            have hK1 := va_K.moved hvm.symm hK1
            obtain ⟨hP, hD⟩ := va_join (wr := [(h1, kAi cint 8 f1)]) (w1 := [(h0, kO4 h3 n0_size h1 h2 y_22), (h2, kAi cint 64 f_23)]) hP hD [1, 2] [0] rfl rfl (by decide) (by decide) hk1 hFc hP1 hD1
            generalize H1 = H at hP hS ⊢
            have hP : va_P (dC, dI) vwCl [(h1, kAi cint 8 f1), (h0, kO4 h3 n0_size h1 h2 y_22), (h2, kAi cint 64 f_23)] H := hP
            have hD : va_D A [(h1, kAi cint 8 f1), (h0, kO4 h3 n0_size h1 h2 y_22), (h2, kAi cint 64 f_23)] := hD
            have hP9 := kk_Ps (wq := [(h0, kO4 h3 n0_size h1 h2 y_22), (h1, kAi cint 8 f1), (h2, kAi cint 64 f_23)]) hP [1, 0, 2] rfl
            have hD9 := kk_Ds (wq := [(h0, kO4 h3 n0_size h1 h2 y_22), (h1, kAi cint 8 f1), (h2, kAi cint 64 f_23)]) hD [1, 0, 2] (by decide) rfl
            have hK9 := kk_Ks (tq := []) hK [] rfl
            exact W.vret hx hb hr (fun t ht hW => ⟨⟨(), rfl, trivial, y_22, f_23, (by show 1 ≤ (y_22 : Int32).toInt ∧ (y_22 : Int32).toInt ≤ 64; first | decide | ((omega))), by rw [ht]; exact hP9, va_K.moved hW.alike hK9, hD9⟩, hS.F ht⟩) hS.2.2 dX4_work_109
          · have t_15 : p0.toInt = 126 := kk_eq c_15
            refine lv_aload_n hx hb dX4_work_79 rfl (lv_at hl 0 rfl) ?_
            refine lv_aload_n hx hb dX4_work_80 rfl (lv_at hl 0 rfl) ?_
            have hPc := kk_Ps (wq := [(h0, kO4 h3 n0_size h1 h2 n0_top), (h2, kAi cint 64 f2)]) hP [0, 2] rfl
            have hDc := kk_Ds (wq := [(h0, kO4 h3 n0_size h1 h2 n0_top), (h2, kAi cint 64 f2)]) hD [0, 2] (by decide) rfl
            have hKc := kk_Ks (tq := [(cint, .int)]) hK [0] rfl
            have hFc := va_free (wc := [(h0, kO4 h3 n0_size h1 h2 n0_top), (h2, kAi cint 64 f2)]) hD hS hA [0, 2] rfl
            refine va_calli (va_runV (As := []) (rest := [.ref h0]) ⟨hx, hb, hml, hown, hts⟩ (g_X4_pop_0 l dC dI h0 h2 h3 h1 cint s.heap.size n0_size n0_top f2 tn0_size tn0_top) (cwV 0 hts gX4_work_X4_pop rfl rfl rfl ⟨rfl, kh_X4_pop⟩ ⟨Nat.le_of_ble_eq_true rfl, Nat.le_of_ble_eq_true rfl⟩) ⟨fun a U g mk q => by obtain ⟨q0, q1, qP, qK, qD⟩ := q; exact ⟨q0, q1, qP, va_K.moved (u := U) (U := U.calling g mk a) (Vm.Alike.refl U.vm) qK, qD⟩, va_recv hKc hPc (ci := 4) (q0 := 0) rfl rfl, fun U hU hW => ⟨rfl, by rw [hU], by rw [hU]; exact hPc, va_K.moved hW.alike hKc, hDc.weaken (fun _ _ _ _ => trivial)⟩⟩ rfl rfl hl.1 rfl (lv_room (Nat.le_of_ble_eq_true rfl)) dX4_work_81 ⟨Nat.le_of_ble_eq_true rfl, Nat.le_of_ble_eq_true rfl⟩) hS (fun q _ h => hFc q h) hFc (fun r_24 u t H1 locs ht hvm hw hB hz1 hk1 hS => ?_)
            refine hB.elim (fun y_25 hB => ?_)
            refine hB.elim (fun by_25 hB => ?_)
            have hP1 := hB.1
            have hK1 := hB.2.1
            have hD1 := hB.2.2
            rw [ht] at hP1
            have hK1 := va_K.moved hvm.symm hK1
            obtain ⟨hP, hD⟩ := va_join (wr := [(h1, kAi cint 8 f1)]) (w1 := [(h0, kO4 h3 n0_size h1 h2 y_25), (h2, kAi cint 64 f2)]) hP hD [0, 2] [1] rfl rfl (by decide) (by decide) hk1 hFc hP1 hD1
            generalize H1 = H at hP hS ⊢
            have hP : va_P (dC, dI) vwCl [(h1, kAi cint 8 f1), (h0, kO4 h3 n0_size h1 h2 y_25), (h2, kAi cint 64 f2)] H := hP
            have hD : va_D A [(h1, kAi cint 8 f1), (h0, kO4 h3 n0_size h1 h2 y_25), (h2, kAi cint 64 f2)] := hD
            refine lv_ineg hx hb dX4_work_84 ?_
            refine lv_topi (fun y_26 e_26 => ?_)
            clear e_26
            have hPc := kk_Ps (wq := [(h0, kO4 h3 n0_size h1 h2 y_25), (h2, kAi cint 64 f2)]) hP [1, 2] rfl
            have hDc := kk_Ds (wq := [(h0, kO4 h3 n0_size h1 h2 y_25), (h2, kAi cint 64 f2)]) hD [1, 2] (by decide) rfl
            have hKc := kk_Ks (tq := [(cint, .int)]) hK [0] rfl
            have hFc := va_free (wc := [(h0, kO4 h3 n0_size h1 h2 y_25), (h2, kAi cint 64 f2)]) hD hS hA [1, 2] rfl
            refine va_callv (va_runV (As := [.int y_26]) (rest := []) ⟨hx, hb, hml, hown, hts⟩ (g_X4_push_0 l dC dI h0 h2 h3 h1 cint H.size y_26 n0_size y_25 f2 tn0_size (by show 0 ≤ (y_25 : Int32).toInt ∧ (y_25 : Int32).toInt ≤ 64; first | decide | ((omega)))) (cwV 1 hts gX4_work_X4_push rfl rfl rfl ⟨rfl, kh_X4_push⟩ ⟨Nat.le_of_ble_eq_true rfl, Nat.le_of_ble_eq_true rfl⟩) ⟨fun a U g mk q => by obtain ⟨q0, q1, qP, qK, qD⟩ := q; exact ⟨q0, q1, qP, va_K.moved (u := U) (U := U.calling g mk a) (Vm.Alike.refl U.vm) qK, qD⟩, va_recv hKc hPc (ci := 4) (q0 := 0) rfl rfl, fun U hU hW => ⟨rfl, by rw [hU], by rw [hU]; exact hPc, va_K.moved hW.alike hKc, hDc.weaken (fun _ _ _ _ => trivial)⟩⟩ rfl rfl hl.1 rfl (lv_room (Nat.le_of_ble_eq_true rfl)) dX4_work_85 ⟨Nat.le_of_ble_eq_true rfl, Nat.le_of_ble_eq_true rfl⟩) hS (fun q _ h => hFc q h) hFc (fun u t H1 locs ht hvm hw hB hz1 hk1 hS => ?_)
            refine hB.elim (fun y_28 hB => ?_)
            refine hB.elim (fun f_29 hB => ?_)
            refine hB.elim (fun by_28 hB => ?_)
            have hP1 := hB.1
            have hK1 := hB.2.1
            have hD1 := hB.2.2
            rw [ht] at hP1
            have hK1 := va_K.moved hvm.symm hK1
            obtain ⟨hP, hD⟩ := va_join (wr := [(h1, kAi cint 8 f1)]) (w1 := [(h0, kO4 h3 n0_size h1 h2 y_28), (h2, kAi cint 64 f_29)]) hP hD [1, 2] [0] rfl rfl (by decide) (by decide) hk1 hFc hP1 hD1
            generalize H1 = H at hP hS ⊢
            have hP : va_P (dC, dI) vwCl [(h1, kAi cint 8 f1), (h0, kO4 h3 n0_size h1 h2 y_28), (h2, kAi cint 64 f_29)] H := hP
            have hD : va_D A [(h1, kAi cint 8 f1), (h0, kO4 h3 n0_size h1 h2 y_28), (h2, kAi cint 64 f_29)] := hD
            refine lv_goto (tgt := 109) hx hb dX4_work_88 (by decide) ?_
            have hP9 := kk_Ps (wq := [(h0, kO4 h3 n0_size h1 h2 y_28), (h1, kAi cint 8 f1), (h2, kAi cint 64 f_29)]) hP [1, 0, 2] rfl
            have hD9 := kk_Ds (wq := [(h0, kO4 h3 n0_size h1 h2 y_28), (h1, kAi cint 8 f1), (h2, kAi cint 64 f_29)]) hD [1, 0, 2] (by decide) rfl
            have hK9 := kk_Ks (tq := []) hK [] rfl
            exact W.vret hx hb hr (fun t ht hW => ⟨⟨(), rfl, trivial, y_28, f_29, (by show 1 ≤ (y_28 : Int32).toInt ∧ (y_28 : Int32).toInt ≤ 64; first | decide | ((omega))), by rw [ht]; exact hP9, va_K.moved hW.alike hK9, hD9⟩, hS.F ht⟩) hS.2.2 dX4_work_109
        · have t_14 : p0.toInt = 33 := kk_eq c_14
          refine lv_aload_n hx hb dX4_work_51 rfl (lv_at hl 0 rfl) ?_
          refine lv_aload_n hx hb dX4_work_52 rfl (lv_at hl 0 rfl) ?_
          have hPc := kk_Ps (wq := [(h0, kO4 h3 n0_size h1 h2 n0_top), (h2, kAi cint 64 f2)]) hP [0, 2] rfl
          have hDc := kk_Ds (wq := [(h0, kO4 h3 n0_size h1 h2 n0_top), (h2, kAi cint 64 f2)]) hD [0, 2] (by decide) rfl
          have hKc := kk_Ks (tq := [(cint, .int)]) hK [0] rfl
          have hFc := va_free (wc := [(h0, kO4 h3 n0_size h1 h2 n0_top), (h2, kAi cint 64 f2)]) hD hS hA [0, 2] rfl
          refine va_calli (va_runV (As := []) (rest := [.ref h0]) ⟨hx, hb, hml, hown, hts⟩ (g_X4_pop_0 l dC dI h0 h2 h3 h1 cint s.heap.size n0_size n0_top f2 tn0_size tn0_top) (cwV 0 hts gX4_work_X4_pop rfl rfl rfl ⟨rfl, kh_X4_pop⟩ ⟨Nat.le_of_ble_eq_true rfl, Nat.le_of_ble_eq_true rfl⟩) ⟨fun a U g mk q => by obtain ⟨q0, q1, qP, qK, qD⟩ := q; exact ⟨q0, q1, qP, va_K.moved (u := U) (U := U.calling g mk a) (Vm.Alike.refl U.vm) qK, qD⟩, va_recv hKc hPc (ci := 4) (q0 := 0) rfl rfl, fun U hU hW => ⟨rfl, by rw [hU], by rw [hU]; exact hPc, va_K.moved hW.alike hKc, hDc.weaken (fun _ _ _ _ => trivial)⟩⟩ rfl rfl hl.1 rfl (lv_room (Nat.le_of_ble_eq_true rfl)) dX4_work_53 ⟨Nat.le_of_ble_eq_true rfl, Nat.le_of_ble_eq_true rfl⟩) hS (fun q _ h => hFc q h) hFc (fun r_30 u t H1 locs ht hvm hw hB hz1 hk1 hS => ?_)
          refine hB.elim (fun y_31 hB => ?_)
          refine hB.elim (fun by_31 hB => ?_)
          have hP1 := hB.1
          have hK1 := hB.2.1
          have hD1 := hB.2.2
          rw [ht] at hP1
          have hK1 := va_K.moved hvm.symm hK1
          obtain ⟨hP, hD⟩ := va_join (wr := [(h1, kAi cint 8 f1)]) (w1 := [(h0, kO4 h3 n0_size h1 h2 y_31), (h2, kAi cint 64 f2)]) hP hD [0, 2] [1] rfl rfl (by decide) (by decide) hk1 hFc hP1 hD1
          generalize H1 = H at hP hS ⊢
          have hP : va_P (dC, dI) vwCl [(h1, kAi cint 8 f1), (h0, kO4 h3 n0_size h1 h2 y_31), (h2, kAi cint 64 f2)] H := hP
          have hD : va_D A [(h1, kAi cint 8 f1), (h0, kO4 h3 n0_size h1 h2 y_31), (h2, kAi cint 64 f2)] := hD
          refine lv_if_ne (tgt := 63) hx hb dX4_work_56 (by decide) (fun c_32 => ?_) (fun c_32 => ?_)
          · have t_32 : r_30.toInt ≠ 0 := kk_ne c_32
            refine lv_iconst (v := 0) hx hb dX4_work_63 kk_ic_0 ?_
            have hPc := kk_Ps (wq := []) hP [] rfl
            have hDc := kk_Ds (wq := []) hD [] (by decide) rfl
            have hKc := kk_Ks (tq := []) hK [] rfl
            have hFc := va_free (wc := []) hD hS hA [] rfl
            refine va_calli (va_runS (As := [.int 0]) (rest := [.ref h0]) ⟨hx, hb, hml, hown, hts⟩ (g_X4_truth_0 l dC dI H.size 0) (va_cwS 1 hts gX4_work_X4_truth rfl rfl rfl kh_X4_truth ⟨Nat.le_of_ble_eq_true rfl, Nat.le_of_ble_eq_true rfl⟩) ⟨fun a U g mk q => by obtain ⟨q0, q1, qP, qK, qD⟩ := q; exact ⟨q0, q1, qP, va_K.moved (u := U) (U := U.calling g mk a) (Vm.Alike.refl U.vm) qK, qD⟩, fun U hU hW => ⟨rfl, by rw [hU], by rw [hU]; exact hPc, va_K.moved hW.alike hKc, hDc.weaken (fun _ _ _ _ => trivial)⟩⟩ rfl rfl hl.1 rfl (lv_room (Nat.le_of_ble_eq_true rfl)) dX4_work_64 ⟨Nat.le_of_ble_eq_true rfl, Nat.le_of_ble_eq_true rfl⟩) hS (fun q _ h => hFc q h) hFc (fun r_33 u t H1 locs ht hvm hw hB hz1 hk1 hS => ?_)
            obtain ⟨hP1, hK1, hD1⟩ := hB
            rw [ht] at hP1
            have hK1 := va_K.moved hvm.symm hK1
            obtain ⟨hP, hD⟩ := va_join (wr := [(h1, kAi cint 8 f1), (h0, kO4 h3 n0_size h1 h2 y_31), (h2, kAi cint 64 f2)]) (w1 := []) hP hD [] [0, 1, 2] rfl rfl (by decide) (by decide) hk1 hFc hP1 hD1
            generalize H1 = H at hP hS ⊢
            have hP : va_P (dC, dI) vwCl [(h1, kAi cint 8 f1), (h0, kO4 h3 n0_size h1 h2 y_31), (h2, kAi cint 64 f2)] H := hP
            have hD : va_D A [(h1, kAi cint 8 f1), (h0, kO4 h3 n0_size h1 h2 y_31), (h2, kAi cint 64 f2)] := hD
            have t_33 : 0 ≤ r_33.toInt ∧ r_33.toInt ≤ 1 := hw
            have hPc := kk_Ps (wq := [(h0, kO4 h3 n0_size h1 h2 y_31), (h2, kAi cint 64 f2)]) hP [1, 2] rfl
            have hDc := kk_Ds (wq := [(h0, kO4 h3 n0_size h1 h2 y_31), (h2, kAi cint 64 f2)]) hD [1, 2] (by decide) rfl
            have hKc := kk_Ks (tq := [(cint, .int)]) hK [0] rfl
            have hFc := va_free (wc := [(h0, kO4 h3 n0_size h1 h2 y_31), (h2, kAi cint 64 f2)]) hD hS hA [1, 2] rfl
            refine va_callv (va_runV (As := [.int r_33]) (rest := []) ⟨hx, hb, hml, hown, hts⟩ (g_X4_push_0 l dC dI h0 h2 h3 h1 cint H.size r_33 n0_size y_31 f2 tn0_size (by show 0 ≤ (y_31 : Int32).toInt ∧ (y_31 : Int32).toInt ≤ 64; first | decide | ((omega)))) (cwV 1 hts gX4_work_X4_push rfl rfl rfl ⟨rfl, kh_X4_push⟩ ⟨Nat.le_of_ble_eq_true rfl, Nat.le_of_ble_eq_true rfl⟩) ⟨fun a U g mk q => by obtain ⟨q0, q1, qP, qK, qD⟩ := q; exact ⟨q0, q1, qP, va_K.moved (u := U) (U := U.calling g mk a) (Vm.Alike.refl U.vm) qK, qD⟩, va_recv hKc hPc (ci := 4) (q0 := 0) rfl rfl, fun U hU hW => ⟨rfl, by rw [hU], by rw [hU]; exact hPc, va_K.moved hW.alike hKc, hDc.weaken (fun _ _ _ _ => trivial)⟩⟩ rfl rfl hl.1 rfl (lv_room (Nat.le_of_ble_eq_true rfl)) dX4_work_67 ⟨Nat.le_of_ble_eq_true rfl, Nat.le_of_ble_eq_true rfl⟩) hS (fun q _ h => hFc q h) hFc (fun u t H1 locs ht hvm hw hB hz1 hk1 hS => ?_)
            refine hB.elim (fun y_35 hB => ?_)
            refine hB.elim (fun f_36 hB => ?_)
            refine hB.elim (fun by_35 hB => ?_)
            have hP1 := hB.1
            have hK1 := hB.2.1
            have hD1 := hB.2.2
            rw [ht] at hP1
            have hK1 := va_K.moved hvm.symm hK1
            obtain ⟨hP, hD⟩ := va_join (wr := [(h1, kAi cint 8 f1)]) (w1 := [(h0, kO4 h3 n0_size h1 h2 y_35), (h2, kAi cint 64 f_36)]) hP hD [1, 2] [0] rfl rfl (by decide) (by decide) hk1 hFc hP1 hD1
            generalize H1 = H at hP hS ⊢
            have hP : va_P (dC, dI) vwCl [(h1, kAi cint 8 f1), (h0, kO4 h3 n0_size h1 h2 y_35), (h2, kAi cint 64 f_36)] H := hP
            have hD : va_D A [(h1, kAi cint 8 f1), (h0, kO4 h3 n0_size h1 h2 y_35), (h2, kAi cint 64 f_36)] := hD
            refine lv_goto (tgt := 109) hx hb dX4_work_70 (by decide) ?_
            have hP9 := kk_Ps (wq := [(h0, kO4 h3 n0_size h1 h2 y_35), (h1, kAi cint 8 f1), (h2, kAi cint 64 f_36)]) hP [1, 0, 2] rfl
            have hD9 := kk_Ds (wq := [(h0, kO4 h3 n0_size h1 h2 y_35), (h1, kAi cint 8 f1), (h2, kAi cint 64 f_36)]) hD [1, 0, 2] (by decide) rfl
            have hK9 := kk_Ks (tq := []) hK [] rfl
            exact W.vret hx hb hr (fun t ht hW => ⟨⟨(), rfl, trivial, y_35, f_36, (by show 1 ≤ (y_35 : Int32).toInt ∧ (y_35 : Int32).toInt ≤ 64; first | decide | ((omega))), by rw [ht]; exact hP9, va_K.moved hW.alike hK9, hD9⟩, hS.F ht⟩) hS.2.2 dX4_work_109
          · have t_32 : r_30.toInt = 0 := kk_eq c_32
            refine lv_iconst (v := 1) hx hb dX4_work_59 kk_ic_1 ?_
            refine lv_goto (tgt := 64) hx hb dX4_work_60 (by decide) ?_
            have hPc := kk_Ps (wq := []) hP [] rfl
            have hDc := kk_Ds (wq := []) hD [] (by decide) rfl
            have hKc := kk_Ks (tq := []) hK [] rfl
            have hFc := va_free (wc := []) hD hS hA [] rfl
            refine va_calli (va_runS (As := [.int 1]) (rest := [.ref h0]) ⟨hx, hb, hml, hown, hts⟩ (g_X4_truth_0 l dC dI H.size 1) (va_cwS 1 hts gX4_work_X4_truth rfl rfl rfl kh_X4_truth ⟨Nat.le_of_ble_eq_true rfl, Nat.le_of_ble_eq_true rfl⟩) ⟨fun a U g mk q => by obtain ⟨q0, q1, qP, qK, qD⟩ := q; exact ⟨q0, q1, qP, va_K.moved (u := U) (U := U.calling g mk a) (Vm.Alike.refl U.vm) qK, qD⟩, fun U hU hW => ⟨rfl, by rw [hU], by rw [hU]; exact hPc, va_K.moved hW.alike hKc, hDc.weaken (fun _ _ _ _ => trivial)⟩⟩ rfl rfl hl.1 rfl (lv_room (Nat.le_of_ble_eq_true rfl)) dX4_work_64 ⟨Nat.le_of_ble_eq_true rfl, Nat.le_of_ble_eq_true rfl⟩) hS (fun q _ h => hFc q h) hFc (fun r_37 u t H1 locs ht hvm hw hB hz1 hk1 hS => ?_)
            obtain ⟨hP1, hK1, hD1⟩ := hB
            rw [ht] at hP1
            have hK1 := va_K.moved hvm.symm hK1
            obtain ⟨hP, hD⟩ := va_join (wr := [(h1, kAi cint 8 f1), (h0, kO4 h3 n0_size h1 h2 y_31), (h2, kAi cint 64 f2)]) (w1 := []) hP hD [] [0, 1, 2] rfl rfl (by decide) (by decide) hk1 hFc hP1 hD1
            generalize H1 = H at hP hS ⊢
            have hP : va_P (dC, dI) vwCl [(h1, kAi cint 8 f1), (h0, kO4 h3 n0_size h1 h2 y_31), (h2, kAi cint 64 f2)] H := hP
            have hD : va_D A [(h1, kAi cint 8 f1), (h0, kO4 h3 n0_size h1 h2 y_31), (h2, kAi cint 64 f2)] := hD
            have t_37 : 0 ≤ r_37.toInt ∧ r_37.toInt ≤ 1 := hw
            have hPc := kk_Ps (wq := [(h0, kO4 h3 n0_size h1 h2 y_31), (h2, kAi cint 64 f2)]) hP [1, 2] rfl
            have hDc := kk_Ds (wq := [(h0, kO4 h3 n0_size h1 h2 y_31), (h2, kAi cint 64 f2)]) hD [1, 2] (by decide) rfl
            have hKc := kk_Ks (tq := [(cint, .int)]) hK [0] rfl
            have hFc := va_free (wc := [(h0, kO4 h3 n0_size h1 h2 y_31), (h2, kAi cint 64 f2)]) hD hS hA [1, 2] rfl
            refine va_callv (va_runV (As := [.int r_37]) (rest := []) ⟨hx, hb, hml, hown, hts⟩ (g_X4_push_0 l dC dI h0 h2 h3 h1 cint H.size r_37 n0_size y_31 f2 tn0_size (by show 0 ≤ (y_31 : Int32).toInt ∧ (y_31 : Int32).toInt ≤ 64; first | decide | ((omega)))) (cwV 1 hts gX4_work_X4_push rfl rfl rfl ⟨rfl, kh_X4_push⟩ ⟨Nat.le_of_ble_eq_true rfl, Nat.le_of_ble_eq_true rfl⟩) ⟨fun a U g mk q => by obtain ⟨q0, q1, qP, qK, qD⟩ := q; exact ⟨q0, q1, qP, va_K.moved (u := U) (U := U.calling g mk a) (Vm.Alike.refl U.vm) qK, qD⟩, va_recv hKc hPc (ci := 4) (q0 := 0) rfl rfl, fun U hU hW => ⟨rfl, by rw [hU], by rw [hU]; exact hPc, va_K.moved hW.alike hKc, hDc.weaken (fun _ _ _ _ => trivial)⟩⟩ rfl rfl hl.1 rfl (lv_room (Nat.le_of_ble_eq_true rfl)) dX4_work_67 ⟨Nat.le_of_ble_eq_true rfl, Nat.le_of_ble_eq_true rfl⟩) hS (fun q _ h => hFc q h) hFc (fun u t H1 locs ht hvm hw hB hz1 hk1 hS => ?_)
            refine hB.elim (fun y_39 hB => ?_)
            refine hB.elim (fun f_40 hB => ?_)
            refine hB.elim (fun by_39 hB => ?_)
            have hP1 := hB.1
            have hK1 := hB.2.1
            have hD1 := hB.2.2
            rw [ht] at hP1
            have hK1 := va_K.moved hvm.symm hK1
            obtain ⟨hP, hD⟩ := va_join (wr := [(h1, kAi cint 8 f1)]) (w1 := [(h0, kO4 h3 n0_size h1 h2 y_39), (h2, kAi cint 64 f_40)]) hP hD [1, 2] [0] rfl rfl (by decide) (by decide) hk1 hFc hP1 hD1
            generalize H1 = H at hP hS ⊢
            have hP : va_P (dC, dI) vwCl [(h1, kAi cint 8 f1), (h0, kO4 h3 n0_size h1 h2 y_39), (h2, kAi cint 64 f_40)] H := hP
            have hD : va_D A [(h1, kAi cint 8 f1), (h0, kO4 h3 n0_size h1 h2 y_39), (h2, kAi cint 64 f_40)] := hD
            refine lv_goto (tgt := 109) hx hb dX4_work_70 (by decide) ?_
            have hP9 := kk_Ps (wq := [(h0, kO4 h3 n0_size h1 h2 y_39), (h1, kAi cint 8 f1), (h2, kAi cint 64 f_40)]) hP [1, 0, 2] rfl
            have hD9 := kk_Ds (wq := [(h0, kO4 h3 n0_size h1 h2 y_39), (h1, kAi cint 8 f1), (h2, kAi cint 64 f_40)]) hD [1, 0, 2] (by decide) rfl
            have hK9 := kk_Ks (tq := []) hK [] rfl
            exact W.vret hx hb hr (fun t ht hW => ⟨⟨(), rfl, trivial, y_39, f_40, (by show 1 ≤ (y_39 : Int32).toInt ∧ (y_39 : Int32).toInt ≤ 64; first | decide | ((omega))), by rw [ht]; exact hP9, va_K.moved hW.alike hK9, hD9⟩, hS.F ht⟩) hS.2.2 dX4_work_109
      · have t_13 : p0.toInt < 8 := kk_nle c_13
        refine lv_aload_n hx hb dX4_work_32 rfl (lv_at hl 0 rfl) ?_
        refine lv_aload_n hx hb dX4_work_33 rfl (lv_at hl 0 rfl) ?_
        refine va_get (D := (dC, dI)) (ci := 4) (v := .ref h1) (C := RX4) (T := TX4) (N := 5) hx hb hts (fun _ h => List.mem_cons_of_mem _ (List.mem_append_right _ h)) hown hK hP 0 rfl rfl 2 (by decide) (hts (.fieldLink RX4 19 "KinkStreet$Law" "known" "[I") (List.mem_of_getElem? (i := 1) rfl)) (fun _ h9 => h9) rfl dX4_work_34 ?_
        refine lv_iload_n hx hb dX4_work_37 rfl (lv_at hl 1 rfl) ?_
        have hi_41 : vp_in p0 8 := (vp_in_iff.mpr ⟨by omega, by omega⟩)
        refine va_iald hx hb hK hP 1 0 rfl rfl hi_41 dX4_work_38 ?_
        refine lv_topi (fun y_41 e_41 => ?_)
        clear e_41
        have hPc := kk_Ps (wq := [(h0, kO4 h3 n0_size h1 h2 n0_top), (h2, kAi cint 64 f2)]) hP [0, 2] rfl
        have hDc := kk_Ds (wq := [(h0, kO4 h3 n0_size h1 h2 n0_top), (h2, kAi cint 64 f2)]) hD [0, 2] (by decide) rfl
        have hKc := kk_Ks (tq := [(cint, .int)]) hK [0] rfl
        have hFc := va_free (wc := [(h0, kO4 h3 n0_size h1 h2 n0_top), (h2, kAi cint 64 f2)]) hD hS hA [0, 2] rfl
        refine va_callv (va_runV (As := [.int y_41]) (rest := []) ⟨hx, hb, hml, hown, hts⟩ (g_X4_push_0 l dC dI h0 h2 h3 h1 cint s.heap.size y_41 n0_size n0_top f2 tn0_size tn0_top) (cwV 1 hts gX4_work_X4_push rfl rfl rfl ⟨rfl, kh_X4_push⟩ ⟨Nat.le_of_ble_eq_true rfl, Nat.le_of_ble_eq_true rfl⟩) ⟨fun a U g mk q => by obtain ⟨q0, q1, qP, qK, qD⟩ := q; exact ⟨q0, q1, qP, va_K.moved (u := U) (U := U.calling g mk a) (Vm.Alike.refl U.vm) qK, qD⟩, va_recv hKc hPc (ci := 4) (q0 := 0) rfl rfl, fun U hU hW => ⟨rfl, by rw [hU], by rw [hU]; exact hPc, va_K.moved hW.alike hKc, hDc.weaken (fun _ _ _ _ => trivial)⟩⟩ rfl rfl hl.1 rfl (lv_room (Nat.le_of_ble_eq_true rfl)) dX4_work_39 ⟨Nat.le_of_ble_eq_true rfl, Nat.le_of_ble_eq_true rfl⟩) hS (fun q _ h => hFc q h) hFc (fun u t H1 locs ht hvm hw hB hz1 hk1 hS => ?_)
        refine hB.elim (fun y_43 hB => ?_)
        refine hB.elim (fun f_44 hB => ?_)
        refine hB.elim (fun by_43 hB => ?_)
        have hP1 := hB.1
        have hK1 := hB.2.1
        have hD1 := hB.2.2
        rw [ht] at hP1
        have hK1 := va_K.moved hvm.symm hK1
        obtain ⟨hP, hD⟩ := va_join (wr := [(h1, kAi cint 8 f1)]) (w1 := [(h0, kO4 h3 n0_size h1 h2 y_43), (h2, kAi cint 64 f_44)]) hP hD [0, 2] [1] rfl rfl (by decide) (by decide) hk1 hFc hP1 hD1
        generalize H1 = H at hP hS ⊢
        have hP : va_P (dC, dI) vwCl [(h1, kAi cint 8 f1), (h0, kO4 h3 n0_size h1 h2 y_43), (h2, kAi cint 64 f_44)] H := hP
        have hD : va_D A [(h1, kAi cint 8 f1), (h0, kO4 h3 n0_size h1 h2 y_43), (h2, kAi cint 64 f_44)] := hD
        refine lv_goto (tgt := 109) hx hb dX4_work_42 (by decide) ?_
        have hP9 := kk_Ps (wq := [(h0, kO4 h3 n0_size h1 h2 y_43), (h1, kAi cint 8 f1), (h2, kAi cint 64 f_44)]) hP [1, 0, 2] rfl
        have hD9 := kk_Ds (wq := [(h0, kO4 h3 n0_size h1 h2 y_43), (h1, kAi cint 8 f1), (h2, kAi cint 64 f_44)]) hD [1, 0, 2] (by decide) rfl
        have hK9 := kk_Ks (tq := []) hK [] rfl
        exact W.vret hx hb hr (fun t ht hW => ⟨⟨(), rfl, trivial, y_43, f_44, (by show 1 ≤ (y_43 : Int32).toInt ∧ (y_43 : Int32).toInt ≤ 64; first | decide | ((omega))), by rw [ht]; exact hP9, va_K.moved hW.alike hK9, hD9⟩, hS.F ht⟩) hS.2.2 dX4_work_109
  · have t_1 : 256 ≤ p0.toInt := kk_nlt c_1
    refine lv_aload_n hx hb dX4_work_7 rfl (lv_at hl 0 rfl) ?_
    refine lv_iload_n hx hb dX4_work_8 rfl (lv_at hl 1 rfl) ?_
    refine lv_sipush (v := 256) hx hb dX4_work_9 kk_si_256 ?_
    refine lv_isub hx hb dX4_work_12 ?_
    have hPc := kk_Ps (wq := [(h0, kO4 h3 n0_size h1 h2 n0_top), (h2, kAi cint 64 f2)]) hP [0, 2] rfl
    have hDc := kk_Ds (wq := [(h0, kO4 h3 n0_size h1 h2 n0_top), (h2, kAi cint 64 f2)]) hD [0, 2] (by decide) rfl
    have hKc := kk_Ks (tq := [(cint, .int)]) hK [0] rfl
    have hFc := va_free (wc := [(h0, kO4 h3 n0_size h1 h2 n0_top), (h2, kAi cint 64 f2)]) hD hS hA [0, 2] rfl
    refine va_callv (va_runV (As := [.int (p0 - 256)]) (rest := []) ⟨hx, hb, hml, hown, hts⟩ (g_X4_push_0 l dC dI h0 h2 h3 h1 cint s.heap.size (p0 - 256) n0_size n0_top f2 tn0_size tn0_top) (cwV 1 hts gX4_work_X4_push rfl rfl rfl ⟨rfl, kh_X4_push⟩ ⟨Nat.le_of_ble_eq_true rfl, Nat.le_of_ble_eq_true rfl⟩) ⟨fun a U g mk q => by obtain ⟨q0, q1, qP, qK, qD⟩ := q; exact ⟨q0, q1, qP, va_K.moved (u := U) (U := U.calling g mk a) (Vm.Alike.refl U.vm) qK, qD⟩, va_recv hKc hPc (ci := 4) (q0 := 0) rfl rfl, fun U hU hW => ⟨rfl, by rw [hU], by rw [hU]; exact hPc, va_K.moved hW.alike hKc, hDc.weaken (fun _ _ _ _ => trivial)⟩⟩ rfl rfl hl.1 rfl (lv_room (Nat.le_of_ble_eq_true rfl)) dX4_work_13 ⟨Nat.le_of_ble_eq_true rfl, Nat.le_of_ble_eq_true rfl⟩) hS (fun q _ h => hFc q h) hFc (fun u t H1 locs ht hvm hw hB hz1 hk1 hS => ?_)
    refine hB.elim (fun y_46 hB => ?_)
    refine hB.elim (fun f_47 hB => ?_)
    refine hB.elim (fun by_46 hB => ?_)
    have hP1 := hB.1
    have hK1 := hB.2.1
    have hD1 := hB.2.2
    rw [ht] at hP1
    have hK1 := va_K.moved hvm.symm hK1
    obtain ⟨hP, hD⟩ := va_join (wr := [(h1, kAi cint 8 f1)]) (w1 := [(h0, kO4 h3 n0_size h1 h2 y_46), (h2, kAi cint 64 f_47)]) hP hD [0, 2] [1] rfl rfl (by decide) (by decide) hk1 hFc hP1 hD1
    generalize H1 = H at hP hS ⊢
    have hP : va_P (dC, dI) vwCl [(h1, kAi cint 8 f1), (h0, kO4 h3 n0_size h1 h2 y_46), (h2, kAi cint 64 f_47)] H := hP
    have hD : va_D A [(h1, kAi cint 8 f1), (h0, kO4 h3 n0_size h1 h2 y_46), (h2, kAi cint 64 f_47)] := hD
    refine lv_goto (tgt := 109) hx hb dX4_work_16 (by decide) ?_
    have hP9 := kk_Ps (wq := [(h0, kO4 h3 n0_size h1 h2 y_46), (h1, kAi cint 8 f1), (h2, kAi cint 64 f_47)]) hP [1, 0, 2] rfl
    have hD9 := kk_Ds (wq := [(h0, kO4 h3 n0_size h1 h2 y_46), (h1, kAi cint 8 f1), (h2, kAi cint 64 f_47)]) hD [1, 0, 2] (by decide) rfl
    have hK9 := kk_Ks (tq := []) hK [] rfl
    try have := kk_rng p0
    try have := kk_sub2 (x := p0) (y := 256) (a := p0.toInt) (b := 256) rfl rfl (by omega) (by omega)
    exact W.vret hx hb hr (fun t ht hW => ⟨⟨(), rfl, trivial, y_46, f_47, (by show 1 ≤ (y_46 : Int32).toInt ∧ (y_46 : Int32).toInt ≤ 64; first | decide | ((omega))), by rw [ht]; exact hP9, va_K.moved hW.alike hK9, hD9⟩, hS.F ht⟩) hS.2.2 dX4_work_109
set_option maxHeartbeats 4000000 in
set_option maxRecDepth 100000 in
theorem g_X4_gives_0 (l : Launch) (dC : Nat → ClassId) (dI : Nat → Nat → Nat) (h0 : Nat) (h1 : Nat) (h2 : Nat) (h3 : Nat) (cint : ClassId) (sz : Nat) (n0_size : Int32) (n0_top : Int32) (f1 : Nat → Int32) (f2 : Nat → Int32) (f3 : Nat → Int32) (tn0_size : 0 ≤ n0_size.toInt ∧ n0_size.toInt ≤ 128) (tn0_top : kk_bx (0 ≤ n0_top.toInt ∧ n0_top.toInt ≤ 64)) : Met l yX4_gives wsX4_gives ({ frames := 3, cells := 0, slots := 0, locals := 65 }) (va_Pc [.ref h0] (fun U => U.heap.size = sz ∧ va_P (dC, dI) vwCl [(h0, kO4 h1 n0_size h2 h3 n0_top), (h1, kAi cint 128 f1), (h2, kAi cint 8 f2), (h3, kAi cint 64 f3)] U.heap ∧ va_K (dC, dI) vwCl [(cint, .int)] U ∧ va_D (fun _ => True) [(h0, kO4 h1 n0_size h2 h3 n0_top), (h1, kAi cint 128 f1), (h2, kAi cint 8 f2), (h3, kAi cint 64 f3)])) (va_Qi (fun (r : Int32) (_ : Unit) => True) (fun (_ : Unit) t => ∃ (m0_top : Int32) (g3 : Nat → Int32), (0 ≤ m0_top.toInt ∧ m0_top.toInt ≤ 64) ∧ va_P (dC, dI) vwCl [(h0, kO4 h1 n0_size h2 h3 m0_top), (h1, kAi cint 128 f1), (h2, kAi cint 8 f2), (h3, kAi cint 64 g3)] t.heap ∧ va_K (dC, dI) vwCl [] t ∧ va_D (va_A [(h0, kO4 h1 n0_size h2 h3 n0_top), (h1, kAi cint 128 f1), (h2, kAi cint 8 f2), (h3, kAi cint 64 f3)] sz) [(h0, kO4 h1 n0_size h2 h3 m0_top), (h1, kAi cint 128 f1), (h2, kAi cint 8 f2), (h3, kAi cint 64 g3)]) (va_A [(h0, kO4 h1 n0_size h2 h3 n0_top), (h1, kAi cint 128 f1), (h2, kAi cint 8 f2), (h3, kAi cint 64 f3)] sz)) 0 0 (va_A [(h0, kO4 h1 n0_size h2 h3 n0_top), (h1, kAi cint 128 f1), (h2, kAi cint 8 f2), (h3, kAi cint 64 f3)] sz) := by
  refine Met.ofW (cc := cX4_gives) (maxL := 4) (ret := (some .int)) (by decide) rfl ?_
  intro p e s m args below meth c s₁ B hml hv
  obtain ⟨rfl, hsz, hP, hK, hD0⟩ := hv
  have hx := B.exec
  have hb := B.bytes
  have hr := B.returns
  have hts := atoms_spec (ws := wsX4_gives) B.pre
  have hown : s.vm.findClass RX4 = some m.cls := findClass_of_methodNamed B.named
  have hlocks := B.notSynchronized
  subst hsz
  have hD := hD0.self (sz := s.heap.size)
  generalize hAe : va_A [(h0, kO4 h1 n0_size h2 h3 n0_top), (h1, kAi cint 128 f1), (h2, kAi cint 8 f2), (h3, kAi cint 64 f3)] s.heap.size = A at hD ⊢
  have hA : ∀ q : Nat, s.heap.size ≤ q → A q := fun q h => by rw [← hAe]; exact Or.inr h
  have hS : va_S A s.heap s.heap [] := va_S.rf
  have hP : va_P (dC, dI) vwCl [(h0, kO4 h1 n0_size h2 h3 n0_top), (h1, kAi cint 128 f1), (h2, kAi cint 8 f2), (h3, kAi cint 64 f3)] s.heap := hP
  have hl := lv_entry ([.ref h0]) (n := 4) (Nat.le_of_ble_eq_true rfl)
  rw [lg_entry_eq]
  generalize (lg_sl ([.ref h0]) ++ List.replicate (4 - (lg_sl ([.ref h0])).length) Slot.unset).toArray = ls at hl ⊢
  have hl : lv_has ls 4 [(0, .ref h0)] := hl
  refine lv_aload_n hx hb dX4_gives_0 rfl (lv_at hl 0 rfl) ?_
  refine lv_iconst (v := 0) hx hb dX4_gives_1 kk_ic_0 ?_
  refine va_put (D := (dC, dI)) (ci := 4) (v := .int 0) (ty := .int) (C := RX4) (T := TX4) (N := 5) hx hb hts (fun _ h => List.mem_cons_of_mem _ (List.mem_append_right _ h)) tyX4 tyX4_ok nmX4 hown hK hP hD hS 0 rfl rfl 4 (by decide) (hts (.fieldLink RX4 76 "KinkStreet$Law" "top" "I") (List.mem_of_getElem? (i := 1) rfl)) (fun _ h9 => h9) rfl (by decide +kernel) rfl rfl (Nat.le_of_ble_eq_true rfl) dX4_gives_2 (fun H locs hP hD hS => ?_)
  have hP : va_P (dC, dI) vwCl [(h0, kO4 h1 n0_size h2 h3 0), (h1, kAi cint 128 f1), (h2, kAi cint 8 f2), (h3, kAi cint 64 f3)] H := hP
  have hD : va_D A [(h0, kO4 h1 n0_size h2 h3 0), (h1, kAi cint 128 f1), (h2, kAi cint 8 f2), (h3, kAi cint 64 f3)] := hD
  refine lv_iconst (v := 0) hx hb dX4_gives_5 kk_ic_0 ?_
  refine lv_istore_n hx hb dX4_gives_6 rfl hl (by decide) (rfl : _ = ([(1, .int 0), (0, .ref h0)] : List (Nat × Value))) (fun ls hl => ?_)
  refine lv_iconst (v := 0) hx hb dX4_gives_7 kk_ic_0 ?_
  refine lv_istore_n hx hb dX4_gives_8 rfl hl (by decide) (rfl : _ = ([(2, .int 0), (1, .int 0), (0, .ref h0)] : List (Nat × Value))) (fun ls hl => ?_)
  refine kk_loop (σ := Int32 × Int32 × (Nat → Int32) × Int32) (fun x H locs ls => (0 ≤ x.1.toInt ∧ x.1.toInt ≤ 128) ∧ (0 ≤ x.2.1.toInt ∧ x.2.1.toInt ≤ 64) ∧ (0 ≤ x.2.2.2.toInt ∧ x.2.2.2.toInt ≤ 1) ∧ va_P (dC, dI) vwCl [(h0, kO4 h1 n0_size h2 h3 x.2.1), (h1, kAi cint 128 f1), (h2, kAi cint 8 f2), (h3, kAi cint 64 x.2.2.1)] H ∧ va_D A [(h0, kO4 h1 n0_size h2 h3 x.2.1), (h1, kAi cint 128 f1), (h2, kAi cint 8 f2), (h3, kAi cint 64 x.2.2.1)] ∧ va_S A s.heap H locs ∧ lv_has ls 4 [(2, .int x.1), (1, .int x.2.2.2), (0, .ref h0)]) (fun x => ((128 : Int) - x.1.toInt).toNat) ?_ (0, 0, f3, 0) _ _ _ ⟨(by show 0 ≤ (0 : Int32).toInt ∧ (0 : Int32).toInt ≤ 128; first | decide | ((omega))), (by show 0 ≤ (0 : Int32).toInt ∧ (0 : Int32).toInt ≤ 64; first | decide | ((omega))), (by show 0 ≤ (0 : Int32).toInt ∧ (0 : Int32).toInt ≤ 1; first | decide | ((omega))), hP, hD, hS, hl⟩
  rintro ⟨i_1_0, i_1_1, f_1_2, i_1_3⟩ H locs ls ⟨t_1_0, t_1_1, t_1_3, hP, hD, hS, hl⟩ ih_1
  have t_1_0 : (0 ≤ i_1_0.toInt ∧ i_1_0.toInt ≤ 128) := t_1_0
  have t_1_1 : (0 ≤ i_1_1.toInt ∧ i_1_1.toInt ≤ 64) := t_1_1
  have t_1_3 : (0 ≤ i_1_3.toInt ∧ i_1_3.toInt ≤ 1) := t_1_3
  have hl : lv_has ls 4 [(2, .int i_1_0), (1, .int i_1_3), (0, .ref h0)] := hl
  have hP : va_P (dC, dI) vwCl [(h0, kO4 h1 n0_size h2 h3 i_1_1), (h1, kAi cint 128 f1), (h2, kAi cint 8 f2), (h3, kAi cint 64 f_1_2)] H := hP
  have hD : va_D A [(h0, kO4 h1 n0_size h2 h3 i_1_1), (h1, kAi cint 128 f1), (h2, kAi cint 8 f2), (h3, kAi cint 64 f_1_2)] := hD
  refine lv_iload_n hx hb dX4_gives_9 rfl (lv_at hl 0 rfl) ?_
  refine lv_aload_n hx hb dX4_gives_10 rfl (lv_at hl 2 rfl) ?_
  refine va_get (D := (dC, dI)) (ci := 4) (v := .int n0_size) (C := RX4) (T := TX4) (N := 5) hx hb hts (fun _ h => List.mem_cons_of_mem _ (List.mem_append_right _ h)) hown hK hP 0 rfl rfl 1 (by decide) (hts (.fieldLink RX4 25 "KinkStreet$Law" "size" "I") (List.mem_of_getElem? (i := 2) rfl)) (fun _ h9 => h9) rfl dX4_gives_11 ?_
  refine lv_icmp_ge (tgt := 87) hx hb dX4_gives_14 (by decide) (fun c_111 => ?_) (fun c_111 => ?_)
  · have t_111 : n0_size.toInt ≤ i_1_0.toInt := kk_le c_111
    refine lv_iconst (v := 0) hx hb dX4_gives_87 kk_ic_0 ?_
    have hP9 := kk_Ps (wq := [(h0, kO4 h1 n0_size h2 h3 i_1_1), (h1, kAi cint 128 f1), (h2, kAi cint 8 f2), (h3, kAi cint 64 f_1_2)]) hP [0, 1, 2, 3] rfl
    have hD9 := kk_Ds (wq := [(h0, kO4 h1 n0_size h2 h3 i_1_1), (h1, kAi cint 128 f1), (h2, kAi cint 8 f2), (h3, kAi cint 64 f_1_2)]) hD [0, 1, 2, 3] (by decide) rfl
    have hK9 := kk_Ks (tq := []) hK [] rfl
    exact W.iret (v := 0) hx hb hr (fun t ht hW => ⟨⟨0, (), rfl, trivial, i_1_1, f_1_2, (by show 0 ≤ (i_1_1 : Int32).toInt ∧ (i_1_1 : Int32).toInt ≤ 64; first | decide | ((omega))), by rw [ht]; exact hP9, va_K.moved hW.alike hK9, hD9⟩, hS.F ht⟩) hS.2.2 dX4_gives_88
  · have t_111 : i_1_0.toInt < n0_size.toInt := kk_nle c_111
    refine lv_aload_n hx hb dX4_gives_17 rfl (lv_at hl 2 rfl) ?_
    refine va_get (D := (dC, dI)) (ci := 4) (v := .ref h1) (C := RX4) (T := TX4) (N := 5) hx hb hts (fun _ h => List.mem_cons_of_mem _ (List.mem_append_right _ h)) hown hK hP 0 rfl rfl 0 (by decide) (hts (.fieldLink RX4 11 "KinkStreet$Law" "signs" "[I") (List.mem_of_getElem? (i := 3) rfl)) (fun _ h9 => h9) rfl dX4_gives_18 ?_
    refine lv_iload_n hx hb dX4_gives_21 rfl (lv_at hl 0 rfl) ?_
    have hi_112 : vp_in i_1_0 128 := (vp_in_iff.mpr ⟨by omega, by omega⟩)
    refine va_iald hx hb hK hP 1 0 rfl rfl hi_112 dX4_gives_22 ?_
    refine lv_topi (fun y_112 e_112 => ?_)
    clear e_112
    refine lv_istore_n hx hb dX4_gives_23 rfl hl (by decide) (rfl : _ = ([(3, .int y_112), (2, .int i_1_0), (1, .int i_1_3), (0, .ref h0)] : List (Nat × Value))) (fun ls hl => ?_)
    refine lv_iload_n hx hb dX4_gives_24 rfl (lv_at hl 2 rfl) ?_
    refine lv_if_eq (tgt := 43) hx hb dX4_gives_25 (by decide) (fun c_113 => ?_) (fun c_113 => ?_)
    · have t_113 : i_1_3.toInt = 0 := kk_eq c_113
      refine lv_iload_n hx hb dX4_gives_43 rfl (lv_at hl 0 rfl) ?_
      refine lv_bipush (v := 59) hx hb dX4_gives_44 kk_bi_59 ?_
      refine lv_icmp_ne (tgt := 54) hx hb dX4_gives_46 (by decide) (fun c_114 => ?_) (fun c_114 => ?_)
      · have t_114 : y_112.toInt ≠ 59 := kk_ne c_114
        refine lv_iload_n hx hb dX4_gives_54 rfl (lv_at hl 0 rfl) ?_
        refine lv_bipush (v := 63) hx hb dX4_gives_55 kk_bi_63 ?_
        refine lv_icmp_ne (tgt := 76) hx hb dX4_gives_57 (by decide) (fun c_115 => ?_) (fun c_115 => ?_)
        · have t_115 : y_112.toInt ≠ 63 := kk_ne c_115
          refine lv_aload_n hx hb dX4_gives_76 rfl (lv_at hl 3 rfl) ?_
          refine lv_iload_n hx hb dX4_gives_77 rfl (lv_at hl 0 rfl) ?_
          have hPc := kk_Ps (wq := [(h0, kO4 h1 n0_size h2 h3 i_1_1), (h2, kAi cint 8 f2), (h3, kAi cint 64 f_1_2)]) hP [0, 2, 3] rfl
          have hDc := kk_Ds (wq := [(h0, kO4 h1 n0_size h2 h3 i_1_1), (h2, kAi cint 8 f2), (h3, kAi cint 64 f_1_2)]) hD [0, 2, 3] (by decide) rfl
          have hKc := kk_Ks (tq := [(cint, .int)]) hK [0] rfl
          have hFc := va_free (wc := [(h0, kO4 h1 n0_size h2 h3 i_1_1), (h2, kAi cint 8 f2), (h3, kAi cint 64 f_1_2)]) hD hS hA [0, 2, 3] rfl
          refine va_callv (va_runV (As := [.int y_112]) (rest := []) ⟨hx, hb, hml, hown, hts⟩ (g_X4_work_0 l dC dI h0 h2 h3 h1 cint H.size y_112 n0_size i_1_1 f2 f_1_2 tn0_size (by show 0 ≤ (i_1_1 : Int32).toInt ∧ (i_1_1 : Int32).toInt ≤ 64; first | decide | ((omega)))) (cwV 1 hts gX4_gives_X4_work rfl rfl rfl ⟨rfl, kh_X4_work⟩ ⟨Nat.le_of_ble_eq_true rfl, Nat.le_of_ble_eq_true rfl⟩) ⟨fun a U g mk q => by obtain ⟨q0, q1, qP, qK, qD⟩ := q; exact ⟨q0, q1, qP, va_K.moved (u := U) (U := U.calling g mk a) (Vm.Alike.refl U.vm) qK, qD⟩, va_recv hKc hPc (ci := 4) (q0 := 0) rfl rfl, fun U hU hW => ⟨rfl, by rw [hU], by rw [hU]; exact hPc, va_K.moved hW.alike hKc, hDc.weaken (fun _ _ _ _ => trivial)⟩⟩ rfl rfl hl.1 rfl (lv_room (Nat.le_of_ble_eq_true rfl)) dX4_gives_78 ⟨Nat.le_of_ble_eq_true rfl, Nat.le_of_ble_eq_true rfl⟩) hS (fun q _ h => hFc q h) hFc (fun u t H1 locs ht hvm hw hB hz1 hk1 hS => ?_)
          refine hB.elim (fun y_117 hB => ?_)
          refine hB.elim (fun f_118 hB => ?_)
          refine hB.elim (fun by_117 hB => ?_)
          have hP1 := hB.1
          have hK1 := hB.2.1
          have hD1 := hB.2.2
          rw [ht] at hP1
          have hK1 := va_K.moved hvm.symm hK1
          obtain ⟨hP, hD⟩ := va_join (wr := [(h1, kAi cint 128 f1)]) (w1 := [(h0, kO4 h1 n0_size h2 h3 y_117), (h2, kAi cint 8 f2), (h3, kAi cint 64 f_118)]) hP hD [0, 2, 3] [1] rfl rfl (by decide) (by decide) hk1 hFc hP1 hD1
          generalize H1 = H at hP hS ⊢
          have hP : va_P (dC, dI) vwCl [(h1, kAi cint 128 f1), (h0, kO4 h1 n0_size h2 h3 y_117), (h2, kAi cint 8 f2), (h3, kAi cint 64 f_118)] H := hP
          have hD : va_D A [(h1, kAi cint 128 f1), (h0, kO4 h1 n0_size h2 h3 y_117), (h2, kAi cint 8 f2), (h3, kAi cint 64 f_118)] := hD
          refine lv_iinc (v := (i_1_0 + 1)) hx hb dX4_gives_81 hl (k := 1) rfl (by first | rfl | decide) (by decide) (rfl : _ = ([(2, .int (i_1_0 + 1)), (3, .int y_112), (1, .int i_1_3), (0, .ref h0)] : List (Nat × Value))) (fun ls hl => ?_)
          refine lv_goto (tgt := 9) hx hb dX4_gives_84 (by decide) ?_
          try have := kk_add2 (x := i_1_0) (y := 1) (a := i_1_0.toInt) (b := 1) rfl rfl (by omega) (by omega)
          exact ih_1 ((i_1_0 + 1), y_117, f_118, i_1_3) _ _ _ (by show ((128 : Int) - ((i_1_0 + 1)).toInt).toNat < ((128 : Int) - i_1_0.toInt).toNat; exact kk_mu (by omega) (by omega)) ⟨(by show 0 ≤ ((i_1_0 + 1) : Int32).toInt ∧ ((i_1_0 + 1) : Int32).toInt ≤ 128; first | decide | ((omega))), (by show 0 ≤ (y_117 : Int32).toInt ∧ (y_117 : Int32).toInt ≤ 64; first | decide | ((omega))), (by show 0 ≤ (i_1_3 : Int32).toInt ∧ (i_1_3 : Int32).toInt ≤ 1; first | decide | ((omega))), hP.sub [1, 0, 2, 3] rfl, hD.sub [1, 0, 2, 3] (by decide) rfl, hS, lv_sub hl [0, 2, 3] rfl⟩
        · have t_115 : y_112.toInt = 63 := kk_eq c_115
          refine lv_aload_n hx hb dX4_gives_60 rfl (lv_at hl 3 rfl) ?_
          have hPc := kk_Ps (wq := [(h0, kO4 h1 n0_size h2 h3 i_1_1), (h3, kAi cint 64 f_1_2)]) hP [0, 3] rfl
          have hDc := kk_Ds (wq := [(h0, kO4 h1 n0_size h2 h3 i_1_1), (h3, kAi cint 64 f_1_2)]) hD [0, 3] (by decide) rfl
          have hKc := kk_Ks (tq := [(cint, .int)]) hK [0] rfl
          have hFc := va_free (wc := [(h0, kO4 h1 n0_size h2 h3 i_1_1), (h3, kAi cint 64 f_1_2)]) hD hS hA [0, 3] rfl
          refine va_calli (va_runV (As := []) (rest := []) ⟨hx, hb, hml, hown, hts⟩ (g_X4_pop_0 l dC dI h0 h3 h1 h2 cint H.size n0_size i_1_1 f_1_2 tn0_size (by show 0 ≤ (i_1_1 : Int32).toInt ∧ (i_1_1 : Int32).toInt ≤ 64; first | decide | ((omega)))) (cwV 0 hts gX4_gives_X4_pop rfl rfl rfl ⟨rfl, kh_X4_pop⟩ ⟨Nat.le_of_ble_eq_true rfl, Nat.le_of_ble_eq_true rfl⟩) ⟨fun a U g mk q => by obtain ⟨q0, q1, qP, qK, qD⟩ := q; exact ⟨q0, q1, qP, va_K.moved (u := U) (U := U.calling g mk a) (Vm.Alike.refl U.vm) qK, qD⟩, va_recv hKc hPc (ci := 4) (q0 := 0) rfl rfl, fun U hU hW => ⟨rfl, by rw [hU], by rw [hU]; exact hPc, va_K.moved hW.alike hKc, hDc.weaken (fun _ _ _ _ => trivial)⟩⟩ rfl rfl hl.1 rfl (lv_room (Nat.le_of_ble_eq_true rfl)) dX4_gives_61 ⟨Nat.le_of_ble_eq_true rfl, Nat.le_of_ble_eq_true rfl⟩) hS (fun q _ h => hFc q h) hFc (fun r_119 u t H1 locs ht hvm hw hB hz1 hk1 hS => ?_)
          refine hB.elim (fun y_120 hB => ?_)
          refine hB.elim (fun by_120 hB => ?_)
          have hP1 := hB.1
          have hK1 := hB.2.1
          have hD1 := hB.2.2
          rw [ht] at hP1
          have hK1 := va_K.moved hvm.symm hK1
          obtain ⟨hP, hD⟩ := va_join (wr := [(h1, kAi cint 128 f1), (h2, kAi cint 8 f2)]) (w1 := [(h0, kO4 h1 n0_size h2 h3 y_120), (h3, kAi cint 64 f_1_2)]) hP hD [0, 3] [1, 2] rfl rfl (by decide) (by decide) hk1 hFc hP1 hD1
          generalize H1 = H at hP hS ⊢
          have hP : va_P (dC, dI) vwCl [(h1, kAi cint 128 f1), (h2, kAi cint 8 f2), (h0, kO4 h1 n0_size h2 h3 y_120), (h3, kAi cint 64 f_1_2)] H := hP
          have hD : va_D A [(h1, kAi cint 128 f1), (h2, kAi cint 8 f2), (h0, kO4 h1 n0_size h2 h3 y_120), (h3, kAi cint 64 f_1_2)] := hD
          refine lv_if_ne (tgt := 71) hx hb dX4_gives_64 (by decide) (fun c_121 => ?_) (fun c_121 => ?_)
          · have t_121 : r_119.toInt ≠ 0 := kk_ne c_121
            refine lv_iconst (v := 0) hx hb dX4_gives_71 kk_ic_0 ?_
            refine lv_istore_n hx hb dX4_gives_72 rfl hl (by decide) (rfl : _ = ([(1, .int 0), (3, .int y_112), (2, .int i_1_0), (0, .ref h0)] : List (Nat × Value))) (fun ls hl => ?_)
            refine lv_goto (tgt := 81) hx hb dX4_gives_73 (by decide) ?_
            refine lv_iinc (v := (i_1_0 + 1)) hx hb dX4_gives_81 hl (k := 2) rfl (by first | rfl | decide) (by decide) (rfl : _ = ([(2, .int (i_1_0 + 1)), (1, .int 0), (3, .int y_112), (0, .ref h0)] : List (Nat × Value))) (fun ls hl => ?_)
            refine lv_goto (tgt := 9) hx hb dX4_gives_84 (by decide) ?_
            try have := kk_add2 (x := i_1_0) (y := 1) (a := i_1_0.toInt) (b := 1) rfl rfl (by omega) (by omega)
            exact ih_1 ((i_1_0 + 1), y_120, f_1_2, 0) _ _ _ (by show ((128 : Int) - ((i_1_0 + 1)).toInt).toNat < ((128 : Int) - i_1_0.toInt).toNat; exact kk_mu (by omega) (by omega)) ⟨(by show 0 ≤ ((i_1_0 + 1) : Int32).toInt ∧ ((i_1_0 + 1) : Int32).toInt ≤ 128; first | decide | ((omega))), (by show 0 ≤ (y_120 : Int32).toInt ∧ (y_120 : Int32).toInt ≤ 64; first | decide | ((omega))), (by show 0 ≤ (0 : Int32).toInt ∧ (0 : Int32).toInt ≤ 1; first | decide | ((omega))), hP.sub [2, 0, 1, 3] rfl, hD.sub [2, 0, 1, 3] (by decide) rfl, hS, lv_sub hl [0, 1, 3] rfl⟩
          · have t_121 : r_119.toInt = 0 := kk_eq c_121
            refine lv_iconst (v := 1) hx hb dX4_gives_67 kk_ic_1 ?_
            refine lv_goto (tgt := 72) hx hb dX4_gives_68 (by decide) ?_
            refine lv_istore_n hx hb dX4_gives_72 rfl hl (by decide) (rfl : _ = ([(1, .int 1), (3, .int y_112), (2, .int i_1_0), (0, .ref h0)] : List (Nat × Value))) (fun ls hl => ?_)
            refine lv_goto (tgt := 81) hx hb dX4_gives_73 (by decide) ?_
            refine lv_iinc (v := (i_1_0 + 1)) hx hb dX4_gives_81 hl (k := 2) rfl (by first | rfl | decide) (by decide) (rfl : _ = ([(2, .int (i_1_0 + 1)), (1, .int 1), (3, .int y_112), (0, .ref h0)] : List (Nat × Value))) (fun ls hl => ?_)
            refine lv_goto (tgt := 9) hx hb dX4_gives_84 (by decide) ?_
            try have := kk_add2 (x := i_1_0) (y := 1) (a := i_1_0.toInt) (b := 1) rfl rfl (by omega) (by omega)
            exact ih_1 ((i_1_0 + 1), y_120, f_1_2, 1) _ _ _ (by show ((128 : Int) - ((i_1_0 + 1)).toInt).toNat < ((128 : Int) - i_1_0.toInt).toNat; exact kk_mu (by omega) (by omega)) ⟨(by show 0 ≤ ((i_1_0 + 1) : Int32).toInt ∧ ((i_1_0 + 1) : Int32).toInt ≤ 128; first | decide | ((omega))), (by show 0 ≤ (y_120 : Int32).toInt ∧ (y_120 : Int32).toInt ≤ 64; first | decide | ((omega))), (by show 0 ≤ (1 : Int32).toInt ∧ (1 : Int32).toInt ≤ 1; first | decide | ((omega))), hP.sub [2, 0, 1, 3] rfl, hD.sub [2, 0, 1, 3] (by decide) rfl, hS, lv_sub hl [0, 1, 3] rfl⟩
      · have t_114 : y_112.toInt = 59 := kk_eq c_114
        refine lv_aload_n hx hb dX4_gives_49 rfl (lv_at hl 3 rfl) ?_
        have hPc := kk_Ps (wq := [(h0, kO4 h1 n0_size h2 h3 i_1_1), (h3, kAi cint 64 f_1_2)]) hP [0, 3] rfl
        have hDc := kk_Ds (wq := [(h0, kO4 h1 n0_size h2 h3 i_1_1), (h3, kAi cint 64 f_1_2)]) hD [0, 3] (by decide) rfl
        have hKc := kk_Ks (tq := [(cint, .int)]) hK [0] rfl
        have hFc := va_free (wc := [(h0, kO4 h1 n0_size h2 h3 i_1_1), (h3, kAi cint 64 f_1_2)]) hD hS hA [0, 3] rfl
        refine va_calli (va_runV (As := []) (rest := []) ⟨hx, hb, hml, hown, hts⟩ (g_X4_pop_0 l dC dI h0 h3 h1 h2 cint H.size n0_size i_1_1 f_1_2 tn0_size (by show 0 ≤ (i_1_1 : Int32).toInt ∧ (i_1_1 : Int32).toInt ≤ 64; first | decide | ((omega)))) (cwV 0 hts gX4_gives_X4_pop rfl rfl rfl ⟨rfl, kh_X4_pop⟩ ⟨Nat.le_of_ble_eq_true rfl, Nat.le_of_ble_eq_true rfl⟩) ⟨fun a U g mk q => by obtain ⟨q0, q1, qP, qK, qD⟩ := q; exact ⟨q0, q1, qP, va_K.moved (u := U) (U := U.calling g mk a) (Vm.Alike.refl U.vm) qK, qD⟩, va_recv hKc hPc (ci := 4) (q0 := 0) rfl rfl, fun U hU hW => ⟨rfl, by rw [hU], by rw [hU]; exact hPc, va_K.moved hW.alike hKc, hDc.weaken (fun _ _ _ _ => trivial)⟩⟩ rfl rfl hl.1 rfl (lv_room (Nat.le_of_ble_eq_true rfl)) dX4_gives_50 ⟨Nat.le_of_ble_eq_true rfl, Nat.le_of_ble_eq_true rfl⟩) hS (fun q _ h => hFc q h) hFc (fun r_122 u t H1 locs ht hvm hw hB hz1 hk1 hS => ?_)
        refine hB.elim (fun y_123 hB => ?_)
        refine hB.elim (fun by_123 hB => ?_)
        have hP1 := hB.1
        have hK1 := hB.2.1
        have hD1 := hB.2.2
        rw [ht] at hP1
        have hK1 := va_K.moved hvm.symm hK1
        obtain ⟨hP, hD⟩ := va_join (wr := [(h1, kAi cint 128 f1), (h2, kAi cint 8 f2)]) (w1 := [(h0, kO4 h1 n0_size h2 h3 y_123), (h3, kAi cint 64 f_1_2)]) hP hD [0, 3] [1, 2] rfl rfl (by decide) (by decide) hk1 hFc hP1 hD1
        generalize H1 = H at hP hS ⊢
        have hP : va_P (dC, dI) vwCl [(h1, kAi cint 128 f1), (h2, kAi cint 8 f2), (h0, kO4 h1 n0_size h2 h3 y_123), (h3, kAi cint 64 f_1_2)] H := hP
        have hD : va_D A [(h1, kAi cint 128 f1), (h2, kAi cint 8 f2), (h0, kO4 h1 n0_size h2 h3 y_123), (h3, kAi cint 64 f_1_2)] := hD
        have hP9 := kk_Ps (wq := [(h0, kO4 h1 n0_size h2 h3 y_123), (h1, kAi cint 128 f1), (h2, kAi cint 8 f2), (h3, kAi cint 64 f_1_2)]) hP [2, 0, 1, 3] rfl
        have hD9 := kk_Ds (wq := [(h0, kO4 h1 n0_size h2 h3 y_123), (h1, kAi cint 128 f1), (h2, kAi cint 8 f2), (h3, kAi cint 64 f_1_2)]) hD [2, 0, 1, 3] (by decide) rfl
        have hK9 := kk_Ks (tq := []) hK [] rfl
        exact W.iret (v := r_122) hx hb hr (fun t ht hW => ⟨⟨r_122, (), rfl, trivial, y_123, f_1_2, (by show 0 ≤ (y_123 : Int32).toInt ∧ (y_123 : Int32).toInt ≤ 64; first | decide | ((omega))), by rw [ht]; exact hP9, va_K.moved hW.alike hK9, hD9⟩, hS.F ht⟩) hS.2.2 dX4_gives_53
    · have t_113 : i_1_3.toInt ≠ 0 := kk_ne c_113
      refine lv_iload_n hx hb dX4_gives_28 rfl (lv_at hl 0 rfl) ?_
      refine lv_bipush (v := 59) hx hb dX4_gives_29 kk_bi_59 ?_
      refine lv_icmp_eq (tgt := 38) hx hb dX4_gives_31 (by decide) (fun c_124 => ?_) (fun c_124 => ?_)
      · have t_124 : y_112.toInt = 59 := kk_eq c_124
        refine lv_iconst (v := 0) hx hb dX4_gives_38 kk_ic_0 ?_
        refine lv_istore_n hx hb dX4_gives_39 rfl hl (by decide) (rfl : _ = ([(1, .int 0), (3, .int y_112), (2, .int i_1_0), (0, .ref h0)] : List (Nat × Value))) (fun ls hl => ?_)
        refine lv_goto (tgt := 81) hx hb dX4_gives_40 (by decide) ?_
        refine lv_iinc (v := (i_1_0 + 1)) hx hb dX4_gives_81 hl (k := 2) rfl (by first | rfl | decide) (by decide) (rfl : _ = ([(2, .int (i_1_0 + 1)), (1, .int 0), (3, .int y_112), (0, .ref h0)] : List (Nat × Value))) (fun ls hl => ?_)
        refine lv_goto (tgt := 9) hx hb dX4_gives_84 (by decide) ?_
        try have := kk_add2 (x := i_1_0) (y := 1) (a := i_1_0.toInt) (b := 1) rfl rfl (by omega) (by omega)
        exact ih_1 ((i_1_0 + 1), i_1_1, f_1_2, 0) _ _ _ (by show ((128 : Int) - ((i_1_0 + 1)).toInt).toNat < ((128 : Int) - i_1_0.toInt).toNat; exact kk_mu (by omega) (by omega)) ⟨(by show 0 ≤ ((i_1_0 + 1) : Int32).toInt ∧ ((i_1_0 + 1) : Int32).toInt ≤ 128; first | decide | ((omega))), (by show 0 ≤ (i_1_1 : Int32).toInt ∧ (i_1_1 : Int32).toInt ≤ 64; first | decide | ((omega))), (by show 0 ≤ (0 : Int32).toInt ∧ (0 : Int32).toInt ≤ 1; first | decide | ((omega))), hP, hD, hS, lv_sub hl [0, 1, 3] rfl⟩
      · have t_124 : y_112.toInt ≠ 59 := kk_ne c_124
        refine lv_iconst (v := 1) hx hb dX4_gives_34 kk_ic_1 ?_
        refine lv_goto (tgt := 39) hx hb dX4_gives_35 (by decide) ?_
        refine lv_istore_n hx hb dX4_gives_39 rfl hl (by decide) (rfl : _ = ([(1, .int 1), (3, .int y_112), (2, .int i_1_0), (0, .ref h0)] : List (Nat × Value))) (fun ls hl => ?_)
        refine lv_goto (tgt := 81) hx hb dX4_gives_40 (by decide) ?_
        refine lv_iinc (v := (i_1_0 + 1)) hx hb dX4_gives_81 hl (k := 2) rfl (by first | rfl | decide) (by decide) (rfl : _ = ([(2, .int (i_1_0 + 1)), (1, .int 1), (3, .int y_112), (0, .ref h0)] : List (Nat × Value))) (fun ls hl => ?_)
        refine lv_goto (tgt := 9) hx hb dX4_gives_84 (by decide) ?_
        try have := kk_add2 (x := i_1_0) (y := 1) (a := i_1_0.toInt) (b := 1) rfl rfl (by omega) (by omega)
        exact ih_1 ((i_1_0 + 1), i_1_1, f_1_2, 1) _ _ _ (by show ((128 : Int) - ((i_1_0 + 1)).toInt).toNat < ((128 : Int) - i_1_0.toInt).toNat; exact kk_mu (by omega) (by omega)) ⟨(by show 0 ≤ ((i_1_0 + 1) : Int32).toInt ∧ ((i_1_0 + 1) : Int32).toInt ≤ 128; first | decide | ((omega))), (by show 0 ≤ (i_1_1 : Int32).toInt ∧ (i_1_1 : Int32).toInt ≤ 64; first | decide | ((omega))), (by show 0 ≤ (1 : Int32).toInt ∧ (1 : Int32).toInt ≤ 1; first | decide | ((omega))), hP, hD, hS, lv_sub hl [0, 1, 3] rfl⟩
set_option maxHeartbeats 4000000 in
set_option maxRecDepth 100000 in
theorem g_X4_changeTown_0 (l : Launch) (dC : Nat → ClassId) (dI : Nat → Nat → Nat) (h0 : Nat) (h1 : Nat) (h2 : Nat) (h3 : Nat) (cint : ClassId) (sz : Nat) (p1 : Int32) (p2 : Int32) (n0_size : Int32) (f1 : Nat → Int32) (f2 : Nat → Int32) (f3 : Nat → Int32) (tn0_size : kk_bx (0 ≤ n0_size.toInt ∧ n0_size.toInt ≤ 40)) : Met l yX4_changeTown wsX4_changeTown ({ frames := 3, cells := 0, slots := 0, locals := 67 }) (va_Pc [.ref h0, .int p1, .int p2] (fun U => U.heap.size = sz ∧ va_P (dC, dI) vwCl [(h0, kO9 h1 h2 h3 n0_size), (h1, kAi cint 40 f1), (h2, kAi cint 40 f2), (h3, kAi cint 40 f3)] U.heap ∧ va_K (dC, dI) vwCl [(cint, .int)] U ∧ va_D (fun _ => True) [(h0, kO9 h1 h2 h3 n0_size), (h1, kAi cint 40 f1), (h2, kAi cint 40 f2), (h3, kAi cint 40 f3)])) (va_Qv (fun (_ : Unit) => True) (fun (_ : Unit) t => ∃ (m0_size : Int32) (g1 : Nat → Int32) (g2 : Nat → Int32) (g3 : Nat → Int32), (0 ≤ m0_size.toInt ∧ m0_size.toInt ≤ 40) ∧ va_P (dC, dI) vwCl [(h0, kO9 h1 h2 h3 m0_size), (h1, kAi cint 40 g1), (h2, kAi cint 40 g2), (h3, kAi cint 40 g3)] t.heap ∧ va_K (dC, dI) vwCl [] t ∧ va_D (va_A [(h0, kO9 h1 h2 h3 n0_size), (h1, kAi cint 40 f1), (h2, kAi cint 40 f2), (h3, kAi cint 40 f3)] sz) [(h0, kO9 h1 h2 h3 m0_size), (h1, kAi cint 40 g1), (h2, kAi cint 40 g2), (h3, kAi cint 40 g3)]) (va_A [(h0, kO9 h1 h2 h3 n0_size), (h1, kAi cint 40 f1), (h2, kAi cint 40 f2), (h3, kAi cint 40 f3)] sz)) 0 0 (va_A [(h0, kO9 h1 h2 h3 n0_size), (h1, kAi cint 40 f1), (h2, kAi cint 40 f2), (h3, kAi cint 40 f3)] sz) := by
  refine Met.ofW (cc := cX4_changeTown) (maxL := 3) (ret := none) (by decide) rfl ?_
  intro p e s m args below meth c s₁ B hml hv
  obtain ⟨rfl, hsz, hP, hK, hD0⟩ := hv
  have hx := B.exec
  have hb := B.bytes
  have hr := B.returns
  have hts := atoms_spec (ws := wsX4_changeTown) B.pre
  have hown : s.vm.findClass RX4 = some m.cls := findClass_of_methodNamed B.named
  have hlocks := B.notSynchronized
  subst hsz
  have hD := hD0.self (sz := s.heap.size)
  generalize hAe : va_A [(h0, kO9 h1 h2 h3 n0_size), (h1, kAi cint 40 f1), (h2, kAi cint 40 f2), (h3, kAi cint 40 f3)] s.heap.size = A at hD ⊢
  have hA : ∀ q : Nat, s.heap.size ≤ q → A q := fun q h => by rw [← hAe]; exact Or.inr h
  have hS : va_S A s.heap s.heap [] := va_S.rf
  have hP : va_P (dC, dI) vwCl [(h0, kO9 h1 h2 h3 n0_size), (h1, kAi cint 40 f1), (h2, kAi cint 40 f2), (h3, kAi cint 40 f3)] s.heap := hP
  have hl := lv_entry ([.ref h0, .int p1, .int p2]) (n := 3) (Nat.le_of_ble_eq_true rfl)
  rw [lg_entry_eq]
  generalize (lg_sl ([.ref h0, .int p1, .int p2]) ++ List.replicate (3 - (lg_sl ([.ref h0, .int p1, .int p2])).length) Slot.unset).toArray = ls at hl ⊢
  have hl : lv_has ls 3 [(0, .ref h0), (1, .int p1), (2, .int p2)] := hl
  refine lv_iload_n hx hb dX4_changeTown_0 rfl (lv_at hl 2 rfl) ?_
  rcases (show p2 = 1 ∨ p2 = 2 ∨ p2 = 3 ∨ (p2.toInt < 1 ∨ 3 < p2.toInt) from by simp only [← Int32.toInt_inj]; simp; omega) with e_1 | e_1 | e_1 | t_1
  · have t_1 : p2.toInt = 1 := by rw [e_1]; rfl
    refine lv_tableIn (tgt := 28) (off := 27) hx hb dX4_changeTown_1 (by omega) (by omega) (by rw [t_1]; rfl) (by decide) ?_
    refine lv_aload_n hx hb dX4_changeTown_28 rfl (lv_at hl 0 rfl) ?_
    refine lv_iload_n hx hb dX4_changeTown_29 rfl (lv_at hl 1 rfl) ?_
    have hPc := kk_Ps (wq := [(h0, kO9 h1 h2 h3 n0_size), (h1, kAi cint 40 f1), (h2, kAi cint 40 f2), (h3, kAi cint 40 f3)]) hP [0, 1, 2, 3] rfl
    have hDc := kk_Ds (wq := [(h0, kO9 h1 h2 h3 n0_size), (h1, kAi cint 40 f1), (h2, kAi cint 40 f2), (h3, kAi cint 40 f3)]) hD [0, 1, 2, 3] (by decide) rfl
    have hKc := kk_Ks (tq := [(cint, .int)]) hK [0] rfl
    have hFc := va_free (wc := [(h0, kO9 h1 h2 h3 n0_size), (h1, kAi cint 40 f1), (h2, kAi cint 40 f2), (h3, kAi cint 40 f3)]) hD hS hA [0, 1, 2, 3] rfl
    refine va_callv (va_runV (As := [.int p1]) (rest := []) ⟨hx, hb, hml, hown, hts⟩ (g_X9_join_0 l dC dI h0 h1 h2 h3 cint s.heap.size p1 n0_size f1 f2 f3 tn0_size) (cwV 1 hts gX4_changeTown_X9_join rfl rfl rfl ⟨rfl, kh_X9_join⟩ ⟨Nat.le_of_ble_eq_true rfl, Nat.le_of_ble_eq_true rfl⟩) ⟨fun a U g mk q => by obtain ⟨q0, q1, qP, qK, qD⟩ := q; exact ⟨q0, q1, qP, va_K.moved (u := U) (U := U.calling g mk a) (Vm.Alike.refl U.vm) qK, qD⟩, va_recv hKc hPc (ci := 9) (q0 := 0) rfl rfl, fun U hU hW => ⟨rfl, by rw [hU], by rw [hU]; exact hPc, va_K.moved hW.alike hKc, hDc.weaken (fun _ _ _ _ => trivial)⟩⟩ rfl rfl hl.1 rfl (lv_room (Nat.le_of_ble_eq_true rfl)) dX4_changeTown_30 ⟨Nat.le_of_ble_eq_true rfl, Nat.le_of_ble_eq_true rfl⟩) hS (fun q _ h => hFc q h) hFc (fun u t H1 locs ht hvm hw hB hz1 hk1 hS => ?_)
    refine hB.elim (fun y_3 hB => ?_)
    refine hB.elim (fun f_4 hB => ?_)
    refine hB.elim (fun f_5 hB => ?_)
    refine hB.elim (fun f_6 hB => ?_)
    refine hB.elim (fun by_3 hB => ?_)
    have hP1 := hB.1
    have hK1 := hB.2.1
    have hD1 := hB.2.2
    rw [ht] at hP1
    have hK1 := va_K.moved hvm.symm hK1
    obtain ⟨hP, hD⟩ := va_join (wr := []) (w1 := [(h0, kO9 h1 h2 h3 y_3), (h1, kAi cint 40 f_4), (h2, kAi cint 40 f_5), (h3, kAi cint 40 f_6)]) hP hD [0, 1, 2, 3] [] rfl rfl (by decide) (by decide) hk1 hFc hP1 hD1
    generalize H1 = H at hP hS ⊢
    have hP : va_P (dC, dI) vwCl [(h0, kO9 h1 h2 h3 y_3), (h1, kAi cint 40 f_4), (h2, kAi cint 40 f_5), (h3, kAi cint 40 f_6)] H := hP
    have hD : va_D A [(h0, kO9 h1 h2 h3 y_3), (h1, kAi cint 40 f_4), (h2, kAi cint 40 f_5), (h3, kAi cint 40 f_6)] := hD
    refine lv_goto (tgt := 52) hx hb dX4_changeTown_33 (by decide) ?_
    have hP9 := kk_Ps (wq := [(h0, kO9 h1 h2 h3 y_3), (h1, kAi cint 40 f_4), (h2, kAi cint 40 f_5), (h3, kAi cint 40 f_6)]) hP [0, 1, 2, 3] rfl
    have hD9 := kk_Ds (wq := [(h0, kO9 h1 h2 h3 y_3), (h1, kAi cint 40 f_4), (h2, kAi cint 40 f_5), (h3, kAi cint 40 f_6)]) hD [0, 1, 2, 3] (by decide) rfl
    have hK9 := kk_Ks (tq := []) hK [] rfl
    exact W.vret hx hb hr (fun t ht hW => ⟨⟨(), rfl, trivial, y_3, f_4, f_5, f_6, (by show 0 ≤ (y_3 : Int32).toInt ∧ (y_3 : Int32).toInt ≤ 40; first | decide | ((omega))), by rw [ht]; exact hP9, va_K.moved hW.alike hK9, hD9⟩, hS.F ht⟩) hS.2.2 dX4_changeTown_52
  · have t_1 : p2.toInt = 2 := by rw [e_1]; rfl
    refine lv_tableIn (tgt := 36) (off := 35) hx hb dX4_changeTown_1 (by omega) (by omega) (by rw [t_1]; rfl) (by decide) ?_
    refine lv_aload_n hx hb dX4_changeTown_36 rfl (lv_at hl 0 rfl) ?_
    refine lv_iload_n hx hb dX4_changeTown_37 rfl (lv_at hl 1 rfl) ?_
    have hPc := kk_Ps (wq := [(h0, kO9 h1 h2 h3 n0_size), (h1, kAi cint 40 f1), (h2, kAi cint 40 f2), (h3, kAi cint 40 f3)]) hP [0, 1, 2, 3] rfl
    have hDc := kk_Ds (wq := [(h0, kO9 h1 h2 h3 n0_size), (h1, kAi cint 40 f1), (h2, kAi cint 40 f2), (h3, kAi cint 40 f3)]) hD [0, 1, 2, 3] (by decide) rfl
    have hKc := kk_Ks (tq := [(cint, .int)]) hK [0] rfl
    have hFc := va_free (wc := [(h0, kO9 h1 h2 h3 n0_size), (h1, kAi cint 40 f1), (h2, kAi cint 40 f2), (h3, kAi cint 40 f3)]) hD hS hA [0, 1, 2, 3] rfl
    refine va_callv (va_runV (As := [.int p1]) (rest := []) ⟨hx, hb, hml, hown, hts⟩ (g_X9_part_0 l dC dI h0 h1 h2 h3 cint s.heap.size p1 n0_size f1 f2 f3 tn0_size) (cwV 1 hts gX4_changeTown_X9_part rfl rfl rfl ⟨rfl, kh_X9_part⟩ ⟨Nat.le_of_ble_eq_true rfl, Nat.le_of_ble_eq_true rfl⟩) ⟨fun a U g mk q => by obtain ⟨q0, q1, qP, qK, qD⟩ := q; exact ⟨q0, q1, qP, va_K.moved (u := U) (U := U.calling g mk a) (Vm.Alike.refl U.vm) qK, qD⟩, va_recv hKc hPc (ci := 9) (q0 := 0) rfl rfl, fun U hU hW => ⟨rfl, by rw [hU], by rw [hU]; exact hPc, va_K.moved hW.alike hKc, hDc.weaken (fun _ _ _ _ => trivial)⟩⟩ rfl rfl hl.1 rfl (lv_room (Nat.le_of_ble_eq_true rfl)) dX4_changeTown_38 ⟨Nat.le_of_ble_eq_true rfl, Nat.le_of_ble_eq_true rfl⟩) hS (fun q _ h => hFc q h) hFc (fun u t H1 locs ht hvm hw hB hz1 hk1 hS => ?_)
    refine hB.elim (fun y_8 hB => ?_)
    refine hB.elim (fun f_9 hB => ?_)
    refine hB.elim (fun f_10 hB => ?_)
    refine hB.elim (fun f_11 hB => ?_)
    refine hB.elim (fun by_8 hB => ?_)
    have hP1 := hB.1
    have hK1 := hB.2.1
    have hD1 := hB.2.2
    rw [ht] at hP1
    have hK1 := va_K.moved hvm.symm hK1
    obtain ⟨hP, hD⟩ := va_join (wr := []) (w1 := [(h0, kO9 h1 h2 h3 y_8), (h1, kAi cint 40 f_9), (h2, kAi cint 40 f_10), (h3, kAi cint 40 f_11)]) hP hD [0, 1, 2, 3] [] rfl rfl (by decide) (by decide) hk1 hFc hP1 hD1
    generalize H1 = H at hP hS ⊢
    have hP : va_P (dC, dI) vwCl [(h0, kO9 h1 h2 h3 y_8), (h1, kAi cint 40 f_9), (h2, kAi cint 40 f_10), (h3, kAi cint 40 f_11)] H := hP
    have hD : va_D A [(h0, kO9 h1 h2 h3 y_8), (h1, kAi cint 40 f_9), (h2, kAi cint 40 f_10), (h3, kAi cint 40 f_11)] := hD
    refine lv_goto (tgt := 52) hx hb dX4_changeTown_41 (by decide) ?_
    have hP9 := kk_Ps (wq := [(h0, kO9 h1 h2 h3 y_8), (h1, kAi cint 40 f_9), (h2, kAi cint 40 f_10), (h3, kAi cint 40 f_11)]) hP [0, 1, 2, 3] rfl
    have hD9 := kk_Ds (wq := [(h0, kO9 h1 h2 h3 y_8), (h1, kAi cint 40 f_9), (h2, kAi cint 40 f_10), (h3, kAi cint 40 f_11)]) hD [0, 1, 2, 3] (by decide) rfl
    have hK9 := kk_Ks (tq := []) hK [] rfl
    exact W.vret hx hb hr (fun t ht hW => ⟨⟨(), rfl, trivial, y_8, f_9, f_10, f_11, (by show 0 ≤ (y_8 : Int32).toInt ∧ (y_8 : Int32).toInt ≤ 40; first | decide | ((omega))), by rw [ht]; exact hP9, va_K.moved hW.alike hK9, hD9⟩, hS.F ht⟩) hS.2.2 dX4_changeTown_52
  · have t_1 : p2.toInt = 3 := by rw [e_1]; rfl
    refine lv_tableIn (tgt := 44) (off := 43) hx hb dX4_changeTown_1 (by omega) (by omega) (by rw [t_1]; rfl) (by decide) ?_
    refine lv_aload_n hx hb dX4_changeTown_44 rfl (lv_at hl 0 rfl) ?_
    refine lv_iload_n hx hb dX4_changeTown_45 rfl (lv_at hl 1 rfl) ?_
    have hPc := kk_Ps (wq := [(h0, kO9 h1 h2 h3 n0_size), (h1, kAi cint 40 f1), (h2, kAi cint 40 f2), (h3, kAi cint 40 f3)]) hP [0, 1, 2, 3] rfl
    have hDc := kk_Ds (wq := [(h0, kO9 h1 h2 h3 n0_size), (h1, kAi cint 40 f1), (h2, kAi cint 40 f2), (h3, kAi cint 40 f3)]) hD [0, 1, 2, 3] (by decide) rfl
    have hKc := kk_Ks (tq := [(cint, .int)]) hK [0] rfl
    have hFc := va_free (wc := [(h0, kO9 h1 h2 h3 n0_size), (h1, kAi cint 40 f1), (h2, kAi cint 40 f2), (h3, kAi cint 40 f3)]) hD hS hA [0, 1, 2, 3] rfl
    refine va_callv (va_runV (As := [.int p1]) (rest := []) ⟨hx, hb, hml, hown, hts⟩ (g_X9_stepAside_0 l dC dI h0 h1 h2 h3 cint s.heap.size p1 n0_size f1 f2 f3 tn0_size) (cwV 1 hts gX4_changeTown_X9_stepAside rfl rfl rfl ⟨rfl, kh_X9_stepAside⟩ ⟨Nat.le_of_ble_eq_true rfl, Nat.le_of_ble_eq_true rfl⟩) ⟨fun a U g mk q => by obtain ⟨q0, q1, qP, qK, qD⟩ := q; exact ⟨q0, q1, qP, va_K.moved (u := U) (U := U.calling g mk a) (Vm.Alike.refl U.vm) qK, qD⟩, va_recv hKc hPc (ci := 9) (q0 := 0) rfl rfl, fun U hU hW => ⟨rfl, by rw [hU], by rw [hU]; exact hPc, va_K.moved hW.alike hKc, hDc.weaken (fun _ _ _ _ => trivial)⟩⟩ rfl rfl hl.1 rfl (lv_room (Nat.le_of_ble_eq_true rfl)) dX4_changeTown_46 ⟨Nat.le_of_ble_eq_true rfl, Nat.le_of_ble_eq_true rfl⟩) hS (fun q _ h => hFc q h) hFc (fun u t H1 locs ht hvm hw hB hz1 hk1 hS => ?_)
    refine hB.elim (fun f_13 hB => ?_)
    refine hB.elim (fun f_14 hB => ?_)
    refine hB.elim (fun f_15 hB => ?_)
    have hP1 := hB.1
    have hK1 := hB.2.1
    have hD1 := hB.2.2
    rw [ht] at hP1
    have hK1 := va_K.moved hvm.symm hK1
    obtain ⟨hP, hD⟩ := va_join (wr := []) (w1 := [(h0, kO9 h1 h2 h3 n0_size), (h1, kAi cint 40 f_13), (h2, kAi cint 40 f_14), (h3, kAi cint 40 f_15)]) hP hD [0, 1, 2, 3] [] rfl rfl (by decide) (by decide) hk1 hFc hP1 hD1
    generalize H1 = H at hP hS ⊢
    have hP : va_P (dC, dI) vwCl [(h0, kO9 h1 h2 h3 n0_size), (h1, kAi cint 40 f_13), (h2, kAi cint 40 f_14), (h3, kAi cint 40 f_15)] H := hP
    have hD : va_D A [(h0, kO9 h1 h2 h3 n0_size), (h1, kAi cint 40 f_13), (h2, kAi cint 40 f_14), (h3, kAi cint 40 f_15)] := hD
    refine lv_goto (tgt := 52) hx hb dX4_changeTown_49 (by decide) ?_
    have hP9 := kk_Ps (wq := [(h0, kO9 h1 h2 h3 n0_size), (h1, kAi cint 40 f_13), (h2, kAi cint 40 f_14), (h3, kAi cint 40 f_15)]) hP [0, 1, 2, 3] rfl
    have hD9 := kk_Ds (wq := [(h0, kO9 h1 h2 h3 n0_size), (h1, kAi cint 40 f_13), (h2, kAi cint 40 f_14), (h3, kAi cint 40 f_15)]) hD [0, 1, 2, 3] (by decide) rfl
    have hK9 := kk_Ks (tq := []) hK [] rfl
    exact W.vret hx hb hr (fun t ht hW => ⟨⟨(), rfl, trivial, n0_size, f_13, f_14, f_15, tn0_size, by rw [ht]; exact hP9, va_K.moved hW.alike hK9, hD9⟩, hS.F ht⟩) hS.2.2 dX4_changeTown_52
  · refine lv_tableOut (tgt := 52) hx hb dX4_changeTown_1 t_1 (by decide) ?_
    have hP9 := kk_Ps (wq := [(h0, kO9 h1 h2 h3 n0_size), (h1, kAi cint 40 f1), (h2, kAi cint 40 f2), (h3, kAi cint 40 f3)]) hP [0, 1, 2, 3] rfl
    have hD9 := kk_Ds (wq := [(h0, kO9 h1 h2 h3 n0_size), (h1, kAi cint 40 f1), (h2, kAi cint 40 f2), (h3, kAi cint 40 f3)]) hD [0, 1, 2, 3] (by decide) rfl
    have hK9 := kk_Ks (tq := []) hK [] rfl
    exact W.vret hx hb hr (fun t ht hW => ⟨⟨(), rfl, trivial, n0_size, f1, f2, f3, tn0_size, by rw [ht]; exact hP9, va_K.moved hW.alike hK9, hD9⟩, hS.F ht⟩) hS.2.2 dX4_changeTown_52
set_option maxHeartbeats 4000000 in
set_option maxRecDepth 100000 in
theorem g_X4_lay_0 (l : Launch) (dC : Nat → ClassId) (dI : Nat → Nat → Nat) (h0 : Nat) (h1 : Nat) (h2 : Nat) (h3 : Nat) (h4 : Nat) (h5 : Nat) (h6 : Nat) (h7 : Nat) (cint : ClassId) (sz : Nat) (p1 : Int32) (p2 : Int32) (p3 : Int32) (n0_size : Int32) (n0_top : Int32) (n1_size : Int32) (f2 : Nat → Int32) (f3 : Nat → Int32) (f4 : Nat → Int32) (f5 : Nat → Int32) (f6 : Nat → Int32) (f7 : Nat → Int32) (tn0_size : kk_bx (0 ≤ n0_size.toInt ∧ n0_size.toInt ≤ 128)) (tn0_top : kk_bx (0 ≤ n0_top.toInt ∧ n0_top.toInt ≤ 64)) (tn1_size : kk_bx (0 ≤ n1_size.toInt ∧ n1_size.toInt ≤ 40)) : Met l yX4_lay wsX4_lay ({ frames := 4, cells := 0, slots := 0, locals := 89 }) (va_Pc [.ref h0, .ref h1, .int p1, .int p2, .int p3] (fun U => U.heap.size = sz ∧ va_P (dC, dI) vwCl [(h0, kO4 h2 n0_size h3 h4 n0_top), (h1, kO9 h5 h6 h7 n1_size), (h2, kAi cint 128 f2), (h3, kAi cint 8 f3), (h4, kAi cint 64 f4), (h5, kAi cint 40 f5), (h6, kAi cint 40 f6), (h7, kAi cint 40 f7)] U.heap ∧ va_K (dC, dI) vwCl [(cint, .int)] U ∧ va_D (fun _ => True) [(h0, kO4 h2 n0_size h3 h4 n0_top), (h1, kO9 h5 h6 h7 n1_size), (h2, kAi cint 128 f2), (h3, kAi cint 8 f3), (h4, kAi cint 64 f4), (h5, kAi cint 40 f5), (h6, kAi cint 40 f6), (h7, kAi cint 40 f7)] ∧ va_Nw (.methodLinkNest RX4 41 yX11_drawAfter "KinkStreet") U)) (va_Qv (fun (_ : Unit) => True) (fun (_ : Unit) t => ∃ (m0_top : Int32) (m1_size : Int32) (g3 : Nat → Int32) (g4 : Nat → Int32) (g5 : Nat → Int32) (g6 : Nat → Int32) (g7 : Nat → Int32), (0 ≤ m0_top.toInt ∧ m0_top.toInt ≤ 64) ∧ (0 ≤ m1_size.toInt ∧ m1_size.toInt ≤ 40) ∧ va_P (dC, dI) vwCl [(h0, kO4 h2 n0_size h3 h4 m0_top), (h1, kO9 h5 h6 h7 m1_size), (h2, kAi cint 128 f2), (h3, kAi cint 8 g3), (h4, kAi cint 64 g4), (h5, kAi cint 40 g5), (h6, kAi cint 40 g6), (h7, kAi cint 40 g7)] t.heap ∧ va_K (dC, dI) vwCl [] t ∧ va_D (va_A [(h0, kO4 h2 n0_size h3 h4 n0_top), (h1, kO9 h5 h6 h7 n1_size), (h2, kAi cint 128 f2), (h3, kAi cint 8 f3), (h4, kAi cint 64 f4), (h5, kAi cint 40 f5), (h6, kAi cint 40 f6), (h7, kAi cint 40 f7)] sz) [(h0, kO4 h2 n0_size h3 h4 m0_top), (h1, kO9 h5 h6 h7 m1_size), (h2, kAi cint 128 f2), (h3, kAi cint 8 g3), (h4, kAi cint 64 g4), (h5, kAi cint 40 g5), (h6, kAi cint 40 g6), (h7, kAi cint 40 g7)]) (va_A [(h0, kO4 h2 n0_size h3 h4 n0_top), (h1, kO9 h5 h6 h7 n1_size), (h2, kAi cint 128 f2), (h3, kAi cint 8 f3), (h4, kAi cint 64 f4), (h5, kAi cint 40 f5), (h6, kAi cint 40 f6), (h7, kAi cint 40 f7)] sz)) 0 0 (va_A [(h0, kO4 h2 n0_size h3 h4 n0_top), (h1, kO9 h5 h6 h7 n1_size), (h2, kAi cint 128 f2), (h3, kAi cint 8 f3), (h4, kAi cint 64 f4), (h5, kAi cint 40 f5), (h6, kAi cint 40 f6), (h7, kAi cint 40 f7)] sz) := by
  refine Met.ofW (cc := cX4_lay) (maxL := 8) (ret := none) (by decide) rfl ?_
  intro p e s m args below meth c s₁ B hml hv
  obtain ⟨rfl, hsz, hP, hK, hD0, hN41⟩ := hv
  have hx := B.exec
  have hb := B.bytes
  have hr := B.returns
  have hts := atoms_spec (ws := wsX4_lay) B.pre
  have hown : s.vm.findClass RX4 = some m.cls := findClass_of_methodNamed B.named
  have hlocks := B.notSynchronized
  subst hsz
  have hD := hD0.self (sz := s.heap.size)
  generalize hAe : va_A [(h0, kO4 h2 n0_size h3 h4 n0_top), (h1, kO9 h5 h6 h7 n1_size), (h2, kAi cint 128 f2), (h3, kAi cint 8 f3), (h4, kAi cint 64 f4), (h5, kAi cint 40 f5), (h6, kAi cint 40 f6), (h7, kAi cint 40 f7)] s.heap.size = A at hD ⊢
  have hA : ∀ q : Nat, s.heap.size ≤ q → A q := fun q h => by rw [← hAe]; exact Or.inr h
  have hS : va_S A s.heap s.heap [] := va_S.rf
  have hP : va_P (dC, dI) vwCl [(h0, kO4 h2 n0_size h3 h4 n0_top), (h1, kO9 h5 h6 h7 n1_size), (h2, kAi cint 128 f2), (h3, kAi cint 8 f3), (h4, kAi cint 64 f4), (h5, kAi cint 40 f5), (h6, kAi cint 40 f6), (h7, kAi cint 40 f7)] s.heap := hP
  have hl := lv_entry ([.ref h0, .ref h1, .int p1, .int p2, .int p3]) (n := 8) (Nat.le_of_ble_eq_true rfl)
  rw [lg_entry_eq]
  generalize (lg_sl ([.ref h0, .ref h1, .int p1, .int p2, .int p3]) ++ List.replicate (8 - (lg_sl ([.ref h0, .ref h1, .int p1, .int p2, .int p3])).length) Slot.unset).toArray = ls at hl ⊢
  have hl : lv_has ls 8 [(0, .ref h0), (1, .ref h1), (2, .int p1), (3, .int p2), (4, .int p3)] := hl
  refine lv_aload_n hx hb dX4_lay_0 rfl (lv_at hl 1 rfl) ?_
  have hPc := kk_Ps (wq := [(h1, kO9 h5 h6 h7 n1_size)]) hP [1] rfl
  have hDc := kk_Ds (wq := [(h1, kO9 h5 h6 h7 n1_size)]) hD [1] (by decide) rfl
  have hKc := kk_Ks (tq := []) hK [] rfl
  have hFc := va_free (wc := [(h1, kO9 h5 h6 h7 n1_size)]) hD hS hA [1] rfl
  refine va_callv (va_runV (As := []) (rest := []) ⟨hx, hb, hml, hown, hts⟩ (g_X9_clear_0 l dC dI h1 h5 h6 h7 s.heap.size n1_size tn1_size) (cwV 0 hts gX4_lay_X9_clear rfl rfl rfl ⟨rfl, kh_X9_clear⟩ ⟨Nat.le_of_ble_eq_true rfl, Nat.le_of_ble_eq_true rfl⟩) ⟨fun a U g mk q => by obtain ⟨q0, q1, qP, qK, qD⟩ := q; exact ⟨q0, q1, qP, va_K.moved (u := U) (U := U.calling g mk a) (Vm.Alike.refl U.vm) qK, qD⟩, va_recv hKc hPc (ci := 9) (q0 := 0) rfl rfl, fun U hU hW => ⟨rfl, by rw [hU], by rw [hU]; exact hPc, va_K.moved hW.alike hKc, hDc.weaken (fun _ _ _ _ => trivial)⟩⟩ rfl rfl hl.1 rfl (lv_room (Nat.le_of_ble_eq_true rfl)) dX4_lay_1 ⟨Nat.le_of_ble_eq_true rfl, Nat.le_of_ble_eq_true rfl⟩) hS (fun q _ h => hFc q h) hFc (fun u t H1 locs ht hvm hw hB hz1 hk1 hS => ?_)
  refine hB.elim (fun y_2 hB => ?_)
  refine hB.elim (fun by_2 hB => ?_)
  have hP1 := hB.1
  have hK1 := hB.2.1
  have hD1 := hB.2.2
  rw [ht] at hP1
  have hK1 := va_K.moved hvm.symm hK1
  obtain ⟨hP, hD⟩ := va_join (wr := [(h0, kO4 h2 n0_size h3 h4 n0_top), (h2, kAi cint 128 f2), (h3, kAi cint 8 f3), (h4, kAi cint 64 f4), (h5, kAi cint 40 f5), (h6, kAi cint 40 f6), (h7, kAi cint 40 f7)]) (w1 := [(h1, kO9 h5 h6 h7 y_2)]) hP hD [1] [0, 2, 3, 4, 5, 6, 7] rfl rfl (by decide) (by decide) hk1 hFc hP1 hD1
  generalize H1 = H at hP hS ⊢
  have hP : va_P (dC, dI) vwCl [(h0, kO4 h2 n0_size h3 h4 n0_top), (h2, kAi cint 128 f2), (h3, kAi cint 8 f3), (h4, kAi cint 64 f4), (h5, kAi cint 40 f5), (h6, kAi cint 40 f6), (h7, kAi cint 40 f7), (h1, kO9 h5 h6 h7 y_2)] H := hP
  have hD : va_D A [(h0, kO4 h2 n0_size h3 h4 n0_top), (h2, kAi cint 128 f2), (h3, kAi cint 8 f3), (h4, kAi cint 64 f4), (h5, kAi cint 40 f5), (h6, kAi cint 40 f6), (h7, kAi cint 40 f7), (h1, kO9 h5 h6 h7 y_2)] := hD
  refine lv_iconst (v := 0) hx hb dX4_lay_4 kk_ic_0 ?_
  refine lv_istore hx hb dX4_lay_5 hl (by decide) (rfl : _ = ([(5, .int 0), (0, .ref h0), (1, .ref h1), (2, .int p1), (3, .int p2), (4, .int p3)] : List (Nat × Value))) (fun ls hl => ?_)
  refine kk_loop (σ := Int32 × (Nat → Int32) × (Nat → Int32) × (Nat → Int32) × Int32) (fun x H locs ls => (0 ≤ x.1.toInt ∧ x.1.toInt ≤ 2147483) ∧ (0 ≤ x.2.2.2.2.toInt ∧ x.2.2.2.2.toInt ≤ 40) ∧ va_P (dC, dI) vwCl [(h0, kO4 h2 n0_size h3 h4 n0_top), (h2, kAi cint 128 f2), (h3, kAi cint 8 f3), (h4, kAi cint 64 f4), (h5, kAi cint 40 x.2.1), (h6, kAi cint 40 x.2.2.1), (h7, kAi cint 40 x.2.2.2.1), (h1, kO9 h5 h6 h7 x.2.2.2.2)] H ∧ va_D A [(h0, kO4 h2 n0_size h3 h4 n0_top), (h2, kAi cint 128 f2), (h3, kAi cint 8 f3), (h4, kAi cint 64 f4), (h5, kAi cint 40 x.2.1), (h6, kAi cint 40 x.2.2.1), (h7, kAi cint 40 x.2.2.2.1), (h1, kO9 h5 h6 h7 x.2.2.2.2)] ∧ va_S A s.heap H locs ∧ lv_has ls 8 [(5, .int x.1), (0, .ref h0), (1, .ref h1), (2, .int p1), (3, .int p2), (4, .int p3)]) (fun x => ((2147483 : Int) - x.1.toInt).toNat) ?_ (0, f5, f6, f7, y_2) _ _ _ ⟨(by show 0 ≤ (0 : Int32).toInt ∧ (0 : Int32).toInt ≤ 2147483; first | decide | ((omega))), (by show 0 ≤ (y_2 : Int32).toInt ∧ (y_2 : Int32).toInt ≤ 40; first | decide | ((omega))), hP, hD, hS, hl⟩
  rintro ⟨i_3_0, f_3_1, f_3_2, f_3_3, i_3_4⟩ H locs ls ⟨t_3_0, t_3_4, hP, hD, hS, hl⟩ ih_3
  have t_3_0 : (0 ≤ i_3_0.toInt ∧ i_3_0.toInt ≤ 2147483) := t_3_0
  have t_3_4 : (0 ≤ i_3_4.toInt ∧ i_3_4.toInt ≤ 40) := t_3_4
  have hl : lv_has ls 8 [(5, .int i_3_0), (0, .ref h0), (1, .ref h1), (2, .int p1), (3, .int p2), (4, .int p3)] := hl
  have hP : va_P (dC, dI) vwCl [(h0, kO4 h2 n0_size h3 h4 n0_top), (h2, kAi cint 128 f2), (h3, kAi cint 8 f3), (h4, kAi cint 64 f4), (h5, kAi cint 40 f_3_1), (h6, kAi cint 40 f_3_2), (h7, kAi cint 40 f_3_3), (h1, kO9 h5 h6 h7 i_3_4)] H := hP
  have hD : va_D A [(h0, kO4 h2 n0_size h3 h4 n0_top), (h2, kAi cint 128 f2), (h3, kAi cint 8 f3), (h4, kAi cint 64 f4), (h5, kAi cint 40 f_3_1), (h6, kAi cint 40 f_3_2), (h7, kAi cint 40 f_3_3), (h1, kO9 h5 h6 h7 i_3_4)] := hD
  refine lv_iload hx hb dX4_lay_7 (lv_at hl 0 rfl) ?_
  refine lv_iload_n hx hb dX4_lay_9 rfl (lv_at hl 3 rfl) ?_
  refine lv_sipush (v := 1000) hx hb dX4_lay_10 kk_si_1000 ?_
  refine lv_idiv hx hb dX4_lay_13 (by decide) ?_
  refine lv_icmp_ge (tgt := 35) hx hb dX4_lay_14 (by decide) (fun c_52 => ?_) (fun c_52 => ?_)
  · have t_52 : (p1 / 1000).toInt ≤ i_3_0.toInt := kk_le c_52
    refine lv_iload hx hb dX4_lay_35 (lv_at hl 5 rfl) ?_
    refine lv_istore hx hb dX4_lay_37 hl (by decide) (rfl : _ = ([(5, .int p3), (0, .ref h0), (1, .ref h1), (2, .int p1), (3, .int p2), (4, .int p3)] : List (Nat × Value))) (fun ls hl => ?_)
    refine lv_iconst (v := 0) hx hb dX4_lay_39 kk_ic_0 ?_
    refine lv_istore hx hb dX4_lay_40 hl (by decide) (rfl : _ = ([(6, .int 0), (5, .int p3), (0, .ref h0), (1, .ref h1), (2, .int p1), (3, .int p2), (4, .int p3)] : List (Nat × Value))) (fun ls hl => ?_)
    try have := kk_rng p1
    try have := kk_divb (x := p1) (k := 1000) (n := 1000) rfl (by decide)
    refine kk_loop (σ := Int32 × Int32 × Int32 × (Nat → Int32) × (Nat → Int32) × (Nat → Int32) × (Nat → Int32) × (Nat → Int32) × Int32) (fun x H locs ls => (0 ≤ x.1.toInt ∧ x.1.toInt ≤ 2147483647) ∧ (0 ≤ x.2.2.1.toInt ∧ x.2.2.1.toInt ≤ 64) ∧ (0 ≤ x.2.2.2.2.2.2.2.2.toInt ∧ x.2.2.2.2.2.2.2.2.toInt ≤ 40) ∧ va_P (dC, dI) vwCl [(h0, kO4 h2 n0_size h3 h4 x.2.2.1), (h2, kAi cint 128 f2), (h3, kAi cint 8 x.2.2.2.1), (h4, kAi cint 64 x.2.2.2.2.1), (h5, kAi cint 40 x.2.2.2.2.2.1), (h6, kAi cint 40 x.2.2.2.2.2.2.1), (h7, kAi cint 40 x.2.2.2.2.2.2.2.1), (h1, kO9 h5 h6 h7 x.2.2.2.2.2.2.2.2)] H ∧ va_D A [(h0, kO4 h2 n0_size h3 h4 x.2.2.1), (h2, kAi cint 128 f2), (h3, kAi cint 8 x.2.2.2.1), (h4, kAi cint 64 x.2.2.2.2.1), (h5, kAi cint 40 x.2.2.2.2.2.1), (h6, kAi cint 40 x.2.2.2.2.2.2.1), (h7, kAi cint 40 x.2.2.2.2.2.2.2.1), (h1, kO9 h5 h6 h7 x.2.2.2.2.2.2.2.2)] ∧ va_S A s.heap H locs ∧ lv_has ls 8 [(6, .int x.1), (5, .int x.2.1), (0, .ref h0), (1, .ref h1), (2, .int p1), (3, .int p2), (4, .int p3)]) (fun x => ((2147483647 : Int) - x.1.toInt).toNat) ?_ (0, p3, n0_top, f3, f4, f_3_1, f_3_2, f_3_3, i_3_4) _ _ _ ⟨(by show 0 ≤ (0 : Int32).toInt ∧ (0 : Int32).toInt ≤ 2147483647; first | decide | ((omega))), tn0_top, (by show 0 ≤ (i_3_4 : Int32).toInt ∧ (i_3_4 : Int32).toInt ≤ 40; first | decide | ((omega))), hP, hD, hS, hl⟩
    rintro ⟨i_53_0, i_53_1, i_53_2, f_53_3, f_53_4, f_53_5, f_53_6, f_53_7, i_53_8⟩ H locs ls ⟨t_53_0, t_53_2, t_53_8, hP, hD, hS, hl⟩ ih_53
    have t_53_0 : (0 ≤ i_53_0.toInt ∧ i_53_0.toInt ≤ 2147483647) := t_53_0
    have t_53_2 : (0 ≤ i_53_2.toInt ∧ i_53_2.toInt ≤ 64) := t_53_2
    have t_53_8 : (0 ≤ i_53_8.toInt ∧ i_53_8.toInt ≤ 40) := t_53_8
    have hl : lv_has ls 8 [(6, .int i_53_0), (5, .int i_53_1), (0, .ref h0), (1, .ref h1), (2, .int p1), (3, .int p2), (4, .int p3)] := hl
    have hP : va_P (dC, dI) vwCl [(h0, kO4 h2 n0_size h3 h4 i_53_2), (h2, kAi cint 128 f2), (h3, kAi cint 8 f_53_3), (h4, kAi cint 64 f_53_4), (h5, kAi cint 40 f_53_5), (h6, kAi cint 40 f_53_6), (h7, kAi cint 40 f_53_7), (h1, kO9 h5 h6 h7 i_53_8)] H := hP
    have hD : va_D A [(h0, kO4 h2 n0_size h3 h4 i_53_2), (h2, kAi cint 128 f2), (h3, kAi cint 8 f_53_3), (h4, kAi cint 64 f_53_4), (h5, kAi cint 40 f_53_5), (h6, kAi cint 40 f_53_6), (h7, kAi cint 40 f_53_7), (h1, kO9 h5 h6 h7 i_53_8)] := hD
    refine lv_iload hx hb dX4_lay_42 (lv_at hl 0 rfl) ?_
    refine lv_iload_n hx hb dX4_lay_44 rfl (lv_at hl 5 rfl) ?_
    refine lv_icmp_ge (tgt := 119) hx hb dX4_lay_45 (by decide) (fun c_187 => ?_) (fun c_187 => ?_)
    · have t_187 : p2.toInt ≤ i_53_0.toInt := kk_le c_187
      have hP9 := kk_Ps (wq := [(h0, kO4 h2 n0_size h3 h4 i_53_2), (h1, kO9 h5 h6 h7 i_53_8), (h2, kAi cint 128 f2), (h3, kAi cint 8 f_53_3), (h4, kAi cint 64 f_53_4), (h5, kAi cint 40 f_53_5), (h6, kAi cint 40 f_53_6), (h7, kAi cint 40 f_53_7)]) hP [0, 7, 1, 2, 3, 4, 5, 6] rfl
      have hD9 := kk_Ds (wq := [(h0, kO4 h2 n0_size h3 h4 i_53_2), (h1, kO9 h5 h6 h7 i_53_8), (h2, kAi cint 128 f2), (h3, kAi cint 8 f_53_3), (h4, kAi cint 64 f_53_4), (h5, kAi cint 40 f_53_5), (h6, kAi cint 40 f_53_6), (h7, kAi cint 40 f_53_7)]) hD [0, 7, 1, 2, 3, 4, 5, 6] (by decide) rfl
      have hK9 := kk_Ks (tq := []) hK [] rfl
      try have := kk_rng p2
      try have := kk_rng i_53_0
      exact W.vret hx hb hr (fun t ht hW => ⟨⟨(), rfl, trivial, i_53_2, i_53_8, f_53_3, f_53_4, f_53_5, f_53_6, f_53_7, (by show 0 ≤ (i_53_2 : Int32).toInt ∧ (i_53_2 : Int32).toInt ≤ 64; first | decide | ((omega))), (by show 0 ≤ (i_53_8 : Int32).toInt ∧ (i_53_8 : Int32).toInt ≤ 40; first | decide | ((omega))), by rw [ht]; exact hP9, va_K.moved hW.alike hK9, hD9⟩, hS.F ht⟩) hS.2.2 dX4_lay_119
    · have t_187 : i_53_0.toInt < p2.toInt := kk_nle c_187
      refine lv_aload_n hx hb dX4_lay_48 rfl (lv_at hl 3 rfl) ?_
      have hPc := kk_Ps (wq := [(h1, kO9 h5 h6 h7 i_53_8)]) hP [7] rfl
      have hDc := kk_Ds (wq := [(h1, kO9 h5 h6 h7 i_53_8)]) hD [7] (by decide) rfl
      have hKc := kk_Ks (tq := []) hK [] rfl
      have hFc := va_free (wc := [(h1, kO9 h5 h6 h7 i_53_8)]) hD hS hA [7] rfl
      try have := kk_rng p2
      refine va_calli (va_runV (As := []) (rest := []) ⟨hx, hb, hml, hown, hts⟩ (g_X9_size_0 l dC dI h1 h5 h6 h7 H.size i_53_8 (by show 0 ≤ (i_53_8 : Int32).toInt ∧ (i_53_8 : Int32).toInt ≤ 40; first | decide | ((omega)))) (cwV 0 hts gX4_lay_X9_size rfl rfl rfl ⟨rfl, kh_X9_size⟩ ⟨Nat.le_of_ble_eq_true rfl, Nat.le_of_ble_eq_true rfl⟩) ⟨fun a U g mk q => by obtain ⟨q0, q1, qP, qK, qD⟩ := q; exact ⟨q0, q1, qP, va_K.moved (u := U) (U := U.calling g mk a) (Vm.Alike.refl U.vm) qK, qD⟩, va_recv hKc hPc (ci := 9) (q0 := 0) rfl rfl, fun U hU hW => ⟨rfl, by rw [hU], by rw [hU]; exact hPc, va_K.moved hW.alike hKc, hDc.weaken (fun _ _ _ _ => trivial)⟩⟩ rfl rfl hl.1 rfl (lv_room (Nat.le_of_ble_eq_true rfl)) dX4_lay_49 ⟨Nat.le_of_ble_eq_true rfl, Nat.le_of_ble_eq_true rfl⟩) hS (fun q _ h => hFc q h) hFc (fun r_188 u t H1 locs ht hvm hw hB hz1 hk1 hS => ?_)
      obtain ⟨hP1, hK1, hD1⟩ := hB
      rw [ht] at hP1
      have hK1 := va_K.moved hvm.symm hK1
      obtain ⟨hP, hD⟩ := va_join (wr := [(h0, kO4 h2 n0_size h3 h4 i_53_2), (h2, kAi cint 128 f2), (h3, kAi cint 8 f_53_3), (h4, kAi cint 64 f_53_4), (h5, kAi cint 40 f_53_5), (h6, kAi cint 40 f_53_6), (h7, kAi cint 40 f_53_7)]) (w1 := [(h1, kO9 h5 h6 h7 i_53_8)]) hP hD [7] [0, 1, 2, 3, 4, 5, 6] rfl rfl (by decide) (by decide) hk1 hFc hP1 hD1
      generalize H1 = H at hP hS ⊢
      have hP : va_P (dC, dI) vwCl [(h0, kO4 h2 n0_size h3 h4 i_53_2), (h2, kAi cint 128 f2), (h3, kAi cint 8 f_53_3), (h4, kAi cint 64 f_53_4), (h5, kAi cint 40 f_53_5), (h6, kAi cint 40 f_53_6), (h7, kAi cint 40 f_53_7), (h1, kO9 h5 h6 h7 i_53_8)] H := hP
      have hD : va_D A [(h0, kO4 h2 n0_size h3 h4 i_53_2), (h2, kAi cint 128 f2), (h3, kAi cint 8 f_53_3), (h4, kAi cint 64 f_53_4), (h5, kAi cint 40 f_53_5), (h6, kAi cint 40 f_53_6), (h7, kAi cint 40 f_53_7), (h1, kO9 h5 h6 h7 i_53_8)] := hD
      obtain rfl := hw
      refine lv_if_le (tgt := 119) hx hb dX4_lay_52 (by decide) (fun c_189 => ?_) (fun c_189 => ?_)
      · have t_189 : i_53_8.toInt ≤ 0 := kk_le c_189
        have hP9 := kk_Ps (wq := [(h0, kO4 h2 n0_size h3 h4 i_53_2), (h1, kO9 h5 h6 h7 i_53_8), (h2, kAi cint 128 f2), (h3, kAi cint 8 f_53_3), (h4, kAi cint 64 f_53_4), (h5, kAi cint 40 f_53_5), (h6, kAi cint 40 f_53_6), (h7, kAi cint 40 f_53_7)]) hP [0, 7, 1, 2, 3, 4, 5, 6] rfl
        have hD9 := kk_Ds (wq := [(h0, kO4 h2 n0_size h3 h4 i_53_2), (h1, kO9 h5 h6 h7 i_53_8), (h2, kAi cint 128 f2), (h3, kAi cint 8 f_53_3), (h4, kAi cint 64 f_53_4), (h5, kAi cint 40 f_53_5), (h6, kAi cint 40 f_53_6), (h7, kAi cint 40 f_53_7)]) hD [0, 7, 1, 2, 3, 4, 5, 6] (by decide) rfl
        have hK9 := kk_Ks (tq := []) hK [] rfl
        exact W.vret hx hb hr (fun t ht hW => ⟨⟨(), rfl, trivial, i_53_2, i_53_8, f_53_3, f_53_4, f_53_5, f_53_6, f_53_7, (by show 0 ≤ (i_53_2 : Int32).toInt ∧ (i_53_2 : Int32).toInt ≤ 64; first | decide | ((omega))), (by show 0 ≤ (i_53_8 : Int32).toInt ∧ (i_53_8 : Int32).toInt ≤ 40; first | decide | ((omega))), by rw [ht]; exact hP9, va_K.moved hW.alike hK9, hD9⟩, hS.F ht⟩) hS.2.2 dX4_lay_119
      · have t_189 : 0 < i_53_8.toInt := kk_nle c_189
        refine lv_iload hx hb dX4_lay_55 (lv_at hl 1 rfl) ?_
        have hPc := kk_Ps (wq := []) hP [] rfl
        have hDc := kk_Ds (wq := []) hD [] (by decide) rfl
        have hKc := kk_Ks (tq := []) hK [] rfl
        have hFc := va_free (wc := []) hD hS hA [] rfl
        refine va_calli (va_runSN (As := [.int i_53_1]) (rest := []) ⟨hx, hb, hml, hown, hts⟩ (g_X11_drawAfter_0 l dC dI H.size i_53_1) ⟨(va_cnB 1 hts gX4_lay_X11_drawAfter_n41 rfl rfl rfl hN41 (hts (.initialized RX11) (List.mem_of_getElem? (i := 27) rfl)) (by decide +kernel) ⟨Nat.le_of_ble_eq_true rfl, Nat.le_of_ble_eq_true rfl⟩), (hts (.static yX11_drawAfter) (List.mem_of_getElem? (i := 26) rfl)), trivial⟩ ⟨fun a U g mk q => by obtain ⟨q0, q1, qP, qK, qD⟩ := q; exact ⟨q0, q1, qP, va_K.moved (u := U) (U := U.calling g mk a) (Vm.Alike.refl U.vm) qK, qD⟩, fun U hU hW => ⟨rfl, by rw [hU], by rw [hU]; exact hPc, va_K.moved hW.alike hKc, hDc.weaken (fun _ _ _ _ => trivial)⟩⟩ rfl rfl hl.1 rfl (lv_room (Nat.le_of_ble_eq_true rfl)) dX4_lay_57 ⟨Nat.le_of_ble_eq_true rfl, Nat.le_of_ble_eq_true rfl⟩) hS (fun q _ h => hFc q h) hFc (fun r_190 u t H1 locs ht hvm hw hB hz1 hk1 hS => ?_)
        obtain ⟨hP1, hK1, hD1⟩ := hB
        rw [ht] at hP1
        have hK1 := va_K.moved hvm.symm hK1
        obtain ⟨hP, hD⟩ := va_join (wr := [(h0, kO4 h2 n0_size h3 h4 i_53_2), (h2, kAi cint 128 f2), (h3, kAi cint 8 f_53_3), (h4, kAi cint 64 f_53_4), (h5, kAi cint 40 f_53_5), (h6, kAi cint 40 f_53_6), (h7, kAi cint 40 f_53_7), (h1, kO9 h5 h6 h7 i_53_8)]) (w1 := []) hP hD [] [0, 1, 2, 3, 4, 5, 6, 7] rfl rfl (by decide) (by decide) hk1 hFc hP1 hD1
        generalize H1 = H at hP hS ⊢
        have hP : va_P (dC, dI) vwCl [(h0, kO4 h2 n0_size h3 h4 i_53_2), (h2, kAi cint 128 f2), (h3, kAi cint 8 f_53_3), (h4, kAi cint 64 f_53_4), (h5, kAi cint 40 f_53_5), (h6, kAi cint 40 f_53_6), (h7, kAi cint 40 f_53_7), (h1, kO9 h5 h6 h7 i_53_8)] H := hP
        have hD : va_D A [(h0, kO4 h2 n0_size h3 h4 i_53_2), (h2, kAi cint 128 f2), (h3, kAi cint 8 f_53_3), (h4, kAi cint 64 f_53_4), (h5, kAi cint 40 f_53_5), (h6, kAi cint 40 f_53_6), (h7, kAi cint 40 f_53_7), (h1, kO9 h5 h6 h7 i_53_8)] := hD
        obtain rfl := hw
        refine lv_istore hx hb dX4_lay_60 hl (by decide) (rfl : _ = ([(5, .int ((i_53_1 * 1103515245) + 12345)), (6, .int i_53_0), (0, .ref h0), (1, .ref h1), (2, .int p1), (3, .int p2), (4, .int p3)] : List (Nat × Value))) (fun ls hl => ?_)
        refine lv_iload hx hb dX4_lay_62 (lv_at hl 0 rfl) ?_
        refine lv_bipush (v := 8) hx hb dX4_lay_64 kk_bi_8 ?_
        refine lv_iushr hx hb dX4_lay_66 rfl ?_
        refine lv_topi (fun y_191 e_191 => ?_)
        have t_191 : 0 ≤ y_191.toInt ∧ y_191.toInt ≤ 16777215 := by rw [e_191]; exact kk_ushr8 _
        clear e_191
        refine lv_aload_n hx hb dX4_lay_67 rfl (lv_at hl 3 rfl) ?_
        have hPc := kk_Ps (wq := [(h1, kO9 h5 h6 h7 i_53_8)]) hP [7] rfl
        have hDc := kk_Ds (wq := [(h1, kO9 h5 h6 h7 i_53_8)]) hD [7] (by decide) rfl
        have hKc := kk_Ks (tq := []) hK [] rfl
        have hFc := va_free (wc := [(h1, kO9 h5 h6 h7 i_53_8)]) hD hS hA [7] rfl
        refine va_calli (va_runV (As := []) (rest := [.int y_191]) ⟨hx, hb, hml, hown, hts⟩ (g_X9_size_0 l dC dI h1 h5 h6 h7 H.size i_53_8 (by show 0 ≤ (i_53_8 : Int32).toInt ∧ (i_53_8 : Int32).toInt ≤ 40; first | decide | ((omega)))) (cwV 0 hts gX4_lay_X9_size rfl rfl rfl ⟨rfl, kh_X9_size⟩ ⟨Nat.le_of_ble_eq_true rfl, Nat.le_of_ble_eq_true rfl⟩) ⟨fun a U g mk q => by obtain ⟨q0, q1, qP, qK, qD⟩ := q; exact ⟨q0, q1, qP, va_K.moved (u := U) (U := U.calling g mk a) (Vm.Alike.refl U.vm) qK, qD⟩, va_recv hKc hPc (ci := 9) (q0 := 0) rfl rfl, fun U hU hW => ⟨rfl, by rw [hU], by rw [hU]; exact hPc, va_K.moved hW.alike hKc, hDc.weaken (fun _ _ _ _ => trivial)⟩⟩ rfl rfl hl.1 rfl (lv_room (Nat.le_of_ble_eq_true rfl)) dX4_lay_68 ⟨Nat.le_of_ble_eq_true rfl, Nat.le_of_ble_eq_true rfl⟩) hS (fun q _ h => hFc q h) hFc (fun r_192 u t H1 locs ht hvm hw hB hz1 hk1 hS => ?_)
        obtain ⟨hP1, hK1, hD1⟩ := hB
        rw [ht] at hP1
        have hK1 := va_K.moved hvm.symm hK1
        obtain ⟨hP, hD⟩ := va_join (wr := [(h0, kO4 h2 n0_size h3 h4 i_53_2), (h2, kAi cint 128 f2), (h3, kAi cint 8 f_53_3), (h4, kAi cint 64 f_53_4), (h5, kAi cint 40 f_53_5), (h6, kAi cint 40 f_53_6), (h7, kAi cint 40 f_53_7)]) (w1 := [(h1, kO9 h5 h6 h7 i_53_8)]) hP hD [7] [0, 1, 2, 3, 4, 5, 6] rfl rfl (by decide) (by decide) hk1 hFc hP1 hD1
        generalize H1 = H at hP hS ⊢
        have hP : va_P (dC, dI) vwCl [(h0, kO4 h2 n0_size h3 h4 i_53_2), (h2, kAi cint 128 f2), (h3, kAi cint 8 f_53_3), (h4, kAi cint 64 f_53_4), (h5, kAi cint 40 f_53_5), (h6, kAi cint 40 f_53_6), (h7, kAi cint 40 f_53_7), (h1, kO9 h5 h6 h7 i_53_8)] H := hP
        have hD : va_D A [(h0, kO4 h2 n0_size h3 h4 i_53_2), (h2, kAi cint 128 f2), (h3, kAi cint 8 f_53_3), (h4, kAi cint 64 f_53_4), (h5, kAi cint 40 f_53_5), (h6, kAi cint 40 f_53_6), (h7, kAi cint 40 f_53_7), (h1, kO9 h5 h6 h7 i_53_8)] := hD
        obtain rfl := hw
        refine lv_irem hx hb dX4_lay_71 (fun h => by have h : i_53_8.toInt = 0 := kk_eq h; have := kk_rng p2; have := kk_rng p1; have := kk_divb (x := p1) (k := 1000) (n := 1000) rfl (by decide); omega) ?_
        refine lv_topi (fun y_193 e_193 => ?_)
        clear e_193
        refine lv_istore hx hb dX4_lay_72 hl (by decide) (rfl : _ = ([(7, .int y_193), (5, .int ((i_53_1 * 1103515245) + 12345)), (6, .int i_53_0), (0, .ref h0), (1, .ref h1), (2, .int p1), (3, .int p2), (4, .int p3)] : List (Nat × Value))) (fun ls hl => ?_)
        refine lv_iload hx hb dX4_lay_74 (lv_at hl 1 rfl) ?_
        have hPc := kk_Ps (wq := []) hP [] rfl
        have hDc := kk_Ds (wq := []) hD [] (by decide) rfl
        have hKc := kk_Ks (tq := []) hK [] rfl
        have hFc := va_free (wc := []) hD hS hA [] rfl
        refine va_calli (va_runSN (As := [.int ((i_53_1 * 1103515245) + 12345)]) (rest := []) ⟨hx, hb, hml, hown, hts⟩ (g_X11_drawAfter_0 l dC dI H.size ((i_53_1 * 1103515245) + 12345)) ⟨(va_cnB 1 hts gX4_lay_X11_drawAfter_n41 rfl rfl rfl hN41 (hts (.initialized RX11) (List.mem_of_getElem? (i := 27) rfl)) (by decide +kernel) ⟨Nat.le_of_ble_eq_true rfl, Nat.le_of_ble_eq_true rfl⟩), (hts (.static yX11_drawAfter) (List.mem_of_getElem? (i := 26) rfl)), trivial⟩ ⟨fun a U g mk q => by obtain ⟨q0, q1, qP, qK, qD⟩ := q; exact ⟨q0, q1, qP, va_K.moved (u := U) (U := U.calling g mk a) (Vm.Alike.refl U.vm) qK, qD⟩, fun U hU hW => ⟨rfl, by rw [hU], by rw [hU]; exact hPc, va_K.moved hW.alike hKc, hDc.weaken (fun _ _ _ _ => trivial)⟩⟩ rfl rfl hl.1 rfl (lv_room (Nat.le_of_ble_eq_true rfl)) dX4_lay_76 ⟨Nat.le_of_ble_eq_true rfl, Nat.le_of_ble_eq_true rfl⟩) hS (fun q _ h => hFc q h) hFc (fun r_194 u t H1 locs ht hvm hw hB hz1 hk1 hS => ?_)
        obtain ⟨hP1, hK1, hD1⟩ := hB
        rw [ht] at hP1
        have hK1 := va_K.moved hvm.symm hK1
        obtain ⟨hP, hD⟩ := va_join (wr := [(h0, kO4 h2 n0_size h3 h4 i_53_2), (h2, kAi cint 128 f2), (h3, kAi cint 8 f_53_3), (h4, kAi cint 64 f_53_4), (h5, kAi cint 40 f_53_5), (h6, kAi cint 40 f_53_6), (h7, kAi cint 40 f_53_7), (h1, kO9 h5 h6 h7 i_53_8)]) (w1 := []) hP hD [] [0, 1, 2, 3, 4, 5, 6, 7] rfl rfl (by decide) (by decide) hk1 hFc hP1 hD1
        generalize H1 = H at hP hS ⊢
        have hP : va_P (dC, dI) vwCl [(h0, kO4 h2 n0_size h3 h4 i_53_2), (h2, kAi cint 128 f2), (h3, kAi cint 8 f_53_3), (h4, kAi cint 64 f_53_4), (h5, kAi cint 40 f_53_5), (h6, kAi cint 40 f_53_6), (h7, kAi cint 40 f_53_7), (h1, kO9 h5 h6 h7 i_53_8)] H := hP
        have hD : va_D A [(h0, kO4 h2 n0_size h3 h4 i_53_2), (h2, kAi cint 128 f2), (h3, kAi cint 8 f_53_3), (h4, kAi cint 64 f_53_4), (h5, kAi cint 40 f_53_5), (h6, kAi cint 40 f_53_6), (h7, kAi cint 40 f_53_7), (h1, kO9 h5 h6 h7 i_53_8)] := hD
        obtain rfl := hw
        refine lv_istore hx hb dX4_lay_79 hl (by decide) (rfl : _ = ([(5, .int ((((i_53_1 * 1103515245) + 12345) * 1103515245) + 12345)), (7, .int y_193), (6, .int i_53_0), (0, .ref h0), (1, .ref h1), (2, .int p1), (3, .int p2), (4, .int p3)] : List (Nat × Value))) (fun ls hl => ?_)
        refine lv_aload_n hx hb dX4_lay_81 rfl (lv_at hl 3 rfl) ?_
        refine lv_aload_n hx hb dX4_lay_82 rfl (lv_at hl 4 rfl) ?_
        refine lv_iload hx hb dX4_lay_83 (lv_at hl 1 rfl) ?_
        refine lv_iload hx hb dX4_lay_85 (lv_at hl 2 rfl) ?_
        refine lv_iload hx hb dX4_lay_87 (lv_at hl 0 rfl) ?_
        refine lv_bipush (v := 8) hx hb dX4_lay_89 kk_bi_8 ?_
        refine lv_iushr hx hb dX4_lay_91 rfl ?_
        refine lv_topi (fun y_195 e_195 => ?_)
        have t_195 : 0 ≤ y_195.toInt ∧ y_195.toInt ≤ 16777215 := by rw [e_195]; exact kk_ushr8 _
        clear e_195
        refine lv_bipush (v := 100) hx hb dX4_lay_92 kk_bi_100 ?_
        refine lv_irem hx hb dX4_lay_94 (by decide) ?_
        refine lv_iload_n hx hb dX4_lay_95 rfl (lv_at hl 5 rfl) ?_
        refine lv_sipush (v := 1000) hx hb dX4_lay_96 kk_si_1000 ?_
        refine lv_irem hx hb dX4_lay_99 (by decide) ?_
        have hPc := kk_Ps (wq := [(h0, kO4 h2 n0_size h3 h4 i_53_2), (h1, kO9 h5 h6 h7 i_53_8), (h3, kAi cint 8 f_53_3), (h5, kAi cint 40 f_53_5), (h6, kAi cint 40 f_53_6), (h7, kAi cint 40 f_53_7)]) hP [0, 7, 2, 4, 5, 6] rfl
        have hDc := kk_Ds (wq := [(h0, kO4 h2 n0_size h3 h4 i_53_2), (h1, kO9 h5 h6 h7 i_53_8), (h3, kAi cint 8 f_53_3), (h5, kAi cint 40 f_53_5), (h6, kAi cint 40 f_53_6), (h7, kAi cint 40 f_53_7)]) hD [0, 7, 2, 4, 5, 6] (by decide) rfl
        have hKc := kk_Ks (tq := [(cint, .int)]) hK [0] rfl
        have hFc := va_free (wc := [(h0, kO4 h2 n0_size h3 h4 i_53_2), (h1, kO9 h5 h6 h7 i_53_8), (h3, kAi cint 8 f_53_3), (h5, kAi cint 40 f_53_5), (h6, kAi cint 40 f_53_6), (h7, kAi cint 40 f_53_7)]) hD hS hA [0, 7, 2, 4, 5, 6] rfl
        try have := kk_rem (x := y_195) (k := 100) (n := 100) rfl (by decide) (by omega)
        try have := kk_remb (x := p1) (k := 1000) (n := 1000) rfl (by decide)
        refine va_callv (va_runV (As := [.ref h1, .int y_193, .int i_53_0, .int (y_195 - y_195 / 100 * 100), .int (p1 - p1 / 1000 * 1000)]) (rest := []) ⟨hx, hb, hml, hown, hts⟩ (g_X4_learn_0 l dC dI h0 h1 h3 h5 h6 h7 h2 h4 cint H.size y_193 i_53_0 (y_195 - y_195 / 100 * 100) (p1 - p1 / 1000 * 1000) n0_size i_53_2 i_53_8 f_53_3 f_53_5 f_53_6 f_53_7 tn0_size (by show 0 ≤ (i_53_2 : Int32).toInt ∧ (i_53_2 : Int32).toInt ≤ 64; first | decide | ((omega))) (by show 0 ≤ (i_53_8 : Int32).toInt ∧ (i_53_8 : Int32).toInt ≤ 40; first | decide | ((omega)))) (cwV 5 hts gX4_lay_X4_learn rfl rfl rfl ⟨rfl, kh_X4_learn⟩ ⟨Nat.le_of_ble_eq_true rfl, Nat.le_of_ble_eq_true rfl⟩) ⟨fun a U g mk q => by obtain ⟨q0, q1, qP, qK, qD⟩ := q; exact ⟨q0, q1, qP, va_K.moved (u := U) (U := U.calling g mk a) (Vm.Alike.refl U.vm) qK, qD⟩, va_recv hKc hPc (ci := 4) (q0 := 0) rfl rfl, fun U hU hW => ⟨rfl, by rw [hU], by rw [hU]; exact hPc, va_K.moved hW.alike hKc, hDc.weaken (fun _ _ _ _ => trivial)⟩⟩ rfl rfl hl.1 rfl (lv_room (Nat.le_of_ble_eq_true rfl)) dX4_lay_100 ⟨Nat.le_of_ble_eq_true rfl, Nat.le_of_ble_eq_true rfl⟩) hS (fun q _ h => hFc q h) hFc (fun u t H1 locs ht hvm hw hB hz1 hk1 hS => ?_)
        obtain ⟨f_197, hP1, hK1, hD1⟩ := hB
        rw [ht] at hP1
        have hK1 := va_K.moved hvm.symm hK1
        obtain ⟨hP, hD⟩ := va_join (wr := [(h2, kAi cint 128 f2), (h4, kAi cint 64 f_53_4)]) (w1 := [(h0, kO4 h2 n0_size h3 h4 i_53_2), (h1, kO9 h5 h6 h7 i_53_8), (h3, kAi cint 8 f_197), (h5, kAi cint 40 f_53_5), (h6, kAi cint 40 f_53_6), (h7, kAi cint 40 f_53_7)]) hP hD [0, 7, 2, 4, 5, 6] [1, 3] rfl rfl (by decide) (by decide) hk1 hFc hP1 hD1
        generalize H1 = H at hP hS ⊢
        have hP : va_P (dC, dI) vwCl [(h2, kAi cint 128 f2), (h4, kAi cint 64 f_53_4), (h0, kO4 h2 n0_size h3 h4 i_53_2), (h1, kO9 h5 h6 h7 i_53_8), (h3, kAi cint 8 f_197), (h5, kAi cint 40 f_53_5), (h6, kAi cint 40 f_53_6), (h7, kAi cint 40 f_53_7)] H := hP
        have hD : va_D A [(h2, kAi cint 128 f2), (h4, kAi cint 64 f_53_4), (h0, kO4 h2 n0_size h3 h4 i_53_2), (h1, kO9 h5 h6 h7 i_53_8), (h3, kAi cint 8 f_197), (h5, kAi cint 40 f_53_5), (h6, kAi cint 40 f_53_6), (h7, kAi cint 40 f_53_7)] := hD
        refine lv_aload_n hx hb dX4_lay_103 rfl (lv_at hl 4 rfl) ?_
        refine lv_iload hx hb dX4_lay_104 (lv_at hl 1 rfl) ?_
        refine lv_aload_n hx hb dX4_lay_106 rfl (lv_at hl 3 rfl) ?_
        have hPc := kk_Ps (wq := [(h0, kO4 h2 n0_size h3 h4 i_53_2), (h2, kAi cint 128 f2), (h3, kAi cint 8 f_197), (h4, kAi cint 64 f_53_4)]) hP [2, 0, 4, 1] rfl
        have hDc := kk_Ds (wq := [(h0, kO4 h2 n0_size h3 h4 i_53_2), (h2, kAi cint 128 f2), (h3, kAi cint 8 f_197), (h4, kAi cint 64 f_53_4)]) hD [2, 0, 4, 1] (by decide) rfl
        have hKc := kk_Ks (tq := [(cint, .int)]) hK [0] rfl
        have hFc := va_free (wc := [(h0, kO4 h2 n0_size h3 h4 i_53_2), (h2, kAi cint 128 f2), (h3, kAi cint 8 f_197), (h4, kAi cint 64 f_53_4)]) hD hS hA [2, 0, 4, 1] rfl
        refine va_calli (va_runV (As := []) (rest := [.int y_193, .ref h1]) ⟨hx, hb, hml, hown, hts⟩ (g_X4_gives_0 l dC dI h0 h2 h3 h4 cint H.size n0_size i_53_2 f2 f_197 f_53_4 tn0_size (by show 0 ≤ (i_53_2 : Int32).toInt ∧ (i_53_2 : Int32).toInt ≤ 64; first | decide | ((omega)))) (cwV 0 hts gX4_lay_X4_gives rfl rfl rfl ⟨rfl, kh_X4_gives⟩ ⟨Nat.le_of_ble_eq_true rfl, Nat.le_of_ble_eq_true rfl⟩) ⟨fun a U g mk q => by obtain ⟨q0, q1, qP, qK, qD⟩ := q; exact ⟨q0, q1, qP, va_K.moved (u := U) (U := U.calling g mk a) (Vm.Alike.refl U.vm) qK, qD⟩, va_recv hKc hPc (ci := 4) (q0 := 0) rfl rfl, fun U hU hW => ⟨rfl, by rw [hU], by rw [hU]; exact hPc, va_K.moved hW.alike hKc, hDc.weaken (fun _ _ _ _ => trivial)⟩⟩ rfl rfl hl.1 rfl (lv_room (Nat.le_of_ble_eq_true rfl)) dX4_lay_107 ⟨Nat.le_of_ble_eq_true rfl, Nat.le_of_ble_eq_true rfl⟩) hS (fun q _ h => hFc q h) hFc (fun r_198 u t H1 locs ht hvm hw hB hz1 hk1 hS => ?_)
        refine hB.elim (fun y_199 hB => ?_)
        refine hB.elim (fun f_200 hB => ?_)
        refine hB.elim (fun by_199 hB => ?_)
        have hP1 := hB.1
        have hK1 := hB.2.1
        have hD1 := hB.2.2
        rw [ht] at hP1
        have hK1 := va_K.moved hvm.symm hK1
        obtain ⟨hP, hD⟩ := va_join (wr := [(h1, kO9 h5 h6 h7 i_53_8), (h5, kAi cint 40 f_53_5), (h6, kAi cint 40 f_53_6), (h7, kAi cint 40 f_53_7)]) (w1 := [(h0, kO4 h2 n0_size h3 h4 y_199), (h2, kAi cint 128 f2), (h3, kAi cint 8 f_197), (h4, kAi cint 64 f_200)]) hP hD [2, 0, 4, 1] [3, 5, 6, 7] rfl rfl (by decide) (by decide) hk1 hFc hP1 hD1
        generalize H1 = H at hP hS ⊢
        have hP : va_P (dC, dI) vwCl [(h1, kO9 h5 h6 h7 i_53_8), (h5, kAi cint 40 f_53_5), (h6, kAi cint 40 f_53_6), (h7, kAi cint 40 f_53_7), (h0, kO4 h2 n0_size h3 h4 y_199), (h2, kAi cint 128 f2), (h3, kAi cint 8 f_197), (h4, kAi cint 64 f_200)] H := hP
        have hD : va_D A [(h1, kO9 h5 h6 h7 i_53_8), (h5, kAi cint 40 f_53_5), (h6, kAi cint 40 f_53_6), (h7, kAi cint 40 f_53_7), (h0, kO4 h2 n0_size h3 h4 y_199), (h2, kAi cint 128 f2), (h3, kAi cint 8 f_197), (h4, kAi cint 64 f_200)] := hD
        have hPc := kk_Ps (wq := [(h1, kO9 h5 h6 h7 i_53_8), (h5, kAi cint 40 f_53_5), (h6, kAi cint 40 f_53_6), (h7, kAi cint 40 f_53_7)]) hP [0, 1, 2, 3] rfl
        have hDc := kk_Ds (wq := [(h1, kO9 h5 h6 h7 i_53_8), (h5, kAi cint 40 f_53_5), (h6, kAi cint 40 f_53_6), (h7, kAi cint 40 f_53_7)]) hD [0, 1, 2, 3] (by decide) rfl
        have hKc := kk_Ks (tq := [(cint, .int)]) hK [0] rfl
        have hFc := va_free (wc := [(h1, kO9 h5 h6 h7 i_53_8), (h5, kAi cint 40 f_53_5), (h6, kAi cint 40 f_53_6), (h7, kAi cint 40 f_53_7)]) hD hS hA [0, 1, 2, 3] rfl
        refine va_callv (va_runS (As := [.ref h1, .int y_193, .int r_198]) (rest := []) ⟨hx, hb, hml, hown, hts⟩ (g_X4_changeTown_0 l dC dI h1 h5 h6 h7 cint H.size y_193 r_198 i_53_8 f_53_5 f_53_6 f_53_7 (by show 0 ≤ (i_53_8 : Int32).toInt ∧ (i_53_8 : Int32).toInt ≤ 40; first | decide | ((omega)))) (va_cwS 3 hts gX4_lay_X4_changeTown rfl rfl rfl kh_X4_changeTown ⟨Nat.le_of_ble_eq_true rfl, Nat.le_of_ble_eq_true rfl⟩) ⟨fun a U g mk q => by obtain ⟨q0, q1, qP, qK, qD⟩ := q; exact ⟨q0, q1, qP, va_K.moved (u := U) (U := U.calling g mk a) (Vm.Alike.refl U.vm) qK, qD⟩, fun U hU hW => ⟨rfl, by rw [hU], by rw [hU]; exact hPc, va_K.moved hW.alike hKc, hDc.weaken (fun _ _ _ _ => trivial)⟩⟩ rfl rfl hl.1 rfl (lv_room (Nat.le_of_ble_eq_true rfl)) dX4_lay_110 ⟨Nat.le_of_ble_eq_true rfl, Nat.le_of_ble_eq_true rfl⟩) hS (fun q _ h => hFc q h) hFc (fun u t H1 locs ht hvm hw hB hz1 hk1 hS => ?_)
        refine hB.elim (fun y_202 hB => ?_)
        refine hB.elim (fun f_203 hB => ?_)
        refine hB.elim (fun f_204 hB => ?_)
        refine hB.elim (fun f_205 hB => ?_)
        refine hB.elim (fun by_202 hB => ?_)
        have hP1 := hB.1
        have hK1 := hB.2.1
        have hD1 := hB.2.2
        rw [ht] at hP1
        have hK1 := va_K.moved hvm.symm hK1
        obtain ⟨hP, hD⟩ := va_join (wr := [(h0, kO4 h2 n0_size h3 h4 y_199), (h2, kAi cint 128 f2), (h3, kAi cint 8 f_197), (h4, kAi cint 64 f_200)]) (w1 := [(h1, kO9 h5 h6 h7 y_202), (h5, kAi cint 40 f_203), (h6, kAi cint 40 f_204), (h7, kAi cint 40 f_205)]) hP hD [0, 1, 2, 3] [4, 5, 6, 7] rfl rfl (by decide) (by decide) hk1 hFc hP1 hD1
        generalize H1 = H at hP hS ⊢
        have hP : va_P (dC, dI) vwCl [(h0, kO4 h2 n0_size h3 h4 y_199), (h2, kAi cint 128 f2), (h3, kAi cint 8 f_197), (h4, kAi cint 64 f_200), (h1, kO9 h5 h6 h7 y_202), (h5, kAi cint 40 f_203), (h6, kAi cint 40 f_204), (h7, kAi cint 40 f_205)] H := hP
        have hD : va_D A [(h0, kO4 h2 n0_size h3 h4 y_199), (h2, kAi cint 128 f2), (h3, kAi cint 8 f_197), (h4, kAi cint 64 f_200), (h1, kO9 h5 h6 h7 y_202), (h5, kAi cint 40 f_203), (h6, kAi cint 40 f_204), (h7, kAi cint 40 f_205)] := hD
        refine lv_iinc (v := (i_53_0 + 1)) hx hb dX4_lay_113 hl (k := 2) rfl (by first | rfl | decide) (by decide) (rfl : _ = ([(6, .int (i_53_0 + 1)), (5, .int ((((i_53_1 * 1103515245) + 12345) * 1103515245) + 12345)), (7, .int y_193), (0, .ref h0), (1, .ref h1), (2, .int p1), (3, .int p2), (4, .int p3)] : List (Nat × Value))) (fun ls hl => ?_)
        refine lv_goto (tgt := 42) hx hb dX4_lay_116 (by decide) ?_
        try have := kk_add2 (x := i_53_0) (y := 1) (a := i_53_0.toInt) (b := 1) rfl rfl (by omega) (by omega)
        exact ih_53 ((i_53_0 + 1), ((((i_53_1 * 1103515245) + 12345) * 1103515245) + 12345), y_199, f_197, f_200, f_203, f_204, f_205, y_202) _ _ _ (by show ((2147483647 : Int) - ((i_53_0 + 1)).toInt).toNat < ((2147483647 : Int) - i_53_0.toInt).toNat; exact kk_mu (by omega) (by omega)) ⟨(by show 0 ≤ ((i_53_0 + 1) : Int32).toInt ∧ ((i_53_0 + 1) : Int32).toInt ≤ 2147483647; first | decide | ((omega))), (by show 0 ≤ (y_199 : Int32).toInt ∧ (y_199 : Int32).toInt ≤ 64; first | decide | ((omega))), (by show 0 ≤ (y_202 : Int32).toInt ∧ (y_202 : Int32).toInt ≤ 40; first | decide | ((omega))), hP.sub [0, 1, 2, 3, 5, 6, 7, 4] rfl, hD.sub [0, 1, 2, 3, 5, 6, 7, 4] (by decide) rfl, hS, lv_sub hl [0, 1, 3, 4, 5, 6, 7] rfl⟩
  · have t_52 : i_3_0.toInt < (p1 / 1000).toInt := kk_nle c_52
    refine lv_aload_n hx hb dX4_lay_17 rfl (lv_at hl 2 rfl) ?_
    refine lv_iload_n hx hb dX4_lay_18 rfl (lv_at hl 3 rfl) ?_
    refine lv_sipush (v := 1000) hx hb dX4_lay_19 kk_si_1000 ?_
    refine lv_irem hx hb dX4_lay_22 (by decide) ?_
    refine lv_bipush (v := 100) hx hb dX4_lay_23 kk_bi_100 ?_
    refine lv_iconst (v := 0) hx hb dX4_lay_25 kk_ic_0 ?_
    have hPc := kk_Ps (wq := [(h1, kO9 h5 h6 h7 i_3_4), (h5, kAi cint 40 f_3_1), (h6, kAi cint 40 f_3_2), (h7, kAi cint 40 f_3_3)]) hP [7, 4, 5, 6] rfl
    have hDc := kk_Ds (wq := [(h1, kO9 h5 h6 h7 i_3_4), (h5, kAi cint 40 f_3_1), (h6, kAi cint 40 f_3_2), (h7, kAi cint 40 f_3_3)]) hD [7, 4, 5, 6] (by decide) rfl
    have hKc := kk_Ks (tq := [(cint, .int)]) hK [0] rfl
    have hFc := va_free (wc := [(h1, kO9 h5 h6 h7 i_3_4), (h5, kAi cint 40 f_3_1), (h6, kAi cint 40 f_3_2), (h7, kAi cint 40 f_3_3)]) hD hS hA [7, 4, 5, 6] rfl
    try have := kk_rng p1
    try have := kk_divb (x := p1) (k := 1000) (n := 1000) rfl (by decide)
    try have := kk_remb (x := p1) (k := 1000) (n := 1000) rfl (by decide)
    refine va_callv (va_runV (As := [.int (p1 - p1 / 1000 * 1000), .int 100, .int 0]) (rest := []) ⟨hx, hb, hml, hown, hts⟩ (g_X9_append_0 l dC dI h1 h5 h6 h7 cint H.size (p1 - p1 / 1000 * 1000) 100 0 i_3_4 f_3_1 f_3_2 f_3_3 (by show 0 ≤ (i_3_4 : Int32).toInt ∧ (i_3_4 : Int32).toInt ≤ 40; first | decide | ((omega)))) (cwV 3 hts gX4_lay_X9_append rfl rfl rfl ⟨rfl, kh_X9_append⟩ ⟨Nat.le_of_ble_eq_true rfl, Nat.le_of_ble_eq_true rfl⟩) ⟨fun a U g mk q => by obtain ⟨q0, q1, qP, qK, qD⟩ := q; exact ⟨q0, q1, qP, va_K.moved (u := U) (U := U.calling g mk a) (Vm.Alike.refl U.vm) qK, qD⟩, va_recv hKc hPc (ci := 9) (q0 := 0) rfl rfl, fun U hU hW => ⟨rfl, by rw [hU], by rw [hU]; exact hPc, va_K.moved hW.alike hKc, hDc.weaken (fun _ _ _ _ => trivial)⟩⟩ rfl rfl hl.1 rfl (lv_room (Nat.le_of_ble_eq_true rfl)) dX4_lay_26 ⟨Nat.le_of_ble_eq_true rfl, Nat.le_of_ble_eq_true rfl⟩) hS (fun q _ h => hFc q h) hFc (fun u t H1 locs ht hvm hw hB hz1 hk1 hS => ?_)
    refine hB.elim (fun y_207 hB => ?_)
    refine hB.elim (fun f_208 hB => ?_)
    refine hB.elim (fun f_209 hB => ?_)
    refine hB.elim (fun f_210 hB => ?_)
    refine hB.elim (fun by_207 hB => ?_)
    have hP1 := hB.1
    have hK1 := hB.2.1
    have hD1 := hB.2.2
    rw [ht] at hP1
    have hK1 := va_K.moved hvm.symm hK1
    obtain ⟨hP, hD⟩ := va_join (wr := [(h0, kO4 h2 n0_size h3 h4 n0_top), (h2, kAi cint 128 f2), (h3, kAi cint 8 f3), (h4, kAi cint 64 f4)]) (w1 := [(h1, kO9 h5 h6 h7 y_207), (h5, kAi cint 40 f_208), (h6, kAi cint 40 f_209), (h7, kAi cint 40 f_210)]) hP hD [7, 4, 5, 6] [0, 1, 2, 3] rfl rfl (by decide) (by decide) hk1 hFc hP1 hD1
    generalize H1 = H at hP hS ⊢
    have hP : va_P (dC, dI) vwCl [(h0, kO4 h2 n0_size h3 h4 n0_top), (h2, kAi cint 128 f2), (h3, kAi cint 8 f3), (h4, kAi cint 64 f4), (h1, kO9 h5 h6 h7 y_207), (h5, kAi cint 40 f_208), (h6, kAi cint 40 f_209), (h7, kAi cint 40 f_210)] H := hP
    have hD : va_D A [(h0, kO4 h2 n0_size h3 h4 n0_top), (h2, kAi cint 128 f2), (h3, kAi cint 8 f3), (h4, kAi cint 64 f4), (h1, kO9 h5 h6 h7 y_207), (h5, kAi cint 40 f_208), (h6, kAi cint 40 f_209), (h7, kAi cint 40 f_210)] := hD
    refine lv_iinc (v := (i_3_0 + 1)) hx hb dX4_lay_29 hl (k := 0) rfl (by first | rfl | decide) (by decide) (rfl : _ = ([(5, .int (i_3_0 + 1)), (0, .ref h0), (1, .ref h1), (2, .int p1), (3, .int p2), (4, .int p3)] : List (Nat × Value))) (fun ls hl => ?_)
    refine lv_goto (tgt := 7) hx hb dX4_lay_32 (by decide) ?_
    try have := kk_add2 (x := i_3_0) (y := 1) (a := i_3_0.toInt) (b := 1) rfl rfl (by omega) (by omega)
    exact ih_3 ((i_3_0 + 1), f_208, f_209, f_210, y_207) _ _ _ (by show ((2147483 : Int) - ((i_3_0 + 1)).toInt).toNat < ((2147483 : Int) - i_3_0.toInt).toNat; exact kk_mu (by omega) (by omega)) ⟨(by show 0 ≤ ((i_3_0 + 1) : Int32).toInt ∧ ((i_3_0 + 1) : Int32).toInt ≤ 2147483; first | decide | ((omega))), (by show 0 ≤ (y_207 : Int32).toInt ∧ (y_207 : Int32).toInt ≤ 40; first | decide | ((omega))), hP.sub [0, 1, 2, 3, 5, 6, 7, 4] rfl, hD.sub [0, 1, 2, 3, 5, 6, 7, 4] (by decide) rfl, hS, lv_sub hl [0, 1, 2, 3, 4, 5] rfl⟩
set_option maxHeartbeats 4000000 in
set_option maxRecDepth 100000 in
theorem g_X10_size_0 (l : Launch) (dC : Nat → ClassId) (dI : Nat → Nat → Nat) (h0 : Nat) (h1 : Nat) (sz : Nat) (n0_size : Int32) (n0_place : Int32) (o0_law : Option Nat) (tn0_size : 0 ≤ n0_size.toInt ∧ n0_size.toInt ≤ 120) : Met l yX10_size wsX10_size ({ frames := 0, cells := 0, slots := 0, locals := 0 }) (va_Pc [.ref h0] (fun U => U.heap.size = sz ∧ va_P (dC, dI) vwCl [(h0, kO10v h1 n0_size n0_place (va_rf o0_law))] U.heap ∧ va_K (dC, dI) vwCl [] U ∧ va_D (fun _ => True) [(h0, kO10v h1 n0_size n0_place (va_rf o0_law))])) (va_Qi (fun (r : Int32) (_ : Unit) => n0_size = r) (fun (_ : Unit) t => va_P (dC, dI) vwCl [(h0, kO10v h1 n0_size n0_place (va_rf o0_law))] t.heap ∧ va_K (dC, dI) vwCl [] t ∧ va_D (va_A [(h0, kO10v h1 n0_size n0_place (va_rf o0_law))] sz) [(h0, kO10v h1 n0_size n0_place (va_rf o0_law))]) (va_A [(h0, kO10v h1 n0_size n0_place (va_rf o0_law))] sz)) 0 0 (va_A [(h0, kO10v h1 n0_size n0_place (va_rf o0_law))] sz) := by
  refine Met.ofW (cc := cX10_size) (maxL := 1) (ret := (some .int)) (by decide) rfl ?_
  intro p e s m args below meth c s₁ B hml hv
  obtain ⟨rfl, hsz, hP, hK, hD0⟩ := hv
  have hx := B.exec
  have hb := B.bytes
  have hr := B.returns
  have hts := atoms_spec (ws := wsX10_size) B.pre
  have hown : s.vm.findClass RX10 = some m.cls := findClass_of_methodNamed B.named
  have hlocks := B.notSynchronized
  subst hsz
  have hD := hD0.self (sz := s.heap.size)
  generalize hAe : va_A [(h0, kO10v h1 n0_size n0_place (va_rf o0_law))] s.heap.size = A at hD ⊢
  have hA : ∀ q : Nat, s.heap.size ≤ q → A q := fun q h => by rw [← hAe]; exact Or.inr h
  have hS : va_S A s.heap s.heap [] := va_S.rf
  have hP : va_P (dC, dI) vwCl [(h0, kO10v h1 n0_size n0_place (va_rf o0_law))] s.heap := hP
  have hl := lv_entry ([.ref h0]) (n := 1) (Nat.le_of_ble_eq_true rfl)
  rw [lg_entry_eq]
  generalize (lg_sl ([.ref h0]) ++ List.replicate (1 - (lg_sl ([.ref h0])).length) Slot.unset).toArray = ls at hl ⊢
  have hl : lv_has ls 1 [(0, .ref h0)] := hl
  refine lv_aload_n hx hb dX10_size_0 rfl (lv_at hl 0 rfl) ?_
  refine va_get (D := (dC, dI)) (ci := 10) (v := .int n0_size) (C := RX10) (T := TX10) (N := 4) hx hb hts (fun _ h => List.mem_cons_of_mem _ (List.mem_append_right _ h)) hown hK hP 0 rfl rfl 1 (by decide) (hts (.fieldLink RX10 13 "KinkStreet$Tape" "size" "I") (List.mem_of_getElem? (i := 1) rfl)) (fun _ h9 => h9) rfl dX10_size_1 ?_
  have hP9 := kk_Ps (wq := [(h0, kO10v h1 n0_size n0_place (va_rf o0_law))]) hP [0] rfl
  have hD9 := kk_Ds (wq := [(h0, kO10v h1 n0_size n0_place (va_rf o0_law))]) hD [0] (by decide) rfl
  have hK9 := kk_Ks (tq := []) hK [] rfl
  exact W.iret (v := n0_size) hx hb hr (fun t ht hW => ⟨⟨n0_size, (), rfl, rfl, by rw [ht]; exact hP9, va_K.moved hW.alike hK9, hD9⟩, hS.F ht⟩) hS.2.2 dX10_size_4
set_option maxHeartbeats 4000000 in
set_option maxRecDepth 100000 in
theorem g_X10_clear_0 (l : Launch) (dC : Nat → ClassId) (dI : Nat → Nat → Nat) (h0 : Nat) (h1 : Nat) (sz : Nat) (n0_size : Int32) (n0_place : Int32) (o0_law : Option Nat) (tn0_size : kk_bx (0 ≤ n0_size.toInt ∧ n0_size.toInt ≤ 120)) : Met l yX10_clear wsX10_clear ({ frames := 0, cells := 0, slots := 0, locals := 0 }) (va_Pc [.ref h0] (fun U => U.heap.size = sz ∧ va_P (dC, dI) vwCl [(h0, kO10v h1 n0_size n0_place (va_rf o0_law))] U.heap ∧ va_K (dC, dI) vwCl [] U ∧ va_D (fun _ => True) [(h0, kO10v h1 n0_size n0_place (va_rf o0_law))])) (va_Qv (fun (_ : Unit) => True) (fun (_ : Unit) t => ∃ (m0_size : Int32), (0 ≤ m0_size.toInt ∧ m0_size.toInt ≤ 0) ∧ va_P (dC, dI) vwCl [(h0, kO10v h1 m0_size n0_place (va_rf o0_law))] t.heap ∧ va_K (dC, dI) vwCl [] t ∧ va_D (va_A [(h0, kO10v h1 n0_size n0_place (va_rf o0_law))] sz) [(h0, kO10v h1 m0_size n0_place (va_rf o0_law))]) (va_A [(h0, kO10v h1 n0_size n0_place (va_rf o0_law))] sz)) 0 0 (va_A [(h0, kO10v h1 n0_size n0_place (va_rf o0_law))] sz) := by
  refine Met.ofW (cc := cX10_clear) (maxL := 1) (ret := none) (by decide) rfl ?_
  intro p e s m args below meth c s₁ B hml hv
  obtain ⟨rfl, hsz, hP, hK, hD0⟩ := hv
  have hx := B.exec
  have hb := B.bytes
  have hr := B.returns
  have hts := atoms_spec (ws := wsX10_clear) B.pre
  have hown : s.vm.findClass RX10 = some m.cls := findClass_of_methodNamed B.named
  have hlocks := B.notSynchronized
  subst hsz
  have hD := hD0.self (sz := s.heap.size)
  generalize hAe : va_A [(h0, kO10v h1 n0_size n0_place (va_rf o0_law))] s.heap.size = A at hD ⊢
  have hA : ∀ q : Nat, s.heap.size ≤ q → A q := fun q h => by rw [← hAe]; exact Or.inr h
  have hS : va_S A s.heap s.heap [] := va_S.rf
  have hP : va_P (dC, dI) vwCl [(h0, kO10v h1 n0_size n0_place (va_rf o0_law))] s.heap := hP
  have hl := lv_entry ([.ref h0]) (n := 1) (Nat.le_of_ble_eq_true rfl)
  rw [lg_entry_eq]
  generalize (lg_sl ([.ref h0]) ++ List.replicate (1 - (lg_sl ([.ref h0])).length) Slot.unset).toArray = ls at hl ⊢
  have hl : lv_has ls 1 [(0, .ref h0)] := hl
  refine lv_aload_n hx hb dX10_clear_0 rfl (lv_at hl 0 rfl) ?_
  refine lv_iconst (v := 0) hx hb dX10_clear_1 kk_ic_0 ?_
  refine va_put (D := (dC, dI)) (ci := 10) (v := .int 0) (ty := .int) (C := RX10) (T := TX10) (N := 4) hx hb hts (fun _ h => List.mem_cons_of_mem _ (List.mem_append_right _ h)) tyX10 tyX10_ok nmX10 hown hK hP hD hS 0 rfl rfl 1 (by decide) (hts (.fieldLink RX10 13 "KinkStreet$Tape" "size" "I") (List.mem_of_getElem? (i := 1) rfl)) (fun _ h9 => h9) rfl (by decide +kernel) rfl rfl (Nat.le_of_ble_eq_true rfl) dX10_clear_2 (fun H locs hP hD hS => ?_)
  have hP : va_P (dC, dI) vwCl [(h0, kO10v h1 0 n0_place (va_rf o0_law))] H := hP
  have hD : va_D A [(h0, kO10v h1 0 n0_place (va_rf o0_law))] := hD
  have hP9 := kk_Ps (wq := [(h0, kO10v h1 0 n0_place (va_rf o0_law))]) hP [0] rfl
  have hD9 := kk_Ds (wq := [(h0, kO10v h1 0 n0_place (va_rf o0_law))]) hD [0] (by decide) rfl
  have hK9 := kk_Ks (tq := []) hK [] rfl
  exact W.vret hx hb hr (fun t ht hW => ⟨⟨(), rfl, trivial, 0, (by show 0 ≤ (0 : Int32).toInt ∧ (0 : Int32).toInt ≤ 0; first | decide | ((omega))), by rw [ht]; exact hP9, va_K.moved hW.alike hK9, hD9⟩, hS.F ht⟩) hS.2.2 dX10_clear_5
