set_option maxHeartbeats 4000000 in
set_option maxRecDepth 100000 in
theorem k_X11_feed_0 (l : Launch) (dC : Nat → ClassId) (dI : Nat → Nat → Nat) (h0 h1 h2 h3 h4 h5 h6 h7 h8 h9 h10 h11 h12 h13 : Nat) (cint : ClassId) (sz : Nat) (p0 : Int32) (p1 : Int32) : Met l yX11_feed wsX11_feed ({ frames := 1, cells := 0, slots := 0, locals := 23 }) (va_Pc [.ref h0, .int p0, .int p1] (fun U => U.heap.size = sz ∧ va_P (dC, dI) vwCl [(h0, .inr (11, [.ref h3, .int 0, .ref h4, .ref h5, .ref h6, .ref h7, .ref h8, .ref h9, .ref h10, .ref h1, .ref h11, .int 0, .ref h12, .ref h13])), (h1, .inr (10, [.ref h2, .int 0, .int 0, .null])), (h2, .inl (cint, 120, .inl (fun _ => 0)))] U.heap ∧ va_K (dC, dI) vwCl [(cint, .int)] U ∧ va_D (fun _ => True) [(h0, .inr (11, [.ref h3, .int 0, .ref h4, .ref h5, .ref h6, .ref h7, .ref h8, .ref h9, .ref h10, .ref h1, .ref h11, .int 0, .ref h12, .ref h13])), (h1, .inr (10, [.ref h2, .int 0, .int 0, .null])), (h2, .inl (cint, 120, .inl (fun _ => 0)))])) (va_Qi (fun (r : Int32) (_ : Unit) => r = if 1 ≤ p0.toInt ∧ p0.toInt ≤ 4 then p0 else -1) (fun (_ : Unit) t => va_P (dC, dI) vwCl [] t.heap ∧ va_K (dC, dI) vwCl [] t ∧ va_D (va_A [(h0, .inr (11, [.ref h3, .int 0, .ref h4, .ref h5, .ref h6, .ref h7, .ref h8, .ref h9, .ref h10, .ref h1, .ref h11, .int 0, .ref h12, .ref h13])), (h1, .inr (10, [.ref h2, .int 0, .int 0, .null])), (h2, .inl (cint, 120, .inl (fun _ => 0)))] sz) []) (va_A [(h0, .inr (11, [.ref h3, .int 0, .ref h4, .ref h5, .ref h6, .ref h7, .ref h8, .ref h9, .ref h10, .ref h1, .ref h11, .int 0, .ref h12, .ref h13])), (h1, .inr (10, [.ref h2, .int 0, .int 0, .null])), (h2, .inl (cint, 120, .inl (fun _ => 0)))] sz)) 0 0 (va_A [(h0, .inr (11, [.ref h3, .int 0, .ref h4, .ref h5, .ref h6, .ref h7, .ref h8, .ref h9, .ref h10, .ref h1, .ref h11, .int 0, .ref h12, .ref h13])), (h1, .inr (10, [.ref h2, .int 0, .int 0, .null])), (h2, .inl (cint, 120, .inl (fun _ => 0)))] sz) := by
  refine Met.ofW (cc := cX11_feed) (maxL := 3) (ret := (some .int)) (by decide) rfl ?_
  intro p e s m args below meth c s₁ B hml hv
  obtain ⟨rfl, hsz, hP, hK, hD0⟩ := hv
  have hx := B.exec
  have hb := B.bytes
  have hr := B.returns
  have hts := atoms_spec (ws := wsX11_feed) B.pre
  have hown : s.vm.findClass RX11 = some m.cls := findClass_of_methodNamed B.named
  have hlocks := B.notSynchronized
  subst hsz
  have hD := hD0.self (sz := s.heap.size)
  generalize hAe : va_A [(h0, .inr (11, [.ref h3, .int 0, .ref h4, .ref h5, .ref h6, .ref h7, .ref h8, .ref h9, .ref h10, .ref h1, .ref h11, .int 0, .ref h12, .ref h13])), (h1, .inr (10, [.ref h2, .int 0, .int 0, .null])), (h2, .inl (cint, 120, .inl (fun _ => 0)))] s.heap.size = A at hD ⊢
  have hA : ∀ q : Nat, s.heap.size ≤ q → A q := fun q h => by rw [← hAe]; exact Or.inr h
  have hS : va_S A s.heap s.heap [] := va_S.rf
  have hP : va_P (dC, dI) vwCl [(h0, .inr (11, [.ref h3, .int 0, .ref h4, .ref h5, .ref h6, .ref h7, .ref h8, .ref h9, .ref h10, .ref h1, .ref h11, .int 0, .ref h12, .ref h13])), (h1, .inr (10, [.ref h2, .int 0, .int 0, .null])), (h2, .inl (cint, 120, .inl (fun _ => 0)))] s.heap := hP
  have hl := lv_entry ([.ref h0, .int p0, .int p1]) (n := 3) (Nat.le_of_ble_eq_true rfl)
  rw [lg_entry_eq]
  generalize (lg_sl ([.ref h0, .int p0, .int p1]) ++ List.replicate (3 - (lg_sl ([.ref h0, .int p0, .int p1])).length) Slot.unset).toArray = ls at hl ⊢
  have hl : lv_has ls 3 [(0, .ref h0), (1, .int p0), (2, .int p1)] := hl
  refine lv_iload_n hx hb dX11_feed_0 rfl (lv_at hl 1 rfl) ?_
  refine lv_iconst (v := 1) hx hb dX11_feed_1 (by decide) ?_
  refine lv_icmp_lt (tgt := 10) hx hb dX11_feed_2 (by decide) (fun c_1 => ?_) (fun c_1 => ?_)
  · have t_1 : p0.toInt < 1 := kk_lt c_1
    refine lv_iconst (v := (-1)) hx hb dX11_feed_10 (by decide) ?_
    have hP9 := hP.sub (ws' := []) [] rfl
    have hD9 := hD.sub (ws' := []) [] (by decide) rfl
    have hK9 := hK.sub (tys' := []) [] rfl
    exact W.iret (v := (-1)) hx hb hr (fun t ht hW => ⟨⟨(-1), (), rfl, by first | rfl | ((repeat' split) <;> first | rfl | (exfalso; omega) | (exact Int32.toInt_inj.mp (by show ((-1) : Int) = _; omega))), by rw [ht]; exact hP9, va_K.moved hW.alike hK9, hD9⟩, hS.F ht⟩) hS.2.2 dX11_feed_11
  · have t_1 : 1 ≤ p0.toInt := kk_nlt c_1
    refine lv_iload_n hx hb dX11_feed_5 rfl (lv_at hl 1 rfl) ?_
    refine lv_iconst (v := 4) hx hb dX11_feed_6 (by decide) ?_
    refine lv_icmp_le (tgt := 12) hx hb dX11_feed_7 (by decide) (fun c_2 => ?_) (fun c_2 => ?_)
    · have t_2 : p0.toInt ≤ 4 := kk_le c_2
      refine lv_aload_n hx hb dX11_feed_12 rfl (lv_at hl 0 rfl) ?_
      refine va_get (D := (dC, dI)) (ci := 11) (v := .ref h1) (C := RX11) (T := TX11) (N := 14) hx hb hts (fun _ h => List.mem_cons_of_mem _ (List.mem_append_left _ (List.mem_append_right _ h))) hown hK hP 0 rfl rfl 9 (by decide) (hts (.fieldLink RX11 65 "KinkStreet" "tape" "LKinkStreet$Tape;") (List.mem_of_getElem? (i := 1) rfl)) (fun _ h9 => h9) rfl dX11_feed_13 ?_
      refine lv_iload_n hx hb dX11_feed_16 rfl (lv_at hl 1 rfl) ?_
      have hPc := hP.sub (ws' := [(h1, .inr (10, [.ref h2, .int 0, .int 0, .null]))]) [1] rfl
      have hDc := hD.sub (ws' := [(h1, .inr (10, [.ref h2, .int 0, .int 0, .null]))]) [1] (by decide) rfl
      have hKc := hK.sub (tys' := []) [] rfl
      have hFc := va_free (wc := [(h1, .inr (10, [.ref h2, .int 0, .int 0, .null]))]) hD hS hA [1] rfl
      refine va_calli (va_runV (As := [.int p0]) (rest := []) ⟨hx, hb, hml, hown, hts⟩ (k_X10_hasRoomFor_0 l dC dI h1 h2 s.heap.size p0) (cwV 1 hts gX11_feed_X10_hasRoomFor rfl rfl rfl (by decide +kernel) ⟨Nat.le_of_ble_eq_true rfl, Nat.le_of_ble_eq_true rfl⟩) ⟨fun a U g mk q => by obtain ⟨q0, q1, qP, qK, qD⟩ := q; exact ⟨q0, q1, qP, va_K.moved (u := U) (U := U.calling g mk a) (Vm.Alike.refl U.vm) qK, qD⟩, va_recv hKc hPc (ci := 10) (q0 := 0) rfl rfl, fun U hU hW => ⟨rfl, by rw [hU], by rw [hU]; exact hPc, va_K.moved hW.alike hKc, hDc.weaken (fun _ _ _ _ => trivial)⟩⟩ rfl rfl hl.1 rfl (lv_room (Nat.le_of_ble_eq_true rfl)) dX11_feed_17 ⟨Nat.le_of_ble_eq_true rfl, Nat.le_of_ble_eq_true rfl⟩) hS (fun q _ h => hFc q h) hFc (fun r_3 u t H1 locs ht hvm hw hB hz1 hk1 hS => ?_)
      obtain ⟨hP1, hK1, hD1⟩ := hB
      rw [ht] at hP1
      have hK1 := va_K.moved hvm.symm hK1
      obtain ⟨hP, hD⟩ := va_join (wr := [(h0, .inr (11, [.ref h3, .int 0, .ref h4, .ref h5, .ref h6, .ref h7, .ref h8, .ref h9, .ref h10, .ref h1, .ref h11, .int 0, .ref h12, .ref h13])), (h2, .inl (cint, 120, .inl (fun _ => 0)))]) (w1 := [(h1, .inr (10, [.ref h2, .int 0, .int 0, .null]))]) hP hD [1] [0, 2] rfl rfl (by decide) (by decide) hk1 hFc hP1 hD1
      generalize H1 = H at hP hS ⊢
      have hP : va_P (dC, dI) vwCl [(h0, .inr (11, [.ref h3, .int 0, .ref h4, .ref h5, .ref h6, .ref h7, .ref h8, .ref h9, .ref h10, .ref h1, .ref h11, .int 0, .ref h12, .ref h13])), (h2, .inl (cint, 120, .inl (fun _ => 0))), (h1, .inr (10, [.ref h2, .int 0, .int 0, .null]))] H := hP
      have hD : va_D A [(h0, .inr (11, [.ref h3, .int 0, .ref h4, .ref h5, .ref h6, .ref h7, .ref h8, .ref h9, .ref h10, .ref h1, .ref h11, .int 0, .ref h12, .ref h13])), (h2, .inl (cint, 120, .inl (fun _ => 0))), (h1, .inr (10, [.ref h2, .int 0, .int 0, .null]))] := hD
      rcases hw with ⟨t_3_0, rfl⟩ | ⟨t_3_0, rfl⟩
      · exfalso; have := kk_add2 (x := 0) (y := p0) (a := 0) (b := p0.toInt) rfl rfl (by omega) (by omega); omega
      · skip
        refine lv_if_eq (tgt := 35) hx hb dX11_feed_20 (by decide) (fun c => absurd c (by decide)) (fun _ => ?_)
        refine lv_aload_n hx hb dX11_feed_23 rfl (lv_at hl 0 rfl) ?_
        refine va_get (D := (dC, dI)) (ci := 11) (v := .ref h1) (C := RX11) (T := TX11) (N := 14) hx hb hts (fun _ h => List.mem_cons_of_mem _ (List.mem_append_left _ (List.mem_append_right _ h))) hown hK hP 0 rfl rfl 9 (by decide) (hts (.fieldLink RX11 65 "KinkStreet" "tape" "LKinkStreet$Tape;") (List.mem_of_getElem? (i := 1) rfl)) (fun _ h9 => h9) rfl dX11_feed_24 ?_
        refine lv_iload_n hx hb dX11_feed_27 rfl (lv_at hl 1 rfl) ?_
        refine lv_iload_n hx hb dX11_feed_28 rfl (lv_at hl 2 rfl) ?_
        have hPc := hP.sub (ws' := [(h1, .inr (10, [.ref h2, .int 0, .int 0, .null])), (h2, .inl (cint, 120, .inl (fun _ => 0)))]) [2, 1] rfl
        have hDc := hD.sub (ws' := [(h1, .inr (10, [.ref h2, .int 0, .int 0, .null])), (h2, .inl (cint, 120, .inl (fun _ => 0)))]) [2, 1] (by decide) rfl
        have hKc := hK.sub (tys' := [(cint, .int)]) [0] rfl
        have hFc := va_free (wc := [(h1, .inr (10, [.ref h2, .int 0, .int 0, .null])), (h2, .inl (cint, 120, .inl (fun _ => 0)))]) hD hS hA [2, 1] rfl
        refine va_calli (va_runV (As := [.int p0, .int p1]) (rest := []) ⟨hx, hb, hml, hown, hts⟩ (k_X10_take_0 l dC dI h1 h2 cint H.size p0 p1 (by have := kk_add2 (x := 0) (y := p0) (a := 0) (b := p0.toInt) rfl rfl (by omega) (by omega); omega) (by have := kk_add2 (x := 0) (y := p0) (a := 0) (b := p0.toInt) rfl rfl (by omega) (by omega); omega)) (cwV 2 hts gX11_feed_X10_take rfl rfl rfl (by decide +kernel) ⟨Nat.le_of_ble_eq_true rfl, Nat.le_of_ble_eq_true rfl⟩) ⟨fun a U g mk q => by obtain ⟨q0, q1, qP, qK, qD⟩ := q; exact ⟨q0, q1, qP, va_K.moved (u := U) (U := U.calling g mk a) (Vm.Alike.refl U.vm) qK, qD⟩, va_recv hKc hPc (ci := 10) (q0 := 0) rfl rfl, fun U hU hW => ⟨rfl, by rw [hU], by rw [hU]; exact hPc, va_K.moved hW.alike hKc, hDc.weaken (fun _ _ _ _ => trivial)⟩⟩ rfl rfl hl.1 rfl (lv_room (Nat.le_of_ble_eq_true rfl)) dX11_feed_29 ⟨Nat.le_of_ble_eq_true rfl, Nat.le_of_ble_eq_true rfl⟩) hS (fun q _ h => hFc q h) hFc (fun r_4 u t H1 locs ht hvm hw hB hz1 hk1 hS => ?_)
        obtain ⟨hP1, hK1, hD1⟩ := hB
        rw [ht] at hP1
        have hK1 := va_K.moved hvm.symm hK1
        obtain ⟨hP, hD⟩ := va_join (wr := [(h0, .inr (11, [.ref h3, .int 0, .ref h4, .ref h5, .ref h6, .ref h7, .ref h8, .ref h9, .ref h10, .ref h1, .ref h11, .int 0, .ref h12, .ref h13]))]) (w1 := []) hP hD [2, 1] [0] rfl rfl (by decide) (by decide) hk1 hFc hP1 hD1
        generalize H1 = H at hP hS ⊢
        have hP : va_P (dC, dI) vwCl [(h0, .inr (11, [.ref h3, .int 0, .ref h4, .ref h5, .ref h6, .ref h7, .ref h8, .ref h9, .ref h10, .ref h1, .ref h11, .int 0, .ref h12, .ref h13]))] H := hP
        have hD : va_D A [(h0, .inr (11, [.ref h3, .int 0, .ref h4, .ref h5, .ref h6, .ref h7, .ref h8, .ref h9, .ref h10, .ref h1, .ref h11, .int 0, .ref h12, .ref h13]))] := hD
        rcases hw with ⟨t_4_0, t_4_1, rfl⟩ | ⟨t_4_0, t_4_1, t_4_2, rfl⟩ | ⟨t_4_0, t_4_1, t_4_2, t_4_3, rfl⟩ | ⟨t_4_0, t_4_1, t_4_2, t_4_3, t_4_4, rfl⟩
        · skip
          refine lv_goto (tgt := 37) hx hb dX11_feed_32 (by decide) ?_
          have hP9 := hP.sub (ws' := []) [] rfl
          have hD9 := hD.sub (ws' := []) [] (by decide) rfl
          have hK9 := hK.sub (tys' := []) [] rfl
          exact W.iret (v := 1) hx hb hr (fun t ht hW => ⟨⟨1, (), rfl, by first | rfl | ((repeat' split) <;> first | rfl | (exfalso; have := kk_add2 (x := 0) (y := p0) (a := 0) (b := p0.toInt) rfl rfl (by omega) (by omega); omega) | (exact Int32.toInt_inj.mp (by show (1 : Int) = _; omega))), by rw [ht]; exact hP9, va_K.moved hW.alike hK9, hD9⟩, hS.F ht⟩) hS.2.2 dX11_feed_37
        · skip
          refine lv_goto (tgt := 37) hx hb dX11_feed_32 (by decide) ?_
          have hP9 := hP.sub (ws' := []) [] rfl
          have hD9 := hD.sub (ws' := []) [] (by decide) rfl
          have hK9 := hK.sub (tys' := []) [] rfl
          exact W.iret (v := 2) hx hb hr (fun t ht hW => ⟨⟨2, (), rfl, by first | rfl | ((repeat' split) <;> first | rfl | (exfalso; have := kk_add2 (x := 0) (y := p0) (a := 0) (b := p0.toInt) rfl rfl (by omega) (by omega); omega) | (exact Int32.toInt_inj.mp (by show (2 : Int) = _; omega))), by rw [ht]; exact hP9, va_K.moved hW.alike hK9, hD9⟩, hS.F ht⟩) hS.2.2 dX11_feed_37
        · skip
          refine lv_goto (tgt := 37) hx hb dX11_feed_32 (by decide) ?_
          have hP9 := hP.sub (ws' := []) [] rfl
          have hD9 := hD.sub (ws' := []) [] (by decide) rfl
          have hK9 := hK.sub (tys' := []) [] rfl
          exact W.iret (v := 3) hx hb hr (fun t ht hW => ⟨⟨3, (), rfl, by first | rfl | ((repeat' split) <;> first | rfl | (exfalso; have := kk_add2 (x := 0) (y := p0) (a := 0) (b := p0.toInt) rfl rfl (by omega) (by omega); omega) | (exact Int32.toInt_inj.mp (by show (3 : Int) = _; omega))), by rw [ht]; exact hP9, va_K.moved hW.alike hK9, hD9⟩, hS.F ht⟩) hS.2.2 dX11_feed_37
        · skip
          refine lv_goto (tgt := 37) hx hb dX11_feed_32 (by decide) ?_
          have hP9 := hP.sub (ws' := []) [] rfl
          have hD9 := hD.sub (ws' := []) [] (by decide) rfl
          have hK9 := hK.sub (tys' := []) [] rfl
          exact W.iret (v := 4) hx hb hr (fun t ht hW => ⟨⟨4, (), rfl, by first | rfl | ((repeat' split) <;> first | rfl | (exfalso; have := kk_add2 (x := 0) (y := p0) (a := 0) (b := p0.toInt) rfl rfl (by omega) (by omega); omega) | (exact Int32.toInt_inj.mp (by show (4 : Int) = _; omega))), by rw [ht]; exact hP9, va_K.moved hW.alike hK9, hD9⟩, hS.F ht⟩) hS.2.2 dX11_feed_37
    · have t_2 : 4 < p0.toInt := kk_nle c_2
      refine lv_iconst (v := (-1)) hx hb dX11_feed_10 (by decide) ?_
      have hP9 := hP.sub (ws' := []) [] rfl
      have hD9 := hD.sub (ws' := []) [] (by decide) rfl
      have hK9 := hK.sub (tys' := []) [] rfl
      exact W.iret (v := (-1)) hx hb hr (fun t ht hW => ⟨⟨(-1), (), rfl, by first | rfl | ((repeat' split) <;> first | rfl | (exfalso; omega) | (exact Int32.toInt_inj.mp (by show ((-1) : Int) = _; omega))), by rw [ht]; exact hP9, va_K.moved hW.alike hK9, hD9⟩, hS.F ht⟩) hS.2.2 dX11_feed_11
set_option maxHeartbeats 4000000 in
set_option maxRecDepth 100000 in
theorem k_X4_clear_0 (l : Launch) (dC : Nat → ClassId) (dI : Nat → Nat → Nat) (h0 h1 h2 h3 : Nat) (sz : Nat)  : Met l yX4_clear wsX4_clear ({ frames := 0, cells := 0, slots := 0, locals := 0 }) (va_Pc [.ref h0] (fun U => U.heap.size = sz ∧ va_P (dC, dI) vwCl [(h0, .inr (4, [.ref h1, .int 0, .ref h2, .ref h3, .int 0]))] U.heap ∧ va_K (dC, dI) vwCl [] U ∧ va_D (fun _ => True) [(h0, .inr (4, [.ref h1, .int 0, .ref h2, .ref h3, .int 0]))])) (va_Qv (fun (_ : Unit) => True) (fun (_ : Unit) t => va_P (dC, dI) vwCl [(h0, .inr (4, [.ref h1, .int 0, .ref h2, .ref h3, .int 0]))] t.heap ∧ va_K (dC, dI) vwCl [] t ∧ va_D (va_A [(h0, .inr (4, [.ref h1, .int 0, .ref h2, .ref h3, .int 0]))] sz) [(h0, .inr (4, [.ref h1, .int 0, .ref h2, .ref h3, .int 0]))]) (va_A [(h0, .inr (4, [.ref h1, .int 0, .ref h2, .ref h3, .int 0]))] sz)) 0 0 (va_A [(h0, .inr (4, [.ref h1, .int 0, .ref h2, .ref h3, .int 0]))] sz) := by
  refine Met.ofW (cc := cX4_clear) (maxL := 1) (ret := none) (by decide) rfl ?_
  intro p e s m args below meth c s₁ B hml hv
  obtain ⟨rfl, hsz, hP, hK, hD0⟩ := hv
  have hx := B.exec
  have hb := B.bytes
  have hr := B.returns
  have hts := atoms_spec (ws := wsX4_clear) B.pre
  have hown : s.vm.findClass RX4 = some m.cls := findClass_of_methodNamed B.named
  have hlocks := B.notSynchronized
  subst hsz
  have hD := hD0.self (sz := s.heap.size)
  generalize hAe : va_A [(h0, .inr (4, [.ref h1, .int 0, .ref h2, .ref h3, .int 0]))] s.heap.size = A at hD ⊢
  have hA : ∀ q : Nat, s.heap.size ≤ q → A q := fun q h => by rw [← hAe]; exact Or.inr h
  have hS : va_S A s.heap s.heap [] := va_S.rf
  have hP : va_P (dC, dI) vwCl [(h0, .inr (4, [.ref h1, .int 0, .ref h2, .ref h3, .int 0]))] s.heap := hP
  have hl := lv_entry ([.ref h0]) (n := 1) (Nat.le_of_ble_eq_true rfl)
  rw [lg_entry_eq]
  generalize (lg_sl ([.ref h0]) ++ List.replicate (1 - (lg_sl ([.ref h0])).length) Slot.unset).toArray = ls at hl ⊢
  have hl : lv_has ls 1 [(0, .ref h0)] := hl
  refine lv_aload_n hx hb dX4_clear_0 rfl (lv_at hl 0 rfl) ?_
  refine lv_iconst (v := 0) hx hb dX4_clear_1 (by decide) ?_
  refine va_put (D := (dC, dI)) (ci := 4) (v := .int 0) (ty := .int) (C := RX4) (T := TX4) (N := 5) hx hb hts (fun _ h => List.mem_cons_of_mem _ (List.mem_append_right _ h)) tyX4 tyX4_ok nmX4 hown hK hP hD hS 0 rfl rfl 1 (by decide) (hts (.fieldLink RX4 25 "KinkStreet$Law" "size" "I") (List.mem_of_getElem? (i := 1) rfl)) (fun _ h9 => h9) rfl (by decide +kernel) rfl rfl (Nat.le_of_ble_eq_true rfl) dX4_clear_2 (fun H locs hP hD hS => ?_)
  have hP : va_P (dC, dI) vwCl [(h0, .inr (4, [.ref h1, .int 0, .ref h2, .ref h3, .int 0]))] H := hP
  have hD : va_D A [(h0, .inr (4, [.ref h1, .int 0, .ref h2, .ref h3, .int 0]))] := hD
  have hP9 := hP.sub (ws' := [(h0, .inr (4, [.ref h1, .int 0, .ref h2, .ref h3, .int 0]))]) [0] rfl
  have hD9 := hD.sub (ws' := [(h0, .inr (4, [.ref h1, .int 0, .ref h2, .ref h3, .int 0]))]) [0] (by decide) rfl
  have hK9 := hK.sub (tys' := []) [] rfl
  exact W.vret hx hb hr (fun t ht hW => ⟨⟨(), rfl, trivial, by rw [ht]; exact hP9, va_K.moved hW.alike hK9, hD9⟩, hS.F ht⟩) hS.2.2 dX4_clear_5
set_option maxHeartbeats 4000000 in
set_option maxRecDepth 100000 in
theorem k_X10_next_0 (l : Launch) (dC : Nat → ClassId) (dI : Nat → Nat → Nat) (h0 h1 h2 : Nat) (sz : Nat)  : Met l yX10_next wsX10_next ({ frames := 0, cells := 0, slots := 0, locals := 0 }) (va_Pc [.ref h0] (fun U => U.heap.size = sz ∧ va_P (dC, dI) vwCl [(h0, .inr (10, [.ref h1, .int 0, .int 0, .ref h2]))] U.heap ∧ va_K (dC, dI) vwCl [] U ∧ va_D (fun _ => True) [(h0, .inr (10, [.ref h1, .int 0, .int 0, .ref h2]))])) (va_Qi (fun (r : Int32) (_ : Unit) => r = (-1)) (fun (_ : Unit) t => va_P (dC, dI) vwCl [(h0, .inr (10, [.ref h1, .int 0, .int 0, .ref h2]))] t.heap ∧ va_K (dC, dI) vwCl [] t ∧ va_D (va_A [(h0, .inr (10, [.ref h1, .int 0, .int 0, .ref h2]))] sz) [(h0, .inr (10, [.ref h1, .int 0, .int 0, .ref h2]))]) (va_A [(h0, .inr (10, [.ref h1, .int 0, .int 0, .ref h2]))] sz)) 0 0 (va_A [(h0, .inr (10, [.ref h1, .int 0, .int 0, .ref h2]))] sz) := by
  refine Met.ofW (cc := cX10_next) (maxL := 1) (ret := (some .int)) (by decide) rfl ?_
  intro p e s m args below meth c s₁ B hml hv
  obtain ⟨rfl, hsz, hP, hK, hD0⟩ := hv
  have hx := B.exec
  have hb := B.bytes
  have hr := B.returns
  have hts := atoms_spec (ws := wsX10_next) B.pre
  have hown : s.vm.findClass RX10 = some m.cls := findClass_of_methodNamed B.named
  have hlocks := B.notSynchronized
  subst hsz
  have hD := hD0.self (sz := s.heap.size)
  generalize hAe : va_A [(h0, .inr (10, [.ref h1, .int 0, .int 0, .ref h2]))] s.heap.size = A at hD ⊢
  have hA : ∀ q : Nat, s.heap.size ≤ q → A q := fun q h => by rw [← hAe]; exact Or.inr h
  have hS : va_S A s.heap s.heap [] := va_S.rf
  have hP : va_P (dC, dI) vwCl [(h0, .inr (10, [.ref h1, .int 0, .int 0, .ref h2]))] s.heap := hP
  have hl := lv_entry ([.ref h0]) (n := 1) (Nat.le_of_ble_eq_true rfl)
  rw [lg_entry_eq]
  generalize (lg_sl ([.ref h0]) ++ List.replicate (1 - (lg_sl ([.ref h0])).length) Slot.unset).toArray = ls at hl ⊢
  have hl : lv_has ls 1 [(0, .ref h0)] := hl
  refine lv_aload_n hx hb dX10_next_0 rfl (lv_at hl 0 rfl) ?_
  refine va_get (D := (dC, dI)) (ci := 10) (v := .int 0) (C := RX10) (T := TX10) (N := 4) hx hb hts (fun _ h => List.mem_cons_of_mem _ (List.mem_append_right _ h)) hown hK hP 0 rfl rfl 2 (by decide) (hts (.fieldLink RX10 17 "KinkStreet$Tape" "place" "I") (List.mem_of_getElem? (i := 1) rfl)) (fun _ h9 => h9) rfl dX10_next_1 ?_
  refine lv_if_lt (tgt := 30) hx hb dX10_next_4 (by decide) (fun c => absurd c (by decide)) (fun _ => ?_)
  refine lv_aload_n hx hb dX10_next_7 rfl (lv_at hl 0 rfl) ?_
  refine va_get (D := (dC, dI)) (ci := 10) (v := .int 0) (C := RX10) (T := TX10) (N := 4) hx hb hts (fun _ h => List.mem_cons_of_mem _ (List.mem_append_right _ h)) hown hK hP 0 rfl rfl 2 (by decide) (hts (.fieldLink RX10 17 "KinkStreet$Tape" "place" "I") (List.mem_of_getElem? (i := 1) rfl)) (fun _ h9 => h9) rfl dX10_next_8 ?_
  refine lv_aload_n hx hb dX10_next_11 rfl (lv_at hl 0 rfl) ?_
  refine va_get (D := (dC, dI)) (ci := 10) (v := .int 0) (C := RX10) (T := TX10) (N := 4) hx hb hts (fun _ h => List.mem_cons_of_mem _ (List.mem_append_right _ h)) hown hK hP 0 rfl rfl 1 (by decide) (hts (.fieldLink RX10 13 "KinkStreet$Tape" "size" "I") (List.mem_of_getElem? (i := 2) rfl)) (fun _ h9 => h9) rfl dX10_next_12 ?_
  refine lv_icmp_ge (tgt := 30) hx hb dX10_next_15 (by decide) (fun _ => ?_) (fun c => absurd c (by decide))
  refine lv_iconst (v := (-1)) hx hb dX10_next_30 (by decide) ?_
  have hP9 := hP.sub (ws' := [(h0, .inr (10, [.ref h1, .int 0, .int 0, .ref h2]))]) [0] rfl
  have hD9 := hD.sub (ws' := [(h0, .inr (10, [.ref h1, .int 0, .int 0, .ref h2]))]) [0] (by decide) rfl
  have hK9 := hK.sub (tys' := []) [] rfl
  exact W.iret (v := (-1)) hx hb hr (fun t ht hW => ⟨⟨(-1), (), rfl, rfl, by rw [ht]; exact hP9, va_K.moved hW.alike hK9, hD9⟩, hS.F ht⟩) hS.2.2 dX10_next_31
set_option maxHeartbeats 4000000 in
set_option maxRecDepth 100000 in
theorem k_X10_isDigit_0 (l : Launch) (dC : Nat → ClassId) (dI : Nat → Nat → Nat) (sz : Nat)  : Met l yX10_isDigit wsX10_isDigit ({ frames := 0, cells := 0, slots := 0, locals := 0 }) (va_Pc [.int (-1)] (fun U => U.heap.size = sz ∧ va_P (dC, dI) vwCl [] U.heap ∧ va_K (dC, dI) vwCl [] U ∧ va_D (fun _ => True) [])) (va_Qi (fun (r : Int32) (_ : Unit) => r = 0) (fun (_ : Unit) t => va_P (dC, dI) vwCl [] t.heap ∧ va_K (dC, dI) vwCl [] t ∧ va_D (va_A [] sz) []) (va_A [] sz)) 0 0 (va_A [] sz) := by
  refine Met.ofW (cc := cX10_isDigit) (maxL := 1) (ret := (some .boolean)) (by decide) rfl ?_
  intro p e s m args below meth c s₁ B hml hv
  obtain ⟨rfl, hsz, hP, hK, hD0⟩ := hv
  have hx := B.exec
  have hb := B.bytes
  have hr := B.returns
  have hts := atoms_spec (ws := wsX10_isDigit) B.pre
  have hown : s.vm.findClass RX10 = some m.cls := findClass_of_methodNamed B.named
  have hlocks := B.notSynchronized
  subst hsz
  have hD := hD0.self (sz := s.heap.size)
  generalize hAe : va_A [] s.heap.size = A at hD ⊢
  have hA : ∀ q : Nat, s.heap.size ≤ q → A q := fun q h => by rw [← hAe]; exact Or.inr h
  have hS : va_S A s.heap s.heap [] := va_S.rf
  have hP : va_P (dC, dI) vwCl [] s.heap := hP
  have hl := lv_entry ([.int (-1)]) (n := 1) (Nat.le_of_ble_eq_true rfl)
  rw [lg_entry_eq]
  generalize (lg_sl ([.int (-1)]) ++ List.replicate (1 - (lg_sl ([.int (-1)])).length) Slot.unset).toArray = ls at hl ⊢
  have hl : lv_has ls 1 [(0, .int (-1))] := hl
  refine lv_iload_n hx hb dX10_isDigit_0 rfl (lv_at hl 0 rfl) ?_
  refine lv_bipush (v := 48) hx hb dX10_isDigit_1 (by decide) ?_
  refine lv_icmp_lt (tgt := 16) hx hb dX10_isDigit_3 (by decide) (fun _ => ?_) (fun c => absurd c (by decide))
  refine lv_iconst (v := 0) hx hb dX10_isDigit_16 (by decide) ?_
  have hP9 := hP.sub (ws' := []) [] rfl
  have hD9 := hD.sub (ws' := []) [] (by decide) rfl
  have hK9 := hK.sub (tys' := []) [] rfl
  exact W.zret (v := 0) hx hb hr rfl (fun t ht hW => ⟨⟨0, (), rfl, rfl, by rw [ht]; exact hP9, va_K.moved hW.alike hK9, hD9⟩, hS.F ht⟩) hS.2.2 dX10_isDigit_17
set_option maxHeartbeats 4000000 in
set_option maxRecDepth 100000 in
theorem k_X4_nameOf_0 (l : Launch) (dC : Nat → ClassId) (dI : Nat → Nat → Nat) (sz : Nat) (aNAMES : Nat) : Met l yX4_nameOf wsX4_nameOf ({ frames := 0, cells := 0, slots := 0, locals := 0 }) (va_Pc [.int (-1)] (fun U => U.heap.size = sz ∧ va_P (dC, dI) vwCl [] U.heap ∧ va_K (dC, dI) vwCl [] U ∧ va_D (fun _ => True) [] ∧ va_Z "KinkStreet$Law" "NAMES" "[C" (.ref aNAMES) (va_A [] sz) U U.heap ∧ va_T .char aNAMES 8 tb_NAMES (va_A [] sz) U U.heap)) (va_Qi (fun (r : Int32) (_ : Unit) => r = (-2)) (fun (_ : Unit) t => va_P (dC, dI) vwCl [] t.heap ∧ va_K (dC, dI) vwCl [] t ∧ va_D (va_A [] sz) []) (va_A [] sz)) 0 0 (va_A [] sz) := by
  refine Met.ofW (cc := cX4_nameOf) (maxL := 2) (ret := (some .int)) (by decide) rfl ?_
  intro p e s m args below meth c s₁ B hml hv
  obtain ⟨rfl, hsz, hP, hK, hD0, hZNAMES, hTNAMES⟩ := hv
  have hx := B.exec
  have hb := B.bytes
  have hr := B.returns
  have hts := atoms_spec (ws := wsX4_nameOf) B.pre
  have hown : s.vm.findClass RX4 = some m.cls := findClass_of_methodNamed B.named
  have hlocks := B.notSynchronized
  subst hsz
  have hD := hD0.self (sz := s.heap.size)
  generalize hAe : va_A [] s.heap.size = A at hD hZNAMES hTNAMES ⊢
  have hA : ∀ q : Nat, s.heap.size ≤ q → A q := fun q h => by rw [← hAe]; exact Or.inr h
  have hS : va_S A s.heap s.heap [] := va_S.rf
  have hP : va_P (dC, dI) vwCl [] s.heap := hP
  have hl := lv_entry ([.int (-1)]) (n := 2) (Nat.le_of_ble_eq_true rfl)
  rw [lg_entry_eq]
  generalize (lg_sl ([.int (-1)]) ++ List.replicate (2 - (lg_sl ([.int (-1)])).length) Slot.unset).toArray = ls at hl ⊢
  have hl : lv_has ls 2 [(0, .int (-1))] := hl
  refine lv_iconst (v := 0) hx hb dX4_nameOf_0 (by decide) ?_
  refine lv_istore_n (lv' := [(1, .int 0), (0, .int (-1))]) hx hb dX4_nameOf_1 rfl hl (by decide) rfl (fun ls hl => ?_)
  refine lv_iload_n hx hb dX4_nameOf_2 rfl (lv_at hl 0 rfl) ?_
  refine va_gets hx hb hZNAMES hS hown (hts (.fieldLink RX4 15 "KinkStreet$Law" "NAMES" "[C") (List.mem_of_getElem? (i := 1) rfl)) (fun _ h9 => h9) dX4_nameOf_3 ?_
  refine va_tlen (v := 8) hx hb hTNAMES hS rfl dX4_nameOf_6 ?_
  refine lv_icmp_ge (tgt := 27) hx hb dX4_nameOf_7 (by decide) (fun c => absurd c (by decide)) (fun _ => ?_)
  refine va_gets hx hb hZNAMES hS hown (hts (.fieldLink RX4 15 "KinkStreet$Law" "NAMES" "[C") (List.mem_of_getElem? (i := 1) rfl)) (fun _ h9 => h9) dX4_nameOf_10 ?_
  refine lv_iload_n hx hb dX4_nameOf_13 rfl (lv_at hl 0 rfl) ?_
  refine va_tc (v := .int 119) hx hb hTNAMES hS (by unfold vp_in; decide) rfl dX4_nameOf_14 ?_
  refine lv_iload_n hx hb dX4_nameOf_15 rfl (lv_at hl 1 rfl) ?_
  refine lv_icmp_ne (tgt := 21) hx hb dX4_nameOf_16 (by decide) (fun _ => ?_) (fun c => absurd c (by decide))
  refine lv_iinc (v := 1) (lv' := [(1, .int 1), (0, .int (-1))]) hx hb dX4_nameOf_21 hl (k := 0) rfl (by first | rfl | decide) (by decide) rfl (fun ls hl => ?_)
  refine lv_goto (tgt := 2) hx hb dX4_nameOf_24 (by decide) ?_
  refine lv_iload_n hx hb dX4_nameOf_2 rfl (lv_at hl 0 rfl) ?_
  refine va_gets hx hb hZNAMES hS hown (hts (.fieldLink RX4 15 "KinkStreet$Law" "NAMES" "[C") (List.mem_of_getElem? (i := 1) rfl)) (fun _ h9 => h9) dX4_nameOf_3 ?_
  refine va_tlen (v := 8) hx hb hTNAMES hS rfl dX4_nameOf_6 ?_
  refine lv_icmp_ge (tgt := 27) hx hb dX4_nameOf_7 (by decide) (fun c => absurd c (by decide)) (fun _ => ?_)
  refine va_gets hx hb hZNAMES hS hown (hts (.fieldLink RX4 15 "KinkStreet$Law" "NAMES" "[C") (List.mem_of_getElem? (i := 1) rfl)) (fun _ h9 => h9) dX4_nameOf_10 ?_
  refine lv_iload_n hx hb dX4_nameOf_13 rfl (lv_at hl 0 rfl) ?_
  refine va_tc (v := .int 110) hx hb hTNAMES hS (by unfold vp_in; decide) rfl dX4_nameOf_14 ?_
  refine lv_iload_n hx hb dX4_nameOf_15 rfl (lv_at hl 1 rfl) ?_
  refine lv_icmp_ne (tgt := 21) hx hb dX4_nameOf_16 (by decide) (fun _ => ?_) (fun c => absurd c (by decide))
  refine lv_iinc (v := 2) (lv' := [(1, .int 2), (0, .int (-1))]) hx hb dX4_nameOf_21 hl (k := 0) rfl (by first | rfl | decide) (by decide) rfl (fun ls hl => ?_)
  refine lv_goto (tgt := 2) hx hb dX4_nameOf_24 (by decide) ?_
  refine lv_iload_n hx hb dX4_nameOf_2 rfl (lv_at hl 0 rfl) ?_
  refine va_gets hx hb hZNAMES hS hown (hts (.fieldLink RX4 15 "KinkStreet$Law" "NAMES" "[C") (List.mem_of_getElem? (i := 1) rfl)) (fun _ h9 => h9) dX4_nameOf_3 ?_
  refine va_tlen (v := 8) hx hb hTNAMES hS rfl dX4_nameOf_6 ?_
  refine lv_icmp_ge (tgt := 27) hx hb dX4_nameOf_7 (by decide) (fun c => absurd c (by decide)) (fun _ => ?_)
  refine va_gets hx hb hZNAMES hS hown (hts (.fieldLink RX4 15 "KinkStreet$Law" "NAMES" "[C") (List.mem_of_getElem? (i := 1) rfl)) (fun _ h9 => h9) dX4_nameOf_10 ?_
  refine lv_iload_n hx hb dX4_nameOf_13 rfl (lv_at hl 0 rfl) ?_
  refine va_tc (v := .int 100) hx hb hTNAMES hS (by unfold vp_in; decide) rfl dX4_nameOf_14 ?_
  refine lv_iload_n hx hb dX4_nameOf_15 rfl (lv_at hl 1 rfl) ?_
  refine lv_icmp_ne (tgt := 21) hx hb dX4_nameOf_16 (by decide) (fun _ => ?_) (fun c => absurd c (by decide))
  refine lv_iinc (v := 3) (lv' := [(1, .int 3), (0, .int (-1))]) hx hb dX4_nameOf_21 hl (k := 0) rfl (by first | rfl | decide) (by decide) rfl (fun ls hl => ?_)
  refine lv_goto (tgt := 2) hx hb dX4_nameOf_24 (by decide) ?_
  refine lv_iload_n hx hb dX4_nameOf_2 rfl (lv_at hl 0 rfl) ?_
  refine va_gets hx hb hZNAMES hS hown (hts (.fieldLink RX4 15 "KinkStreet$Law" "NAMES" "[C") (List.mem_of_getElem? (i := 1) rfl)) (fun _ h9 => h9) dX4_nameOf_3 ?_
  refine va_tlen (v := 8) hx hb hTNAMES hS rfl dX4_nameOf_6 ?_
  refine lv_icmp_ge (tgt := 27) hx hb dX4_nameOf_7 (by decide) (fun c => absurd c (by decide)) (fun _ => ?_)
  refine va_gets hx hb hZNAMES hS hown (hts (.fieldLink RX4 15 "KinkStreet$Law" "NAMES" "[C") (List.mem_of_getElem? (i := 1) rfl)) (fun _ h9 => h9) dX4_nameOf_10 ?_
  refine lv_iload_n hx hb dX4_nameOf_13 rfl (lv_at hl 0 rfl) ?_
  refine va_tc (v := .int 121) hx hb hTNAMES hS (by unfold vp_in; decide) rfl dX4_nameOf_14 ?_
  refine lv_iload_n hx hb dX4_nameOf_15 rfl (lv_at hl 1 rfl) ?_
  refine lv_icmp_ne (tgt := 21) hx hb dX4_nameOf_16 (by decide) (fun _ => ?_) (fun c => absurd c (by decide))
  refine lv_iinc (v := 4) (lv' := [(1, .int 4), (0, .int (-1))]) hx hb dX4_nameOf_21 hl (k := 0) rfl (by first | rfl | decide) (by decide) rfl (fun ls hl => ?_)
  refine lv_goto (tgt := 2) hx hb dX4_nameOf_24 (by decide) ?_
  refine lv_iload_n hx hb dX4_nameOf_2 rfl (lv_at hl 0 rfl) ?_
  refine va_gets hx hb hZNAMES hS hown (hts (.fieldLink RX4 15 "KinkStreet$Law" "NAMES" "[C") (List.mem_of_getElem? (i := 1) rfl)) (fun _ h9 => h9) dX4_nameOf_3 ?_
  refine va_tlen (v := 8) hx hb hTNAMES hS rfl dX4_nameOf_6 ?_
  refine lv_icmp_ge (tgt := 27) hx hb dX4_nameOf_7 (by decide) (fun c => absurd c (by decide)) (fun _ => ?_)
  refine va_gets hx hb hZNAMES hS hown (hts (.fieldLink RX4 15 "KinkStreet$Law" "NAMES" "[C") (List.mem_of_getElem? (i := 1) rfl)) (fun _ h9 => h9) dX4_nameOf_10 ?_
  refine lv_iload_n hx hb dX4_nameOf_13 rfl (lv_at hl 0 rfl) ?_
  refine va_tc (v := .int 122) hx hb hTNAMES hS (by unfold vp_in; decide) rfl dX4_nameOf_14 ?_
  refine lv_iload_n hx hb dX4_nameOf_15 rfl (lv_at hl 1 rfl) ?_
  refine lv_icmp_ne (tgt := 21) hx hb dX4_nameOf_16 (by decide) (fun _ => ?_) (fun c => absurd c (by decide))
  refine lv_iinc (v := 5) (lv' := [(1, .int 5), (0, .int (-1))]) hx hb dX4_nameOf_21 hl (k := 0) rfl (by first | rfl | decide) (by decide) rfl (fun ls hl => ?_)
  refine lv_goto (tgt := 2) hx hb dX4_nameOf_24 (by decide) ?_
  refine lv_iload_n hx hb dX4_nameOf_2 rfl (lv_at hl 0 rfl) ?_
  refine va_gets hx hb hZNAMES hS hown (hts (.fieldLink RX4 15 "KinkStreet$Law" "NAMES" "[C") (List.mem_of_getElem? (i := 1) rfl)) (fun _ h9 => h9) dX4_nameOf_3 ?_
  refine va_tlen (v := 8) hx hb hTNAMES hS rfl dX4_nameOf_6 ?_
  refine lv_icmp_ge (tgt := 27) hx hb dX4_nameOf_7 (by decide) (fun c => absurd c (by decide)) (fun _ => ?_)
  refine va_gets hx hb hZNAMES hS hown (hts (.fieldLink RX4 15 "KinkStreet$Law" "NAMES" "[C") (List.mem_of_getElem? (i := 1) rfl)) (fun _ h9 => h9) dX4_nameOf_10 ?_
  refine lv_iload_n hx hb dX4_nameOf_13 rfl (lv_at hl 0 rfl) ?_
  refine va_tc (v := .int 102) hx hb hTNAMES hS (by unfold vp_in; decide) rfl dX4_nameOf_14 ?_
  refine lv_iload_n hx hb dX4_nameOf_15 rfl (lv_at hl 1 rfl) ?_
  refine lv_icmp_ne (tgt := 21) hx hb dX4_nameOf_16 (by decide) (fun _ => ?_) (fun c => absurd c (by decide))
  refine lv_iinc (v := 6) (lv' := [(1, .int 6), (0, .int (-1))]) hx hb dX4_nameOf_21 hl (k := 0) rfl (by first | rfl | decide) (by decide) rfl (fun ls hl => ?_)
  refine lv_goto (tgt := 2) hx hb dX4_nameOf_24 (by decide) ?_
  refine lv_iload_n hx hb dX4_nameOf_2 rfl (lv_at hl 0 rfl) ?_
  refine va_gets hx hb hZNAMES hS hown (hts (.fieldLink RX4 15 "KinkStreet$Law" "NAMES" "[C") (List.mem_of_getElem? (i := 1) rfl)) (fun _ h9 => h9) dX4_nameOf_3 ?_
  refine va_tlen (v := 8) hx hb hTNAMES hS rfl dX4_nameOf_6 ?_
  refine lv_icmp_ge (tgt := 27) hx hb dX4_nameOf_7 (by decide) (fun c => absurd c (by decide)) (fun _ => ?_)
  refine va_gets hx hb hZNAMES hS hown (hts (.fieldLink RX4 15 "KinkStreet$Law" "NAMES" "[C") (List.mem_of_getElem? (i := 1) rfl)) (fun _ h9 => h9) dX4_nameOf_10 ?_
  refine lv_iload_n hx hb dX4_nameOf_13 rfl (lv_at hl 0 rfl) ?_
  refine va_tc (v := .int 105) hx hb hTNAMES hS (by unfold vp_in; decide) rfl dX4_nameOf_14 ?_
  refine lv_iload_n hx hb dX4_nameOf_15 rfl (lv_at hl 1 rfl) ?_
  refine lv_icmp_ne (tgt := 21) hx hb dX4_nameOf_16 (by decide) (fun _ => ?_) (fun c => absurd c (by decide))
  refine lv_iinc (v := 7) (lv' := [(1, .int 7), (0, .int (-1))]) hx hb dX4_nameOf_21 hl (k := 0) rfl (by first | rfl | decide) (by decide) rfl (fun ls hl => ?_)
  refine lv_goto (tgt := 2) hx hb dX4_nameOf_24 (by decide) ?_
  refine lv_iload_n hx hb dX4_nameOf_2 rfl (lv_at hl 0 rfl) ?_
  refine va_gets hx hb hZNAMES hS hown (hts (.fieldLink RX4 15 "KinkStreet$Law" "NAMES" "[C") (List.mem_of_getElem? (i := 1) rfl)) (fun _ h9 => h9) dX4_nameOf_3 ?_
  refine va_tlen (v := 8) hx hb hTNAMES hS rfl dX4_nameOf_6 ?_
  refine lv_icmp_ge (tgt := 27) hx hb dX4_nameOf_7 (by decide) (fun c => absurd c (by decide)) (fun _ => ?_)
  refine va_gets hx hb hZNAMES hS hown (hts (.fieldLink RX4 15 "KinkStreet$Law" "NAMES" "[C") (List.mem_of_getElem? (i := 1) rfl)) (fun _ h9 => h9) dX4_nameOf_10 ?_
  refine lv_iload_n hx hb dX4_nameOf_13 rfl (lv_at hl 0 rfl) ?_
  refine va_tc (v := .int 99) hx hb hTNAMES hS (by unfold vp_in; decide) rfl dX4_nameOf_14 ?_
  refine lv_iload_n hx hb dX4_nameOf_15 rfl (lv_at hl 1 rfl) ?_
  refine lv_icmp_ne (tgt := 21) hx hb dX4_nameOf_16 (by decide) (fun _ => ?_) (fun c => absurd c (by decide))
  refine lv_iinc (v := 8) (lv' := [(1, .int 8), (0, .int (-1))]) hx hb dX4_nameOf_21 hl (k := 0) rfl (by first | rfl | decide) (by decide) rfl (fun ls hl => ?_)
  refine lv_goto (tgt := 2) hx hb dX4_nameOf_24 (by decide) ?_
  refine lv_iload_n hx hb dX4_nameOf_2 rfl (lv_at hl 0 rfl) ?_
  refine va_gets hx hb hZNAMES hS hown (hts (.fieldLink RX4 15 "KinkStreet$Law" "NAMES" "[C") (List.mem_of_getElem? (i := 1) rfl)) (fun _ h9 => h9) dX4_nameOf_3 ?_
  refine va_tlen (v := 8) hx hb hTNAMES hS rfl dX4_nameOf_6 ?_
  refine lv_icmp_ge (tgt := 27) hx hb dX4_nameOf_7 (by decide) (fun _ => ?_) (fun c => absurd c (by decide))
  refine lv_bipush (v := (-2)) hx hb dX4_nameOf_27 (by decide) ?_
  have hP9 := hP.sub (ws' := []) [] rfl
  have hD9 := hD.sub (ws' := []) [] (by decide) rfl
  have hK9 := hK.sub (tys' := []) [] rfl
  exact W.iret (v := (-2)) hx hb hr (fun t ht hW => ⟨⟨(-2), (), rfl, rfl, by rw [ht]; exact hP9, va_K.moved hW.alike hK9, hD9⟩, hS.F ht⟩) hS.2.2 dX4_nameOf_29
set_option maxHeartbeats 4000000 in
set_option maxRecDepth 100000 in
theorem k_X10_readOperand_0 (l : Launch) (dC : Nat → ClassId) (dI : Nat → Nat → Nat) (h0 h1 h2 : Nat) (sz : Nat) (aNAMES : Nat) : Met l yX10_readOperand wsX10_readOperand ({ frames := 1, cells := 0, slots := 0, locals := 21 }) (va_Pc [.ref h0, .int 0] (fun U => U.heap.size = sz ∧ va_P (dC, dI) vwCl [(h0, .inr (10, [.ref h1, .int 0, .int 0, .ref h2]))] U.heap ∧ va_K (dC, dI) vwCl [] U ∧ va_D (fun _ => True) [(h0, .inr (10, [.ref h1, .int 0, .int 0, .ref h2]))] ∧ va_Z "KinkStreet$Law" "NAMES" "[C" (.ref aNAMES) (va_A [(h0, .inr (10, [.ref h1, .int 0, .int 0, .ref h2]))] sz) U U.heap ∧ va_T .char aNAMES 8 tb_NAMES (va_A [(h0, .inr (10, [.ref h1, .int 0, .int 0, .ref h2]))] sz) U U.heap)) (va_Qi (fun (r : Int32) (_ : Unit) => r = 0) (fun (_ : Unit) t => va_P (dC, dI) vwCl [(h0, .inr (10, [.ref h1, .int 0, .int 0, .ref h2]))] t.heap ∧ va_K (dC, dI) vwCl [] t ∧ va_D (va_A [(h0, .inr (10, [.ref h1, .int 0, .int 0, .ref h2]))] sz) [(h0, .inr (10, [.ref h1, .int 0, .int 0, .ref h2]))]) (va_A [(h0, .inr (10, [.ref h1, .int 0, .int 0, .ref h2]))] sz)) 0 0 (va_A [(h0, .inr (10, [.ref h1, .int 0, .int 0, .ref h2]))] sz) := by
  refine Met.ofW (cc := cX10_readOperand) (maxL := 4) (ret := (some .boolean)) (by decide) rfl ?_
  intro p e s m args below meth c s₁ B hml hv
  obtain ⟨rfl, hsz, hP, hK, hD0, hZNAMES, hTNAMES⟩ := hv
  have hx := B.exec
  have hb := B.bytes
  have hr := B.returns
  have hts := atoms_spec (ws := wsX10_readOperand) B.pre
  have hown : s.vm.findClass RX10 = some m.cls := findClass_of_methodNamed B.named
  have hlocks := B.notSynchronized
  subst hsz
  have hD := hD0.self (sz := s.heap.size)
  generalize hAe : va_A [(h0, .inr (10, [.ref h1, .int 0, .int 0, .ref h2]))] s.heap.size = A at hD hZNAMES hTNAMES ⊢
  have hA : ∀ q : Nat, s.heap.size ≤ q → A q := fun q h => by rw [← hAe]; exact Or.inr h
  have hS : va_S A s.heap s.heap [] := va_S.rf
  have hP : va_P (dC, dI) vwCl [(h0, .inr (10, [.ref h1, .int 0, .int 0, .ref h2]))] s.heap := hP
  have hl := lv_entry ([.ref h0, .int 0]) (n := 4) (Nat.le_of_ble_eq_true rfl)
  rw [lg_entry_eq]
  generalize (lg_sl ([.ref h0, .int 0]) ++ List.replicate (4 - (lg_sl ([.ref h0, .int 0])).length) Slot.unset).toArray = ls at hl ⊢
  have hl : lv_has ls 4 [(0, .ref h0), (1, .int 0)] := hl
  refine lv_aload_n hx hb dX10_readOperand_0 rfl (lv_at hl 0 rfl) ?_
  have hPc := hP.sub (ws' := [(h0, .inr (10, [.ref h1, .int 0, .int 0, .ref h2]))]) [0] rfl
  have hDc := hD.sub (ws' := [(h0, .inr (10, [.ref h1, .int 0, .int 0, .ref h2]))]) [0] (by decide) rfl
  have hKc := hK.sub (tys' := []) [] rfl
  have hFc := va_free (wc := [(h0, .inr (10, [.ref h1, .int 0, .int 0, .ref h2]))]) hD hS hA [0] rfl
  refine va_calli (va_runV (As := []) (rest := []) ⟨hx, hb, hml, hown, hts⟩ (k_X10_next_0 l dC dI h0 h1 h2 s.heap.size) (cwV 0 hts gX10_readOperand_X10_next rfl rfl rfl (by decide +kernel) ⟨Nat.le_of_ble_eq_true rfl, Nat.le_of_ble_eq_true rfl⟩) ⟨fun a U g mk q => by obtain ⟨q0, q1, qP, qK, qD⟩ := q; exact ⟨q0, q1, qP, va_K.moved (u := U) (U := U.calling g mk a) (Vm.Alike.refl U.vm) qK, qD⟩, va_recv hKc hPc (ci := 10) (q0 := 0) rfl rfl, fun U hU hW => ⟨rfl, by rw [hU], by rw [hU]; exact hPc, va_K.moved hW.alike hKc, hDc.weaken (fun _ _ _ _ => trivial)⟩⟩ rfl rfl hl.1 rfl (lv_room (Nat.le_of_ble_eq_true rfl)) dX10_readOperand_1 ⟨Nat.le_of_ble_eq_true rfl, Nat.le_of_ble_eq_true rfl⟩) hS (fun q _ h => hFc q h) hFc (fun r_1 u t H1 locs ht hvm hw hB hz1 hk1 hS => ?_)
  obtain ⟨hP1, hK1, hD1⟩ := hB
  rw [ht] at hP1
  have hK1 := va_K.moved hvm.symm hK1
  obtain ⟨hP, hD⟩ := va_join (wr := []) (w1 := [(h0, .inr (10, [.ref h1, .int 0, .int 0, .ref h2]))]) hP hD [0] [] rfl rfl (by decide) (by decide) hk1 hFc hP1 hD1
  generalize H1 = H at hP hS ⊢
  have hP : va_P (dC, dI) vwCl [(h0, .inr (10, [.ref h1, .int 0, .int 0, .ref h2]))] H := hP
  have hD : va_D A [(h0, .inr (10, [.ref h1, .int 0, .int 0, .ref h2]))] := hD
  obtain rfl := hw
  refine lv_istore_n (lv' := [(2, .int (-1)), (0, .ref h0), (1, .int 0)]) hx hb dX10_readOperand_4 rfl hl (by decide) rfl (fun ls hl => ?_)
  refine lv_iload_n hx hb dX10_readOperand_5 rfl (lv_at hl 0 rfl) ?_
  have hPc := hP.sub (ws' := []) [] rfl
  have hDc := hD.sub (ws' := []) [] (by decide) rfl
  have hKc := hK.sub (tys' := []) [] rfl
  have hFc := va_free (wc := []) hD hS hA [] rfl
  refine va_calli (va_runS (As := [.int (-1)]) (rest := []) ⟨hx, hb, hml, hown, hts⟩ (k_X10_isDigit_0 l dC dI H.size) (va_cwS 1 hts gX10_readOperand_X10_isDigit rfl rfl rfl (by decide +kernel) ⟨Nat.le_of_ble_eq_true rfl, Nat.le_of_ble_eq_true rfl⟩) ⟨fun a U g mk q => by obtain ⟨q0, q1, qP, qK, qD⟩ := q; exact ⟨q0, q1, qP, va_K.moved (u := U) (U := U.calling g mk a) (Vm.Alike.refl U.vm) qK, qD⟩, fun U hU hW => ⟨rfl, by rw [hU], by rw [hU]; exact hPc, va_K.moved hW.alike hKc, hDc.weaken (fun _ _ _ _ => trivial)⟩⟩ rfl rfl hl.1 rfl (lv_room (Nat.le_of_ble_eq_true rfl)) dX10_readOperand_6 ⟨Nat.le_of_ble_eq_true rfl, Nat.le_of_ble_eq_true rfl⟩) hS (fun q _ h => hFc q h) hFc (fun r_2 u t H1 locs ht hvm hw hB hz1 hk1 hS => ?_)
  obtain ⟨hP1, hK1, hD1⟩ := hB
  rw [ht] at hP1
  have hK1 := va_K.moved hvm.symm hK1
  obtain ⟨hP, hD⟩ := va_join (wr := [(h0, .inr (10, [.ref h1, .int 0, .int 0, .ref h2]))]) (w1 := []) hP hD [] [0] rfl rfl (by decide) (by decide) hk1 hFc hP1 hD1
  generalize H1 = H at hP hS ⊢
  have hP : va_P (dC, dI) vwCl [(h0, .inr (10, [.ref h1, .int 0, .int 0, .ref h2]))] H := hP
  have hD : va_D A [(h0, .inr (10, [.ref h1, .int 0, .int 0, .ref h2]))] := hD
  obtain rfl := hw
  refine lv_if_eq (tgt := 18) hx hb dX10_readOperand_9 (by decide) (fun _ => ?_) (fun c => absurd c (by decide))
  refine lv_iload_n hx hb dX10_readOperand_18 rfl (lv_at hl 0 rfl) ?_
  have hPc := hP.sub (ws' := []) [] rfl
  have hDc := hD.sub (ws' := []) [] (by decide) rfl
  have hKc := hK.sub (tys' := []) [] rfl
  have hFc := va_free (wc := []) hD hS hA [] rfl
  refine va_calli (va_runS (As := [.int (-1)]) (rest := []) ⟨hx, hb, hml, hown, hts⟩ (k_X4_nameOf_0 l dC dI H.size aNAMES) (va_cwS 1 hts gX10_readOperand_X4_nameOf rfl rfl rfl (by decide +kernel) ⟨Nat.le_of_ble_eq_true rfl, Nat.le_of_ble_eq_true rfl⟩) ⟨fun a U g mk q => by obtain ⟨q0, q1, qP, qK, qD, qx0, qx1⟩ := q; exact ⟨q0, q1, qP, va_K.moved (u := U) (U := U.calling g mk a) (Vm.Alike.refl U.vm) qK, qD, va_Z.moved (u := U) (U := U.calling g mk a) (Vm.Alike.refl U.vm) qx0, va_T.moved (u := U) (U := U.calling g mk a) (Vm.Alike.refl U.vm) qx1⟩, fun U hU hW => ⟨rfl, by rw [hU], by rw [hU]; exact hPc, va_K.moved hW.alike hKc, hDc.weaken (fun _ _ _ _ => trivial), by rw [hU]; exact ((hZNAMES.kept (fun a h1 h2 => hS.2.1 a h1 h2)).narrow hFc).moved hW.alike, by rw [hU]; exact ((hTNAMES.kept (fun a h1 h2 => hS.2.1 a h1 h2)).narrow hFc).moved hW.alike⟩⟩ rfl rfl hl.1 rfl (lv_room (Nat.le_of_ble_eq_true rfl)) dX10_readOperand_19 ⟨Nat.le_of_ble_eq_true rfl, Nat.le_of_ble_eq_true rfl⟩) hS (fun q _ h => hFc q h) hFc (fun r_3 u t H1 locs ht hvm hw hB hz1 hk1 hS => ?_)
  obtain ⟨hP1, hK1, hD1⟩ := hB
  rw [ht] at hP1
  have hK1 := va_K.moved hvm.symm hK1
  obtain ⟨hP, hD⟩ := va_join (wr := [(h0, .inr (10, [.ref h1, .int 0, .int 0, .ref h2]))]) (w1 := []) hP hD [] [0] rfl rfl (by decide) (by decide) hk1 hFc hP1 hD1
  generalize H1 = H at hP hS ⊢
  have hP : va_P (dC, dI) vwCl [(h0, .inr (10, [.ref h1, .int 0, .int 0, .ref h2]))] H := hP
  have hD : va_D A [(h0, .inr (10, [.ref h1, .int 0, .int 0, .ref h2]))] := hD
  obtain rfl := hw
  refine lv_istore_n (lv' := [(3, .int (-2)), (2, .int (-1)), (0, .ref h0), (1, .int 0)]) hx hb dX10_readOperand_22 rfl hl (by decide) rfl (fun ls hl => ?_)
  refine lv_iload_n hx hb dX10_readOperand_23 rfl (lv_at hl 0 rfl) ?_
  refine lv_if_lt (tgt := 47) hx hb dX10_readOperand_24 (by decide) (fun _ => ?_) (fun c => absurd c (by decide))
  refine lv_iload_n hx hb dX10_readOperand_47 rfl (lv_at hl 3 rfl) ?_
  refine lv_bipush (v := 6) hx hb dX10_readOperand_48 (by decide) ?_
  refine lv_icmp_ge (tgt := 71) hx hb dX10_readOperand_50 (by decide) (fun c => absurd c (by decide)) (fun _ => ?_)
  refine lv_iload_n hx hb dX10_readOperand_53 rfl (lv_at hl 1 rfl) ?_
  refine lv_bipush (v := 40) hx hb dX10_readOperand_54 (by decide) ?_
  refine lv_icmp_eq (tgt := 73) hx hb dX10_readOperand_56 (by decide) (fun c => absurd c (by decide)) (fun _ => ?_)
  refine lv_iload_n hx hb dX10_readOperand_59 rfl (lv_at hl 1 rfl) ?_
  refine lv_bipush (v := 33) hx hb dX10_readOperand_60 (by decide) ?_
  refine lv_icmp_eq (tgt := 73) hx hb dX10_readOperand_62 (by decide) (fun c => absurd c (by decide)) (fun _ => ?_)
  refine lv_iload_n hx hb dX10_readOperand_65 rfl (lv_at hl 1 rfl) ?_
  refine lv_bipush (v := 45) hx hb dX10_readOperand_66 (by decide) ?_
  refine lv_icmp_eq (tgt := 73) hx hb dX10_readOperand_68 (by decide) (fun c => absurd c (by decide)) (fun _ => ?_)
  refine lv_iconst (v := 0) hx hb dX10_readOperand_71 (by decide) ?_
  have hP9 := hP.sub (ws' := [(h0, .inr (10, [.ref h1, .int 0, .int 0, .ref h2]))]) [0] rfl
  have hD9 := hD.sub (ws' := [(h0, .inr (10, [.ref h1, .int 0, .int 0, .ref h2]))]) [0] (by decide) rfl
  have hK9 := hK.sub (tys' := []) [] rfl
  exact W.zret (v := 0) hx hb hr rfl (fun t ht hW => ⟨⟨0, (), rfl, rfl, by rw [ht]; exact hP9, va_K.moved hW.alike hK9, hD9⟩, hS.F ht⟩) hS.2.2 dX10_readOperand_72
set_option maxHeartbeats 4000000 in
set_option maxRecDepth 100000 in
theorem k_X10_readChain_0 (l : Launch) (dC : Nat → ClassId) (dI : Nat → Nat → Nat) (h0 h1 h2 : Nat) (sz : Nat) (aNAMES : Nat) : Met l yX10_readChain wsX10_readChain ({ frames := 2, cells := 0, slots := 0, locals := 44 }) (va_Pc [.ref h0, .int 5, .int 0] (fun U => U.heap.size = sz ∧ va_P (dC, dI) vwCl [(h0, .inr (10, [.ref h1, .int 0, .int 0, .ref h2]))] U.heap ∧ va_K (dC, dI) vwCl [] U ∧ va_D (fun _ => True) [(h0, .inr (10, [.ref h1, .int 0, .int 0, .ref h2]))] ∧ va_Z "KinkStreet$Law" "NAMES" "[C" (.ref aNAMES) (va_A [(h0, .inr (10, [.ref h1, .int 0, .int 0, .ref h2]))] sz) U U.heap ∧ va_T .char aNAMES 8 tb_NAMES (va_A [(h0, .inr (10, [.ref h1, .int 0, .int 0, .ref h2]))] sz) U U.heap)) (va_Qi (fun (r : Int32) (_ : Unit) => r = 0) (fun (_ : Unit) t => va_P (dC, dI) vwCl [(h0, .inr (10, [.ref h1, .int 0, .int 0, .ref h2]))] t.heap ∧ va_K (dC, dI) vwCl [] t ∧ va_D (va_A [(h0, .inr (10, [.ref h1, .int 0, .int 0, .ref h2]))] sz) [(h0, .inr (10, [.ref h1, .int 0, .int 0, .ref h2]))]) (va_A [(h0, .inr (10, [.ref h1, .int 0, .int 0, .ref h2]))] sz)) 0 0 (va_A [(h0, .inr (10, [.ref h1, .int 0, .int 0, .ref h2]))] sz) := by
  refine Met.ofW (cc := cX10_readChain) (maxL := 5) (ret := (some .boolean)) (by decide) rfl ?_
  intro p e s m args below meth c s₁ B hml hv
  obtain ⟨rfl, hsz, hP, hK, hD0, hZNAMES, hTNAMES⟩ := hv
  have hx := B.exec
  have hb := B.bytes
  have hr := B.returns
  have hts := atoms_spec (ws := wsX10_readChain) B.pre
  have hown : s.vm.findClass RX10 = some m.cls := findClass_of_methodNamed B.named
  have hlocks := B.notSynchronized
  subst hsz
  have hD := hD0.self (sz := s.heap.size)
  generalize hAe : va_A [(h0, .inr (10, [.ref h1, .int 0, .int 0, .ref h2]))] s.heap.size = A at hD hZNAMES hTNAMES ⊢
  have hA : ∀ q : Nat, s.heap.size ≤ q → A q := fun q h => by rw [← hAe]; exact Or.inr h
  have hS : va_S A s.heap s.heap [] := va_S.rf
  have hP : va_P (dC, dI) vwCl [(h0, .inr (10, [.ref h1, .int 0, .int 0, .ref h2]))] s.heap := hP
  have hl := lv_entry ([.ref h0, .int 5, .int 0]) (n := 5) (Nat.le_of_ble_eq_true rfl)
  rw [lg_entry_eq]
  generalize (lg_sl ([.ref h0, .int 5, .int 0]) ++ List.replicate (5 - (lg_sl ([.ref h0, .int 5, .int 0])).length) Slot.unset).toArray = ls at hl ⊢
  have hl : lv_has ls 5 [(0, .ref h0), (1, .int 5), (2, .int 0)] := hl
  refine lv_iload_n hx hb dX10_readChain_0 rfl (lv_at hl 1 rfl) ?_
  refine lv_iconst (v := 5) hx hb dX10_readChain_1 (by decide) ?_
  refine lv_icmp_lt (tgt := 11) hx hb dX10_readChain_2 (by decide) (fun c => absurd c (by decide)) (fun _ => ?_)
  refine lv_aload_n hx hb dX10_readChain_5 rfl (lv_at hl 0 rfl) ?_
  refine lv_iload_n hx hb dX10_readChain_6 rfl (lv_at hl 2 rfl) ?_
  have hPc := hP.sub (ws' := [(h0, .inr (10, [.ref h1, .int 0, .int 0, .ref h2]))]) [0] rfl
  have hDc := hD.sub (ws' := [(h0, .inr (10, [.ref h1, .int 0, .int 0, .ref h2]))]) [0] (by decide) rfl
  have hKc := hK.sub (tys' := []) [] rfl
  have hFc := va_free (wc := [(h0, .inr (10, [.ref h1, .int 0, .int 0, .ref h2]))]) hD hS hA [0] rfl
  refine va_calli (va_runV (As := [.int 0]) (rest := []) ⟨hx, hb, hml, hown, hts⟩ (k_X10_readOperand_0 l dC dI h0 h1 h2 s.heap.size aNAMES) (cwV 1 hts gX10_readChain_X10_readOperand rfl rfl rfl (by decide +kernel) ⟨Nat.le_of_ble_eq_true rfl, Nat.le_of_ble_eq_true rfl⟩) ⟨fun a U g mk q => by obtain ⟨q0, q1, qP, qK, qD, qx0, qx1⟩ := q; exact ⟨q0, q1, qP, va_K.moved (u := U) (U := U.calling g mk a) (Vm.Alike.refl U.vm) qK, qD, va_Z.moved (u := U) (U := U.calling g mk a) (Vm.Alike.refl U.vm) qx0, va_T.moved (u := U) (U := U.calling g mk a) (Vm.Alike.refl U.vm) qx1⟩, va_recv hKc hPc (ci := 10) (q0 := 0) rfl rfl, fun U hU hW => ⟨rfl, by rw [hU], by rw [hU]; exact hPc, va_K.moved hW.alike hKc, hDc.weaken (fun _ _ _ _ => trivial), by rw [hU]; exact ((hZNAMES.kept (fun a h1 h2 => hS.2.1 a h1 h2)).narrow hFc).moved hW.alike, by rw [hU]; exact ((hTNAMES.kept (fun a h1 h2 => hS.2.1 a h1 h2)).narrow hFc).moved hW.alike⟩⟩ rfl rfl hl.1 rfl (lv_room (Nat.le_of_ble_eq_true rfl)) dX10_readChain_7 ⟨Nat.le_of_ble_eq_true rfl, Nat.le_of_ble_eq_true rfl⟩) hS (fun q _ h => hFc q h) hFc (fun r_1 u t H1 locs ht hvm hw hB hz1 hk1 hS => ?_)
  obtain ⟨hP1, hK1, hD1⟩ := hB
  rw [ht] at hP1
  have hK1 := va_K.moved hvm.symm hK1
  obtain ⟨hP, hD⟩ := va_join (wr := []) (w1 := [(h0, .inr (10, [.ref h1, .int 0, .int 0, .ref h2]))]) hP hD [0] [] rfl rfl (by decide) (by decide) hk1 hFc hP1 hD1
  generalize H1 = H at hP hS ⊢
  have hP : va_P (dC, dI) vwCl [(h0, .inr (10, [.ref h1, .int 0, .int 0, .ref h2]))] H := hP
  have hD : va_D A [(h0, .inr (10, [.ref h1, .int 0, .int 0, .ref h2]))] := hD
  obtain rfl := hw
  have hP9 := hP.sub (ws' := [(h0, .inr (10, [.ref h1, .int 0, .int 0, .ref h2]))]) [0] rfl
  have hD9 := hD.sub (ws' := [(h0, .inr (10, [.ref h1, .int 0, .int 0, .ref h2]))]) [0] (by decide) rfl
  have hK9 := hK.sub (tys' := []) [] rfl
  exact W.zret (v := 0) hx hb hr rfl (fun t ht hW => ⟨⟨0, (), rfl, rfl, by rw [ht]; exact hP9, va_K.moved hW.alike hK9, hD9⟩, hS.F ht⟩) hS.2.2 dX10_readChain_10
set_option maxHeartbeats 4000000 in
set_option maxRecDepth 100000 in
theorem k_X10_readChain_1 (l : Launch) (dC : Nat → ClassId) (dI : Nat → Nat → Nat) (h0 h1 h2 : Nat) (sz : Nat) (aNAMES : Nat) : Met l yX10_readChain wsX10_readChain ({ frames := 3, cells := 0, slots := 0, locals := 68 }) (va_Pc [.ref h0, .int 4, .int 0] (fun U => U.heap.size = sz ∧ va_P (dC, dI) vwCl [(h0, .inr (10, [.ref h1, .int 0, .int 0, .ref h2]))] U.heap ∧ va_K (dC, dI) vwCl [] U ∧ va_D (fun _ => True) [(h0, .inr (10, [.ref h1, .int 0, .int 0, .ref h2]))] ∧ va_Z "KinkStreet$Law" "NAMES" "[C" (.ref aNAMES) (va_A [(h0, .inr (10, [.ref h1, .int 0, .int 0, .ref h2]))] sz) U U.heap ∧ va_T .char aNAMES 8 tb_NAMES (va_A [(h0, .inr (10, [.ref h1, .int 0, .int 0, .ref h2]))] sz) U U.heap)) (va_Qi (fun (r : Int32) (_ : Unit) => r = 0) (fun (_ : Unit) t => va_P (dC, dI) vwCl [(h0, .inr (10, [.ref h1, .int 0, .int 0, .ref h2]))] t.heap ∧ va_K (dC, dI) vwCl [] t ∧ va_D (va_A [(h0, .inr (10, [.ref h1, .int 0, .int 0, .ref h2]))] sz) [(h0, .inr (10, [.ref h1, .int 0, .int 0, .ref h2]))]) (va_A [(h0, .inr (10, [.ref h1, .int 0, .int 0, .ref h2]))] sz)) 0 0 (va_A [(h0, .inr (10, [.ref h1, .int 0, .int 0, .ref h2]))] sz) := by
  refine Met.ofW (cc := cX10_readChain) (maxL := 5) (ret := (some .boolean)) (by decide) rfl ?_
  intro p e s m args below meth c s₁ B hml hv
  obtain ⟨rfl, hsz, hP, hK, hD0, hZNAMES, hTNAMES⟩ := hv
  have hx := B.exec
  have hb := B.bytes
  have hr := B.returns
  have hts := atoms_spec (ws := wsX10_readChain) B.pre
  have hown : s.vm.findClass RX10 = some m.cls := findClass_of_methodNamed B.named
  have hlocks := B.notSynchronized
  subst hsz
  have hD := hD0.self (sz := s.heap.size)
  generalize hAe : va_A [(h0, .inr (10, [.ref h1, .int 0, .int 0, .ref h2]))] s.heap.size = A at hD hZNAMES hTNAMES ⊢
  have hA : ∀ q : Nat, s.heap.size ≤ q → A q := fun q h => by rw [← hAe]; exact Or.inr h
  have hS : va_S A s.heap s.heap [] := va_S.rf
  have hP : va_P (dC, dI) vwCl [(h0, .inr (10, [.ref h1, .int 0, .int 0, .ref h2]))] s.heap := hP
  have hl := lv_entry ([.ref h0, .int 4, .int 0]) (n := 5) (Nat.le_of_ble_eq_true rfl)
  rw [lg_entry_eq]
  generalize (lg_sl ([.ref h0, .int 4, .int 0]) ++ List.replicate (5 - (lg_sl ([.ref h0, .int 4, .int 0])).length) Slot.unset).toArray = ls at hl ⊢
  have hl : lv_has ls 5 [(0, .ref h0), (1, .int 4), (2, .int 0)] := hl
  refine lv_iload_n hx hb dX10_readChain_0 rfl (lv_at hl 1 rfl) ?_
  refine lv_iconst (v := 5) hx hb dX10_readChain_1 (by decide) ?_
  refine lv_icmp_lt (tgt := 11) hx hb dX10_readChain_2 (by decide) (fun _ => ?_) (fun c => absurd c (by decide))
  refine lv_aload_n hx hb dX10_readChain_11 rfl (lv_at hl 0 rfl) ?_
  refine lv_iload_n hx hb dX10_readChain_12 rfl (lv_at hl 1 rfl) ?_
  refine lv_iconst (v := 1) hx hb dX10_readChain_13 (by decide) ?_
  refine lv_iadd hx hb dX10_readChain_14 ?_
  refine lv_topi (fun y_1 e_1 => ?_)
  obtain rfl : y_1 = 5 := e_1.trans (by decide)
  refine lv_iload_n hx hb dX10_readChain_15 rfl (lv_at hl 2 rfl) ?_
  have hPc := hP.sub (ws' := [(h0, .inr (10, [.ref h1, .int 0, .int 0, .ref h2]))]) [0] rfl
  have hDc := hD.sub (ws' := [(h0, .inr (10, [.ref h1, .int 0, .int 0, .ref h2]))]) [0] (by decide) rfl
  have hKc := hK.sub (tys' := []) [] rfl
  have hFc := va_free (wc := [(h0, .inr (10, [.ref h1, .int 0, .int 0, .ref h2]))]) hD hS hA [0] rfl
  refine va_calli (va_runV (As := [.int 5, .int 0]) (rest := []) ⟨hx, hb, hml, hown, hts⟩ (k_X10_readChain_0 l dC dI h0 h1 h2 s.heap.size aNAMES) (cwV 2 hts gX10_readChain_X10_readChain rfl rfl rfl (by decide +kernel) ⟨Nat.le_of_ble_eq_true rfl, Nat.le_of_ble_eq_true rfl⟩) ⟨fun a U g mk q => by obtain ⟨q0, q1, qP, qK, qD, qx0, qx1⟩ := q; exact ⟨q0, q1, qP, va_K.moved (u := U) (U := U.calling g mk a) (Vm.Alike.refl U.vm) qK, qD, va_Z.moved (u := U) (U := U.calling g mk a) (Vm.Alike.refl U.vm) qx0, va_T.moved (u := U) (U := U.calling g mk a) (Vm.Alike.refl U.vm) qx1⟩, va_recv hKc hPc (ci := 10) (q0 := 0) rfl rfl, fun U hU hW => ⟨rfl, by rw [hU], by rw [hU]; exact hPc, va_K.moved hW.alike hKc, hDc.weaken (fun _ _ _ _ => trivial), by rw [hU]; exact ((hZNAMES.kept (fun a h1 h2 => hS.2.1 a h1 h2)).narrow hFc).moved hW.alike, by rw [hU]; exact ((hTNAMES.kept (fun a h1 h2 => hS.2.1 a h1 h2)).narrow hFc).moved hW.alike⟩⟩ rfl rfl hl.1 rfl (lv_room (Nat.le_of_ble_eq_true rfl)) dX10_readChain_16 ⟨Nat.le_of_ble_eq_true rfl, Nat.le_of_ble_eq_true rfl⟩) hS (fun q _ h => hFc q h) hFc (fun r_2 u t H1 locs ht hvm hw hB hz1 hk1 hS => ?_)
  obtain ⟨hP1, hK1, hD1⟩ := hB
  rw [ht] at hP1
  have hK1 := va_K.moved hvm.symm hK1
  obtain ⟨hP, hD⟩ := va_join (wr := []) (w1 := [(h0, .inr (10, [.ref h1, .int 0, .int 0, .ref h2]))]) hP hD [0] [] rfl rfl (by decide) (by decide) hk1 hFc hP1 hD1
  generalize H1 = H at hP hS ⊢
  have hP : va_P (dC, dI) vwCl [(h0, .inr (10, [.ref h1, .int 0, .int 0, .ref h2]))] H := hP
  have hD : va_D A [(h0, .inr (10, [.ref h1, .int 0, .int 0, .ref h2]))] := hD
  obtain rfl := hw
  refine lv_if_ne (tgt := 24) hx hb dX10_readChain_19 (by decide) (fun c => absurd c (by decide)) (fun _ => ?_)
  refine lv_iconst (v := 0) hx hb dX10_readChain_22 (by decide) ?_
  have hP9 := hP.sub (ws' := [(h0, .inr (10, [.ref h1, .int 0, .int 0, .ref h2]))]) [0] rfl
  have hD9 := hD.sub (ws' := [(h0, .inr (10, [.ref h1, .int 0, .int 0, .ref h2]))]) [0] (by decide) rfl
  have hK9 := hK.sub (tys' := []) [] rfl
  exact W.zret (v := 0) hx hb hr rfl (fun t ht hW => ⟨⟨0, (), rfl, rfl, by rw [ht]; exact hP9, va_K.moved hW.alike hK9, hD9⟩, hS.F ht⟩) hS.2.2 dX10_readChain_23
set_option maxHeartbeats 4000000 in
set_option maxRecDepth 100000 in
theorem k_X10_readChain_2 (l : Launch) (dC : Nat → ClassId) (dI : Nat → Nat → Nat) (h0 h1 h2 : Nat) (sz : Nat) (aNAMES : Nat) : Met l yX10_readChain wsX10_readChain ({ frames := 4, cells := 0, slots := 0, locals := 92 }) (va_Pc [.ref h0, .int 3, .int 0] (fun U => U.heap.size = sz ∧ va_P (dC, dI) vwCl [(h0, .inr (10, [.ref h1, .int 0, .int 0, .ref h2]))] U.heap ∧ va_K (dC, dI) vwCl [] U ∧ va_D (fun _ => True) [(h0, .inr (10, [.ref h1, .int 0, .int 0, .ref h2]))] ∧ va_Z "KinkStreet$Law" "NAMES" "[C" (.ref aNAMES) (va_A [(h0, .inr (10, [.ref h1, .int 0, .int 0, .ref h2]))] sz) U U.heap ∧ va_T .char aNAMES 8 tb_NAMES (va_A [(h0, .inr (10, [.ref h1, .int 0, .int 0, .ref h2]))] sz) U U.heap)) (va_Qi (fun (r : Int32) (_ : Unit) => r = 0) (fun (_ : Unit) t => va_P (dC, dI) vwCl [(h0, .inr (10, [.ref h1, .int 0, .int 0, .ref h2]))] t.heap ∧ va_K (dC, dI) vwCl [] t ∧ va_D (va_A [(h0, .inr (10, [.ref h1, .int 0, .int 0, .ref h2]))] sz) [(h0, .inr (10, [.ref h1, .int 0, .int 0, .ref h2]))]) (va_A [(h0, .inr (10, [.ref h1, .int 0, .int 0, .ref h2]))] sz)) 0 0 (va_A [(h0, .inr (10, [.ref h1, .int 0, .int 0, .ref h2]))] sz) := by
  refine Met.ofW (cc := cX10_readChain) (maxL := 5) (ret := (some .boolean)) (by decide) rfl ?_
  intro p e s m args below meth c s₁ B hml hv
  obtain ⟨rfl, hsz, hP, hK, hD0, hZNAMES, hTNAMES⟩ := hv
  have hx := B.exec
  have hb := B.bytes
  have hr := B.returns
  have hts := atoms_spec (ws := wsX10_readChain) B.pre
  have hown : s.vm.findClass RX10 = some m.cls := findClass_of_methodNamed B.named
  have hlocks := B.notSynchronized
  subst hsz
  have hD := hD0.self (sz := s.heap.size)
  generalize hAe : va_A [(h0, .inr (10, [.ref h1, .int 0, .int 0, .ref h2]))] s.heap.size = A at hD hZNAMES hTNAMES ⊢
  have hA : ∀ q : Nat, s.heap.size ≤ q → A q := fun q h => by rw [← hAe]; exact Or.inr h
  have hS : va_S A s.heap s.heap [] := va_S.rf
  have hP : va_P (dC, dI) vwCl [(h0, .inr (10, [.ref h1, .int 0, .int 0, .ref h2]))] s.heap := hP
  have hl := lv_entry ([.ref h0, .int 3, .int 0]) (n := 5) (Nat.le_of_ble_eq_true rfl)
  rw [lg_entry_eq]
  generalize (lg_sl ([.ref h0, .int 3, .int 0]) ++ List.replicate (5 - (lg_sl ([.ref h0, .int 3, .int 0])).length) Slot.unset).toArray = ls at hl ⊢
  have hl : lv_has ls 5 [(0, .ref h0), (1, .int 3), (2, .int 0)] := hl
  refine lv_iload_n hx hb dX10_readChain_0 rfl (lv_at hl 1 rfl) ?_
  refine lv_iconst (v := 5) hx hb dX10_readChain_1 (by decide) ?_
  refine lv_icmp_lt (tgt := 11) hx hb dX10_readChain_2 (by decide) (fun _ => ?_) (fun c => absurd c (by decide))
  refine lv_aload_n hx hb dX10_readChain_11 rfl (lv_at hl 0 rfl) ?_
  refine lv_iload_n hx hb dX10_readChain_12 rfl (lv_at hl 1 rfl) ?_
  refine lv_iconst (v := 1) hx hb dX10_readChain_13 (by decide) ?_
  refine lv_iadd hx hb dX10_readChain_14 ?_
  refine lv_topi (fun y_1 e_1 => ?_)
  obtain rfl : y_1 = 4 := e_1.trans (by decide)
  refine lv_iload_n hx hb dX10_readChain_15 rfl (lv_at hl 2 rfl) ?_
  have hPc := hP.sub (ws' := [(h0, .inr (10, [.ref h1, .int 0, .int 0, .ref h2]))]) [0] rfl
  have hDc := hD.sub (ws' := [(h0, .inr (10, [.ref h1, .int 0, .int 0, .ref h2]))]) [0] (by decide) rfl
  have hKc := hK.sub (tys' := []) [] rfl
  have hFc := va_free (wc := [(h0, .inr (10, [.ref h1, .int 0, .int 0, .ref h2]))]) hD hS hA [0] rfl
  refine va_calli (va_runV (As := [.int 4, .int 0]) (rest := []) ⟨hx, hb, hml, hown, hts⟩ (k_X10_readChain_1 l dC dI h0 h1 h2 s.heap.size aNAMES) (cwV 2 hts gX10_readChain_X10_readChain rfl rfl rfl (by decide +kernel) ⟨Nat.le_of_ble_eq_true rfl, Nat.le_of_ble_eq_true rfl⟩) ⟨fun a U g mk q => by obtain ⟨q0, q1, qP, qK, qD, qx0, qx1⟩ := q; exact ⟨q0, q1, qP, va_K.moved (u := U) (U := U.calling g mk a) (Vm.Alike.refl U.vm) qK, qD, va_Z.moved (u := U) (U := U.calling g mk a) (Vm.Alike.refl U.vm) qx0, va_T.moved (u := U) (U := U.calling g mk a) (Vm.Alike.refl U.vm) qx1⟩, va_recv hKc hPc (ci := 10) (q0 := 0) rfl rfl, fun U hU hW => ⟨rfl, by rw [hU], by rw [hU]; exact hPc, va_K.moved hW.alike hKc, hDc.weaken (fun _ _ _ _ => trivial), by rw [hU]; exact ((hZNAMES.kept (fun a h1 h2 => hS.2.1 a h1 h2)).narrow hFc).moved hW.alike, by rw [hU]; exact ((hTNAMES.kept (fun a h1 h2 => hS.2.1 a h1 h2)).narrow hFc).moved hW.alike⟩⟩ rfl rfl hl.1 rfl (lv_room (Nat.le_of_ble_eq_true rfl)) dX10_readChain_16 ⟨Nat.le_of_ble_eq_true rfl, Nat.le_of_ble_eq_true rfl⟩) hS (fun q _ h => hFc q h) hFc (fun r_2 u t H1 locs ht hvm hw hB hz1 hk1 hS => ?_)
  obtain ⟨hP1, hK1, hD1⟩ := hB
  rw [ht] at hP1
  have hK1 := va_K.moved hvm.symm hK1
  obtain ⟨hP, hD⟩ := va_join (wr := []) (w1 := [(h0, .inr (10, [.ref h1, .int 0, .int 0, .ref h2]))]) hP hD [0] [] rfl rfl (by decide) (by decide) hk1 hFc hP1 hD1
  generalize H1 = H at hP hS ⊢
  have hP : va_P (dC, dI) vwCl [(h0, .inr (10, [.ref h1, .int 0, .int 0, .ref h2]))] H := hP
  have hD : va_D A [(h0, .inr (10, [.ref h1, .int 0, .int 0, .ref h2]))] := hD
  obtain rfl := hw
  refine lv_if_ne (tgt := 24) hx hb dX10_readChain_19 (by decide) (fun c => absurd c (by decide)) (fun _ => ?_)
  refine lv_iconst (v := 0) hx hb dX10_readChain_22 (by decide) ?_
  have hP9 := hP.sub (ws' := [(h0, .inr (10, [.ref h1, .int 0, .int 0, .ref h2]))]) [0] rfl
  have hD9 := hD.sub (ws' := [(h0, .inr (10, [.ref h1, .int 0, .int 0, .ref h2]))]) [0] (by decide) rfl
  have hK9 := hK.sub (tys' := []) [] rfl
  exact W.zret (v := 0) hx hb hr rfl (fun t ht hW => ⟨⟨0, (), rfl, rfl, by rw [ht]; exact hP9, va_K.moved hW.alike hK9, hD9⟩, hS.F ht⟩) hS.2.2 dX10_readChain_23
set_option maxHeartbeats 4000000 in
set_option maxRecDepth 100000 in
theorem k_X10_readChain_3 (l : Launch) (dC : Nat → ClassId) (dI : Nat → Nat → Nat) (h0 h1 h2 : Nat) (sz : Nat) (aNAMES : Nat) : Met l yX10_readChain wsX10_readChain ({ frames := 5, cells := 0, slots := 0, locals := 116 }) (va_Pc [.ref h0, .int 2, .int 0] (fun U => U.heap.size = sz ∧ va_P (dC, dI) vwCl [(h0, .inr (10, [.ref h1, .int 0, .int 0, .ref h2]))] U.heap ∧ va_K (dC, dI) vwCl [] U ∧ va_D (fun _ => True) [(h0, .inr (10, [.ref h1, .int 0, .int 0, .ref h2]))] ∧ va_Z "KinkStreet$Law" "NAMES" "[C" (.ref aNAMES) (va_A [(h0, .inr (10, [.ref h1, .int 0, .int 0, .ref h2]))] sz) U U.heap ∧ va_T .char aNAMES 8 tb_NAMES (va_A [(h0, .inr (10, [.ref h1, .int 0, .int 0, .ref h2]))] sz) U U.heap)) (va_Qi (fun (r : Int32) (_ : Unit) => r = 0) (fun (_ : Unit) t => va_P (dC, dI) vwCl [(h0, .inr (10, [.ref h1, .int 0, .int 0, .ref h2]))] t.heap ∧ va_K (dC, dI) vwCl [] t ∧ va_D (va_A [(h0, .inr (10, [.ref h1, .int 0, .int 0, .ref h2]))] sz) [(h0, .inr (10, [.ref h1, .int 0, .int 0, .ref h2]))]) (va_A [(h0, .inr (10, [.ref h1, .int 0, .int 0, .ref h2]))] sz)) 0 0 (va_A [(h0, .inr (10, [.ref h1, .int 0, .int 0, .ref h2]))] sz) := by
  refine Met.ofW (cc := cX10_readChain) (maxL := 5) (ret := (some .boolean)) (by decide) rfl ?_
  intro p e s m args below meth c s₁ B hml hv
  obtain ⟨rfl, hsz, hP, hK, hD0, hZNAMES, hTNAMES⟩ := hv
  have hx := B.exec
  have hb := B.bytes
  have hr := B.returns
  have hts := atoms_spec (ws := wsX10_readChain) B.pre
  have hown : s.vm.findClass RX10 = some m.cls := findClass_of_methodNamed B.named
  have hlocks := B.notSynchronized
  subst hsz
  have hD := hD0.self (sz := s.heap.size)
  generalize hAe : va_A [(h0, .inr (10, [.ref h1, .int 0, .int 0, .ref h2]))] s.heap.size = A at hD hZNAMES hTNAMES ⊢
  have hA : ∀ q : Nat, s.heap.size ≤ q → A q := fun q h => by rw [← hAe]; exact Or.inr h
  have hS : va_S A s.heap s.heap [] := va_S.rf
  have hP : va_P (dC, dI) vwCl [(h0, .inr (10, [.ref h1, .int 0, .int 0, .ref h2]))] s.heap := hP
  have hl := lv_entry ([.ref h0, .int 2, .int 0]) (n := 5) (Nat.le_of_ble_eq_true rfl)
  rw [lg_entry_eq]
  generalize (lg_sl ([.ref h0, .int 2, .int 0]) ++ List.replicate (5 - (lg_sl ([.ref h0, .int 2, .int 0])).length) Slot.unset).toArray = ls at hl ⊢
  have hl : lv_has ls 5 [(0, .ref h0), (1, .int 2), (2, .int 0)] := hl
  refine lv_iload_n hx hb dX10_readChain_0 rfl (lv_at hl 1 rfl) ?_
  refine lv_iconst (v := 5) hx hb dX10_readChain_1 (by decide) ?_
  refine lv_icmp_lt (tgt := 11) hx hb dX10_readChain_2 (by decide) (fun _ => ?_) (fun c => absurd c (by decide))
  refine lv_aload_n hx hb dX10_readChain_11 rfl (lv_at hl 0 rfl) ?_
  refine lv_iload_n hx hb dX10_readChain_12 rfl (lv_at hl 1 rfl) ?_
  refine lv_iconst (v := 1) hx hb dX10_readChain_13 (by decide) ?_
  refine lv_iadd hx hb dX10_readChain_14 ?_
  refine lv_topi (fun y_1 e_1 => ?_)
  obtain rfl : y_1 = 3 := e_1.trans (by decide)
  refine lv_iload_n hx hb dX10_readChain_15 rfl (lv_at hl 2 rfl) ?_
  have hPc := hP.sub (ws' := [(h0, .inr (10, [.ref h1, .int 0, .int 0, .ref h2]))]) [0] rfl
  have hDc := hD.sub (ws' := [(h0, .inr (10, [.ref h1, .int 0, .int 0, .ref h2]))]) [0] (by decide) rfl
  have hKc := hK.sub (tys' := []) [] rfl
  have hFc := va_free (wc := [(h0, .inr (10, [.ref h1, .int 0, .int 0, .ref h2]))]) hD hS hA [0] rfl
  refine va_calli (va_runV (As := [.int 3, .int 0]) (rest := []) ⟨hx, hb, hml, hown, hts⟩ (k_X10_readChain_2 l dC dI h0 h1 h2 s.heap.size aNAMES) (cwV 2 hts gX10_readChain_X10_readChain rfl rfl rfl (by decide +kernel) ⟨Nat.le_of_ble_eq_true rfl, Nat.le_of_ble_eq_true rfl⟩) ⟨fun a U g mk q => by obtain ⟨q0, q1, qP, qK, qD, qx0, qx1⟩ := q; exact ⟨q0, q1, qP, va_K.moved (u := U) (U := U.calling g mk a) (Vm.Alike.refl U.vm) qK, qD, va_Z.moved (u := U) (U := U.calling g mk a) (Vm.Alike.refl U.vm) qx0, va_T.moved (u := U) (U := U.calling g mk a) (Vm.Alike.refl U.vm) qx1⟩, va_recv hKc hPc (ci := 10) (q0 := 0) rfl rfl, fun U hU hW => ⟨rfl, by rw [hU], by rw [hU]; exact hPc, va_K.moved hW.alike hKc, hDc.weaken (fun _ _ _ _ => trivial), by rw [hU]; exact ((hZNAMES.kept (fun a h1 h2 => hS.2.1 a h1 h2)).narrow hFc).moved hW.alike, by rw [hU]; exact ((hTNAMES.kept (fun a h1 h2 => hS.2.1 a h1 h2)).narrow hFc).moved hW.alike⟩⟩ rfl rfl hl.1 rfl (lv_room (Nat.le_of_ble_eq_true rfl)) dX10_readChain_16 ⟨Nat.le_of_ble_eq_true rfl, Nat.le_of_ble_eq_true rfl⟩) hS (fun q _ h => hFc q h) hFc (fun r_2 u t H1 locs ht hvm hw hB hz1 hk1 hS => ?_)
  obtain ⟨hP1, hK1, hD1⟩ := hB
  rw [ht] at hP1
  have hK1 := va_K.moved hvm.symm hK1
  obtain ⟨hP, hD⟩ := va_join (wr := []) (w1 := [(h0, .inr (10, [.ref h1, .int 0, .int 0, .ref h2]))]) hP hD [0] [] rfl rfl (by decide) (by decide) hk1 hFc hP1 hD1
  generalize H1 = H at hP hS ⊢
  have hP : va_P (dC, dI) vwCl [(h0, .inr (10, [.ref h1, .int 0, .int 0, .ref h2]))] H := hP
  have hD : va_D A [(h0, .inr (10, [.ref h1, .int 0, .int 0, .ref h2]))] := hD
  obtain rfl := hw
  refine lv_if_ne (tgt := 24) hx hb dX10_readChain_19 (by decide) (fun c => absurd c (by decide)) (fun _ => ?_)
  refine lv_iconst (v := 0) hx hb dX10_readChain_22 (by decide) ?_
  have hP9 := hP.sub (ws' := [(h0, .inr (10, [.ref h1, .int 0, .int 0, .ref h2]))]) [0] rfl
  have hD9 := hD.sub (ws' := [(h0, .inr (10, [.ref h1, .int 0, .int 0, .ref h2]))]) [0] (by decide) rfl
  have hK9 := hK.sub (tys' := []) [] rfl
  exact W.zret (v := 0) hx hb hr rfl (fun t ht hW => ⟨⟨0, (), rfl, rfl, by rw [ht]; exact hP9, va_K.moved hW.alike hK9, hD9⟩, hS.F ht⟩) hS.2.2 dX10_readChain_23
set_option maxHeartbeats 4000000 in
set_option maxRecDepth 100000 in
theorem k_X10_readChain_4 (l : Launch) (dC : Nat → ClassId) (dI : Nat → Nat → Nat) (h0 h1 h2 : Nat) (sz : Nat) (aNAMES : Nat) : Met l yX10_readChain wsX10_readChain ({ frames := 6, cells := 0, slots := 0, locals := 140 }) (va_Pc [.ref h0, .int 1, .int 0] (fun U => U.heap.size = sz ∧ va_P (dC, dI) vwCl [(h0, .inr (10, [.ref h1, .int 0, .int 0, .ref h2]))] U.heap ∧ va_K (dC, dI) vwCl [] U ∧ va_D (fun _ => True) [(h0, .inr (10, [.ref h1, .int 0, .int 0, .ref h2]))] ∧ va_Z "KinkStreet$Law" "NAMES" "[C" (.ref aNAMES) (va_A [(h0, .inr (10, [.ref h1, .int 0, .int 0, .ref h2]))] sz) U U.heap ∧ va_T .char aNAMES 8 tb_NAMES (va_A [(h0, .inr (10, [.ref h1, .int 0, .int 0, .ref h2]))] sz) U U.heap)) (va_Qi (fun (r : Int32) (_ : Unit) => r = 0) (fun (_ : Unit) t => va_P (dC, dI) vwCl [(h0, .inr (10, [.ref h1, .int 0, .int 0, .ref h2]))] t.heap ∧ va_K (dC, dI) vwCl [] t ∧ va_D (va_A [(h0, .inr (10, [.ref h1, .int 0, .int 0, .ref h2]))] sz) [(h0, .inr (10, [.ref h1, .int 0, .int 0, .ref h2]))]) (va_A [(h0, .inr (10, [.ref h1, .int 0, .int 0, .ref h2]))] sz)) 0 0 (va_A [(h0, .inr (10, [.ref h1, .int 0, .int 0, .ref h2]))] sz) := by
  refine Met.ofW (cc := cX10_readChain) (maxL := 5) (ret := (some .boolean)) (by decide) rfl ?_
  intro p e s m args below meth c s₁ B hml hv
  obtain ⟨rfl, hsz, hP, hK, hD0, hZNAMES, hTNAMES⟩ := hv
  have hx := B.exec
  have hb := B.bytes
  have hr := B.returns
  have hts := atoms_spec (ws := wsX10_readChain) B.pre
  have hown : s.vm.findClass RX10 = some m.cls := findClass_of_methodNamed B.named
  have hlocks := B.notSynchronized
  subst hsz
  have hD := hD0.self (sz := s.heap.size)
  generalize hAe : va_A [(h0, .inr (10, [.ref h1, .int 0, .int 0, .ref h2]))] s.heap.size = A at hD hZNAMES hTNAMES ⊢
  have hA : ∀ q : Nat, s.heap.size ≤ q → A q := fun q h => by rw [← hAe]; exact Or.inr h
  have hS : va_S A s.heap s.heap [] := va_S.rf
  have hP : va_P (dC, dI) vwCl [(h0, .inr (10, [.ref h1, .int 0, .int 0, .ref h2]))] s.heap := hP
  have hl := lv_entry ([.ref h0, .int 1, .int 0]) (n := 5) (Nat.le_of_ble_eq_true rfl)
  rw [lg_entry_eq]
  generalize (lg_sl ([.ref h0, .int 1, .int 0]) ++ List.replicate (5 - (lg_sl ([.ref h0, .int 1, .int 0])).length) Slot.unset).toArray = ls at hl ⊢
  have hl : lv_has ls 5 [(0, .ref h0), (1, .int 1), (2, .int 0)] := hl
  refine lv_iload_n hx hb dX10_readChain_0 rfl (lv_at hl 1 rfl) ?_
  refine lv_iconst (v := 5) hx hb dX10_readChain_1 (by decide) ?_
  refine lv_icmp_lt (tgt := 11) hx hb dX10_readChain_2 (by decide) (fun _ => ?_) (fun c => absurd c (by decide))
  refine lv_aload_n hx hb dX10_readChain_11 rfl (lv_at hl 0 rfl) ?_
  refine lv_iload_n hx hb dX10_readChain_12 rfl (lv_at hl 1 rfl) ?_
  refine lv_iconst (v := 1) hx hb dX10_readChain_13 (by decide) ?_
  refine lv_iadd hx hb dX10_readChain_14 ?_
  refine lv_topi (fun y_1 e_1 => ?_)
  obtain rfl : y_1 = 2 := e_1.trans (by decide)
  refine lv_iload_n hx hb dX10_readChain_15 rfl (lv_at hl 2 rfl) ?_
  have hPc := hP.sub (ws' := [(h0, .inr (10, [.ref h1, .int 0, .int 0, .ref h2]))]) [0] rfl
  have hDc := hD.sub (ws' := [(h0, .inr (10, [.ref h1, .int 0, .int 0, .ref h2]))]) [0] (by decide) rfl
  have hKc := hK.sub (tys' := []) [] rfl
  have hFc := va_free (wc := [(h0, .inr (10, [.ref h1, .int 0, .int 0, .ref h2]))]) hD hS hA [0] rfl
  refine va_calli (va_runV (As := [.int 2, .int 0]) (rest := []) ⟨hx, hb, hml, hown, hts⟩ (k_X10_readChain_3 l dC dI h0 h1 h2 s.heap.size aNAMES) (cwV 2 hts gX10_readChain_X10_readChain rfl rfl rfl (by decide +kernel) ⟨Nat.le_of_ble_eq_true rfl, Nat.le_of_ble_eq_true rfl⟩) ⟨fun a U g mk q => by obtain ⟨q0, q1, qP, qK, qD, qx0, qx1⟩ := q; exact ⟨q0, q1, qP, va_K.moved (u := U) (U := U.calling g mk a) (Vm.Alike.refl U.vm) qK, qD, va_Z.moved (u := U) (U := U.calling g mk a) (Vm.Alike.refl U.vm) qx0, va_T.moved (u := U) (U := U.calling g mk a) (Vm.Alike.refl U.vm) qx1⟩, va_recv hKc hPc (ci := 10) (q0 := 0) rfl rfl, fun U hU hW => ⟨rfl, by rw [hU], by rw [hU]; exact hPc, va_K.moved hW.alike hKc, hDc.weaken (fun _ _ _ _ => trivial), by rw [hU]; exact ((hZNAMES.kept (fun a h1 h2 => hS.2.1 a h1 h2)).narrow hFc).moved hW.alike, by rw [hU]; exact ((hTNAMES.kept (fun a h1 h2 => hS.2.1 a h1 h2)).narrow hFc).moved hW.alike⟩⟩ rfl rfl hl.1 rfl (lv_room (Nat.le_of_ble_eq_true rfl)) dX10_readChain_16 ⟨Nat.le_of_ble_eq_true rfl, Nat.le_of_ble_eq_true rfl⟩) hS (fun q _ h => hFc q h) hFc (fun r_2 u t H1 locs ht hvm hw hB hz1 hk1 hS => ?_)
  obtain ⟨hP1, hK1, hD1⟩ := hB
  rw [ht] at hP1
  have hK1 := va_K.moved hvm.symm hK1
  obtain ⟨hP, hD⟩ := va_join (wr := []) (w1 := [(h0, .inr (10, [.ref h1, .int 0, .int 0, .ref h2]))]) hP hD [0] [] rfl rfl (by decide) (by decide) hk1 hFc hP1 hD1
  generalize H1 = H at hP hS ⊢
  have hP : va_P (dC, dI) vwCl [(h0, .inr (10, [.ref h1, .int 0, .int 0, .ref h2]))] H := hP
  have hD : va_D A [(h0, .inr (10, [.ref h1, .int 0, .int 0, .ref h2]))] := hD
  obtain rfl := hw
  refine lv_if_ne (tgt := 24) hx hb dX10_readChain_19 (by decide) (fun c => absurd c (by decide)) (fun _ => ?_)
  refine lv_iconst (v := 0) hx hb dX10_readChain_22 (by decide) ?_
  have hP9 := hP.sub (ws' := [(h0, .inr (10, [.ref h1, .int 0, .int 0, .ref h2]))]) [0] rfl
  have hD9 := hD.sub (ws' := [(h0, .inr (10, [.ref h1, .int 0, .int 0, .ref h2]))]) [0] (by decide) rfl
  have hK9 := hK.sub (tys' := []) [] rfl
  exact W.zret (v := 0) hx hb hr rfl (fun t ht hW => ⟨⟨0, (), rfl, rfl, by rw [ht]; exact hP9, va_K.moved hW.alike hK9, hD9⟩, hS.F ht⟩) hS.2.2 dX10_readChain_23
set_option maxHeartbeats 4000000 in
set_option maxRecDepth 100000 in
theorem k_X10_readChain_5 (l : Launch) (dC : Nat → ClassId) (dI : Nat → Nat → Nat) (h0 h1 h2 : Nat) (sz : Nat) (aNAMES : Nat) : Met l yX10_readChain wsX10_readChain ({ frames := 7, cells := 0, slots := 0, locals := 164 }) (va_Pc [.ref h0, .int 0, .int 0] (fun U => U.heap.size = sz ∧ va_P (dC, dI) vwCl [(h0, .inr (10, [.ref h1, .int 0, .int 0, .ref h2]))] U.heap ∧ va_K (dC, dI) vwCl [] U ∧ va_D (fun _ => True) [(h0, .inr (10, [.ref h1, .int 0, .int 0, .ref h2]))] ∧ va_Z "KinkStreet$Law" "NAMES" "[C" (.ref aNAMES) (va_A [(h0, .inr (10, [.ref h1, .int 0, .int 0, .ref h2]))] sz) U U.heap ∧ va_T .char aNAMES 8 tb_NAMES (va_A [(h0, .inr (10, [.ref h1, .int 0, .int 0, .ref h2]))] sz) U U.heap)) (va_Qi (fun (r : Int32) (_ : Unit) => r = 0) (fun (_ : Unit) t => va_P (dC, dI) vwCl [(h0, .inr (10, [.ref h1, .int 0, .int 0, .ref h2]))] t.heap ∧ va_K (dC, dI) vwCl [] t ∧ va_D (va_A [(h0, .inr (10, [.ref h1, .int 0, .int 0, .ref h2]))] sz) [(h0, .inr (10, [.ref h1, .int 0, .int 0, .ref h2]))]) (va_A [(h0, .inr (10, [.ref h1, .int 0, .int 0, .ref h2]))] sz)) 0 0 (va_A [(h0, .inr (10, [.ref h1, .int 0, .int 0, .ref h2]))] sz) := by
  refine Met.ofW (cc := cX10_readChain) (maxL := 5) (ret := (some .boolean)) (by decide) rfl ?_
  intro p e s m args below meth c s₁ B hml hv
  obtain ⟨rfl, hsz, hP, hK, hD0, hZNAMES, hTNAMES⟩ := hv
  have hx := B.exec
  have hb := B.bytes
  have hr := B.returns
  have hts := atoms_spec (ws := wsX10_readChain) B.pre
  have hown : s.vm.findClass RX10 = some m.cls := findClass_of_methodNamed B.named
  have hlocks := B.notSynchronized
  subst hsz
  have hD := hD0.self (sz := s.heap.size)
  generalize hAe : va_A [(h0, .inr (10, [.ref h1, .int 0, .int 0, .ref h2]))] s.heap.size = A at hD hZNAMES hTNAMES ⊢
  have hA : ∀ q : Nat, s.heap.size ≤ q → A q := fun q h => by rw [← hAe]; exact Or.inr h
  have hS : va_S A s.heap s.heap [] := va_S.rf
  have hP : va_P (dC, dI) vwCl [(h0, .inr (10, [.ref h1, .int 0, .int 0, .ref h2]))] s.heap := hP
  have hl := lv_entry ([.ref h0, .int 0, .int 0]) (n := 5) (Nat.le_of_ble_eq_true rfl)
  rw [lg_entry_eq]
  generalize (lg_sl ([.ref h0, .int 0, .int 0]) ++ List.replicate (5 - (lg_sl ([.ref h0, .int 0, .int 0])).length) Slot.unset).toArray = ls at hl ⊢
  have hl : lv_has ls 5 [(0, .ref h0), (1, .int 0), (2, .int 0)] := hl
  refine lv_iload_n hx hb dX10_readChain_0 rfl (lv_at hl 1 rfl) ?_
  refine lv_iconst (v := 5) hx hb dX10_readChain_1 (by decide) ?_
  refine lv_icmp_lt (tgt := 11) hx hb dX10_readChain_2 (by decide) (fun _ => ?_) (fun c => absurd c (by decide))
  refine lv_aload_n hx hb dX10_readChain_11 rfl (lv_at hl 0 rfl) ?_
  refine lv_iload_n hx hb dX10_readChain_12 rfl (lv_at hl 1 rfl) ?_
  refine lv_iconst (v := 1) hx hb dX10_readChain_13 (by decide) ?_
  refine lv_iadd hx hb dX10_readChain_14 ?_
  refine lv_topi (fun y_1 e_1 => ?_)
  obtain rfl : y_1 = 1 := e_1.trans (by decide)
  refine lv_iload_n hx hb dX10_readChain_15 rfl (lv_at hl 2 rfl) ?_
  have hPc := hP.sub (ws' := [(h0, .inr (10, [.ref h1, .int 0, .int 0, .ref h2]))]) [0] rfl
  have hDc := hD.sub (ws' := [(h0, .inr (10, [.ref h1, .int 0, .int 0, .ref h2]))]) [0] (by decide) rfl
  have hKc := hK.sub (tys' := []) [] rfl
  have hFc := va_free (wc := [(h0, .inr (10, [.ref h1, .int 0, .int 0, .ref h2]))]) hD hS hA [0] rfl
  refine va_calli (va_runV (As := [.int 1, .int 0]) (rest := []) ⟨hx, hb, hml, hown, hts⟩ (k_X10_readChain_4 l dC dI h0 h1 h2 s.heap.size aNAMES) (cwV 2 hts gX10_readChain_X10_readChain rfl rfl rfl (by decide +kernel) ⟨Nat.le_of_ble_eq_true rfl, Nat.le_of_ble_eq_true rfl⟩) ⟨fun a U g mk q => by obtain ⟨q0, q1, qP, qK, qD, qx0, qx1⟩ := q; exact ⟨q0, q1, qP, va_K.moved (u := U) (U := U.calling g mk a) (Vm.Alike.refl U.vm) qK, qD, va_Z.moved (u := U) (U := U.calling g mk a) (Vm.Alike.refl U.vm) qx0, va_T.moved (u := U) (U := U.calling g mk a) (Vm.Alike.refl U.vm) qx1⟩, va_recv hKc hPc (ci := 10) (q0 := 0) rfl rfl, fun U hU hW => ⟨rfl, by rw [hU], by rw [hU]; exact hPc, va_K.moved hW.alike hKc, hDc.weaken (fun _ _ _ _ => trivial), by rw [hU]; exact ((hZNAMES.kept (fun a h1 h2 => hS.2.1 a h1 h2)).narrow hFc).moved hW.alike, by rw [hU]; exact ((hTNAMES.kept (fun a h1 h2 => hS.2.1 a h1 h2)).narrow hFc).moved hW.alike⟩⟩ rfl rfl hl.1 rfl (lv_room (Nat.le_of_ble_eq_true rfl)) dX10_readChain_16 ⟨Nat.le_of_ble_eq_true rfl, Nat.le_of_ble_eq_true rfl⟩) hS (fun q _ h => hFc q h) hFc (fun r_2 u t H1 locs ht hvm hw hB hz1 hk1 hS => ?_)
  obtain ⟨hP1, hK1, hD1⟩ := hB
  rw [ht] at hP1
  have hK1 := va_K.moved hvm.symm hK1
  obtain ⟨hP, hD⟩ := va_join (wr := []) (w1 := [(h0, .inr (10, [.ref h1, .int 0, .int 0, .ref h2]))]) hP hD [0] [] rfl rfl (by decide) (by decide) hk1 hFc hP1 hD1
  generalize H1 = H at hP hS ⊢
  have hP : va_P (dC, dI) vwCl [(h0, .inr (10, [.ref h1, .int 0, .int 0, .ref h2]))] H := hP
  have hD : va_D A [(h0, .inr (10, [.ref h1, .int 0, .int 0, .ref h2]))] := hD
  obtain rfl := hw
  refine lv_if_ne (tgt := 24) hx hb dX10_readChain_19 (by decide) (fun c => absurd c (by decide)) (fun _ => ?_)
  refine lv_iconst (v := 0) hx hb dX10_readChain_22 (by decide) ?_
  have hP9 := hP.sub (ws' := [(h0, .inr (10, [.ref h1, .int 0, .int 0, .ref h2]))]) [0] rfl
  have hD9 := hD.sub (ws' := [(h0, .inr (10, [.ref h1, .int 0, .int 0, .ref h2]))]) [0] (by decide) rfl
  have hK9 := hK.sub (tys' := []) [] rfl
  exact W.zret (v := 0) hx hb hr rfl (fun t ht hW => ⟨⟨0, (), rfl, rfl, by rw [ht]; exact hP9, va_K.moved hW.alike hK9, hD9⟩, hS.F ht⟩) hS.2.2 dX10_readChain_23
set_option maxHeartbeats 4000000 in
set_option maxRecDepth 100000 in
theorem k_X10_readLine_0 (l : Launch) (dC : Nat → ClassId) (dI : Nat → Nat → Nat) (h0 h1 h2 : Nat) (sz : Nat) (aNAMES : Nat) : Met l yX10_readLine wsX10_readLine ({ frames := 8, cells := 0, slots := 0, locals := 188 }) (va_Pc [.ref h0] (fun U => U.heap.size = sz ∧ va_P (dC, dI) vwCl [(h0, .inr (10, [.ref h1, .int 0, .int 0, .ref h2]))] U.heap ∧ va_K (dC, dI) vwCl [] U ∧ va_D (fun _ => True) [(h0, .inr (10, [.ref h1, .int 0, .int 0, .ref h2]))] ∧ va_Z "KinkStreet$Law" "NAMES" "[C" (.ref aNAMES) (va_A [(h0, .inr (10, [.ref h1, .int 0, .int 0, .ref h2]))] sz) U U.heap ∧ va_T .char aNAMES 8 tb_NAMES (va_A [(h0, .inr (10, [.ref h1, .int 0, .int 0, .ref h2]))] sz) U U.heap)) (va_Qi (fun (r : Int32) (_ : Unit) => r = 0) (fun (_ : Unit) t => va_P (dC, dI) vwCl [(h0, .inr (10, [.ref h1, .int 0, .int 0, .ref h2]))] t.heap ∧ va_K (dC, dI) vwCl [] t ∧ va_D (va_A [(h0, .inr (10, [.ref h1, .int 0, .int 0, .ref h2]))] sz) [(h0, .inr (10, [.ref h1, .int 0, .int 0, .ref h2]))]) (va_A [(h0, .inr (10, [.ref h1, .int 0, .int 0, .ref h2]))] sz)) 0 0 (va_A [(h0, .inr (10, [.ref h1, .int 0, .int 0, .ref h2]))] sz) := by
  refine Met.ofW (cc := cX10_readLine) (maxL := 1) (ret := (some .boolean)) (by decide) rfl ?_
  intro p e s m args below meth c s₁ B hml hv
  obtain ⟨rfl, hsz, hP, hK, hD0, hZNAMES, hTNAMES⟩ := hv
  have hx := B.exec
  have hb := B.bytes
  have hr := B.returns
  have hts := atoms_spec (ws := wsX10_readLine) B.pre
  have hown : s.vm.findClass RX10 = some m.cls := findClass_of_methodNamed B.named
  have hlocks := B.notSynchronized
  subst hsz
  have hD := hD0.self (sz := s.heap.size)
  generalize hAe : va_A [(h0, .inr (10, [.ref h1, .int 0, .int 0, .ref h2]))] s.heap.size = A at hD hZNAMES hTNAMES ⊢
  have hA : ∀ q : Nat, s.heap.size ≤ q → A q := fun q h => by rw [← hAe]; exact Or.inr h
  have hS : va_S A s.heap s.heap [] := va_S.rf
  have hP : va_P (dC, dI) vwCl [(h0, .inr (10, [.ref h1, .int 0, .int 0, .ref h2]))] s.heap := hP
  have hl := lv_entry ([.ref h0]) (n := 1) (Nat.le_of_ble_eq_true rfl)
  rw [lg_entry_eq]
  generalize (lg_sl ([.ref h0]) ++ List.replicate (1 - (lg_sl ([.ref h0])).length) Slot.unset).toArray = ls at hl ⊢
  have hl : lv_has ls 1 [(0, .ref h0)] := hl
  refine lv_aload_n hx hb dX10_readLine_0 rfl (lv_at hl 0 rfl) ?_
  refine lv_iconst (v := 0) hx hb dX10_readLine_1 (by decide) ?_
  refine lv_iconst (v := 0) hx hb dX10_readLine_2 (by decide) ?_
  have hPc := hP.sub (ws' := [(h0, .inr (10, [.ref h1, .int 0, .int 0, .ref h2]))]) [0] rfl
  have hDc := hD.sub (ws' := [(h0, .inr (10, [.ref h1, .int 0, .int 0, .ref h2]))]) [0] (by decide) rfl
  have hKc := hK.sub (tys' := []) [] rfl
  have hFc := va_free (wc := [(h0, .inr (10, [.ref h1, .int 0, .int 0, .ref h2]))]) hD hS hA [0] rfl
  refine va_calli (va_runV (As := [.int 0, .int 0]) (rest := []) ⟨hx, hb, hml, hown, hts⟩ (k_X10_readChain_5 l dC dI h0 h1 h2 s.heap.size aNAMES) (cwV 2 hts gX10_readLine_X10_readChain rfl rfl rfl (by decide +kernel) ⟨Nat.le_of_ble_eq_true rfl, Nat.le_of_ble_eq_true rfl⟩) ⟨fun a U g mk q => by obtain ⟨q0, q1, qP, qK, qD, qx0, qx1⟩ := q; exact ⟨q0, q1, qP, va_K.moved (u := U) (U := U.calling g mk a) (Vm.Alike.refl U.vm) qK, qD, va_Z.moved (u := U) (U := U.calling g mk a) (Vm.Alike.refl U.vm) qx0, va_T.moved (u := U) (U := U.calling g mk a) (Vm.Alike.refl U.vm) qx1⟩, va_recv hKc hPc (ci := 10) (q0 := 0) rfl rfl, fun U hU hW => ⟨rfl, by rw [hU], by rw [hU]; exact hPc, va_K.moved hW.alike hKc, hDc.weaken (fun _ _ _ _ => trivial), by rw [hU]; exact ((hZNAMES.kept (fun a h1 h2 => hS.2.1 a h1 h2)).narrow hFc).moved hW.alike, by rw [hU]; exact ((hTNAMES.kept (fun a h1 h2 => hS.2.1 a h1 h2)).narrow hFc).moved hW.alike⟩⟩ rfl rfl hl.1 rfl (lv_room (Nat.le_of_ble_eq_true rfl)) dX10_readLine_3 ⟨Nat.le_of_ble_eq_true rfl, Nat.le_of_ble_eq_true rfl⟩) hS (fun q _ h => hFc q h) hFc (fun r_1 u t H1 locs ht hvm hw hB hz1 hk1 hS => ?_)
  obtain ⟨hP1, hK1, hD1⟩ := hB
  rw [ht] at hP1
  have hK1 := va_K.moved hvm.symm hK1
  obtain ⟨hP, hD⟩ := va_join (wr := []) (w1 := [(h0, .inr (10, [.ref h1, .int 0, .int 0, .ref h2]))]) hP hD [0] [] rfl rfl (by decide) (by decide) hk1 hFc hP1 hD1
  generalize H1 = H at hP hS ⊢
  have hP : va_P (dC, dI) vwCl [(h0, .inr (10, [.ref h1, .int 0, .int 0, .ref h2]))] H := hP
  have hD : va_D A [(h0, .inr (10, [.ref h1, .int 0, .int 0, .ref h2]))] := hD
  obtain rfl := hw
  refine lv_if_ne (tgt := 11) hx hb dX10_readLine_6 (by decide) (fun c => absurd c (by decide)) (fun _ => ?_)
  refine lv_iconst (v := 0) hx hb dX10_readLine_9 (by decide) ?_
  have hP9 := hP.sub (ws' := [(h0, .inr (10, [.ref h1, .int 0, .int 0, .ref h2]))]) [0] rfl
  have hD9 := hD.sub (ws' := [(h0, .inr (10, [.ref h1, .int 0, .int 0, .ref h2]))]) [0] (by decide) rfl
  have hK9 := hK.sub (tys' := []) [] rfl
  exact W.zret (v := 0) hx hb hr rfl (fun t ht hW => ⟨⟨0, (), rfl, rfl, by rw [ht]; exact hP9, va_K.moved hW.alike hK9, hD9⟩, hS.F ht⟩) hS.2.2 dX10_readLine_10
set_option maxHeartbeats 4000000 in
set_option maxRecDepth 100000 in
theorem k_X10_readInto_0 (l : Launch) (dC : Nat → ClassId) (dI : Nat → Nat → Nat) (h0 h1 h2 h3 h4 h5 : Nat) (sz : Nat) (aNAMES : Nat) : Met l yX10_readInto wsX10_readInto ({ frames := 9, cells := 0, slots := 0, locals := 208 }) (va_Pc [.ref h0, .ref h1] (fun U => U.heap.size = sz ∧ va_P (dC, dI) vwCl [(h0, .inr (10, [.ref h2, .int 0, .int 0, .null])), (h1, .inr (4, [.ref h3, .int 0, .ref h4, .ref h5, .int 0]))] U.heap ∧ va_K (dC, dI) vwCl [] U ∧ va_D (fun _ => True) [(h0, .inr (10, [.ref h2, .int 0, .int 0, .null])), (h1, .inr (4, [.ref h3, .int 0, .ref h4, .ref h5, .int 0]))] ∧ va_Z "KinkStreet$Law" "NAMES" "[C" (.ref aNAMES) (va_A [(h0, .inr (10, [.ref h2, .int 0, .int 0, .null])), (h1, .inr (4, [.ref h3, .int 0, .ref h4, .ref h5, .int 0]))] sz) U U.heap ∧ va_T .char aNAMES 8 tb_NAMES (va_A [(h0, .inr (10, [.ref h2, .int 0, .int 0, .null])), (h1, .inr (4, [.ref h3, .int 0, .ref h4, .ref h5, .int 0]))] sz) U U.heap)) (va_Qi (fun (r : Int32) (_ : Unit) => r = 0) (fun (_ : Unit) t => va_P (dC, dI) vwCl [(h1, .inr (4, [.ref h3, .int 0, .ref h4, .ref h5, .int 0])), (h0, .inr (10, [.ref h2, .int 0, .int 0, .ref h1]))] t.heap ∧ va_K (dC, dI) vwCl [] t ∧ va_D (va_A [(h0, .inr (10, [.ref h2, .int 0, .int 0, .null])), (h1, .inr (4, [.ref h3, .int 0, .ref h4, .ref h5, .int 0]))] sz) [(h1, .inr (4, [.ref h3, .int 0, .ref h4, .ref h5, .int 0])), (h0, .inr (10, [.ref h2, .int 0, .int 0, .ref h1]))]) (va_A [(h0, .inr (10, [.ref h2, .int 0, .int 0, .null])), (h1, .inr (4, [.ref h3, .int 0, .ref h4, .ref h5, .int 0]))] sz)) 0 0 (va_A [(h0, .inr (10, [.ref h2, .int 0, .int 0, .null])), (h1, .inr (4, [.ref h3, .int 0, .ref h4, .ref h5, .int 0]))] sz) := by
  refine Met.ofW (cc := cX10_readInto) (maxL := 3) (ret := (some .int)) (by decide) rfl ?_
  intro p e s m args below meth c s₁ B hml hv
  obtain ⟨rfl, hsz, hP, hK, hD0, hZNAMES, hTNAMES⟩ := hv
  have hx := B.exec
  have hb := B.bytes
  have hr := B.returns
  have hts := atoms_spec (ws := wsX10_readInto) B.pre
  have hown : s.vm.findClass RX10 = some m.cls := findClass_of_methodNamed B.named
  have hlocks := B.notSynchronized
  subst hsz
  have hD := hD0.self (sz := s.heap.size)
  generalize hAe : va_A [(h0, .inr (10, [.ref h2, .int 0, .int 0, .null])), (h1, .inr (4, [.ref h3, .int 0, .ref h4, .ref h5, .int 0]))] s.heap.size = A at hD hZNAMES hTNAMES ⊢
  have hA : ∀ q : Nat, s.heap.size ≤ q → A q := fun q h => by rw [← hAe]; exact Or.inr h
  have hS : va_S A s.heap s.heap [] := va_S.rf
  have hP : va_P (dC, dI) vwCl [(h0, .inr (10, [.ref h2, .int 0, .int 0, .null])), (h1, .inr (4, [.ref h3, .int 0, .ref h4, .ref h5, .int 0]))] s.heap := hP
  have hl := lv_entry ([.ref h0, .ref h1]) (n := 3) (Nat.le_of_ble_eq_true rfl)
  rw [lg_entry_eq]
  generalize (lg_sl ([.ref h0, .ref h1]) ++ List.replicate (3 - (lg_sl ([.ref h0, .ref h1])).length) Slot.unset).toArray = ls at hl ⊢
  have hl : lv_has ls 3 [(0, .ref h0), (1, .ref h1)] := hl
  refine lv_aload_n hx hb dX10_readInto_0 rfl (lv_at hl 0 rfl) ?_
  refine lv_iconst (v := 0) hx hb dX10_readInto_1 (by decide) ?_
  refine va_put (D := (dC, dI)) (ci := 10) (v := .int 0) (ty := .int) (C := RX10) (T := TX10) (N := 4) hx hb hts (fun _ h => List.mem_cons_of_mem _ (List.mem_append_left _ (List.mem_append_right _ h))) tyX10 tyX10_ok nmX10 hown hK hP hD hS 0 rfl rfl 2 (by decide) (hts (.fieldLink RX10 17 "KinkStreet$Tape" "place" "I") (List.mem_of_getElem? (i := 1) rfl)) (fun _ h9 => h9) rfl (by decide +kernel) rfl rfl (Nat.le_of_ble_eq_true rfl) dX10_readInto_2 (fun H locs hP hD hS => ?_)
  have hP : va_P (dC, dI) vwCl [(h0, .inr (10, [.ref h2, .int 0, .int 0, .null])), (h1, .inr (4, [.ref h3, .int 0, .ref h4, .ref h5, .int 0]))] H := hP
  have hD : va_D A [(h0, .inr (10, [.ref h2, .int 0, .int 0, .null])), (h1, .inr (4, [.ref h3, .int 0, .ref h4, .ref h5, .int 0]))] := hD
  refine lv_aload_n hx hb dX10_readInto_5 rfl (lv_at hl 0 rfl) ?_
  refine lv_aload_n hx hb dX10_readInto_6 rfl (lv_at hl 1 rfl) ?_
  refine va_put (D := (dC, dI)) (ci := 10) (v := .ref h1) (ty := (.object "KinkStreet$Law")) (C := RX10) (T := TX10) (N := 4) hx hb hts (fun _ h => List.mem_cons_of_mem _ (List.mem_append_left _ (List.mem_append_right _ h))) tyX10 tyX10_ok nmX10 hown hK hP hD hS 0 rfl rfl 3 (by decide) (hts (.fieldLink RX10 20 "KinkStreet$Tape" "law" "LKinkStreet$Law;") (List.mem_of_getElem? (i := 2) rfl)) (fun _ h9 => h9) rfl (by decide +kernel) rfl rfl (Nat.le_of_ble_eq_true rfl) dX10_readInto_7 (fun H locs hP hD hS => ?_)
  have hP : va_P (dC, dI) vwCl [(h0, .inr (10, [.ref h2, .int 0, .int 0, .ref h1])), (h1, .inr (4, [.ref h3, .int 0, .ref h4, .ref h5, .int 0]))] H := hP
  have hD : va_D A [(h0, .inr (10, [.ref h2, .int 0, .int 0, .ref h1])), (h1, .inr (4, [.ref h3, .int 0, .ref h4, .ref h5, .int 0]))] := hD
  refine lv_aload_n hx hb dX10_readInto_10 rfl (lv_at hl 0 rfl) ?_
  refine va_get (D := (dC, dI)) (ci := 10) (v := .ref h1) (C := RX10) (T := TX10) (N := 4) hx hb hts (fun _ h => List.mem_cons_of_mem _ (List.mem_append_left _ (List.mem_append_right _ h))) hown hK hP 0 rfl rfl 3 (by decide) (hts (.fieldLink RX10 20 "KinkStreet$Tape" "law" "LKinkStreet$Law;") (List.mem_of_getElem? (i := 2) rfl)) (fun _ h9 => h9) rfl dX10_readInto_11 ?_
  have hPc := hP.sub (ws' := [(h1, .inr (4, [.ref h3, .int 0, .ref h4, .ref h5, .int 0]))]) [1] rfl
  have hDc := hD.sub (ws' := [(h1, .inr (4, [.ref h3, .int 0, .ref h4, .ref h5, .int 0]))]) [1] (by decide) rfl
  have hKc := hK.sub (tys' := []) [] rfl
  have hFc := va_free (wc := [(h1, .inr (4, [.ref h3, .int 0, .ref h4, .ref h5, .int 0]))]) hD hS hA [1] rfl
  refine va_callv (va_runV (As := []) (rest := []) ⟨hx, hb, hml, hown, hts⟩ (k_X4_clear_0 l dC dI h1 h3 h4 h5 H.size) (cwV 0 hts gX10_readInto_X4_clear rfl rfl rfl (by decide +kernel) ⟨Nat.le_of_ble_eq_true rfl, Nat.le_of_ble_eq_true rfl⟩) ⟨fun a U g mk q => by obtain ⟨q0, q1, qP, qK, qD⟩ := q; exact ⟨q0, q1, qP, va_K.moved (u := U) (U := U.calling g mk a) (Vm.Alike.refl U.vm) qK, qD⟩, va_recv hKc hPc (ci := 4) (q0 := 0) rfl rfl, fun U hU hW => ⟨rfl, by rw [hU], by rw [hU]; exact hPc, va_K.moved hW.alike hKc, hDc.weaken (fun _ _ _ _ => trivial)⟩⟩ rfl rfl hl.1 rfl (lv_room (Nat.le_of_ble_eq_true rfl)) dX10_readInto_14 ⟨Nat.le_of_ble_eq_true rfl, Nat.le_of_ble_eq_true rfl⟩) hS (fun q _ h => hFc q h) hFc (fun u t H1 locs ht hvm hw hB hz1 hk1 hS => ?_)
  obtain ⟨hP1, hK1, hD1⟩ := hB
  rw [ht] at hP1
  have hK1 := va_K.moved hvm.symm hK1
  obtain ⟨hP, hD⟩ := va_join (wr := [(h0, .inr (10, [.ref h2, .int 0, .int 0, .ref h1]))]) (w1 := [(h1, .inr (4, [.ref h3, .int 0, .ref h4, .ref h5, .int 0]))]) hP hD [1] [0] rfl rfl (by decide) (by decide) hk1 hFc hP1 hD1
  generalize H1 = H at hP hS ⊢
  have hP : va_P (dC, dI) vwCl [(h0, .inr (10, [.ref h2, .int 0, .int 0, .ref h1])), (h1, .inr (4, [.ref h3, .int 0, .ref h4, .ref h5, .int 0]))] H := hP
  have hD : va_D A [(h0, .inr (10, [.ref h2, .int 0, .int 0, .ref h1])), (h1, .inr (4, [.ref h3, .int 0, .ref h4, .ref h5, .int 0]))] := hD
  refine lv_iconst (v := 0) hx hb dX10_readInto_17 (by decide) ?_
  refine lv_istore_n (lv' := [(2, .int 0), (0, .ref h0), (1, .ref h1)]) hx hb dX10_readInto_18 rfl hl (by decide) rfl (fun ls hl => ?_)
  refine lv_iload_n hx hb dX10_readInto_19 rfl (lv_at hl 0 rfl) ?_
  refine lv_aload_n hx hb dX10_readInto_20 rfl (lv_at hl 1 rfl) ?_
  refine va_get (D := (dC, dI)) (ci := 10) (v := .int 0) (C := RX10) (T := TX10) (N := 4) hx hb hts (fun _ h => List.mem_cons_of_mem _ (List.mem_append_left _ (List.mem_append_right _ h))) hown hK hP 0 rfl rfl 1 (by decide) (hts (.fieldLink RX10 13 "KinkStreet$Tape" "size" "I") (List.mem_of_getElem? (i := 3) rfl)) (fun _ h9 => h9) rfl dX10_readInto_21 ?_
  refine lv_icmp_gt (tgt := 79) hx hb dX10_readInto_24 (by decide) (fun c => absurd c (by decide)) (fun _ => ?_)
  refine lv_aload_n hx hb dX10_readInto_27 rfl (lv_at hl 1 rfl) ?_
  have hPc := hP.sub (ws' := [(h0, .inr (10, [.ref h2, .int 0, .int 0, .ref h1]))]) [0] rfl
  have hDc := hD.sub (ws' := [(h0, .inr (10, [.ref h2, .int 0, .int 0, .ref h1]))]) [0] (by decide) rfl
  have hKc := hK.sub (tys' := []) [] rfl
  have hFc := va_free (wc := [(h0, .inr (10, [.ref h2, .int 0, .int 0, .ref h1]))]) hD hS hA [0] rfl
  refine va_calli (va_runV (As := []) (rest := []) ⟨hx, hb, hml, hown, hts⟩ (k_X10_readLine_0 l dC dI h0 h2 h1 H.size aNAMES) (cwV 0 hts gX10_readInto_X10_readLine rfl rfl rfl (by decide +kernel) ⟨Nat.le_of_ble_eq_true rfl, Nat.le_of_ble_eq_true rfl⟩) ⟨fun a U g mk q => by obtain ⟨q0, q1, qP, qK, qD, qx0, qx1⟩ := q; exact ⟨q0, q1, qP, va_K.moved (u := U) (U := U.calling g mk a) (Vm.Alike.refl U.vm) qK, qD, va_Z.moved (u := U) (U := U.calling g mk a) (Vm.Alike.refl U.vm) qx0, va_T.moved (u := U) (U := U.calling g mk a) (Vm.Alike.refl U.vm) qx1⟩, va_recv hKc hPc (ci := 10) (q0 := 0) rfl rfl, fun U hU hW => ⟨rfl, by rw [hU], by rw [hU]; exact hPc, va_K.moved hW.alike hKc, hDc.weaken (fun _ _ _ _ => trivial), by rw [hU]; exact ((hZNAMES.kept (fun a h1 h2 => hS.2.1 a h1 h2)).narrow hFc).moved hW.alike, by rw [hU]; exact ((hTNAMES.kept (fun a h1 h2 => hS.2.1 a h1 h2)).narrow hFc).moved hW.alike⟩⟩ rfl rfl hl.1 rfl (lv_room (Nat.le_of_ble_eq_true rfl)) dX10_readInto_28 ⟨Nat.le_of_ble_eq_true rfl, Nat.le_of_ble_eq_true rfl⟩) hS (fun q _ h => hFc q h) hFc (fun r_2 u t H1 locs ht hvm hw hB hz1 hk1 hS => ?_)
  obtain ⟨hP1, hK1, hD1⟩ := hB
  rw [ht] at hP1
  have hK1 := va_K.moved hvm.symm hK1
  obtain ⟨hP, hD⟩ := va_join (wr := [(h1, .inr (4, [.ref h3, .int 0, .ref h4, .ref h5, .int 0]))]) (w1 := [(h0, .inr (10, [.ref h2, .int 0, .int 0, .ref h1]))]) hP hD [0] [1] rfl rfl (by decide) (by decide) hk1 hFc hP1 hD1
  generalize H1 = H at hP hS ⊢
  have hP : va_P (dC, dI) vwCl [(h1, .inr (4, [.ref h3, .int 0, .ref h4, .ref h5, .int 0])), (h0, .inr (10, [.ref h2, .int 0, .int 0, .ref h1]))] H := hP
  have hD : va_D A [(h1, .inr (4, [.ref h3, .int 0, .ref h4, .ref h5, .int 0])), (h0, .inr (10, [.ref h2, .int 0, .int 0, .ref h1]))] := hD
  obtain rfl := hw
  refine lv_if_ne (tgt := 39) hx hb dX10_readInto_31 (by decide) (fun c => absurd c (by decide)) (fun _ => ?_)
  refine lv_aload_n hx hb dX10_readInto_34 rfl (lv_at hl 1 rfl) ?_
  refine va_get (D := (dC, dI)) (ci := 10) (v := .int 0) (C := RX10) (T := TX10) (N := 4) hx hb hts (fun _ h => List.mem_cons_of_mem _ (List.mem_append_left _ (List.mem_append_right _ h))) hown hK hP 1 rfl rfl 2 (by decide) (hts (.fieldLink RX10 17 "KinkStreet$Tape" "place" "I") (List.mem_of_getElem? (i := 1) rfl)) (fun _ h9 => h9) rfl dX10_readInto_35 ?_
  have hP9 := hP.sub (ws' := [(h1, .inr (4, [.ref h3, .int 0, .ref h4, .ref h5, .int 0])), (h0, .inr (10, [.ref h2, .int 0, .int 0, .ref h1]))]) [0, 1] rfl
  have hD9 := hD.sub (ws' := [(h1, .inr (4, [.ref h3, .int 0, .ref h4, .ref h5, .int 0])), (h0, .inr (10, [.ref h2, .int 0, .int 0, .ref h1]))]) [0, 1] (by decide) rfl
  have hK9 := hK.sub (tys' := []) [] rfl
  exact W.iret (v := 0) hx hb hr (fun t ht hW => ⟨⟨0, (), rfl, rfl, by rw [ht]; exact hP9, va_K.moved hW.alike hK9, hD9⟩, hS.F ht⟩) hS.2.2 dX10_readInto_38
set_option maxHeartbeats 4000000 in
set_option maxRecDepth 100000 in
theorem k_X10_clear_0 (l : Launch) (dC : Nat → ClassId) (dI : Nat → Nat → Nat) (h0 h1 h2 : Nat) (sz : Nat)  : Met l yX10_clear wsX10_clear ({ frames := 0, cells := 0, slots := 0, locals := 0 }) (va_Pc [.ref h0] (fun U => U.heap.size = sz ∧ va_P (dC, dI) vwCl [(h0, .inr (10, [.ref h1, .int 0, .int 0, .ref h2]))] U.heap ∧ va_K (dC, dI) vwCl [] U ∧ va_D (fun _ => True) [(h0, .inr (10, [.ref h1, .int 0, .int 0, .ref h2]))])) (va_Qv (fun (_ : Unit) => True) (fun (_ : Unit) t => va_P (dC, dI) vwCl [(h0, .inr (10, [.ref h1, .int 0, .int 0, .ref h2]))] t.heap ∧ va_K (dC, dI) vwCl [] t ∧ va_D (va_A [(h0, .inr (10, [.ref h1, .int 0, .int 0, .ref h2]))] sz) [(h0, .inr (10, [.ref h1, .int 0, .int 0, .ref h2]))]) (va_A [(h0, .inr (10, [.ref h1, .int 0, .int 0, .ref h2]))] sz)) 0 0 (va_A [(h0, .inr (10, [.ref h1, .int 0, .int 0, .ref h2]))] sz) := by
  refine Met.ofW (cc := cX10_clear) (maxL := 1) (ret := none) (by decide) rfl ?_
  intro p e s m args below meth c s₁ B hml hv
  obtain ⟨rfl, hsz, hP, hK, hD0⟩ := hv
  have hx := B.exec
  have hb := B.bytes
  have hr := B.returns
  have hts := atoms_spec (ws := wsX10_clear) B.pre
  have hown : s.vm.findClass RX10 = some m.cls := findClass_of_methodNamed B.named
  have hlocks := B.notSynchronized
  subst hsz
  have hD := hD0.self (sz := s.heap.size)
  generalize hAe : va_A [(h0, .inr (10, [.ref h1, .int 0, .int 0, .ref h2]))] s.heap.size = A at hD ⊢
  have hA : ∀ q : Nat, s.heap.size ≤ q → A q := fun q h => by rw [← hAe]; exact Or.inr h
  have hS : va_S A s.heap s.heap [] := va_S.rf
  have hP : va_P (dC, dI) vwCl [(h0, .inr (10, [.ref h1, .int 0, .int 0, .ref h2]))] s.heap := hP
  have hl := lv_entry ([.ref h0]) (n := 1) (Nat.le_of_ble_eq_true rfl)
  rw [lg_entry_eq]
  generalize (lg_sl ([.ref h0]) ++ List.replicate (1 - (lg_sl ([.ref h0])).length) Slot.unset).toArray = ls at hl ⊢
  have hl : lv_has ls 1 [(0, .ref h0)] := hl
  refine lv_aload_n hx hb dX10_clear_0 rfl (lv_at hl 0 rfl) ?_
  refine lv_iconst (v := 0) hx hb dX10_clear_1 (by decide) ?_
  refine va_put (D := (dC, dI)) (ci := 10) (v := .int 0) (ty := .int) (C := RX10) (T := TX10) (N := 4) hx hb hts (fun _ h => List.mem_cons_of_mem _ (List.mem_append_right _ h)) tyX10 tyX10_ok nmX10 hown hK hP hD hS 0 rfl rfl 1 (by decide) (hts (.fieldLink RX10 13 "KinkStreet$Tape" "size" "I") (List.mem_of_getElem? (i := 1) rfl)) (fun _ h9 => h9) rfl (by decide +kernel) rfl rfl (Nat.le_of_ble_eq_true rfl) dX10_clear_2 (fun H locs hP hD hS => ?_)
  have hP : va_P (dC, dI) vwCl [(h0, .inr (10, [.ref h1, .int 0, .int 0, .ref h2]))] H := hP
  have hD : va_D A [(h0, .inr (10, [.ref h1, .int 0, .int 0, .ref h2]))] := hD
  have hP9 := hP.sub (ws' := [(h0, .inr (10, [.ref h1, .int 0, .int 0, .ref h2]))]) [0] rfl
  have hD9 := hD.sub (ws' := [(h0, .inr (10, [.ref h1, .int 0, .int 0, .ref h2]))]) [0] (by decide) rfl
  have hK9 := hK.sub (tys' := []) [] rfl
  exact W.vret hx hb hr (fun t ht hW => ⟨⟨(), rfl, trivial, by rw [ht]; exact hP9, va_K.moved hW.alike hK9, hD9⟩, hS.F ht⟩) hS.2.2 dX10_clear_5
set_option maxHeartbeats 4000000 in
set_option maxRecDepth 100000 in
theorem k_X11_law_0 (l : Launch) (dC : Nat → ClassId) (dI : Nat → Nat → Nat) (h0 h1 h2 h3 h4 h5 h6 h7 h8 h9 h10 h11 h12 h13 h14 h15 h16 h17 h18 h19 h20 : Nat) (cOLaw : ClassId) (sz : Nat) (aNAMES : Nat) : Met l yX11_law wsX11_law ({ frames := 10, cells := 0, slots := 0, locals := 230 }) (va_Pc [.ref h0] (fun U => U.heap.size = sz ∧ va_P (dC, dI) vwCl [(h0, .inr (11, [.ref h4, .int 0, .ref h5, .ref h6, .ref h7, .ref h8, .ref h9, .ref h10, .ref h11, .ref h1, .ref h2, .int 0, .ref h12, .ref h13])), (h1, .inr (10, [.ref h14, .int 0, .int 0, .null])), (h2, .inl (cOLaw, 4, .inr (.inr (.inr (.inr (va_up (va_up (va_up (va_up (fun _ => none) (0 : Int32).toNatClampNeg (some h3)) (1 : Int32).toNatClampNeg (some h15)) (2 : Int32).toNatClampNeg (some h16)) (3 : Int32).toNatClampNeg (some h17))))))), (h3, .inr (4, [.ref h18, .int 0, .ref h19, .ref h20, .int 0]))] U.heap ∧ va_K (dC, dI) vwCl [(cOLaw, .object "KinkStreet$Law")] U ∧ va_D (fun _ => True) [(h0, .inr (11, [.ref h4, .int 0, .ref h5, .ref h6, .ref h7, .ref h8, .ref h9, .ref h10, .ref h11, .ref h1, .ref h2, .int 0, .ref h12, .ref h13])), (h1, .inr (10, [.ref h14, .int 0, .int 0, .null])), (h2, .inl (cOLaw, 4, .inr (.inr (.inr (.inr (va_up (va_up (va_up (va_up (fun _ => none) (0 : Int32).toNatClampNeg (some h3)) (1 : Int32).toNatClampNeg (some h15)) (2 : Int32).toNatClampNeg (some h16)) (3 : Int32).toNatClampNeg (some h17))))))), (h3, .inr (4, [.ref h18, .int 0, .ref h19, .ref h20, .int 0]))] ∧ va_Z "KinkStreet$Law" "NAMES" "[C" (.ref aNAMES) (va_A [(h0, .inr (11, [.ref h4, .int 0, .ref h5, .ref h6, .ref h7, .ref h8, .ref h9, .ref h10, .ref h11, .ref h1, .ref h2, .int 0, .ref h12, .ref h13])), (h1, .inr (10, [.ref h14, .int 0, .int 0, .null])), (h2, .inl (cOLaw, 4, .inr (.inr (.inr (.inr (va_up (va_up (va_up (va_up (fun _ => none) (0 : Int32).toNatClampNeg (some h3)) (1 : Int32).toNatClampNeg (some h15)) (2 : Int32).toNatClampNeg (some h16)) (3 : Int32).toNatClampNeg (some h17))))))), (h3, .inr (4, [.ref h18, .int 0, .ref h19, .ref h20, .int 0]))] sz) U U.heap ∧ va_T .char aNAMES 8 tb_NAMES (va_A [(h0, .inr (11, [.ref h4, .int 0, .ref h5, .ref h6, .ref h7, .ref h8, .ref h9, .ref h10, .ref h11, .ref h1, .ref h2, .int 0, .ref h12, .ref h13])), (h1, .inr (10, [.ref h14, .int 0, .int 0, .null])), (h2, .inl (cOLaw, 4, .inr (.inr (.inr (.inr (va_up (va_up (va_up (va_up (fun _ => none) (0 : Int32).toNatClampNeg (some h3)) (1 : Int32).toNatClampNeg (some h15)) (2 : Int32).toNatClampNeg (some h16)) (3 : Int32).toNatClampNeg (some h17))))))), (h3, .inr (4, [.ref h18, .int 0, .ref h19, .ref h20, .int 0]))] sz) U U.heap)) (va_Qi (fun (r : Int32) (_ : Unit) => r = -100) (fun (_ : Unit) t => va_P (dC, dI) vwCl [] t.heap ∧ va_K (dC, dI) vwCl [] t ∧ va_D (va_A [(h0, .inr (11, [.ref h4, .int 0, .ref h5, .ref h6, .ref h7, .ref h8, .ref h9, .ref h10, .ref h11, .ref h1, .ref h2, .int 0, .ref h12, .ref h13])), (h1, .inr (10, [.ref h14, .int 0, .int 0, .null])), (h2, .inl (cOLaw, 4, .inr (.inr (.inr (.inr (va_up (va_up (va_up (va_up (fun _ => none) (0 : Int32).toNatClampNeg (some h3)) (1 : Int32).toNatClampNeg (some h15)) (2 : Int32).toNatClampNeg (some h16)) (3 : Int32).toNatClampNeg (some h17))))))), (h3, .inr (4, [.ref h18, .int 0, .ref h19, .ref h20, .int 0]))] sz) []) (va_A [(h0, .inr (11, [.ref h4, .int 0, .ref h5, .ref h6, .ref h7, .ref h8, .ref h9, .ref h10, .ref h11, .ref h1, .ref h2, .int 0, .ref h12, .ref h13])), (h1, .inr (10, [.ref h14, .int 0, .int 0, .null])), (h2, .inl (cOLaw, 4, .inr (.inr (.inr (.inr (va_up (va_up (va_up (va_up (fun _ => none) (0 : Int32).toNatClampNeg (some h3)) (1 : Int32).toNatClampNeg (some h15)) (2 : Int32).toNatClampNeg (some h16)) (3 : Int32).toNatClampNeg (some h17))))))), (h3, .inr (4, [.ref h18, .int 0, .ref h19, .ref h20, .int 0]))] sz)) 0 0 (va_A [(h0, .inr (11, [.ref h4, .int 0, .ref h5, .ref h6, .ref h7, .ref h8, .ref h9, .ref h10, .ref h11, .ref h1, .ref h2, .int 0, .ref h12, .ref h13])), (h1, .inr (10, [.ref h14, .int 0, .int 0, .null])), (h2, .inl (cOLaw, 4, .inr (.inr (.inr (.inr (va_up (va_up (va_up (va_up (fun _ => none) (0 : Int32).toNatClampNeg (some h3)) (1 : Int32).toNatClampNeg (some h15)) (2 : Int32).toNatClampNeg (some h16)) (3 : Int32).toNatClampNeg (some h17))))))), (h3, .inr (4, [.ref h18, .int 0, .ref h19, .ref h20, .int 0]))] sz) := by
  refine Met.ofW (cc := cX11_law) (maxL := 2) (ret := (some .int)) (by decide) rfl ?_
  intro p e s m args below meth c s₁ B hml hv
  obtain ⟨rfl, hsz, hP, hK, hD0, hZNAMES, hTNAMES⟩ := hv
  have hx := B.exec
  have hb := B.bytes
  have hr := B.returns
  have hts := atoms_spec (ws := wsX11_law) B.pre
  have hown : s.vm.findClass RX11 = some m.cls := findClass_of_methodNamed B.named
  have hlocks := B.notSynchronized
  subst hsz
  have hD := hD0.self (sz := s.heap.size)
  generalize hAe : va_A [(h0, .inr (11, [.ref h4, .int 0, .ref h5, .ref h6, .ref h7, .ref h8, .ref h9, .ref h10, .ref h11, .ref h1, .ref h2, .int 0, .ref h12, .ref h13])), (h1, .inr (10, [.ref h14, .int 0, .int 0, .null])), (h2, .inl (cOLaw, 4, .inr (.inr (.inr (.inr (va_up (va_up (va_up (va_up (fun _ => none) (0 : Int32).toNatClampNeg (some h3)) (1 : Int32).toNatClampNeg (some h15)) (2 : Int32).toNatClampNeg (some h16)) (3 : Int32).toNatClampNeg (some h17))))))), (h3, .inr (4, [.ref h18, .int 0, .ref h19, .ref h20, .int 0]))] s.heap.size = A at hD hZNAMES hTNAMES ⊢
  have hA : ∀ q : Nat, s.heap.size ≤ q → A q := fun q h => by rw [← hAe]; exact Or.inr h
  have hS : va_S A s.heap s.heap [] := va_S.rf
  have hP : va_P (dC, dI) vwCl [(h0, .inr (11, [.ref h4, .int 0, .ref h5, .ref h6, .ref h7, .ref h8, .ref h9, .ref h10, .ref h11, .ref h1, .ref h2, .int 0, .ref h12, .ref h13])), (h1, .inr (10, [.ref h14, .int 0, .int 0, .null])), (h2, .inl (cOLaw, 4, .inr (.inr (.inr (.inr (va_up (va_up (va_up (va_up (fun _ => none) (0 : Int32).toNatClampNeg (some h3)) (1 : Int32).toNatClampNeg (some h15)) (2 : Int32).toNatClampNeg (some h16)) (3 : Int32).toNatClampNeg (some h17))))))), (h3, .inr (4, [.ref h18, .int 0, .ref h19, .ref h20, .int 0]))] s.heap := hP
  have hl := lv_entry ([.ref h0]) (n := 2) (Nat.le_of_ble_eq_true rfl)
  rw [lg_entry_eq]
  generalize (lg_sl ([.ref h0]) ++ List.replicate (2 - (lg_sl ([.ref h0])).length) Slot.unset).toArray = ls at hl ⊢
  have hl : lv_has ls 2 [(0, .ref h0)] := hl
  refine lv_aload_n hx hb dX11_law_0 rfl (lv_at hl 0 rfl) ?_
  refine va_get (D := (dC, dI)) (ci := 11) (v := .int 0) (C := RX11) (T := TX11) (N := 14) hx hb hts (fun _ h => List.mem_cons_of_mem _ (List.mem_append_left _ (List.mem_append_left _ (List.mem_append_right _ h)))) hown hK hP 0 rfl rfl 11 (by decide) (hts (.fieldLink RX11 259 "KinkStreet" "lawCount" "I") (List.mem_of_getElem? (i := 1) rfl)) (fun _ h9 => h9) rfl dX11_law_1 ?_
  refine lv_aload_n hx hb dX11_law_4 rfl (lv_at hl 0 rfl) ?_
  refine va_get (D := (dC, dI)) (ci := 11) (v := .ref h2) (C := RX11) (T := TX11) (N := 14) hx hb hts (fun _ h => List.mem_cons_of_mem _ (List.mem_append_left _ (List.mem_append_left _ (List.mem_append_right _ h)))) hown hK hP 0 rfl rfl 10 (by decide) (hts (.fieldLink RX11 71 "KinkStreet" "laws" "[LKinkStreet$Law;") (List.mem_of_getElem? (i := 2) rfl)) (fun _ h9 => h9) rfl dX11_law_5 ?_
  refine va_alen (v := 4) hx hb hK hP 2 0 rfl rfl rfl dX11_law_8 ?_
  refine lv_icmp_lt (tgt := 15) hx hb dX11_law_9 (by decide) (fun _ => ?_) (fun c => absurd c (by decide))
  refine lv_aload_n hx hb dX11_law_15 rfl (lv_at hl 0 rfl) ?_
  refine va_get (D := (dC, dI)) (ci := 11) (v := .ref h1) (C := RX11) (T := TX11) (N := 14) hx hb hts (fun _ h => List.mem_cons_of_mem _ (List.mem_append_left _ (List.mem_append_left _ (List.mem_append_right _ h)))) hown hK hP 0 rfl rfl 9 (by decide) (hts (.fieldLink RX11 65 "KinkStreet" "tape" "LKinkStreet$Tape;") (List.mem_of_getElem? (i := 3) rfl)) (fun _ h9 => h9) rfl dX11_law_16 ?_
  refine lv_aload_n hx hb dX11_law_19 rfl (lv_at hl 0 rfl) ?_
  refine va_get (D := (dC, dI)) (ci := 11) (v := .ref h2) (C := RX11) (T := TX11) (N := 14) hx hb hts (fun _ h => List.mem_cons_of_mem _ (List.mem_append_left _ (List.mem_append_left _ (List.mem_append_right _ h)))) hown hK hP 0 rfl rfl 10 (by decide) (hts (.fieldLink RX11 71 "KinkStreet" "laws" "[LKinkStreet$Law;") (List.mem_of_getElem? (i := 2) rfl)) (fun _ h9 => h9) rfl dX11_law_20 ?_
  refine lv_aload_n hx hb dX11_law_23 rfl (lv_at hl 0 rfl) ?_
  refine va_get (D := (dC, dI)) (ci := 11) (v := .int 0) (C := RX11) (T := TX11) (N := 14) hx hb hts (fun _ h => List.mem_cons_of_mem _ (List.mem_append_left _ (List.mem_append_left _ (List.mem_append_right _ h)))) hown hK hP 0 rfl rfl 11 (by decide) (hts (.fieldLink RX11 259 "KinkStreet" "lawCount" "I") (List.mem_of_getElem? (i := 1) rfl)) (fun _ h9 => h9) rfl dX11_law_24 ?_
  refine va_aldq hx hb hK hP 2 0 rfl rfl (by unfold vp_in; decide) dX11_law_27 ?_
  refine W.eq (g2 := F0 m 28 ls [.ref h3, .ref h1]) rfl ?_
  have hPc := hP.sub (ws' := [(h1, .inr (10, [.ref h14, .int 0, .int 0, .null])), (h3, .inr (4, [.ref h18, .int 0, .ref h19, .ref h20, .int 0]))]) [1, 3] rfl
  have hDc := hD.sub (ws' := [(h1, .inr (10, [.ref h14, .int 0, .int 0, .null])), (h3, .inr (4, [.ref h18, .int 0, .ref h19, .ref h20, .int 0]))]) [1, 3] (by decide) rfl
  have hKc := hK.sub (tys' := []) [] rfl
  have hFc := va_free (wc := [(h1, .inr (10, [.ref h14, .int 0, .int 0, .null])), (h3, .inr (4, [.ref h18, .int 0, .ref h19, .ref h20, .int 0]))]) hD hS hA [1, 3] rfl
  refine va_calli (va_runV (As := [.ref h3]) (rest := []) ⟨hx, hb, hml, hown, hts⟩ (k_X10_readInto_0 l dC dI h1 h3 h14 h18 h19 h20 s.heap.size aNAMES) (cwV 1 hts gX11_law_X10_readInto rfl rfl rfl (by decide +kernel) ⟨Nat.le_of_ble_eq_true rfl, Nat.le_of_ble_eq_true rfl⟩) ⟨fun a U g mk q => by obtain ⟨q0, q1, qP, qK, qD, qx0, qx1⟩ := q; exact ⟨q0, q1, qP, va_K.moved (u := U) (U := U.calling g mk a) (Vm.Alike.refl U.vm) qK, qD, va_Z.moved (u := U) (U := U.calling g mk a) (Vm.Alike.refl U.vm) qx0, va_T.moved (u := U) (U := U.calling g mk a) (Vm.Alike.refl U.vm) qx1⟩, va_recv hKc hPc (ci := 10) (q0 := 0) rfl rfl, fun U hU hW => ⟨rfl, by rw [hU], by rw [hU]; exact hPc, va_K.moved hW.alike hKc, hDc.weaken (fun _ _ _ _ => trivial), by rw [hU]; exact ((hZNAMES.kept (fun a h1 h2 => hS.2.1 a h1 h2)).narrow hFc).moved hW.alike, by rw [hU]; exact ((hTNAMES.kept (fun a h1 h2 => hS.2.1 a h1 h2)).narrow hFc).moved hW.alike⟩⟩ rfl rfl hl.1 rfl (lv_room (Nat.le_of_ble_eq_true rfl)) dX11_law_28 ⟨Nat.le_of_ble_eq_true rfl, Nat.le_of_ble_eq_true rfl⟩) hS (fun q _ h => hFc q h) hFc (fun r_1 u t H1 locs ht hvm hw hB hz1 hk1 hS => ?_)
  obtain ⟨hP1, hK1, hD1⟩ := hB
  rw [ht] at hP1
  have hK1 := va_K.moved hvm.symm hK1
  obtain ⟨hP, hD⟩ := va_join (wr := [(h0, .inr (11, [.ref h4, .int 0, .ref h5, .ref h6, .ref h7, .ref h8, .ref h9, .ref h10, .ref h11, .ref h1, .ref h2, .int 0, .ref h12, .ref h13])), (h2, .inl (cOLaw, 4, .inr (.inr (.inr (.inr (va_up (va_up (va_up (va_up (fun _ => none) (0 : Int32).toNatClampNeg (some h3)) (1 : Int32).toNatClampNeg (some h15)) (2 : Int32).toNatClampNeg (some h16)) (3 : Int32).toNatClampNeg (some h17)))))))]) (w1 := [(h3, .inr (4, [.ref h18, .int 0, .ref h19, .ref h20, .int 0])), (h1, .inr (10, [.ref h14, .int 0, .int 0, .ref h3]))]) hP hD [1, 3] [0, 2] rfl rfl (by decide) (by decide) hk1 hFc hP1 hD1
  generalize H1 = H at hP hS ⊢
  have hP : va_P (dC, dI) vwCl [(h0, .inr (11, [.ref h4, .int 0, .ref h5, .ref h6, .ref h7, .ref h8, .ref h9, .ref h10, .ref h11, .ref h1, .ref h2, .int 0, .ref h12, .ref h13])), (h2, .inl (cOLaw, 4, .inr (.inr (.inr (.inr (va_up (va_up (va_up (va_up (fun _ => none) (0 : Int32).toNatClampNeg (some h3)) (1 : Int32).toNatClampNeg (some h15)) (2 : Int32).toNatClampNeg (some h16)) (3 : Int32).toNatClampNeg (some h17))))))), (h3, .inr (4, [.ref h18, .int 0, .ref h19, .ref h20, .int 0])), (h1, .inr (10, [.ref h14, .int 0, .int 0, .ref h3]))] H := hP
  have hD : va_D A [(h0, .inr (11, [.ref h4, .int 0, .ref h5, .ref h6, .ref h7, .ref h8, .ref h9, .ref h10, .ref h11, .ref h1, .ref h2, .int 0, .ref h12, .ref h13])), (h2, .inl (cOLaw, 4, .inr (.inr (.inr (.inr (va_up (va_up (va_up (va_up (fun _ => none) (0 : Int32).toNatClampNeg (some h3)) (1 : Int32).toNatClampNeg (some h15)) (2 : Int32).toNatClampNeg (some h16)) (3 : Int32).toNatClampNeg (some h17))))))), (h3, .inr (4, [.ref h18, .int 0, .ref h19, .ref h20, .int 0])), (h1, .inr (10, [.ref h14, .int 0, .int 0, .ref h3]))] := hD
  obtain rfl := hw
  refine lv_istore_n (lv' := [(1, .int 0), (0, .ref h0)]) hx hb dX11_law_31 rfl hl (by decide) rfl (fun ls hl => ?_)
  refine lv_aload_n hx hb dX11_law_32 rfl (lv_at hl 1 rfl) ?_
  refine va_get (D := (dC, dI)) (ci := 11) (v := .ref h1) (C := RX11) (T := TX11) (N := 14) hx hb hts (fun _ h => List.mem_cons_of_mem _ (List.mem_append_left _ (List.mem_append_left _ (List.mem_append_right _ h)))) hown hK hP 0 rfl rfl 9 (by decide) (hts (.fieldLink RX11 65 "KinkStreet" "tape" "LKinkStreet$Tape;") (List.mem_of_getElem? (i := 3) rfl)) (fun _ h9 => h9) rfl dX11_law_33 ?_
  have hPc := hP.sub (ws' := [(h1, .inr (10, [.ref h14, .int 0, .int 0, .ref h3]))]) [3] rfl
  have hDc := hD.sub (ws' := [(h1, .inr (10, [.ref h14, .int 0, .int 0, .ref h3]))]) [3] (by decide) rfl
  have hKc := hK.sub (tys' := []) [] rfl
  have hFc := va_free (wc := [(h1, .inr (10, [.ref h14, .int 0, .int 0, .ref h3]))]) hD hS hA [3] rfl
  refine va_callv (va_runV (As := []) (rest := []) ⟨hx, hb, hml, hown, hts⟩ (k_X10_clear_0 l dC dI h1 h14 h3 H.size) (cwV 0 hts gX11_law_X10_clear rfl rfl rfl (by decide +kernel) ⟨Nat.le_of_ble_eq_true rfl, Nat.le_of_ble_eq_true rfl⟩) ⟨fun a U g mk q => by obtain ⟨q0, q1, qP, qK, qD⟩ := q; exact ⟨q0, q1, qP, va_K.moved (u := U) (U := U.calling g mk a) (Vm.Alike.refl U.vm) qK, qD⟩, va_recv hKc hPc (ci := 10) (q0 := 0) rfl rfl, fun U hU hW => ⟨rfl, by rw [hU], by rw [hU]; exact hPc, va_K.moved hW.alike hKc, hDc.weaken (fun _ _ _ _ => trivial)⟩⟩ rfl rfl hl.1 rfl (lv_room (Nat.le_of_ble_eq_true rfl)) dX11_law_36 ⟨Nat.le_of_ble_eq_true rfl, Nat.le_of_ble_eq_true rfl⟩) hS (fun q _ h => hFc q h) hFc (fun u t H1 locs ht hvm hw hB hz1 hk1 hS => ?_)
  obtain ⟨hP1, hK1, hD1⟩ := hB
  rw [ht] at hP1
  have hK1 := va_K.moved hvm.symm hK1
  obtain ⟨hP, hD⟩ := va_join (wr := [(h0, .inr (11, [.ref h4, .int 0, .ref h5, .ref h6, .ref h7, .ref h8, .ref h9, .ref h10, .ref h11, .ref h1, .ref h2, .int 0, .ref h12, .ref h13])), (h2, .inl (cOLaw, 4, .inr (.inr (.inr (.inr (va_up (va_up (va_up (va_up (fun _ => none) (0 : Int32).toNatClampNeg (some h3)) (1 : Int32).toNatClampNeg (some h15)) (2 : Int32).toNatClampNeg (some h16)) (3 : Int32).toNatClampNeg (some h17))))))), (h3, .inr (4, [.ref h18, .int 0, .ref h19, .ref h20, .int 0]))]) (w1 := [(h1, .inr (10, [.ref h14, .int 0, .int 0, .ref h3]))]) hP hD [3] [0, 1, 2] rfl rfl (by decide) (by decide) hk1 hFc hP1 hD1
  generalize H1 = H at hP hS ⊢
  have hP : va_P (dC, dI) vwCl [(h0, .inr (11, [.ref h4, .int 0, .ref h5, .ref h6, .ref h7, .ref h8, .ref h9, .ref h10, .ref h11, .ref h1, .ref h2, .int 0, .ref h12, .ref h13])), (h2, .inl (cOLaw, 4, .inr (.inr (.inr (.inr (va_up (va_up (va_up (va_up (fun _ => none) (0 : Int32).toNatClampNeg (some h3)) (1 : Int32).toNatClampNeg (some h15)) (2 : Int32).toNatClampNeg (some h16)) (3 : Int32).toNatClampNeg (some h17))))))), (h3, .inr (4, [.ref h18, .int 0, .ref h19, .ref h20, .int 0])), (h1, .inr (10, [.ref h14, .int 0, .int 0, .ref h3]))] H := hP
  have hD : va_D A [(h0, .inr (11, [.ref h4, .int 0, .ref h5, .ref h6, .ref h7, .ref h8, .ref h9, .ref h10, .ref h11, .ref h1, .ref h2, .int 0, .ref h12, .ref h13])), (h2, .inl (cOLaw, 4, .inr (.inr (.inr (.inr (va_up (va_up (va_up (va_up (fun _ => none) (0 : Int32).toNatClampNeg (some h3)) (1 : Int32).toNatClampNeg (some h15)) (2 : Int32).toNatClampNeg (some h16)) (3 : Int32).toNatClampNeg (some h17))))))), (h3, .inr (4, [.ref h18, .int 0, .ref h19, .ref h20, .int 0])), (h1, .inr (10, [.ref h14, .int 0, .int 0, .ref h3]))] := hD
  refine lv_iload_n hx hb dX11_law_39 rfl (lv_at hl 0 rfl) ?_
  refine lv_iconst (v := (-1)) hx hb dX11_law_40 (by decide) ?_
  refine lv_icmp_ne (tgt := 58) hx hb dX11_law_41 (by decide) (fun _ => ?_) (fun c => absurd c (by decide))
  refine lv_bipush (v := (-100)) hx hb dX11_law_58 (by decide) ?_
  refine lv_iload_n hx hb dX11_law_60 rfl (lv_at hl 0 rfl) ?_
  refine lv_isub hx hb dX11_law_61 ?_
  refine lv_topi (fun y_3 e_3 => ?_)
  obtain rfl : y_3 = (-100) := e_3.trans (by decide)
  have hP9 := hP.sub (ws' := []) [] rfl
  have hD9 := hD.sub (ws' := []) [] (by decide) rfl
  have hK9 := hK.sub (tys' := []) [] rfl
  exact W.iret (v := (-100)) hx hb hr (fun t ht hW => ⟨⟨(-100), (), rfl, by first | rfl | ((repeat' split) <;> first | rfl | (exfalso; omega) | (exact Int32.toInt_inj.mp (by show ((-100) : Int) = _; omega))), by rw [ht]; exact hP9, va_K.moved hW.alike hK9, hD9⟩, hS.F ht⟩) hS.2.2 dX11_law_62
set_option maxHeartbeats 4000000 in
set_option maxRecDepth 100000 in
theorem k_X11_knownLaw_0 (l : Launch) (dC : Nat → ClassId) (dI : Nat → Nat → Nat) (h0 h1 h2 h3 h4 h5 h6 h7 h8 h9 h10 h11 h12 : Nat) (sz : Nat) (p0 : Int32) : Met l yX11_knownLaw wsX11_knownLaw ({ frames := 0, cells := 0, slots := 0, locals := 0 }) (va_Pc [.ref h0, .int p0] (fun U => U.heap.size = sz ∧ va_P (dC, dI) vwCl [(h0, .inr (11, [.ref h1, .int 0, .ref h2, .ref h3, .ref h4, .ref h5, .ref h6, .ref h7, .ref h8, .ref h9, .ref h10, .int 0, .ref h11, .ref h12]))] U.heap ∧ va_K (dC, dI) vwCl [] U ∧ va_D (fun _ => True) [(h0, .inr (11, [.ref h1, .int 0, .ref h2, .ref h3, .ref h4, .ref h5, .ref h6, .ref h7, .ref h8, .ref h9, .ref h10, .int 0, .ref h11, .ref h12]))])) (va_Qq (fun (r : Option Nat) (_ : Unit) => r = none) (fun (_ : Unit) t => va_P (dC, dI) vwCl [(h0, .inr (11, [.ref h1, .int 0, .ref h2, .ref h3, .ref h4, .ref h5, .ref h6, .ref h7, .ref h8, .ref h9, .ref h10, .int 0, .ref h11, .ref h12]))] t.heap ∧ va_K (dC, dI) vwCl [] t ∧ va_D (va_A [(h0, .inr (11, [.ref h1, .int 0, .ref h2, .ref h3, .ref h4, .ref h5, .ref h6, .ref h7, .ref h8, .ref h9, .ref h10, .int 0, .ref h11, .ref h12]))] sz) [(h0, .inr (11, [.ref h1, .int 0, .ref h2, .ref h3, .ref h4, .ref h5, .ref h6, .ref h7, .ref h8, .ref h9, .ref h10, .int 0, .ref h11, .ref h12]))]) (va_A [(h0, .inr (11, [.ref h1, .int 0, .ref h2, .ref h3, .ref h4, .ref h5, .ref h6, .ref h7, .ref h8, .ref h9, .ref h10, .int 0, .ref h11, .ref h12]))] sz)) 0 0 (va_A [(h0, .inr (11, [.ref h1, .int 0, .ref h2, .ref h3, .ref h4, .ref h5, .ref h6, .ref h7, .ref h8, .ref h9, .ref h10, .int 0, .ref h11, .ref h12]))] sz) := by
  refine Met.ofW (cc := cX11_knownLaw) (maxL := 2) (ret := (some (.object "KinkStreet$Law"))) (by decide) rfl ?_
  intro p e s m args below meth c s₁ B hml hv
  obtain ⟨rfl, hsz, hP, hK, hD0⟩ := hv
  have hx := B.exec
  have hb := B.bytes
  have hr := B.returns
  have hts := atoms_spec (ws := wsX11_knownLaw) B.pre
  have hown : s.vm.findClass RX11 = some m.cls := findClass_of_methodNamed B.named
  have hlocks := B.notSynchronized
  subst hsz
  have hD := hD0.self (sz := s.heap.size)
  generalize hAe : va_A [(h0, .inr (11, [.ref h1, .int 0, .ref h2, .ref h3, .ref h4, .ref h5, .ref h6, .ref h7, .ref h8, .ref h9, .ref h10, .int 0, .ref h11, .ref h12]))] s.heap.size = A at hD ⊢
  have hA : ∀ q : Nat, s.heap.size ≤ q → A q := fun q h => by rw [← hAe]; exact Or.inr h
  have hS : va_S A s.heap s.heap [] := va_S.rf
  have hP : va_P (dC, dI) vwCl [(h0, .inr (11, [.ref h1, .int 0, .ref h2, .ref h3, .ref h4, .ref h5, .ref h6, .ref h7, .ref h8, .ref h9, .ref h10, .int 0, .ref h11, .ref h12]))] s.heap := hP
  have hl := lv_entry ([.ref h0, .int p0]) (n := 2) (Nat.le_of_ble_eq_true rfl)
  rw [lg_entry_eq]
  generalize (lg_sl ([.ref h0, .int p0]) ++ List.replicate (2 - (lg_sl ([.ref h0, .int p0])).length) Slot.unset).toArray = ls at hl ⊢
  have hl : lv_has ls 2 [(0, .ref h0), (1, .int p0)] := hl
  refine lv_iload_n hx hb dX11_knownLaw_0 rfl (lv_at hl 1 rfl) ?_
  refine lv_if_lt (tgt := 30) hx hb dX11_knownLaw_1 (by decide) (fun c_1 => ?_) (fun c_1 => ?_)
  · have t_1 : p0.toInt < 0 := kk_lt c_1
    refine lv_null hx hb dX11_knownLaw_30 ?_
    have hP9 := hP.sub (ws' := [(h0, .inr (11, [.ref h1, .int 0, .ref h2, .ref h3, .ref h4, .ref h5, .ref h6, .ref h7, .ref h8, .ref h9, .ref h10, .int 0, .ref h11, .ref h12]))]) [0] rfl
    have hD9 := hD.sub (ws' := [(h0, .inr (11, [.ref h1, .int 0, .ref h2, .ref h3, .ref h4, .ref h5, .ref h6, .ref h7, .ref h8, .ref h9, .ref h10, .int 0, .ref h11, .ref h12]))]) [0] (by decide) rfl
    have hK9 := hK.sub (tys' := []) [] rfl
    exact W.aret (v := .null) hx hb hr (Or.inl ⟨_, rfl⟩) (Or.inl rfl) (fun t ht hW => ⟨⟨none, (), rfl, rfl, by rw [ht]; exact hP9, va_K.moved hW.alike hK9, hD9⟩, hS.F ht⟩) hS.2.2 dX11_knownLaw_31
  · have t_1 : 0 ≤ p0.toInt := kk_nlt c_1
    refine lv_iload_n hx hb dX11_knownLaw_4 rfl (lv_at hl 1 rfl) ?_
    refine lv_aload_n hx hb dX11_knownLaw_5 rfl (lv_at hl 0 rfl) ?_
    refine va_get (D := (dC, dI)) (ci := 11) (v := .int 0) (C := RX11) (T := TX11) (N := 14) hx hb hts (fun _ h => List.mem_cons_of_mem _ (List.mem_append_right _ h)) hown hK hP 0 rfl rfl 11 (by decide) (hts (.fieldLink RX11 259 "KinkStreet" "lawCount" "I") (List.mem_of_getElem? (i := 1) rfl)) (fun _ h9 => h9) rfl dX11_knownLaw_6 ?_
    refine lv_icmp_ge (tgt := 30) hx hb dX11_knownLaw_9 (by decide) (fun c_2 => ?_) (fun c_2 => ?_)
    · have t_2 : 0 ≤ p0.toInt := kk_le c_2
      refine lv_null hx hb dX11_knownLaw_30 ?_
      have hP9 := hP.sub (ws' := [(h0, .inr (11, [.ref h1, .int 0, .ref h2, .ref h3, .ref h4, .ref h5, .ref h6, .ref h7, .ref h8, .ref h9, .ref h10, .int 0, .ref h11, .ref h12]))]) [0] rfl
      have hD9 := hD.sub (ws' := [(h0, .inr (11, [.ref h1, .int 0, .ref h2, .ref h3, .ref h4, .ref h5, .ref h6, .ref h7, .ref h8, .ref h9, .ref h10, .int 0, .ref h11, .ref h12]))]) [0] (by decide) rfl
      have hK9 := hK.sub (tys' := []) [] rfl
      exact W.aret (v := .null) hx hb hr (Or.inl ⟨_, rfl⟩) (Or.inl rfl) (fun t ht hW => ⟨⟨none, (), rfl, rfl, by rw [ht]; exact hP9, va_K.moved hW.alike hK9, hD9⟩, hS.F ht⟩) hS.2.2 dX11_knownLaw_31
    · have t_2 : p0.toInt < 0 := kk_nle c_2
      exfalso; omega
set_option maxHeartbeats 4000000 in
set_option maxRecDepth 100000 in
theorem k_X11_town_0 (l : Launch) (dC : Nat → ClassId) (dI : Nat → Nat → Nat) (h0 h1 h2 h3 h4 h5 h6 h7 h8 h9 h10 h11 h12 : Nat) (sz : Nat) (p0 : Int32) (p1 : Int32) (p2 : Int32) : Met l yX11_town wsX11_town ({ frames := 1, cells := 0, slots := 0, locals := 21 }) (va_Pc [.ref h0, .int p0, .int p1, .int p2] (fun U => U.heap.size = sz ∧ va_P (dC, dI) vwCl [(h0, .inr (11, [.ref h1, .int 0, .ref h2, .ref h3, .ref h4, .ref h5, .ref h6, .ref h7, .ref h8, .ref h9, .ref h10, .int 0, .ref h11, .ref h12]))] U.heap ∧ va_K (dC, dI) vwCl [] U ∧ va_D (fun _ => True) [(h0, .inr (11, [.ref h1, .int 0, .ref h2, .ref h3, .ref h4, .ref h5, .ref h6, .ref h7, .ref h8, .ref h9, .ref h10, .int 0, .ref h11, .ref h12]))])) (va_Qi (fun (r : Int32) (_ : Unit) => r = -1) (fun (_ : Unit) t => va_P (dC, dI) vwCl [] t.heap ∧ va_K (dC, dI) vwCl [] t ∧ va_D (va_A [(h0, .inr (11, [.ref h1, .int 0, .ref h2, .ref h3, .ref h4, .ref h5, .ref h6, .ref h7, .ref h8, .ref h9, .ref h10, .int 0, .ref h11, .ref h12]))] sz) []) (va_A [(h0, .inr (11, [.ref h1, .int 0, .ref h2, .ref h3, .ref h4, .ref h5, .ref h6, .ref h7, .ref h8, .ref h9, .ref h10, .int 0, .ref h11, .ref h12]))] sz)) 0 0 (va_A [(h0, .inr (11, [.ref h1, .int 0, .ref h2, .ref h3, .ref h4, .ref h5, .ref h6, .ref h7, .ref h8, .ref h9, .ref h10, .int 0, .ref h11, .ref h12]))] sz) := by
  refine Met.ofW (cc := cX11_town) (maxL := 5) (ret := (some .int)) (by decide) rfl ?_
  intro p e s m args below meth c s₁ B hml hv
  obtain ⟨rfl, hsz, hP, hK, hD0⟩ := hv
  have hx := B.exec
  have hb := B.bytes
  have hr := B.returns
  have hts := atoms_spec (ws := wsX11_town) B.pre
  have hown : s.vm.findClass RX11 = some m.cls := findClass_of_methodNamed B.named
  have hlocks := B.notSynchronized
  subst hsz
  have hD := hD0.self (sz := s.heap.size)
  generalize hAe : va_A [(h0, .inr (11, [.ref h1, .int 0, .ref h2, .ref h3, .ref h4, .ref h5, .ref h6, .ref h7, .ref h8, .ref h9, .ref h10, .int 0, .ref h11, .ref h12]))] s.heap.size = A at hD ⊢
  have hA : ∀ q : Nat, s.heap.size ≤ q → A q := fun q h => by rw [← hAe]; exact Or.inr h
  have hS : va_S A s.heap s.heap [] := va_S.rf
  have hP : va_P (dC, dI) vwCl [(h0, .inr (11, [.ref h1, .int 0, .ref h2, .ref h3, .ref h4, .ref h5, .ref h6, .ref h7, .ref h8, .ref h9, .ref h10, .int 0, .ref h11, .ref h12]))] s.heap := hP
  have hl := lv_entry ([.ref h0, .int p0, .int p1, .int p2]) (n := 5) (Nat.le_of_ble_eq_true rfl)
  rw [lg_entry_eq]
  generalize (lg_sl ([.ref h0, .int p0, .int p1, .int p2]) ++ List.replicate (5 - (lg_sl ([.ref h0, .int p0, .int p1, .int p2])).length) Slot.unset).toArray = ls at hl ⊢
  have hl : lv_has ls 5 [(0, .ref h0), (1, .int p0), (2, .int p1), (3, .int p2)] := hl
  refine lv_iload_n hx hb dX11_town_0 rfl (lv_at hl 2 rfl) ?_
  refine lv_if_ge (tgt := 8) hx hb dX11_town_1 (by decide) (fun c_1 => ?_) (fun c_1 => ?_)
  · have t_1 : 0 ≤ p1.toInt := kk_le c_1
    refine lv_aload_n hx hb dX11_town_8 rfl (lv_at hl 0 rfl) ?_
    refine lv_iload_n hx hb dX11_town_9 rfl (lv_at hl 2 rfl) ?_
    refine lv_bipush (v := 100) hx hb dX11_town_10 (by decide) ?_
    refine lv_idiv hx hb dX11_town_12 (by decide) ?_
    have hPc := hP.sub (ws' := [(h0, .inr (11, [.ref h1, .int 0, .ref h2, .ref h3, .ref h4, .ref h5, .ref h6, .ref h7, .ref h8, .ref h9, .ref h10, .int 0, .ref h11, .ref h12]))]) [0] rfl
    have hDc := hD.sub (ws' := [(h0, .inr (11, [.ref h1, .int 0, .ref h2, .ref h3, .ref h4, .ref h5, .ref h6, .ref h7, .ref h8, .ref h9, .ref h10, .int 0, .ref h11, .ref h12]))]) [0] (by decide) rfl
    have hKc := hK.sub (tys' := []) [] rfl
    have hFc := va_free (wc := [(h0, .inr (11, [.ref h1, .int 0, .ref h2, .ref h3, .ref h4, .ref h5, .ref h6, .ref h7, .ref h8, .ref h9, .ref h10, .int 0, .ref h11, .ref h12]))]) hD hS hA [0] rfl
    refine va_callq (va_runV (As := [.int (p1 / 100)]) (rest := []) ⟨hx, hb, hml, hown, hts⟩ (k_X11_knownLaw_0 l dC dI h0 h1 h2 h3 h4 h5 h6 h7 h8 h9 h10 h11 h12 s.heap.size (p1 / 100)) (cwV 1 hts gX11_town_X11_knownLaw rfl rfl rfl (by decide +kernel) ⟨Nat.le_of_ble_eq_true rfl, Nat.le_of_ble_eq_true rfl⟩) ⟨fun a U g mk q => by obtain ⟨q0, q1, qP, qK, qD⟩ := q; exact ⟨q0, q1, qP, va_K.moved (u := U) (U := U.calling g mk a) (Vm.Alike.refl U.vm) qK, qD⟩, va_recv hKc hPc (ci := 11) (q0 := 0) rfl rfl, fun U hU hW => ⟨rfl, by rw [hU], by rw [hU]; exact hPc, va_K.moved hW.alike hKc, hDc.weaken (fun _ _ _ _ => trivial)⟩⟩ rfl rfl hl.1 rfl (lv_room (Nat.le_of_ble_eq_true rfl)) dX11_town_13 ⟨Nat.le_of_ble_eq_true rfl, Nat.le_of_ble_eq_true rfl⟩) hS (fun q _ h => hFc q h) hFc (fun r_2 u t H1 locs ht hvm hw hB hz1 hk1 hS => ?_)
    obtain ⟨hP1, hK1, hD1⟩ := hB
    rw [ht] at hP1
    have hK1 := va_K.moved hvm.symm hK1
    obtain ⟨hP, hD⟩ := va_join (wr := []) (w1 := [(h0, .inr (11, [.ref h1, .int 0, .ref h2, .ref h3, .ref h4, .ref h5, .ref h6, .ref h7, .ref h8, .ref h9, .ref h10, .int 0, .ref h11, .ref h12]))]) hP hD [0] [] rfl rfl (by decide) (by decide) hk1 hFc hP1 hD1
    generalize H1 = H at hP hS ⊢
    have hP : va_P (dC, dI) vwCl [(h0, .inr (11, [.ref h1, .int 0, .ref h2, .ref h3, .ref h4, .ref h5, .ref h6, .ref h7, .ref h8, .ref h9, .ref h10, .int 0, .ref h11, .ref h12]))] H := hP
    have hD : va_D A [(h0, .inr (11, [.ref h1, .int 0, .ref h2, .ref h3, .ref h4, .ref h5, .ref h6, .ref h7, .ref h8, .ref h9, .ref h10, .int 0, .ref h11, .ref h12]))] := hD
    obtain rfl := hw
    refine W.eq (g2 := F0 m 16 ls [.null]) rfl ?_
    refine lv_astoreN (lv' := [(4, .null), (0, .ref h0), (1, .int p0), (2, .int p1), (3, .int p2)]) hx hb dX11_town_16 hl (by decide) rfl (fun ls hl => ?_)
    refine lv_aloadN hx hb dX11_town_18 (lv_at hl 0 rfl) ?_
    refine lv_ifnullN (tgt := 39) hx hb dX11_town_20 (by decide) ?_
    refine lv_iconst (v := (-1)) hx hb dX11_town_39 (by decide) ?_
    have hP9 := hP.sub (ws' := []) [] rfl
    have hD9 := hD.sub (ws' := []) [] (by decide) rfl
    have hK9 := hK.sub (tys' := []) [] rfl
    exact W.iret (v := (-1)) hx hb hr (fun t ht hW => ⟨⟨(-1), (), rfl, by first | rfl | ((repeat' split) <;> first | rfl | (exfalso; have := kk_div (x := p1) (k := 100) (n := 100) rfl (by decide) (by omega); omega) | (exact Int32.toInt_inj.mp (by show ((-1) : Int) = _; omega))), by rw [ht]; exact hP9, va_K.moved hW.alike hK9, hD9⟩, hS.F ht⟩) hS.2.2 dX11_town_40
  · have t_1 : p1.toInt < 0 := kk_nle c_1
    refine lv_null hx hb dX11_town_4 ?_
    refine lv_goto (tgt := 16) hx hb dX11_town_5 (by decide) ?_
    refine lv_astoreN (lv' := [(4, .null), (0, .ref h0), (1, .int p0), (2, .int p1), (3, .int p2)]) hx hb dX11_town_16 hl (by decide) rfl (fun ls hl => ?_)
    refine lv_aloadN hx hb dX11_town_18 (lv_at hl 0 rfl) ?_
    refine lv_ifnullN (tgt := 39) hx hb dX11_town_20 (by decide) ?_
    refine lv_iconst (v := (-1)) hx hb dX11_town_39 (by decide) ?_
    have hP9 := hP.sub (ws' := []) [] rfl
    have hD9 := hD.sub (ws' := []) [] (by decide) rfl
    have hK9 := hK.sub (tys' := []) [] rfl
    exact W.iret (v := (-1)) hx hb hr (fun t ht hW => ⟨⟨(-1), (), rfl, by first | rfl | ((repeat' split) <;> first | rfl | (exfalso; omega) | (exact Int32.toInt_inj.mp (by show ((-1) : Int) = _; omega))), by rw [ht]; exact hP9, va_K.moved hW.alike hK9, hD9⟩, hS.F ht⟩) hS.2.2 dX11_town_40
set_option maxHeartbeats 4000000 in
set_option maxRecDepth 100000 in
theorem k_X11_story_0 (l : Launch) (dC : Nat → ClassId) (dI : Nat → Nat → Nat) (h0 h1 h2 h3 h4 h5 h6 h7 h8 h9 h10 h11 h12 : Nat) (sz : Nat) (p0 : Int32) (p1 : Int32) (p2 : Int32) (p3 : Int32) : Met l yX11_story wsX11_story ({ frames := 1, cells := 0, slots := 0, locals := 21 }) (va_Pc [.ref h0, .int p0, .int p1, .int p2, .int p3] (fun U => U.heap.size = sz ∧ va_P (dC, dI) vwCl [(h0, .inr (11, [.ref h1, .int 0, .ref h2, .ref h3, .ref h4, .ref h5, .ref h6, .ref h7, .ref h8, .ref h9, .ref h10, .int 0, .ref h11, .ref h12]))] U.heap ∧ va_K (dC, dI) vwCl [] U ∧ va_D (fun _ => True) [(h0, .inr (11, [.ref h1, .int 0, .ref h2, .ref h3, .ref h4, .ref h5, .ref h6, .ref h7, .ref h8, .ref h9, .ref h10, .int 0, .ref h11, .ref h12]))])) (va_Qi (fun (r : Int32) (_ : Unit) => r = -1) (fun (_ : Unit) t => va_P (dC, dI) vwCl [] t.heap ∧ va_K (dC, dI) vwCl [] t ∧ va_D (va_A [(h0, .inr (11, [.ref h1, .int 0, .ref h2, .ref h3, .ref h4, .ref h5, .ref h6, .ref h7, .ref h8, .ref h9, .ref h10, .int 0, .ref h11, .ref h12]))] sz) []) (va_A [(h0, .inr (11, [.ref h1, .int 0, .ref h2, .ref h3, .ref h4, .ref h5, .ref h6, .ref h7, .ref h8, .ref h9, .ref h10, .int 0, .ref h11, .ref h12]))] sz)) 0 0 (va_A [(h0, .inr (11, [.ref h1, .int 0, .ref h2, .ref h3, .ref h4, .ref h5, .ref h6, .ref h7, .ref h8, .ref h9, .ref h10, .int 0, .ref h11, .ref h12]))] sz) := by
  refine Met.ofW (cc := cX11_story) (maxL := 6) (ret := (some .int)) (by decide) rfl ?_
  intro p e s m args below meth c s₁ B hml hv
  obtain ⟨rfl, hsz, hP, hK, hD0⟩ := hv
  have hx := B.exec
  have hb := B.bytes
  have hr := B.returns
  have hts := atoms_spec (ws := wsX11_story) B.pre
  have hown : s.vm.findClass RX11 = some m.cls := findClass_of_methodNamed B.named
  have hlocks := B.notSynchronized
  subst hsz
  have hD := hD0.self (sz := s.heap.size)
  generalize hAe : va_A [(h0, .inr (11, [.ref h1, .int 0, .ref h2, .ref h3, .ref h4, .ref h5, .ref h6, .ref h7, .ref h8, .ref h9, .ref h10, .int 0, .ref h11, .ref h12]))] s.heap.size = A at hD ⊢
  have hA : ∀ q : Nat, s.heap.size ≤ q → A q := fun q h => by rw [← hAe]; exact Or.inr h
  have hS : va_S A s.heap s.heap [] := va_S.rf
  have hP : va_P (dC, dI) vwCl [(h0, .inr (11, [.ref h1, .int 0, .ref h2, .ref h3, .ref h4, .ref h5, .ref h6, .ref h7, .ref h8, .ref h9, .ref h10, .int 0, .ref h11, .ref h12]))] s.heap := hP
  have hl := lv_entry ([.ref h0, .int p0, .int p1, .int p2, .int p3]) (n := 6) (Nat.le_of_ble_eq_true rfl)
  rw [lg_entry_eq]
  generalize (lg_sl ([.ref h0, .int p0, .int p1, .int p2, .int p3]) ++ List.replicate (6 - (lg_sl ([.ref h0, .int p0, .int p1, .int p2, .int p3])).length) Slot.unset).toArray = ls at hl ⊢
  have hl : lv_has ls 6 [(0, .ref h0), (1, .int p0), (2, .int p1), (3, .int p2), (4, .int p3)] := hl
  refine lv_aload_n hx hb dX11_story_0 rfl (lv_at hl 0 rfl) ?_
  refine lv_iload_n hx hb dX11_story_1 rfl (lv_at hl 1 rfl) ?_
  have hPc := hP.sub (ws' := [(h0, .inr (11, [.ref h1, .int 0, .ref h2, .ref h3, .ref h4, .ref h5, .ref h6, .ref h7, .ref h8, .ref h9, .ref h10, .int 0, .ref h11, .ref h12]))]) [0] rfl
  have hDc := hD.sub (ws' := [(h0, .inr (11, [.ref h1, .int 0, .ref h2, .ref h3, .ref h4, .ref h5, .ref h6, .ref h7, .ref h8, .ref h9, .ref h10, .int 0, .ref h11, .ref h12]))]) [0] (by decide) rfl
  have hKc := hK.sub (tys' := []) [] rfl
  have hFc := va_free (wc := [(h0, .inr (11, [.ref h1, .int 0, .ref h2, .ref h3, .ref h4, .ref h5, .ref h6, .ref h7, .ref h8, .ref h9, .ref h10, .int 0, .ref h11, .ref h12]))]) hD hS hA [0] rfl
  refine va_callq (va_runV (As := [.int p0]) (rest := []) ⟨hx, hb, hml, hown, hts⟩ (k_X11_knownStreet_0 l dC dI h0 h1 h2 h3 h4 h5 h6 h7 h8 h9 h10 h11 h12 s.heap.size p0) (cwV 1 hts gX11_story_X11_knownStreet rfl rfl rfl (by decide +kernel) ⟨Nat.le_of_ble_eq_true rfl, Nat.le_of_ble_eq_true rfl⟩) ⟨fun a U g mk q => by obtain ⟨q0, q1, qP, qK, qD⟩ := q; exact ⟨q0, q1, qP, va_K.moved (u := U) (U := U.calling g mk a) (Vm.Alike.refl U.vm) qK, qD⟩, va_recv hKc hPc (ci := 11) (q0 := 0) rfl rfl, fun U hU hW => ⟨rfl, by rw [hU], by rw [hU]; exact hPc, va_K.moved hW.alike hKc, hDc.weaken (fun _ _ _ _ => trivial)⟩⟩ rfl rfl hl.1 rfl (lv_room (Nat.le_of_ble_eq_true rfl)) dX11_story_2 ⟨Nat.le_of_ble_eq_true rfl, Nat.le_of_ble_eq_true rfl⟩) hS (fun q _ h => hFc q h) hFc (fun r_1 u t H1 locs ht hvm hw hB hz1 hk1 hS => ?_)
  obtain ⟨hP1, hK1, hD1⟩ := hB
  rw [ht] at hP1
  have hK1 := va_K.moved hvm.symm hK1
  obtain ⟨hP, hD⟩ := va_join (wr := []) (w1 := [(h0, .inr (11, [.ref h1, .int 0, .ref h2, .ref h3, .ref h4, .ref h5, .ref h6, .ref h7, .ref h8, .ref h9, .ref h10, .int 0, .ref h11, .ref h12]))]) hP hD [0] [] rfl rfl (by decide) (by decide) hk1 hFc hP1 hD1
  generalize H1 = H at hP hS ⊢
  have hP : va_P (dC, dI) vwCl [(h0, .inr (11, [.ref h1, .int 0, .ref h2, .ref h3, .ref h4, .ref h5, .ref h6, .ref h7, .ref h8, .ref h9, .ref h10, .int 0, .ref h11, .ref h12]))] H := hP
  have hD : va_D A [(h0, .inr (11, [.ref h1, .int 0, .ref h2, .ref h3, .ref h4, .ref h5, .ref h6, .ref h7, .ref h8, .ref h9, .ref h10, .int 0, .ref h11, .ref h12]))] := hD
  obtain rfl := hw
  refine W.eq (g2 := F0 m 5 ls [.null]) rfl ?_
  refine lv_astoreN (lv' := [(5, .null), (0, .ref h0), (1, .int p0), (2, .int p1), (3, .int p2), (4, .int p3)]) hx hb dX11_story_5 hl (by decide) rfl (fun ls hl => ?_)
  refine lv_aloadN hx hb dX11_story_7 (lv_at hl 0 rfl) ?_
  refine lv_ifnullN (tgt := 49) hx hb dX11_story_9 (by decide) ?_
  refine lv_iconst (v := (-1)) hx hb dX11_story_49 (by decide) ?_
  have hP9 := hP.sub (ws' := []) [] rfl
  have hD9 := hD.sub (ws' := []) [] (by decide) rfl
  have hK9 := hK.sub (tys' := []) [] rfl
  exact W.iret (v := (-1)) hx hb hr (fun t ht hW => ⟨⟨(-1), (), rfl, by first | rfl | ((repeat' split) <;> first | rfl | (exfalso; omega) | (exact Int32.toInt_inj.mp (by show ((-1) : Int) = _; omega))), by rw [ht]; exact hP9, va_K.moved hW.alike hK9, hD9⟩, hS.F ht⟩) hS.2.2 dX11_story_50
set_option maxHeartbeats 4000000 in
set_option maxRecDepth 100000 in
theorem k_X11_dig_0 (l : Launch) (dC : Nat → ClassId) (dI : Nat → Nat → Nat) (h0 h1 h2 h3 h4 h5 h6 h7 h8 h9 h10 h11 h12 : Nat) (sz : Nat) (p0 : Int32) : Met l yX11_dig wsX11_dig ({ frames := 1, cells := 0, slots := 0, locals := 21 }) (va_Pc [.ref h0, .int p0] (fun U => U.heap.size = sz ∧ va_P (dC, dI) vwCl [(h0, .inr (11, [.ref h1, .int 0, .ref h2, .ref h3, .ref h4, .ref h5, .ref h6, .ref h7, .ref h8, .ref h9, .ref h10, .int 0, .ref h11, .ref h12]))] U.heap ∧ va_K (dC, dI) vwCl [] U ∧ va_D (fun _ => True) [(h0, .inr (11, [.ref h1, .int 0, .ref h2, .ref h3, .ref h4, .ref h5, .ref h6, .ref h7, .ref h8, .ref h9, .ref h10, .int 0, .ref h11, .ref h12]))])) (va_Qi (fun (r : Int32) (_ : Unit) => r = -1) (fun (_ : Unit) t => va_P (dC, dI) vwCl [] t.heap ∧ va_K (dC, dI) vwCl [] t ∧ va_D (va_A [(h0, .inr (11, [.ref h1, .int 0, .ref h2, .ref h3, .ref h4, .ref h5, .ref h6, .ref h7, .ref h8, .ref h9, .ref h10, .int 0, .ref h11, .ref h12]))] sz) []) (va_A [(h0, .inr (11, [.ref h1, .int 0, .ref h2, .ref h3, .ref h4, .ref h5, .ref h6, .ref h7, .ref h8, .ref h9, .ref h10, .int 0, .ref h11, .ref h12]))] sz)) 0 0 (va_A [(h0, .inr (11, [.ref h1, .int 0, .ref h2, .ref h3, .ref h4, .ref h5, .ref h6, .ref h7, .ref h8, .ref h9, .ref h10, .int 0, .ref h11, .ref h12]))] sz) := by
  refine Met.ofW (cc := cX11_dig) (maxL := 5) (ret := (some .int)) (by decide) rfl ?_
  intro p e s m args below meth c s₁ B hml hv
  obtain ⟨rfl, hsz, hP, hK, hD0⟩ := hv
  have hx := B.exec
  have hb := B.bytes
  have hr := B.returns
  have hts := atoms_spec (ws := wsX11_dig) B.pre
  have hown : s.vm.findClass RX11 = some m.cls := findClass_of_methodNamed B.named
  have hlocks := B.notSynchronized
  subst hsz
  have hD := hD0.self (sz := s.heap.size)
  generalize hAe : va_A [(h0, .inr (11, [.ref h1, .int 0, .ref h2, .ref h3, .ref h4, .ref h5, .ref h6, .ref h7, .ref h8, .ref h9, .ref h10, .int 0, .ref h11, .ref h12]))] s.heap.size = A at hD ⊢
  have hA : ∀ q : Nat, s.heap.size ≤ q → A q := fun q h => by rw [← hAe]; exact Or.inr h
  have hS : va_S A s.heap s.heap [] := va_S.rf
  have hP : va_P (dC, dI) vwCl [(h0, .inr (11, [.ref h1, .int 0, .ref h2, .ref h3, .ref h4, .ref h5, .ref h6, .ref h7, .ref h8, .ref h9, .ref h10, .int 0, .ref h11, .ref h12]))] s.heap := hP
  have hl := lv_entry ([.ref h0, .int p0]) (n := 5) (Nat.le_of_ble_eq_true rfl)
  rw [lg_entry_eq]
  generalize (lg_sl ([.ref h0, .int p0]) ++ List.replicate (5 - (lg_sl ([.ref h0, .int p0])).length) Slot.unset).toArray = ls at hl ⊢
  have hl : lv_has ls 5 [(0, .ref h0), (1, .int p0)] := hl
  refine lv_iload_n hx hb dX11_dig_0 rfl (lv_at hl 1 rfl) ?_
  refine lv_if_ge (tgt := 8) hx hb dX11_dig_1 (by decide) (fun c_1 => ?_) (fun c_1 => ?_)
  · have t_1 : 0 ≤ p0.toInt := kk_le c_1
    refine lv_aload_n hx hb dX11_dig_8 rfl (lv_at hl 0 rfl) ?_
    refine lv_iload_n hx hb dX11_dig_9 rfl (lv_at hl 1 rfl) ?_
    refine lv_bipush (v := 10) hx hb dX11_dig_10 (by decide) ?_
    refine lv_idiv hx hb dX11_dig_12 (by decide) ?_
    have hPc := hP.sub (ws' := [(h0, .inr (11, [.ref h1, .int 0, .ref h2, .ref h3, .ref h4, .ref h5, .ref h6, .ref h7, .ref h8, .ref h9, .ref h10, .int 0, .ref h11, .ref h12]))]) [0] rfl
    have hDc := hD.sub (ws' := [(h0, .inr (11, [.ref h1, .int 0, .ref h2, .ref h3, .ref h4, .ref h5, .ref h6, .ref h7, .ref h8, .ref h9, .ref h10, .int 0, .ref h11, .ref h12]))]) [0] (by decide) rfl
    have hKc := hK.sub (tys' := []) [] rfl
    have hFc := va_free (wc := [(h0, .inr (11, [.ref h1, .int 0, .ref h2, .ref h3, .ref h4, .ref h5, .ref h6, .ref h7, .ref h8, .ref h9, .ref h10, .int 0, .ref h11, .ref h12]))]) hD hS hA [0] rfl
    refine va_callq (va_runV (As := [.int (p0 / 10)]) (rest := []) ⟨hx, hb, hml, hown, hts⟩ (k_X11_knownStreet_0 l dC dI h0 h1 h2 h3 h4 h5 h6 h7 h8 h9 h10 h11 h12 s.heap.size (p0 / 10)) (cwV 1 hts gX11_dig_X11_knownStreet rfl rfl rfl (by decide +kernel) ⟨Nat.le_of_ble_eq_true rfl, Nat.le_of_ble_eq_true rfl⟩) ⟨fun a U g mk q => by obtain ⟨q0, q1, qP, qK, qD⟩ := q; exact ⟨q0, q1, qP, va_K.moved (u := U) (U := U.calling g mk a) (Vm.Alike.refl U.vm) qK, qD⟩, va_recv hKc hPc (ci := 11) (q0 := 0) rfl rfl, fun U hU hW => ⟨rfl, by rw [hU], by rw [hU]; exact hPc, va_K.moved hW.alike hKc, hDc.weaken (fun _ _ _ _ => trivial)⟩⟩ rfl rfl hl.1 rfl (lv_room (Nat.le_of_ble_eq_true rfl)) dX11_dig_13 ⟨Nat.le_of_ble_eq_true rfl, Nat.le_of_ble_eq_true rfl⟩) hS (fun q _ h => hFc q h) hFc (fun r_2 u t H1 locs ht hvm hw hB hz1 hk1 hS => ?_)
    obtain ⟨hP1, hK1, hD1⟩ := hB
    rw [ht] at hP1
    have hK1 := va_K.moved hvm.symm hK1
    obtain ⟨hP, hD⟩ := va_join (wr := []) (w1 := [(h0, .inr (11, [.ref h1, .int 0, .ref h2, .ref h3, .ref h4, .ref h5, .ref h6, .ref h7, .ref h8, .ref h9, .ref h10, .int 0, .ref h11, .ref h12]))]) hP hD [0] [] rfl rfl (by decide) (by decide) hk1 hFc hP1 hD1
    generalize H1 = H at hP hS ⊢
    have hP : va_P (dC, dI) vwCl [(h0, .inr (11, [.ref h1, .int 0, .ref h2, .ref h3, .ref h4, .ref h5, .ref h6, .ref h7, .ref h8, .ref h9, .ref h10, .int 0, .ref h11, .ref h12]))] H := hP
    have hD : va_D A [(h0, .inr (11, [.ref h1, .int 0, .ref h2, .ref h3, .ref h4, .ref h5, .ref h6, .ref h7, .ref h8, .ref h9, .ref h10, .int 0, .ref h11, .ref h12]))] := hD
    obtain rfl := hw
    refine W.eq (g2 := F0 m 16 ls [.null]) rfl ?_
    refine lv_astore_nN (lv' := [(2, .null), (0, .ref h0), (1, .int p0)]) hx hb dX11_dig_16 rfl hl (by decide) rfl (fun ls hl => ?_)
    refine lv_iload_n hx hb dX11_dig_17 rfl (lv_at hl 2 rfl) ?_
    refine lv_if_ge (tgt := 25) hx hb dX11_dig_18 (by decide) (fun c_3 => ?_) (fun c_3 => ?_)
    · have t_3 : 0 ≤ p0.toInt := kk_le c_3
      refine lv_aload_n hx hb dX11_dig_25 rfl (lv_at hl 1 rfl) ?_
      refine lv_iload_n hx hb dX11_dig_26 rfl (lv_at hl 2 rfl) ?_
      refine lv_bipush (v := 10) hx hb dX11_dig_27 (by decide) ?_
      refine lv_irem hx hb dX11_dig_29 (by decide) ?_
      have hPc := hP.sub (ws' := [(h0, .inr (11, [.ref h1, .int 0, .ref h2, .ref h3, .ref h4, .ref h5, .ref h6, .ref h7, .ref h8, .ref h9, .ref h10, .int 0, .ref h11, .ref h12]))]) [0] rfl
      have hDc := hD.sub (ws' := [(h0, .inr (11, [.ref h1, .int 0, .ref h2, .ref h3, .ref h4, .ref h5, .ref h6, .ref h7, .ref h8, .ref h9, .ref h10, .int 0, .ref h11, .ref h12]))]) [0] (by decide) rfl
      have hKc := hK.sub (tys' := []) [] rfl
      have hFc := va_free (wc := [(h0, .inr (11, [.ref h1, .int 0, .ref h2, .ref h3, .ref h4, .ref h5, .ref h6, .ref h7, .ref h8, .ref h9, .ref h10, .int 0, .ref h11, .ref h12]))]) hD hS hA [0] rfl
      refine va_callq (va_runV (As := [.int (p0 - p0 / 10 * 10)]) (rest := []) ⟨hx, hb, hml, hown, hts⟩ (k_X11_knownStreet_0 l dC dI h0 h1 h2 h3 h4 h5 h6 h7 h8 h9 h10 h11 h12 H.size (p0 - p0 / 10 * 10)) (cwV 1 hts gX11_dig_X11_knownStreet rfl rfl rfl (by decide +kernel) ⟨Nat.le_of_ble_eq_true rfl, Nat.le_of_ble_eq_true rfl⟩) ⟨fun a U g mk q => by obtain ⟨q0, q1, qP, qK, qD⟩ := q; exact ⟨q0, q1, qP, va_K.moved (u := U) (U := U.calling g mk a) (Vm.Alike.refl U.vm) qK, qD⟩, va_recv hKc hPc (ci := 11) (q0 := 0) rfl rfl, fun U hU hW => ⟨rfl, by rw [hU], by rw [hU]; exact hPc, va_K.moved hW.alike hKc, hDc.weaken (fun _ _ _ _ => trivial)⟩⟩ rfl rfl hl.1 rfl (lv_room (Nat.le_of_ble_eq_true rfl)) dX11_dig_30 ⟨Nat.le_of_ble_eq_true rfl, Nat.le_of_ble_eq_true rfl⟩) hS (fun q _ h => hFc q h) hFc (fun r_4 u t H1 locs ht hvm hw hB hz1 hk1 hS => ?_)
      obtain ⟨hP1, hK1, hD1⟩ := hB
      rw [ht] at hP1
      have hK1 := va_K.moved hvm.symm hK1
      obtain ⟨hP, hD⟩ := va_join (wr := []) (w1 := [(h0, .inr (11, [.ref h1, .int 0, .ref h2, .ref h3, .ref h4, .ref h5, .ref h6, .ref h7, .ref h8, .ref h9, .ref h10, .int 0, .ref h11, .ref h12]))]) hP hD [0] [] rfl rfl (by decide) (by decide) hk1 hFc hP1 hD1
      generalize H1 = H at hP hS ⊢
      have hP : va_P (dC, dI) vwCl [(h0, .inr (11, [.ref h1, .int 0, .ref h2, .ref h3, .ref h4, .ref h5, .ref h6, .ref h7, .ref h8, .ref h9, .ref h10, .int 0, .ref h11, .ref h12]))] H := hP
      have hD : va_D A [(h0, .inr (11, [.ref h1, .int 0, .ref h2, .ref h3, .ref h4, .ref h5, .ref h6, .ref h7, .ref h8, .ref h9, .ref h10, .int 0, .ref h11, .ref h12]))] := hD
      obtain rfl := hw
      refine W.eq (g2 := F0 m 33 ls [.null]) rfl ?_
      refine lv_astore_nN (lv' := [(3, .null), (2, .null), (0, .ref h0), (1, .int p0)]) hx hb dX11_dig_33 rfl hl (by decide) rfl (fun ls hl => ?_)
      refine lv_aload_nN hx hb dX11_dig_34 rfl (lv_at hl 1 rfl) ?_
      refine lv_ifnullN (tgt := 53) hx hb dX11_dig_35 (by decide) ?_
      refine lv_iconst (v := (-1)) hx hb dX11_dig_53 (by decide) ?_
      have hP9 := hP.sub (ws' := []) [] rfl
      have hD9 := hD.sub (ws' := []) [] (by decide) rfl
      have hK9 := hK.sub (tys' := []) [] rfl
      exact W.iret (v := (-1)) hx hb hr (fun t ht hW => ⟨⟨(-1), (), rfl, by first | rfl | ((repeat' split) <;> first | rfl | (exfalso; have := kk_div (x := p0) (k := 10) (n := 10) rfl (by decide) (by omega); have := kk_rem (x := p0) (k := 10) (n := 10) rfl (by decide) (by omega); omega) | (exact Int32.toInt_inj.mp (by show ((-1) : Int) = _; omega))), by rw [ht]; exact hP9, va_K.moved hW.alike hK9, hD9⟩, hS.F ht⟩) hS.2.2 dX11_dig_54
    · have t_3 : p0.toInt < 0 := kk_nle c_3
      exfalso; have := kk_div (x := p0) (k := 10) (n := 10) rfl (by decide) (by omega); omega
  · have t_1 : p0.toInt < 0 := kk_nle c_1
    refine lv_null hx hb dX11_dig_4 ?_
    refine lv_goto (tgt := 16) hx hb dX11_dig_5 (by decide) ?_
    refine lv_astore_nN (lv' := [(2, .null), (0, .ref h0), (1, .int p0)]) hx hb dX11_dig_16 rfl hl (by decide) rfl (fun ls hl => ?_)
    refine lv_iload_n hx hb dX11_dig_17 rfl (lv_at hl 2 rfl) ?_
    refine lv_if_ge (tgt := 25) hx hb dX11_dig_18 (by decide) (fun c_5 => ?_) (fun c_5 => ?_)
    · have t_5 : 0 ≤ p0.toInt := kk_le c_5
      exfalso; omega
    · have t_5 : p0.toInt < 0 := kk_nle c_5
      refine lv_null hx hb dX11_dig_21 ?_
      refine lv_goto (tgt := 33) hx hb dX11_dig_22 (by decide) ?_
      refine lv_astore_nN (lv' := [(3, .null), (2, .null), (0, .ref h0), (1, .int p0)]) hx hb dX11_dig_33 rfl hl (by decide) rfl (fun ls hl => ?_)
      refine lv_aload_nN hx hb dX11_dig_34 rfl (lv_at hl 1 rfl) ?_
      refine lv_ifnullN (tgt := 53) hx hb dX11_dig_35 (by decide) ?_
      refine lv_iconst (v := (-1)) hx hb dX11_dig_53 (by decide) ?_
      have hP9 := hP.sub (ws' := []) [] rfl
      have hD9 := hD.sub (ws' := []) [] (by decide) rfl
      have hK9 := hK.sub (tys' := []) [] rfl
      exact W.iret (v := (-1)) hx hb hr (fun t ht hW => ⟨⟨(-1), (), rfl, by first | rfl | ((repeat' split) <;> first | rfl | (exfalso; omega) | (exact Int32.toInt_inj.mp (by show ((-1) : Int) = _; omega))), by rw [ht]; exact hP9, va_K.moved hW.alike hK9, hD9⟩, hS.F ht⟩) hS.2.2 dX11_dig_54
set_option maxHeartbeats 4000000 in
set_option maxRecDepth 100000 in
theorem k_X1_undoable_0 (l : Launch) (dC : Nat → ClassId) (dI : Nat → Nat → Nat) (h0 h1 h2 h3 h4 : Nat) (sz : Nat)  : Met l yX1_undoable wsX1_undoable ({ frames := 0, cells := 0, slots := 0, locals := 0 }) (va_Pc [.ref h0] (fun U => U.heap.size = sz ∧ va_P (dC, dI) vwCl [(h0, .inr (1, [.ref h1, .ref h2, .ref h3, .ref h4, .int 0, .int 0]))] U.heap ∧ va_K (dC, dI) vwCl [] U ∧ va_D (fun _ => True) [(h0, .inr (1, [.ref h1, .ref h2, .ref h3, .ref h4, .int 0, .int 0]))])) (va_Qi (fun (r : Int32) (_ : Unit) => r = 0) (fun (_ : Unit) t => va_P (dC, dI) vwCl [(h0, .inr (1, [.ref h1, .ref h2, .ref h3, .ref h4, .int 0, .int 0]))] t.heap ∧ va_K (dC, dI) vwCl [] t ∧ va_D (va_A [(h0, .inr (1, [.ref h1, .ref h2, .ref h3, .ref h4, .int 0, .int 0]))] sz) [(h0, .inr (1, [.ref h1, .ref h2, .ref h3, .ref h4, .int 0, .int 0]))]) (va_A [(h0, .inr (1, [.ref h1, .ref h2, .ref h3, .ref h4, .int 0, .int 0]))] sz)) 0 0 (va_A [(h0, .inr (1, [.ref h1, .ref h2, .ref h3, .ref h4, .int 0, .int 0]))] sz) := by
  refine Met.ofW (cc := cX1_undoable) (maxL := 1) (ret := (some .int)) (by decide) rfl ?_
  intro p e s m args below meth c s₁ B hml hv
  obtain ⟨rfl, hsz, hP, hK, hD0⟩ := hv
  have hx := B.exec
  have hb := B.bytes
  have hr := B.returns
  have hts := atoms_spec (ws := wsX1_undoable) B.pre
  have hown : s.vm.findClass RX1 = some m.cls := findClass_of_methodNamed B.named
  have hlocks := B.notSynchronized
  subst hsz
  have hD := hD0.self (sz := s.heap.size)
  generalize hAe : va_A [(h0, .inr (1, [.ref h1, .ref h2, .ref h3, .ref h4, .int 0, .int 0]))] s.heap.size = A at hD ⊢
  have hA : ∀ q : Nat, s.heap.size ≤ q → A q := fun q h => by rw [← hAe]; exact Or.inr h
  have hS : va_S A s.heap s.heap [] := va_S.rf
  have hP : va_P (dC, dI) vwCl [(h0, .inr (1, [.ref h1, .ref h2, .ref h3, .ref h4, .int 0, .int 0]))] s.heap := hP
  have hl := lv_entry ([.ref h0]) (n := 1) (Nat.le_of_ble_eq_true rfl)
  rw [lg_entry_eq]
  generalize (lg_sl ([.ref h0]) ++ List.replicate (1 - (lg_sl ([.ref h0])).length) Slot.unset).toArray = ls at hl ⊢
  have hl : lv_has ls 1 [(0, .ref h0)] := hl
  refine lv_aload_n hx hb dX1_undoable_0 rfl (lv_at hl 0 rfl) ?_
  refine va_get (D := (dC, dI)) (ci := 1) (v := .int 0) (C := RX1) (T := TX1) (N := 6) hx hb hts (fun _ h => List.mem_cons_of_mem _ (List.mem_append_right _ h)) hown hK hP 0 rfl rfl 4 (by decide) (hts (.fieldLink RX1 22 "KinkStreet$Changes" "done" "I") (List.mem_of_getElem? (i := 1) rfl)) (fun _ h9 => h9) rfl dX1_undoable_1 ?_
  have hP9 := hP.sub (ws' := [(h0, .inr (1, [.ref h1, .ref h2, .ref h3, .ref h4, .int 0, .int 0]))]) [0] rfl
  have hD9 := hD.sub (ws' := [(h0, .inr (1, [.ref h1, .ref h2, .ref h3, .ref h4, .int 0, .int 0]))]) [0] (by decide) rfl
  have hK9 := hK.sub (tys' := []) [] rfl
  exact W.iret (v := 0) hx hb hr (fun t ht hW => ⟨⟨0, (), rfl, rfl, by rw [ht]; exact hP9, va_K.moved hW.alike hK9, hD9⟩, hS.F ht⟩) hS.2.2 dX1_undoable_4
set_option maxHeartbeats 4000000 in
set_option maxRecDepth 100000 in
theorem k_X11_undo_0 (l : Launch) (dC : Nat → ClassId) (dI : Nat → Nat → Nat) (h0 h1 h2 h3 h4 h5 h6 h7 h8 h9 h10 h11 h12 h13 h14 h15 h16 : Nat) (sz : Nat)  : Met l yX11_undo wsX11_undo ({ frames := 1, cells := 0, slots := 0, locals := 20 }) (va_Pc [.ref h0] (fun U => U.heap.size = sz ∧ va_P (dC, dI) vwCl [(h0, .inr (11, [.ref h2, .int 0, .ref h3, .ref h1, .ref h4, .ref h5, .ref h6, .ref h7, .ref h8, .ref h9, .ref h10, .int 0, .ref h11, .ref h12])), (h1, .inr (1, [.ref h13, .ref h14, .ref h15, .ref h16, .int 0, .int 0]))] U.heap ∧ va_K (dC, dI) vwCl [] U ∧ va_D (fun _ => True) [(h0, .inr (11, [.ref h2, .int 0, .ref h3, .ref h1, .ref h4, .ref h5, .ref h6, .ref h7, .ref h8, .ref h9, .ref h10, .int 0, .ref h11, .ref h12])), (h1, .inr (1, [.ref h13, .ref h14, .ref h15, .ref h16, .int 0, .int 0]))])) (va_Qi (fun (r : Int32) (_ : Unit) => r = -5) (fun (_ : Unit) t => va_P (dC, dI) vwCl [] t.heap ∧ va_K (dC, dI) vwCl [] t ∧ va_D (va_A [(h0, .inr (11, [.ref h2, .int 0, .ref h3, .ref h1, .ref h4, .ref h5, .ref h6, .ref h7, .ref h8, .ref h9, .ref h10, .int 0, .ref h11, .ref h12])), (h1, .inr (1, [.ref h13, .ref h14, .ref h15, .ref h16, .int 0, .int 0]))] sz) []) (va_A [(h0, .inr (11, [.ref h2, .int 0, .ref h3, .ref h1, .ref h4, .ref h5, .ref h6, .ref h7, .ref h8, .ref h9, .ref h10, .int 0, .ref h11, .ref h12])), (h1, .inr (1, [.ref h13, .ref h14, .ref h15, .ref h16, .int 0, .int 0]))] sz)) 0 0 (va_A [(h0, .inr (11, [.ref h2, .int 0, .ref h3, .ref h1, .ref h4, .ref h5, .ref h6, .ref h7, .ref h8, .ref h9, .ref h10, .int 0, .ref h11, .ref h12])), (h1, .inr (1, [.ref h13, .ref h14, .ref h15, .ref h16, .int 0, .int 0]))] sz) := by
  refine Met.ofW (cc := cX11_undo) (maxL := 2) (ret := (some .int)) (by decide) rfl ?_
  intro p e s m args below meth c s₁ B hml hv
  obtain ⟨rfl, hsz, hP, hK, hD0⟩ := hv
  have hx := B.exec
  have hb := B.bytes
  have hr := B.returns
  have hts := atoms_spec (ws := wsX11_undo) B.pre
  have hown : s.vm.findClass RX11 = some m.cls := findClass_of_methodNamed B.named
  have hlocks := B.notSynchronized
  subst hsz
  have hD := hD0.self (sz := s.heap.size)
  generalize hAe : va_A [(h0, .inr (11, [.ref h2, .int 0, .ref h3, .ref h1, .ref h4, .ref h5, .ref h6, .ref h7, .ref h8, .ref h9, .ref h10, .int 0, .ref h11, .ref h12])), (h1, .inr (1, [.ref h13, .ref h14, .ref h15, .ref h16, .int 0, .int 0]))] s.heap.size = A at hD ⊢
  have hA : ∀ q : Nat, s.heap.size ≤ q → A q := fun q h => by rw [← hAe]; exact Or.inr h
  have hS : va_S A s.heap s.heap [] := va_S.rf
  have hP : va_P (dC, dI) vwCl [(h0, .inr (11, [.ref h2, .int 0, .ref h3, .ref h1, .ref h4, .ref h5, .ref h6, .ref h7, .ref h8, .ref h9, .ref h10, .int 0, .ref h11, .ref h12])), (h1, .inr (1, [.ref h13, .ref h14, .ref h15, .ref h16, .int 0, .int 0]))] s.heap := hP
  have hl := lv_entry ([.ref h0]) (n := 2) (Nat.le_of_ble_eq_true rfl)
  rw [lg_entry_eq]
  generalize (lg_sl ([.ref h0]) ++ List.replicate (2 - (lg_sl ([.ref h0])).length) Slot.unset).toArray = ls at hl ⊢
  have hl : lv_has ls 2 [(0, .ref h0)] := hl
  refine lv_aload_n hx hb dX11_undo_0 rfl (lv_at hl 0 rfl) ?_
  refine va_get (D := (dC, dI)) (ci := 11) (v := .ref h1) (C := RX11) (T := TX11) (N := 14) hx hb hts (fun _ h => List.mem_cons_of_mem _ (List.mem_append_left _ (List.mem_append_left _ (List.mem_append_right _ h)))) hown hK hP 0 rfl rfl 3 (by decide) (hts (.fieldLink RX11 23 "KinkStreet" "changes" "LKinkStreet$Changes;") (List.mem_of_getElem? (i := 1) rfl)) (fun _ h9 => h9) rfl dX11_undo_1 ?_
  have hPc := hP.sub (ws' := [(h1, .inr (1, [.ref h13, .ref h14, .ref h15, .ref h16, .int 0, .int 0]))]) [1] rfl
  have hDc := hD.sub (ws' := [(h1, .inr (1, [.ref h13, .ref h14, .ref h15, .ref h16, .int 0, .int 0]))]) [1] (by decide) rfl
  have hKc := hK.sub (tys' := []) [] rfl
  have hFc := va_free (wc := [(h1, .inr (1, [.ref h13, .ref h14, .ref h15, .ref h16, .int 0, .int 0]))]) hD hS hA [1] rfl
  refine va_calli (va_runV (As := []) (rest := []) ⟨hx, hb, hml, hown, hts⟩ (k_X1_undoable_0 l dC dI h1 h13 h14 h15 h16 s.heap.size) (cwV 0 hts gX11_undo_X1_undoable rfl rfl rfl (by decide +kernel) ⟨Nat.le_of_ble_eq_true rfl, Nat.le_of_ble_eq_true rfl⟩) ⟨fun a U g mk q => by obtain ⟨q0, q1, qP, qK, qD⟩ := q; exact ⟨q0, q1, qP, va_K.moved (u := U) (U := U.calling g mk a) (Vm.Alike.refl U.vm) qK, qD⟩, va_recv hKc hPc (ci := 1) (q0 := 0) rfl rfl, fun U hU hW => ⟨rfl, by rw [hU], by rw [hU]; exact hPc, va_K.moved hW.alike hKc, hDc.weaken (fun _ _ _ _ => trivial)⟩⟩ rfl rfl hl.1 rfl (lv_room (Nat.le_of_ble_eq_true rfl)) dX11_undo_4 ⟨Nat.le_of_ble_eq_true rfl, Nat.le_of_ble_eq_true rfl⟩) hS (fun q _ h => hFc q h) hFc (fun r_1 u t H1 locs ht hvm hw hB hz1 hk1 hS => ?_)
  obtain ⟨hP1, hK1, hD1⟩ := hB
  rw [ht] at hP1
  have hK1 := va_K.moved hvm.symm hK1
  obtain ⟨hP, hD⟩ := va_join (wr := [(h0, .inr (11, [.ref h2, .int 0, .ref h3, .ref h1, .ref h4, .ref h5, .ref h6, .ref h7, .ref h8, .ref h9, .ref h10, .int 0, .ref h11, .ref h12]))]) (w1 := [(h1, .inr (1, [.ref h13, .ref h14, .ref h15, .ref h16, .int 0, .int 0]))]) hP hD [1] [0] rfl rfl (by decide) (by decide) hk1 hFc hP1 hD1
  generalize H1 = H at hP hS ⊢
  have hP : va_P (dC, dI) vwCl [(h0, .inr (11, [.ref h2, .int 0, .ref h3, .ref h1, .ref h4, .ref h5, .ref h6, .ref h7, .ref h8, .ref h9, .ref h10, .int 0, .ref h11, .ref h12])), (h1, .inr (1, [.ref h13, .ref h14, .ref h15, .ref h16, .int 0, .int 0]))] H := hP
  have hD : va_D A [(h0, .inr (11, [.ref h2, .int 0, .ref h3, .ref h1, .ref h4, .ref h5, .ref h6, .ref h7, .ref h8, .ref h9, .ref h10, .int 0, .ref h11, .ref h12])), (h1, .inr (1, [.ref h13, .ref h14, .ref h15, .ref h16, .int 0, .int 0]))] := hD
  obtain rfl := hw
  refine lv_if_ne (tgt := 13) hx hb dX11_undo_7 (by decide) (fun c => absurd c (by decide)) (fun _ => ?_)
  refine lv_bipush (v := (-5)) hx hb dX11_undo_10 (by decide) ?_
  have hP9 := hP.sub (ws' := []) [] rfl
  have hD9 := hD.sub (ws' := []) [] (by decide) rfl
  have hK9 := hK.sub (tys' := []) [] rfl
  exact W.iret (v := (-5)) hx hb hr (fun t ht hW => ⟨⟨(-5), (), rfl, by first | rfl | ((repeat' split) <;> first | rfl | (exfalso; omega) | (exact Int32.toInt_inj.mp (by show ((-5) : Int) = _; omega))), by rw [ht]; exact hP9, va_K.moved hW.alike hK9, hD9⟩, hS.F ht⟩) hS.2.2 dX11_undo_12
set_option maxHeartbeats 4000000 in
set_option maxRecDepth 100000 in
theorem k_X1_redoable_0 (l : Launch) (dC : Nat → ClassId) (dI : Nat → Nat → Nat) (h0 h1 h2 h3 h4 : Nat) (sz : Nat)  : Met l yX1_redoable wsX1_redoable ({ frames := 0, cells := 0, slots := 0, locals := 0 }) (va_Pc [.ref h0] (fun U => U.heap.size = sz ∧ va_P (dC, dI) vwCl [(h0, .inr (1, [.ref h1, .ref h2, .ref h3, .ref h4, .int 0, .int 0]))] U.heap ∧ va_K (dC, dI) vwCl [] U ∧ va_D (fun _ => True) [(h0, .inr (1, [.ref h1, .ref h2, .ref h3, .ref h4, .int 0, .int 0]))])) (va_Qi (fun (r : Int32) (_ : Unit) => r = 0) (fun (_ : Unit) t => va_P (dC, dI) vwCl [(h0, .inr (1, [.ref h1, .ref h2, .ref h3, .ref h4, .int 0, .int 0]))] t.heap ∧ va_K (dC, dI) vwCl [] t ∧ va_D (va_A [(h0, .inr (1, [.ref h1, .ref h2, .ref h3, .ref h4, .int 0, .int 0]))] sz) [(h0, .inr (1, [.ref h1, .ref h2, .ref h3, .ref h4, .int 0, .int 0]))]) (va_A [(h0, .inr (1, [.ref h1, .ref h2, .ref h3, .ref h4, .int 0, .int 0]))] sz)) 0 0 (va_A [(h0, .inr (1, [.ref h1, .ref h2, .ref h3, .ref h4, .int 0, .int 0]))] sz) := by
  refine Met.ofW (cc := cX1_redoable) (maxL := 1) (ret := (some .int)) (by decide) rfl ?_
  intro p e s m args below meth c s₁ B hml hv
  obtain ⟨rfl, hsz, hP, hK, hD0⟩ := hv
  have hx := B.exec
  have hb := B.bytes
  have hr := B.returns
  have hts := atoms_spec (ws := wsX1_redoable) B.pre
  have hown : s.vm.findClass RX1 = some m.cls := findClass_of_methodNamed B.named
  have hlocks := B.notSynchronized
  subst hsz
  have hD := hD0.self (sz := s.heap.size)
  generalize hAe : va_A [(h0, .inr (1, [.ref h1, .ref h2, .ref h3, .ref h4, .int 0, .int 0]))] s.heap.size = A at hD ⊢
  have hA : ∀ q : Nat, s.heap.size ≤ q → A q := fun q h => by rw [← hAe]; exact Or.inr h
  have hS : va_S A s.heap s.heap [] := va_S.rf
  have hP : va_P (dC, dI) vwCl [(h0, .inr (1, [.ref h1, .ref h2, .ref h3, .ref h4, .int 0, .int 0]))] s.heap := hP
  have hl := lv_entry ([.ref h0]) (n := 1) (Nat.le_of_ble_eq_true rfl)
  rw [lg_entry_eq]
  generalize (lg_sl ([.ref h0]) ++ List.replicate (1 - (lg_sl ([.ref h0])).length) Slot.unset).toArray = ls at hl ⊢
  have hl : lv_has ls 1 [(0, .ref h0)] := hl
  refine lv_aload_n hx hb dX1_redoable_0 rfl (lv_at hl 0 rfl) ?_
  refine va_get (D := (dC, dI)) (ci := 1) (v := .int 0) (C := RX1) (T := TX1) (N := 6) hx hb hts (fun _ h => List.mem_cons_of_mem _ (List.mem_append_right _ h)) hown hK hP 0 rfl rfl 5 (by decide) (hts (.fieldLink RX1 26 "KinkStreet$Changes" "kept" "I") (List.mem_of_getElem? (i := 1) rfl)) (fun _ h9 => h9) rfl dX1_redoable_1 ?_
  refine lv_aload_n hx hb dX1_redoable_4 rfl (lv_at hl 0 rfl) ?_
  refine va_get (D := (dC, dI)) (ci := 1) (v := .int 0) (C := RX1) (T := TX1) (N := 6) hx hb hts (fun _ h => List.mem_cons_of_mem _ (List.mem_append_right _ h)) hown hK hP 0 rfl rfl 4 (by decide) (hts (.fieldLink RX1 22 "KinkStreet$Changes" "done" "I") (List.mem_of_getElem? (i := 2) rfl)) (fun _ h9 => h9) rfl dX1_redoable_5 ?_
  refine lv_isub hx hb dX1_redoable_8 ?_
  refine lv_topi (fun y_1 e_1 => ?_)
  obtain rfl : y_1 = 0 := e_1.trans (by decide)
  have hP9 := hP.sub (ws' := [(h0, .inr (1, [.ref h1, .ref h2, .ref h3, .ref h4, .int 0, .int 0]))]) [0] rfl
  have hD9 := hD.sub (ws' := [(h0, .inr (1, [.ref h1, .ref h2, .ref h3, .ref h4, .int 0, .int 0]))]) [0] (by decide) rfl
  have hK9 := hK.sub (tys' := []) [] rfl
  exact W.iret (v := 0) hx hb hr (fun t ht hW => ⟨⟨0, (), rfl, rfl, by rw [ht]; exact hP9, va_K.moved hW.alike hK9, hD9⟩, hS.F ht⟩) hS.2.2 dX1_redoable_9
set_option maxHeartbeats 4000000 in
set_option maxRecDepth 100000 in
theorem k_X11_redo_0 (l : Launch) (dC : Nat → ClassId) (dI : Nat → Nat → Nat) (h0 h1 h2 h3 h4 h5 h6 h7 h8 h9 h10 h11 h12 h13 h14 h15 h16 : Nat) (sz : Nat)  : Met l yX11_redo wsX11_redo ({ frames := 1, cells := 0, slots := 0, locals := 20 }) (va_Pc [.ref h0] (fun U => U.heap.size = sz ∧ va_P (dC, dI) vwCl [(h0, .inr (11, [.ref h2, .int 0, .ref h3, .ref h1, .ref h4, .ref h5, .ref h6, .ref h7, .ref h8, .ref h9, .ref h10, .int 0, .ref h11, .ref h12])), (h1, .inr (1, [.ref h13, .ref h14, .ref h15, .ref h16, .int 0, .int 0]))] U.heap ∧ va_K (dC, dI) vwCl [] U ∧ va_D (fun _ => True) [(h0, .inr (11, [.ref h2, .int 0, .ref h3, .ref h1, .ref h4, .ref h5, .ref h6, .ref h7, .ref h8, .ref h9, .ref h10, .int 0, .ref h11, .ref h12])), (h1, .inr (1, [.ref h13, .ref h14, .ref h15, .ref h16, .int 0, .int 0]))])) (va_Qi (fun (r : Int32) (_ : Unit) => r = -5) (fun (_ : Unit) t => va_P (dC, dI) vwCl [] t.heap ∧ va_K (dC, dI) vwCl [] t ∧ va_D (va_A [(h0, .inr (11, [.ref h2, .int 0, .ref h3, .ref h1, .ref h4, .ref h5, .ref h6, .ref h7, .ref h8, .ref h9, .ref h10, .int 0, .ref h11, .ref h12])), (h1, .inr (1, [.ref h13, .ref h14, .ref h15, .ref h16, .int 0, .int 0]))] sz) []) (va_A [(h0, .inr (11, [.ref h2, .int 0, .ref h3, .ref h1, .ref h4, .ref h5, .ref h6, .ref h7, .ref h8, .ref h9, .ref h10, .int 0, .ref h11, .ref h12])), (h1, .inr (1, [.ref h13, .ref h14, .ref h15, .ref h16, .int 0, .int 0]))] sz)) 0 0 (va_A [(h0, .inr (11, [.ref h2, .int 0, .ref h3, .ref h1, .ref h4, .ref h5, .ref h6, .ref h7, .ref h8, .ref h9, .ref h10, .int 0, .ref h11, .ref h12])), (h1, .inr (1, [.ref h13, .ref h14, .ref h15, .ref h16, .int 0, .int 0]))] sz) := by
  refine Met.ofW (cc := cX11_redo) (maxL := 3) (ret := (some .int)) (by decide) rfl ?_
  intro p e s m args below meth c s₁ B hml hv
  obtain ⟨rfl, hsz, hP, hK, hD0⟩ := hv
  have hx := B.exec
  have hb := B.bytes
  have hr := B.returns
  have hts := atoms_spec (ws := wsX11_redo) B.pre
  have hown : s.vm.findClass RX11 = some m.cls := findClass_of_methodNamed B.named
  have hlocks := B.notSynchronized
  subst hsz
  have hD := hD0.self (sz := s.heap.size)
  generalize hAe : va_A [(h0, .inr (11, [.ref h2, .int 0, .ref h3, .ref h1, .ref h4, .ref h5, .ref h6, .ref h7, .ref h8, .ref h9, .ref h10, .int 0, .ref h11, .ref h12])), (h1, .inr (1, [.ref h13, .ref h14, .ref h15, .ref h16, .int 0, .int 0]))] s.heap.size = A at hD ⊢
  have hA : ∀ q : Nat, s.heap.size ≤ q → A q := fun q h => by rw [← hAe]; exact Or.inr h
  have hS : va_S A s.heap s.heap [] := va_S.rf
  have hP : va_P (dC, dI) vwCl [(h0, .inr (11, [.ref h2, .int 0, .ref h3, .ref h1, .ref h4, .ref h5, .ref h6, .ref h7, .ref h8, .ref h9, .ref h10, .int 0, .ref h11, .ref h12])), (h1, .inr (1, [.ref h13, .ref h14, .ref h15, .ref h16, .int 0, .int 0]))] s.heap := hP
  have hl := lv_entry ([.ref h0]) (n := 3) (Nat.le_of_ble_eq_true rfl)
  rw [lg_entry_eq]
  generalize (lg_sl ([.ref h0]) ++ List.replicate (3 - (lg_sl ([.ref h0])).length) Slot.unset).toArray = ls at hl ⊢
  have hl : lv_has ls 3 [(0, .ref h0)] := hl
  refine lv_aload_n hx hb dX11_redo_0 rfl (lv_at hl 0 rfl) ?_
  refine va_get (D := (dC, dI)) (ci := 11) (v := .ref h1) (C := RX11) (T := TX11) (N := 14) hx hb hts (fun _ h => List.mem_cons_of_mem _ (List.mem_append_left _ (List.mem_append_left _ (List.mem_append_right _ h)))) hown hK hP 0 rfl rfl 3 (by decide) (hts (.fieldLink RX11 23 "KinkStreet" "changes" "LKinkStreet$Changes;") (List.mem_of_getElem? (i := 1) rfl)) (fun _ h9 => h9) rfl dX11_redo_1 ?_
  have hPc := hP.sub (ws' := [(h1, .inr (1, [.ref h13, .ref h14, .ref h15, .ref h16, .int 0, .int 0]))]) [1] rfl
  have hDc := hD.sub (ws' := [(h1, .inr (1, [.ref h13, .ref h14, .ref h15, .ref h16, .int 0, .int 0]))]) [1] (by decide) rfl
  have hKc := hK.sub (tys' := []) [] rfl
  have hFc := va_free (wc := [(h1, .inr (1, [.ref h13, .ref h14, .ref h15, .ref h16, .int 0, .int 0]))]) hD hS hA [1] rfl
  refine va_calli (va_runV (As := []) (rest := []) ⟨hx, hb, hml, hown, hts⟩ (k_X1_redoable_0 l dC dI h1 h13 h14 h15 h16 s.heap.size) (cwV 0 hts gX11_redo_X1_redoable rfl rfl rfl (by decide +kernel) ⟨Nat.le_of_ble_eq_true rfl, Nat.le_of_ble_eq_true rfl⟩) ⟨fun a U g mk q => by obtain ⟨q0, q1, qP, qK, qD⟩ := q; exact ⟨q0, q1, qP, va_K.moved (u := U) (U := U.calling g mk a) (Vm.Alike.refl U.vm) qK, qD⟩, va_recv hKc hPc (ci := 1) (q0 := 0) rfl rfl, fun U hU hW => ⟨rfl, by rw [hU], by rw [hU]; exact hPc, va_K.moved hW.alike hKc, hDc.weaken (fun _ _ _ _ => trivial)⟩⟩ rfl rfl hl.1 rfl (lv_room (Nat.le_of_ble_eq_true rfl)) dX11_redo_4 ⟨Nat.le_of_ble_eq_true rfl, Nat.le_of_ble_eq_true rfl⟩) hS (fun q _ h => hFc q h) hFc (fun r_1 u t H1 locs ht hvm hw hB hz1 hk1 hS => ?_)
  obtain ⟨hP1, hK1, hD1⟩ := hB
  rw [ht] at hP1
  have hK1 := va_K.moved hvm.symm hK1
  obtain ⟨hP, hD⟩ := va_join (wr := [(h0, .inr (11, [.ref h2, .int 0, .ref h3, .ref h1, .ref h4, .ref h5, .ref h6, .ref h7, .ref h8, .ref h9, .ref h10, .int 0, .ref h11, .ref h12]))]) (w1 := [(h1, .inr (1, [.ref h13, .ref h14, .ref h15, .ref h16, .int 0, .int 0]))]) hP hD [1] [0] rfl rfl (by decide) (by decide) hk1 hFc hP1 hD1
  generalize H1 = H at hP hS ⊢
  have hP : va_P (dC, dI) vwCl [(h0, .inr (11, [.ref h2, .int 0, .ref h3, .ref h1, .ref h4, .ref h5, .ref h6, .ref h7, .ref h8, .ref h9, .ref h10, .int 0, .ref h11, .ref h12])), (h1, .inr (1, [.ref h13, .ref h14, .ref h15, .ref h16, .int 0, .int 0]))] H := hP
  have hD : va_D A [(h0, .inr (11, [.ref h2, .int 0, .ref h3, .ref h1, .ref h4, .ref h5, .ref h6, .ref h7, .ref h8, .ref h9, .ref h10, .int 0, .ref h11, .ref h12])), (h1, .inr (1, [.ref h13, .ref h14, .ref h15, .ref h16, .int 0, .int 0]))] := hD
  obtain rfl := hw
  refine lv_if_ne (tgt := 13) hx hb dX11_redo_7 (by decide) (fun c => absurd c (by decide)) (fun _ => ?_)
  refine lv_bipush (v := (-5)) hx hb dX11_redo_10 (by decide) ?_
  have hP9 := hP.sub (ws' := []) [] rfl
  have hD9 := hD.sub (ws' := []) [] (by decide) rfl
  have hK9 := hK.sub (tys' := []) [] rfl
  exact W.iret (v := (-5)) hx hb hr (fun t ht hW => ⟨⟨(-5), (), rfl, by first | rfl | ((repeat' split) <;> first | rfl | (exfalso; omega) | (exact Int32.toInt_inj.mp (by show ((-5) : Int) = _; omega))), by rw [ht]; exact hP9, va_K.moved hW.alike hK9, hD9⟩, hS.F ht⟩) hS.2.2 dX11_redo_12
set_option maxHeartbeats 4000000 in
set_option maxRecDepth 100000 in
theorem k_X5_isKind_0 (l : Launch) (dC : Nat → ClassId) (dI : Nat → Nat → Nat) (sz : Nat) (p0 : Int32) : Met l yX5_isKind wsX5_isKind ({ frames := 0, cells := 0, slots := 0, locals := 0 }) (va_Pc [.int p0] (fun U => U.heap.size = sz ∧ va_P (dC, dI) vwCl [] U.heap ∧ va_K (dC, dI) vwCl [] U ∧ va_D (fun _ => True) [])) (va_Qi (fun (r : Int32) (_ : Unit) => (p0.toInt < 0 ∧ r = 0) ∨ (0 ≤ p0.toInt ∧ 8 ≤ p0.toInt ∧ r = 0) ∨ (0 ≤ p0.toInt ∧ p0.toInt < 8 ∧ r = 1)) (fun (_ : Unit) t => va_P (dC, dI) vwCl [] t.heap ∧ va_K (dC, dI) vwCl [] t ∧ va_D (va_A [] sz) []) (va_A [] sz)) 0 0 (va_A [] sz) := by
  refine Met.ofW (cc := cX5_isKind) (maxL := 1) (ret := (some .boolean)) (by decide) rfl ?_
  intro p e s m args below meth c s₁ B hml hv
  obtain ⟨rfl, hsz, hP, hK, hD0⟩ := hv
  have hx := B.exec
  have hb := B.bytes
  have hr := B.returns
  have hts := atoms_spec (ws := wsX5_isKind) B.pre
  have hown : s.vm.findClass RX5 = some m.cls := findClass_of_methodNamed B.named
  have hlocks := B.notSynchronized
  subst hsz
  have hD := hD0.self (sz := s.heap.size)
  generalize hAe : va_A [] s.heap.size = A at hD ⊢
  have hA : ∀ q : Nat, s.heap.size ≤ q → A q := fun q h => by rw [← hAe]; exact Or.inr h
  have hS : va_S A s.heap s.heap [] := va_S.rf
  have hP : va_P (dC, dI) vwCl [] s.heap := hP
  have hl := lv_entry ([.int p0]) (n := 1) (Nat.le_of_ble_eq_true rfl)
  rw [lg_entry_eq]
  generalize (lg_sl ([.int p0]) ++ List.replicate (1 - (lg_sl ([.int p0])).length) Slot.unset).toArray = ls at hl ⊢
  have hl : lv_has ls 1 [(0, .int p0)] := hl
  refine lv_iload_n hx hb dX5_isKind_0 rfl (lv_at hl 0 rfl) ?_
  refine lv_if_lt (tgt := 14) hx hb dX5_isKind_1 (by decide) (fun c_1 => ?_) (fun c_1 => ?_)
  · have t_1 : p0.toInt < 0 := kk_lt c_1
    refine lv_iconst (v := 0) hx hb dX5_isKind_14 (by decide) ?_
    have hP9 := hP.sub (ws' := []) [] rfl
    have hD9 := hD.sub (ws' := []) [] (by decide) rfl
    have hK9 := hK.sub (tys' := []) [] rfl
    exact W.zret (v := 0) hx hb hr rfl (fun t ht hW => ⟨⟨0, (), rfl, Or.inl ⟨by first | assumption | omega, rfl⟩, by rw [ht]; exact hP9, va_K.moved hW.alike hK9, hD9⟩, hS.F ht⟩) hS.2.2 dX5_isKind_15
  · have t_1 : 0 ≤ p0.toInt := kk_nlt c_1
    refine lv_iload_n hx hb dX5_isKind_4 rfl (lv_at hl 0 rfl) ?_
    refine lv_bipush (v := 8) hx hb dX5_isKind_5 (by decide) ?_
    refine lv_icmp_ge (tgt := 14) hx hb dX5_isKind_7 (by decide) (fun c_2 => ?_) (fun c_2 => ?_)
    · have t_2 : 8 ≤ p0.toInt := kk_le c_2
      refine lv_iconst (v := 0) hx hb dX5_isKind_14 (by decide) ?_
      have hP9 := hP.sub (ws' := []) [] rfl
      have hD9 := hD.sub (ws' := []) [] (by decide) rfl
      have hK9 := hK.sub (tys' := []) [] rfl
      exact W.zret (v := 0) hx hb hr rfl (fun t ht hW => ⟨⟨0, (), rfl, Or.inr (Or.inl ⟨by first | assumption | omega, by first | assumption | omega, rfl⟩), by rw [ht]; exact hP9, va_K.moved hW.alike hK9, hD9⟩, hS.F ht⟩) hS.2.2 dX5_isKind_15
    · have t_2 : p0.toInt < 8 := kk_nle c_2
      refine lv_iconst (v := 1) hx hb dX5_isKind_10 (by decide) ?_
      refine lv_goto (tgt := 15) hx hb dX5_isKind_11 (by decide) ?_
      have hP9 := hP.sub (ws' := []) [] rfl
      have hD9 := hD.sub (ws' := []) [] (by decide) rfl
      have hK9 := hK.sub (tys' := []) [] rfl
      exact W.zret (v := 1) hx hb hr rfl (fun t ht hW => ⟨⟨1, (), rfl, Or.inr (Or.inr (⟨by first | assumption | omega, by first | assumption | omega, rfl⟩)), by rw [ht]; exact hP9, va_K.moved hW.alike hK9, hD9⟩, hS.F ht⟩) hS.2.2 dX5_isKind_15
set_option maxHeartbeats 4000000 in
set_option maxRecDepth 100000 in
theorem k_X5_isFull_0 (l : Launch) (dC : Nat → ClassId) (dI : Nat → Nat → Nat) (h0 h1 h2 : Nat) (sz : Nat)  : Met l yX5_isFull wsX5_isFull ({ frames := 0, cells := 0, slots := 0, locals := 0 }) (va_Pc [.ref h0] (fun U => U.heap.size = sz ∧ va_P (dC, dI) vwCl [(h0, .inr (5, [.ref h1, .int 0, .ref h2, .int 0]))] U.heap ∧ va_K (dC, dI) vwCl [] U ∧ va_D (fun _ => True) [(h0, .inr (5, [.ref h1, .int 0, .ref h2, .int 0]))])) (va_Qi (fun (r : Int32) (_ : Unit) => r = 0) (fun (_ : Unit) t => va_P (dC, dI) vwCl [(h0, .inr (5, [.ref h1, .int 0, .ref h2, .int 0]))] t.heap ∧ va_K (dC, dI) vwCl [] t ∧ va_D (va_A [(h0, .inr (5, [.ref h1, .int 0, .ref h2, .int 0]))] sz) [(h0, .inr (5, [.ref h1, .int 0, .ref h2, .int 0]))]) (va_A [(h0, .inr (5, [.ref h1, .int 0, .ref h2, .int 0]))] sz)) 0 0 (va_A [(h0, .inr (5, [.ref h1, .int 0, .ref h2, .int 0]))] sz) := by
  refine Met.ofW (cc := cX5_isFull) (maxL := 1) (ret := (some .boolean)) (by decide) rfl ?_
  intro p e s m args below meth c s₁ B hml hv
  obtain ⟨rfl, hsz, hP, hK, hD0⟩ := hv
  have hx := B.exec
  have hb := B.bytes
  have hr := B.returns
  have hts := atoms_spec (ws := wsX5_isFull) B.pre
  have hown : s.vm.findClass RX5 = some m.cls := findClass_of_methodNamed B.named
  have hlocks := B.notSynchronized
  subst hsz
  have hD := hD0.self (sz := s.heap.size)
  generalize hAe : va_A [(h0, .inr (5, [.ref h1, .int 0, .ref h2, .int 0]))] s.heap.size = A at hD ⊢
  have hA : ∀ q : Nat, s.heap.size ≤ q → A q := fun q h => by rw [← hAe]; exact Or.inr h
  have hS : va_S A s.heap s.heap [] := va_S.rf
  have hP : va_P (dC, dI) vwCl [(h0, .inr (5, [.ref h1, .int 0, .ref h2, .int 0]))] s.heap := hP
  have hl := lv_entry ([.ref h0]) (n := 1) (Nat.le_of_ble_eq_true rfl)
  rw [lg_entry_eq]
  generalize (lg_sl ([.ref h0]) ++ List.replicate (1 - (lg_sl ([.ref h0])).length) Slot.unset).toArray = ls at hl ⊢
  have hl : lv_has ls 1 [(0, .ref h0)] := hl
  refine lv_aload_n hx hb dX5_isFull_0 rfl (lv_at hl 0 rfl) ?_
  refine va_get (D := (dC, dI)) (ci := 5) (v := .int 0) (C := RX5) (T := TX5) (N := 4) hx hb hts (fun _ h => List.mem_cons_of_mem _ (List.mem_append_right _ h)) hown hK hP 0 rfl rfl 1 (by decide) (hts (.fieldLink RX5 25 "KinkStreet$Lines" "size" "I") (List.mem_of_getElem? (i := 1) rfl)) (fun _ h9 => h9) rfl dX5_isFull_1 ?_
  refine lv_bipush (v := 50) hx hb dX5_isFull_4 (by decide) ?_
  refine lv_icmp_lt (tgt := 13) hx hb dX5_isFull_6 (by decide) (fun _ => ?_) (fun c => absurd c (by decide))
  refine lv_iconst (v := 0) hx hb dX5_isFull_13 (by decide) ?_
  have hP9 := hP.sub (ws' := [(h0, .inr (5, [.ref h1, .int 0, .ref h2, .int 0]))]) [0] rfl
  have hD9 := hD.sub (ws' := [(h0, .inr (5, [.ref h1, .int 0, .ref h2, .int 0]))]) [0] (by decide) rfl
  have hK9 := hK.sub (tys' := []) [] rfl
  exact W.zret (v := 0) hx hb hr rfl (fun t ht hW => ⟨⟨0, (), rfl, rfl, by rw [ht]; exact hP9, va_K.moved hW.alike hK9, hD9⟩, hS.F ht⟩) hS.2.2 dX5_isFull_14
set_option maxHeartbeats 4000000 in
set_option maxRecDepth 100000 in
theorem k_X5_append_0 (l : Launch) (dC : Nat → ClassId) (dI : Nat → Nat → Nat) (h0 h1 h2 : Nat) (cint : ClassId) (sz : Nat) (p0 : Int32) : Met l yX5_append wsX5_append ({ frames := 1, cells := 0, slots := 0, locals := 20 }) (va_Pc [.ref h0, .int p0] (fun U => U.heap.size = sz ∧ va_P (dC, dI) vwCl [(h0, .inr (5, [.ref h1, .int 0, .ref h2, .int 0])), (h1, .inl (cint, 50, .inl (fun _ => 0)))] U.heap ∧ va_K (dC, dI) vwCl [(cint, .int)] U ∧ va_D (fun _ => True) [(h0, .inr (5, [.ref h1, .int 0, .ref h2, .int 0])), (h1, .inl (cint, 50, .inl (fun _ => 0)))])) (va_Qi (fun (r : Int32) (_ : Unit) => r = 0) (fun (_ : Unit) t => va_P (dC, dI) vwCl [] t.heap ∧ va_K (dC, dI) vwCl [] t ∧ va_D (va_A [(h0, .inr (5, [.ref h1, .int 0, .ref h2, .int 0])), (h1, .inl (cint, 50, .inl (fun _ => 0)))] sz) []) (va_A [(h0, .inr (5, [.ref h1, .int 0, .ref h2, .int 0])), (h1, .inl (cint, 50, .inl (fun _ => 0)))] sz)) 0 0 (va_A [(h0, .inr (5, [.ref h1, .int 0, .ref h2, .int 0])), (h1, .inl (cint, 50, .inl (fun _ => 0)))] sz) := by
  refine Met.ofW (cc := cX5_append) (maxL := 2) (ret := (some .int)) (by decide) rfl ?_
  intro p e s m args below meth c s₁ B hml hv
  obtain ⟨rfl, hsz, hP, hK, hD0⟩ := hv
  have hx := B.exec
  have hb := B.bytes
  have hr := B.returns
  have hts := atoms_spec (ws := wsX5_append) B.pre
  have hown : s.vm.findClass RX5 = some m.cls := findClass_of_methodNamed B.named
  have hlocks := B.notSynchronized
  subst hsz
  have hD := hD0.self (sz := s.heap.size)
  generalize hAe : va_A [(h0, .inr (5, [.ref h1, .int 0, .ref h2, .int 0])), (h1, .inl (cint, 50, .inl (fun _ => 0)))] s.heap.size = A at hD ⊢
  have hA : ∀ q : Nat, s.heap.size ≤ q → A q := fun q h => by rw [← hAe]; exact Or.inr h
  have hS : va_S A s.heap s.heap [] := va_S.rf
  have hP : va_P (dC, dI) vwCl [(h0, .inr (5, [.ref h1, .int 0, .ref h2, .int 0])), (h1, .inl (cint, 50, .inl (fun _ => 0)))] s.heap := hP
  have hl := lv_entry ([.ref h0, .int p0]) (n := 2) (Nat.le_of_ble_eq_true rfl)
  rw [lg_entry_eq]
  generalize (lg_sl ([.ref h0, .int p0]) ++ List.replicate (2 - (lg_sl ([.ref h0, .int p0])).length) Slot.unset).toArray = ls at hl ⊢
  have hl : lv_has ls 2 [(0, .ref h0), (1, .int p0)] := hl
  refine lv_aload_n hx hb dX5_append_0 rfl (lv_at hl 0 rfl) ?_
  have hPc := hP.sub (ws' := [(h0, .inr (5, [.ref h1, .int 0, .ref h2, .int 0]))]) [0] rfl
  have hDc := hD.sub (ws' := [(h0, .inr (5, [.ref h1, .int 0, .ref h2, .int 0]))]) [0] (by decide) rfl
  have hKc := hK.sub (tys' := []) [] rfl
  have hFc := va_free (wc := [(h0, .inr (5, [.ref h1, .int 0, .ref h2, .int 0]))]) hD hS hA [0] rfl
  refine va_calli (va_runV (As := []) (rest := []) ⟨hx, hb, hml, hown, hts⟩ (k_X5_isFull_0 l dC dI h0 h1 h2 s.heap.size) (cwV 0 hts gX5_append_X5_isFull rfl rfl rfl (by decide +kernel) ⟨Nat.le_of_ble_eq_true rfl, Nat.le_of_ble_eq_true rfl⟩) ⟨fun a U g mk q => by obtain ⟨q0, q1, qP, qK, qD⟩ := q; exact ⟨q0, q1, qP, va_K.moved (u := U) (U := U.calling g mk a) (Vm.Alike.refl U.vm) qK, qD⟩, va_recv hKc hPc (ci := 5) (q0 := 0) rfl rfl, fun U hU hW => ⟨rfl, by rw [hU], by rw [hU]; exact hPc, va_K.moved hW.alike hKc, hDc.weaken (fun _ _ _ _ => trivial)⟩⟩ rfl rfl hl.1 rfl (lv_room (Nat.le_of_ble_eq_true rfl)) dX5_append_1 ⟨Nat.le_of_ble_eq_true rfl, Nat.le_of_ble_eq_true rfl⟩) hS (fun q _ h => hFc q h) hFc (fun r_1 u t H1 locs ht hvm hw hB hz1 hk1 hS => ?_)
  obtain ⟨hP1, hK1, hD1⟩ := hB
  rw [ht] at hP1
  have hK1 := va_K.moved hvm.symm hK1
  obtain ⟨hP, hD⟩ := va_join (wr := [(h1, .inl (cint, 50, .inl (fun _ => 0)))]) (w1 := [(h0, .inr (5, [.ref h1, .int 0, .ref h2, .int 0]))]) hP hD [0] [1] rfl rfl (by decide) (by decide) hk1 hFc hP1 hD1
  generalize H1 = H at hP hS ⊢
  have hP : va_P (dC, dI) vwCl [(h1, .inl (cint, 50, .inl (fun _ => 0))), (h0, .inr (5, [.ref h1, .int 0, .ref h2, .int 0]))] H := hP
  have hD : va_D A [(h1, .inl (cint, 50, .inl (fun _ => 0))), (h0, .inr (5, [.ref h1, .int 0, .ref h2, .int 0]))] := hD
  obtain rfl := hw
  refine lv_if_eq (tgt := 10) hx hb dX5_append_4 (by decide) (fun _ => ?_) (fun c => absurd c (by decide))
  refine lv_aload_n hx hb dX5_append_10 rfl (lv_at hl 0 rfl) ?_
  refine va_get (D := (dC, dI)) (ci := 5) (v := .ref h1) (C := RX5) (T := TX5) (N := 4) hx hb hts (fun _ h => List.mem_cons_of_mem _ (List.mem_append_right _ h)) hown hK hP 1 rfl rfl 0 (by decide) (hts (.fieldLink RX5 11 "KinkStreet$Lines" "kinds" "[I") (List.mem_of_getElem? (i := 1) rfl)) (fun _ h9 => h9) rfl dX5_append_11 ?_
  refine lv_aload_n hx hb dX5_append_14 rfl (lv_at hl 0 rfl) ?_
  refine va_get (D := (dC, dI)) (ci := 5) (v := .int 0) (C := RX5) (T := TX5) (N := 4) hx hb hts (fun _ h => List.mem_cons_of_mem _ (List.mem_append_right _ h)) hown hK hP 1 rfl rfl 1 (by decide) (hts (.fieldLink RX5 25 "KinkStreet$Lines" "size" "I") (List.mem_of_getElem? (i := 2) rfl)) (fun _ h9 => h9) rfl dX5_append_15 ?_
  refine lv_iload_n hx hb dX5_append_18 rfl (lv_at hl 1 rfl) ?_
  refine va_iast hx hb hK hP hD hS 0 0 rfl rfl (by unfold vp_in; decide) dX5_append_19 (fun H locs hP hD hS => ?_)
  have hP : va_P (dC, dI) vwCl [(h1, .inl (cint, 50, .inl (upd (fun _ => 0) (0 : Int32).toNatClampNeg p0))), (h0, .inr (5, [.ref h1, .int 0, .ref h2, .int 0]))] H := hP
  have hD : va_D A [(h1, .inl (cint, 50, .inl (upd (fun _ => 0) (0 : Int32).toNatClampNeg p0))), (h0, .inr (5, [.ref h1, .int 0, .ref h2, .int 0]))] := hD
  refine lv_aload_n hx hb dX5_append_20 rfl (lv_at hl 0 rfl) ?_
  refine lv_dup hx hb dX5_append_21 rfl ?_
  refine va_get (D := (dC, dI)) (ci := 5) (v := .int 0) (C := RX5) (T := TX5) (N := 4) hx hb hts (fun _ h => List.mem_cons_of_mem _ (List.mem_append_right _ h)) hown hK hP 1 rfl rfl 1 (by decide) (hts (.fieldLink RX5 25 "KinkStreet$Lines" "size" "I") (List.mem_of_getElem? (i := 2) rfl)) (fun _ h9 => h9) rfl dX5_append_22 ?_
  refine lv_dup_x1 hx hb dX5_append_25 rfl rfl ?_
  refine lv_iconst (v := 1) hx hb dX5_append_26 (by decide) ?_
  refine lv_iadd hx hb dX5_append_27 ?_
  refine lv_topi (fun y_2 e_2 => ?_)
  obtain rfl : y_2 = 1 := e_2.trans (by decide)
  refine va_put (D := (dC, dI)) (ci := 5) (v := .int 1) (ty := .int) (C := RX5) (T := TX5) (N := 4) hx hb hts (fun _ h => List.mem_cons_of_mem _ (List.mem_append_right _ h)) tyX5 tyX5_ok nmX5 hown hK hP hD hS 1 rfl rfl 1 (by decide) (hts (.fieldLink RX5 25 "KinkStreet$Lines" "size" "I") (List.mem_of_getElem? (i := 2) rfl)) (fun _ h9 => h9) rfl (by decide +kernel) rfl rfl (Nat.le_of_ble_eq_true rfl) dX5_append_28 (fun H locs hP hD hS => ?_)
  have hP : va_P (dC, dI) vwCl [(h1, .inl (cint, 50, .inl (upd (fun _ => 0) (0 : Int32).toNatClampNeg p0))), (h0, .inr (5, [.ref h1, .int 1, .ref h2, .int 0]))] H := hP
  have hD : va_D A [(h1, .inl (cint, 50, .inl (upd (fun _ => 0) (0 : Int32).toNatClampNeg p0))), (h0, .inr (5, [.ref h1, .int 1, .ref h2, .int 0]))] := hD
  have hP9 := hP.sub (ws' := []) [] rfl
  have hD9 := hD.sub (ws' := []) [] (by decide) rfl
  have hK9 := hK.sub (tys' := []) [] rfl
  exact W.iret (v := 0) hx hb hr (fun t ht hW => ⟨⟨0, (), rfl, rfl, by rw [ht]; exact hP9, va_K.moved hW.alike hK9, hD9⟩, hS.F ht⟩) hS.2.2 dX5_append_31
set_option maxHeartbeats 4000000 in
set_option maxRecDepth 100000 in
theorem k_X11_body_0 (l : Launch) (dC : Nat → ClassId) (dI : Nat → Nat → Nat) (h0 h1 h2 h3 h4 h5 h6 h7 h8 h9 h10 h11 h12 h13 h14 : Nat) (cint : ClassId) (sz : Nat) (p0 : Int32) : Met l yX11_body wsX11_body ({ frames := 2, cells := 0, slots := 0, locals := 41 }) (va_Pc [.ref h0, .int p0] (fun U => U.heap.size = sz ∧ va_P (dC, dI) vwCl [(h0, .inr (11, [.ref h3, .int 0, .ref h4, .ref h5, .ref h6, .ref h7, .ref h8, .ref h9, .ref h10, .ref h11, .ref h12, .int 0, .ref h1, .ref h13])), (h1, .inr (5, [.ref h2, .int 0, .ref h14, .int 0])), (h2, .inl (cint, 50, .inl (fun _ => 0)))] U.heap ∧ va_K (dC, dI) vwCl [(cint, .int)] U ∧ va_D (fun _ => True) [(h0, .inr (11, [.ref h3, .int 0, .ref h4, .ref h5, .ref h6, .ref h7, .ref h8, .ref h9, .ref h10, .ref h11, .ref h12, .int 0, .ref h1, .ref h13])), (h1, .inr (5, [.ref h2, .int 0, .ref h14, .int 0])), (h2, .inl (cint, 50, .inl (fun _ => 0)))])) (va_Qi (fun (r : Int32) (_ : Unit) => r = if 0 ≤ p0.toInt ∧ p0.toInt < 8 then (0 : Int32) else -1) (fun (_ : Unit) t => va_P (dC, dI) vwCl [] t.heap ∧ va_K (dC, dI) vwCl [] t ∧ va_D (va_A [(h0, .inr (11, [.ref h3, .int 0, .ref h4, .ref h5, .ref h6, .ref h7, .ref h8, .ref h9, .ref h10, .ref h11, .ref h12, .int 0, .ref h1, .ref h13])), (h1, .inr (5, [.ref h2, .int 0, .ref h14, .int 0])), (h2, .inl (cint, 50, .inl (fun _ => 0)))] sz) []) (va_A [(h0, .inr (11, [.ref h3, .int 0, .ref h4, .ref h5, .ref h6, .ref h7, .ref h8, .ref h9, .ref h10, .ref h11, .ref h12, .int 0, .ref h1, .ref h13])), (h1, .inr (5, [.ref h2, .int 0, .ref h14, .int 0])), (h2, .inl (cint, 50, .inl (fun _ => 0)))] sz)) 0 0 (va_A [(h0, .inr (11, [.ref h3, .int 0, .ref h4, .ref h5, .ref h6, .ref h7, .ref h8, .ref h9, .ref h10, .ref h11, .ref h12, .int 0, .ref h1, .ref h13])), (h1, .inr (5, [.ref h2, .int 0, .ref h14, .int 0])), (h2, .inl (cint, 50, .inl (fun _ => 0)))] sz) := by
  refine Met.ofW (cc := cX11_body) (maxL := 2) (ret := (some .int)) (by decide) rfl ?_
  intro p e s m args below meth c s₁ B hml hv
  obtain ⟨rfl, hsz, hP, hK, hD0⟩ := hv
  have hx := B.exec
  have hb := B.bytes
  have hr := B.returns
  have hts := atoms_spec (ws := wsX11_body) B.pre
  have hown : s.vm.findClass RX11 = some m.cls := findClass_of_methodNamed B.named
  have hlocks := B.notSynchronized
  subst hsz
  have hD := hD0.self (sz := s.heap.size)
  generalize hAe : va_A [(h0, .inr (11, [.ref h3, .int 0, .ref h4, .ref h5, .ref h6, .ref h7, .ref h8, .ref h9, .ref h10, .ref h11, .ref h12, .int 0, .ref h1, .ref h13])), (h1, .inr (5, [.ref h2, .int 0, .ref h14, .int 0])), (h2, .inl (cint, 50, .inl (fun _ => 0)))] s.heap.size = A at hD ⊢
  have hA : ∀ q : Nat, s.heap.size ≤ q → A q := fun q h => by rw [← hAe]; exact Or.inr h
  have hS : va_S A s.heap s.heap [] := va_S.rf
  have hP : va_P (dC, dI) vwCl [(h0, .inr (11, [.ref h3, .int 0, .ref h4, .ref h5, .ref h6, .ref h7, .ref h8, .ref h9, .ref h10, .ref h11, .ref h12, .int 0, .ref h1, .ref h13])), (h1, .inr (5, [.ref h2, .int 0, .ref h14, .int 0])), (h2, .inl (cint, 50, .inl (fun _ => 0)))] s.heap := hP
  have hl := lv_entry ([.ref h0, .int p0]) (n := 2) (Nat.le_of_ble_eq_true rfl)
  rw [lg_entry_eq]
  generalize (lg_sl ([.ref h0, .int p0]) ++ List.replicate (2 - (lg_sl ([.ref h0, .int p0])).length) Slot.unset).toArray = ls at hl ⊢
  have hl : lv_has ls 2 [(0, .ref h0), (1, .int p0)] := hl
  refine lv_iload_n hx hb dX11_body_0 rfl (lv_at hl 1 rfl) ?_
  have hPc := hP.sub (ws' := []) [] rfl
  have hDc := hD.sub (ws' := []) [] (by decide) rfl
  have hKc := hK.sub (tys' := []) [] rfl
  have hFc := va_free (wc := []) hD hS hA [] rfl
  refine va_calli (va_runS (As := [.int p0]) (rest := []) ⟨hx, hb, hml, hown, hts⟩ (k_X5_isKind_0 l dC dI s.heap.size p0) (va_cwS 1 hts gX11_body_X5_isKind rfl rfl rfl (by decide +kernel) ⟨Nat.le_of_ble_eq_true rfl, Nat.le_of_ble_eq_true rfl⟩) ⟨fun a U g mk q => by obtain ⟨q0, q1, qP, qK, qD⟩ := q; exact ⟨q0, q1, qP, va_K.moved (u := U) (U := U.calling g mk a) (Vm.Alike.refl U.vm) qK, qD⟩, fun U hU hW => ⟨rfl, by rw [hU], by rw [hU]; exact hPc, va_K.moved hW.alike hKc, hDc.weaken (fun _ _ _ _ => trivial)⟩⟩ rfl rfl hl.1 rfl (lv_room (Nat.le_of_ble_eq_true rfl)) dX11_body_1 ⟨Nat.le_of_ble_eq_true rfl, Nat.le_of_ble_eq_true rfl⟩) hS (fun q _ h => hFc q h) hFc (fun r_1 u t H1 locs ht hvm hw hB hz1 hk1 hS => ?_)
  obtain ⟨hP1, hK1, hD1⟩ := hB
  rw [ht] at hP1
  have hK1 := va_K.moved hvm.symm hK1
  obtain ⟨hP, hD⟩ := va_join (wr := [(h0, .inr (11, [.ref h3, .int 0, .ref h4, .ref h5, .ref h6, .ref h7, .ref h8, .ref h9, .ref h10, .ref h11, .ref h12, .int 0, .ref h1, .ref h13])), (h1, .inr (5, [.ref h2, .int 0, .ref h14, .int 0])), (h2, .inl (cint, 50, .inl (fun _ => 0)))]) (w1 := []) hP hD [] [0, 1, 2] rfl rfl (by decide) (by decide) hk1 hFc hP1 hD1
  generalize H1 = H at hP hS ⊢
  have hP : va_P (dC, dI) vwCl [(h0, .inr (11, [.ref h3, .int 0, .ref h4, .ref h5, .ref h6, .ref h7, .ref h8, .ref h9, .ref h10, .ref h11, .ref h12, .int 0, .ref h1, .ref h13])), (h1, .inr (5, [.ref h2, .int 0, .ref h14, .int 0])), (h2, .inl (cint, 50, .inl (fun _ => 0)))] H := hP
  have hD : va_D A [(h0, .inr (11, [.ref h3, .int 0, .ref h4, .ref h5, .ref h6, .ref h7, .ref h8, .ref h9, .ref h10, .ref h11, .ref h12, .int 0, .ref h1, .ref h13])), (h1, .inr (5, [.ref h2, .int 0, .ref h14, .int 0])), (h2, .inl (cint, 50, .inl (fun _ => 0)))] := hD
  rcases hw with ⟨t_1_0, rfl⟩ | ⟨t_1_0, t_1_1, rfl⟩ | ⟨t_1_0, t_1_1, rfl⟩
  · skip
    refine lv_if_ne (tgt := 9) hx hb dX11_body_4 (by decide) (fun c => absurd c (by decide)) (fun _ => ?_)
    refine lv_iconst (v := (-1)) hx hb dX11_body_7 (by decide) ?_
    have hP9 := hP.sub (ws' := []) [] rfl
    have hD9 := hD.sub (ws' := []) [] (by decide) rfl
    have hK9 := hK.sub (tys' := []) [] rfl
    exact W.iret (v := (-1)) hx hb hr (fun t ht hW => ⟨⟨(-1), (), rfl, by first | rfl | ((repeat' split) <;> first | rfl | (exfalso; omega) | (exact Int32.toInt_inj.mp (by show ((-1) : Int) = _; omega))), by rw [ht]; exact hP9, va_K.moved hW.alike hK9, hD9⟩, hS.F ht⟩) hS.2.2 dX11_body_8
  · skip
    refine lv_if_ne (tgt := 9) hx hb dX11_body_4 (by decide) (fun c => absurd c (by decide)) (fun _ => ?_)
    refine lv_iconst (v := (-1)) hx hb dX11_body_7 (by decide) ?_
    have hP9 := hP.sub (ws' := []) [] rfl
    have hD9 := hD.sub (ws' := []) [] (by decide) rfl
    have hK9 := hK.sub (tys' := []) [] rfl
    exact W.iret (v := (-1)) hx hb hr (fun t ht hW => ⟨⟨(-1), (), rfl, by first | rfl | ((repeat' split) <;> first | rfl | (exfalso; omega) | (exact Int32.toInt_inj.mp (by show ((-1) : Int) = _; omega))), by rw [ht]; exact hP9, va_K.moved hW.alike hK9, hD9⟩, hS.F ht⟩) hS.2.2 dX11_body_8
  · skip
    refine lv_if_ne (tgt := 9) hx hb dX11_body_4 (by decide) (fun _ => ?_) (fun c => absurd c (by decide))
    refine lv_aload_n hx hb dX11_body_9 rfl (lv_at hl 0 rfl) ?_
    refine va_get (D := (dC, dI)) (ci := 11) (v := .ref h1) (C := RX11) (T := TX11) (N := 14) hx hb hts (fun _ h => List.mem_cons_of_mem _ (List.mem_append_left _ (List.mem_append_right _ h))) hown hK hP 0 rfl rfl 12 (by decide) (hts (.fieldLink RX11 78 "KinkStreet" "lines" "LKinkStreet$Lines;") (List.mem_of_getElem? (i := 1) rfl)) (fun _ h9 => h9) rfl dX11_body_10 ?_
    have hPc := hP.sub (ws' := [(h1, .inr (5, [.ref h2, .int 0, .ref h14, .int 0]))]) [1] rfl
    have hDc := hD.sub (ws' := [(h1, .inr (5, [.ref h2, .int 0, .ref h14, .int 0]))]) [1] (by decide) rfl
    have hKc := hK.sub (tys' := []) [] rfl
    have hFc := va_free (wc := [(h1, .inr (5, [.ref h2, .int 0, .ref h14, .int 0]))]) hD hS hA [1] rfl
    refine va_calli (va_runV (As := []) (rest := []) ⟨hx, hb, hml, hown, hts⟩ (k_X5_isFull_0 l dC dI h1 h2 h14 H.size) (cwV 0 hts gX11_body_X5_isFull rfl rfl rfl (by decide +kernel) ⟨Nat.le_of_ble_eq_true rfl, Nat.le_of_ble_eq_true rfl⟩) ⟨fun a U g mk q => by obtain ⟨q0, q1, qP, qK, qD⟩ := q; exact ⟨q0, q1, qP, va_K.moved (u := U) (U := U.calling g mk a) (Vm.Alike.refl U.vm) qK, qD⟩, va_recv hKc hPc (ci := 5) (q0 := 0) rfl rfl, fun U hU hW => ⟨rfl, by rw [hU], by rw [hU]; exact hPc, va_K.moved hW.alike hKc, hDc.weaken (fun _ _ _ _ => trivial)⟩⟩ rfl rfl hl.1 rfl (lv_room (Nat.le_of_ble_eq_true rfl)) dX11_body_13 ⟨Nat.le_of_ble_eq_true rfl, Nat.le_of_ble_eq_true rfl⟩) hS (fun q _ h => hFc q h) hFc (fun r_2 u t H1 locs ht hvm hw hB hz1 hk1 hS => ?_)
    obtain ⟨hP1, hK1, hD1⟩ := hB
    rw [ht] at hP1
    have hK1 := va_K.moved hvm.symm hK1
    obtain ⟨hP, hD⟩ := va_join (wr := [(h0, .inr (11, [.ref h3, .int 0, .ref h4, .ref h5, .ref h6, .ref h7, .ref h8, .ref h9, .ref h10, .ref h11, .ref h12, .int 0, .ref h1, .ref h13])), (h2, .inl (cint, 50, .inl (fun _ => 0)))]) (w1 := [(h1, .inr (5, [.ref h2, .int 0, .ref h14, .int 0]))]) hP hD [1] [0, 2] rfl rfl (by decide) (by decide) hk1 hFc hP1 hD1
    generalize H1 = H at hP hS ⊢
    have hP : va_P (dC, dI) vwCl [(h0, .inr (11, [.ref h3, .int 0, .ref h4, .ref h5, .ref h6, .ref h7, .ref h8, .ref h9, .ref h10, .ref h11, .ref h12, .int 0, .ref h1, .ref h13])), (h2, .inl (cint, 50, .inl (fun _ => 0))), (h1, .inr (5, [.ref h2, .int 0, .ref h14, .int 0]))] H := hP
    have hD : va_D A [(h0, .inr (11, [.ref h3, .int 0, .ref h4, .ref h5, .ref h6, .ref h7, .ref h8, .ref h9, .ref h10, .ref h11, .ref h12, .int 0, .ref h1, .ref h13])), (h2, .inl (cint, 50, .inl (fun _ => 0))), (h1, .inr (5, [.ref h2, .int 0, .ref h14, .int 0]))] := hD
    obtain rfl := hw
    refine lv_if_eq (tgt := 24) hx hb dX11_body_16 (by decide) (fun _ => ?_) (fun c => absurd c (by decide))
    refine lv_aload_n hx hb dX11_body_24 rfl (lv_at hl 0 rfl) ?_
    refine va_get (D := (dC, dI)) (ci := 11) (v := .ref h1) (C := RX11) (T := TX11) (N := 14) hx hb hts (fun _ h => List.mem_cons_of_mem _ (List.mem_append_left _ (List.mem_append_right _ h))) hown hK hP 0 rfl rfl 12 (by decide) (hts (.fieldLink RX11 78 "KinkStreet" "lines" "LKinkStreet$Lines;") (List.mem_of_getElem? (i := 1) rfl)) (fun _ h9 => h9) rfl dX11_body_25 ?_
    refine lv_iload_n hx hb dX11_body_28 rfl (lv_at hl 1 rfl) ?_
    have hPc := hP.sub (ws' := [(h1, .inr (5, [.ref h2, .int 0, .ref h14, .int 0])), (h2, .inl (cint, 50, .inl (fun _ => 0)))]) [2, 1] rfl
    have hDc := hD.sub (ws' := [(h1, .inr (5, [.ref h2, .int 0, .ref h14, .int 0])), (h2, .inl (cint, 50, .inl (fun _ => 0)))]) [2, 1] (by decide) rfl
    have hKc := hK.sub (tys' := [(cint, .int)]) [0] rfl
    have hFc := va_free (wc := [(h1, .inr (5, [.ref h2, .int 0, .ref h14, .int 0])), (h2, .inl (cint, 50, .inl (fun _ => 0)))]) hD hS hA [2, 1] rfl
    refine va_calli (va_runV (As := [.int p0]) (rest := []) ⟨hx, hb, hml, hown, hts⟩ (k_X5_append_0 l dC dI h1 h2 h14 cint H.size p0) (cwV 1 hts gX11_body_X5_append rfl rfl rfl (by decide +kernel) ⟨Nat.le_of_ble_eq_true rfl, Nat.le_of_ble_eq_true rfl⟩) ⟨fun a U g mk q => by obtain ⟨q0, q1, qP, qK, qD⟩ := q; exact ⟨q0, q1, qP, va_K.moved (u := U) (U := U.calling g mk a) (Vm.Alike.refl U.vm) qK, qD⟩, va_recv hKc hPc (ci := 5) (q0 := 0) rfl rfl, fun U hU hW => ⟨rfl, by rw [hU], by rw [hU]; exact hPc, va_K.moved hW.alike hKc, hDc.weaken (fun _ _ _ _ => trivial)⟩⟩ rfl rfl hl.1 rfl (lv_room (Nat.le_of_ble_eq_true rfl)) dX11_body_29 ⟨Nat.le_of_ble_eq_true rfl, Nat.le_of_ble_eq_true rfl⟩) hS (fun q _ h => hFc q h) hFc (fun r_3 u t H1 locs ht hvm hw hB hz1 hk1 hS => ?_)
    obtain ⟨hP1, hK1, hD1⟩ := hB
    rw [ht] at hP1
    have hK1 := va_K.moved hvm.symm hK1
    obtain ⟨hP, hD⟩ := va_join (wr := [(h0, .inr (11, [.ref h3, .int 0, .ref h4, .ref h5, .ref h6, .ref h7, .ref h8, .ref h9, .ref h10, .ref h11, .ref h12, .int 0, .ref h1, .ref h13]))]) (w1 := []) hP hD [2, 1] [0] rfl rfl (by decide) (by decide) hk1 hFc hP1 hD1
    generalize H1 = H at hP hS ⊢
    have hP : va_P (dC, dI) vwCl [(h0, .inr (11, [.ref h3, .int 0, .ref h4, .ref h5, .ref h6, .ref h7, .ref h8, .ref h9, .ref h10, .ref h11, .ref h12, .int 0, .ref h1, .ref h13]))] H := hP
    have hD : va_D A [(h0, .inr (11, [.ref h3, .int 0, .ref h4, .ref h5, .ref h6, .ref h7, .ref h8, .ref h9, .ref h10, .ref h11, .ref h12, .int 0, .ref h1, .ref h13]))] := hD
    obtain rfl := hw
    have hP9 := hP.sub (ws' := []) [] rfl
    have hD9 := hD.sub (ws' := []) [] (by decide) rfl
    have hK9 := hK.sub (tys' := []) [] rfl
    exact W.iret (v := 0) hx hb hr (fun t ht hW => ⟨⟨0, (), rfl, by first | rfl | ((repeat' split) <;> first | rfl | (exfalso; omega) | (exact Int32.toInt_inj.mp (by show (0 : Int) = _; omega))), by rw [ht]; exact hP9, va_K.moved hW.alike hK9, hD9⟩, hS.F ht⟩) hS.2.2 dX11_body_32
set_option maxHeartbeats 4000000 in
set_option maxRecDepth 100000 in
theorem k_X5_has_0 (l : Launch) (dC : Nat → ClassId) (dI : Nat → Nat → Nat) (h0 h1 h2 : Nat) (sz : Nat) (p0 : Int32) : Met l yX5_has wsX5_has ({ frames := 0, cells := 0, slots := 0, locals := 0 }) (va_Pc [.ref h0, .int p0] (fun U => U.heap.size = sz ∧ va_P (dC, dI) vwCl [(h0, .inr (5, [.ref h1, .int 0, .ref h2, .int 0]))] U.heap ∧ va_K (dC, dI) vwCl [] U ∧ va_D (fun _ => True) [(h0, .inr (5, [.ref h1, .int 0, .ref h2, .int 0]))])) (va_Qi (fun (r : Int32) (_ : Unit) => r = 0) (fun (_ : Unit) t => va_P (dC, dI) vwCl [(h0, .inr (5, [.ref h1, .int 0, .ref h2, .int 0]))] t.heap ∧ va_K (dC, dI) vwCl [] t ∧ va_D (va_A [(h0, .inr (5, [.ref h1, .int 0, .ref h2, .int 0]))] sz) [(h0, .inr (5, [.ref h1, .int 0, .ref h2, .int 0]))]) (va_A [(h0, .inr (5, [.ref h1, .int 0, .ref h2, .int 0]))] sz)) 0 0 (va_A [(h0, .inr (5, [.ref h1, .int 0, .ref h2, .int 0]))] sz) := by
  refine Met.ofW (cc := cX5_has) (maxL := 2) (ret := (some .boolean)) (by decide) rfl ?_
  intro p e s m args below meth c s₁ B hml hv
  obtain ⟨rfl, hsz, hP, hK, hD0⟩ := hv
  have hx := B.exec
  have hb := B.bytes
  have hr := B.returns
  have hts := atoms_spec (ws := wsX5_has) B.pre
  have hown : s.vm.findClass RX5 = some m.cls := findClass_of_methodNamed B.named
  have hlocks := B.notSynchronized
  subst hsz
  have hD := hD0.self (sz := s.heap.size)
  generalize hAe : va_A [(h0, .inr (5, [.ref h1, .int 0, .ref h2, .int 0]))] s.heap.size = A at hD ⊢
  have hA : ∀ q : Nat, s.heap.size ≤ q → A q := fun q h => by rw [← hAe]; exact Or.inr h
  have hS : va_S A s.heap s.heap [] := va_S.rf
  have hP : va_P (dC, dI) vwCl [(h0, .inr (5, [.ref h1, .int 0, .ref h2, .int 0]))] s.heap := hP
  have hl := lv_entry ([.ref h0, .int p0]) (n := 2) (Nat.le_of_ble_eq_true rfl)
  rw [lg_entry_eq]
  generalize (lg_sl ([.ref h0, .int p0]) ++ List.replicate (2 - (lg_sl ([.ref h0, .int p0])).length) Slot.unset).toArray = ls at hl ⊢
  have hl : lv_has ls 2 [(0, .ref h0), (1, .int p0)] := hl
  refine lv_iload_n hx hb dX5_has_0 rfl (lv_at hl 1 rfl) ?_
  refine lv_if_lt (tgt := 16) hx hb dX5_has_1 (by decide) (fun c_1 => ?_) (fun c_1 => ?_)
  · have t_1 : p0.toInt < 0 := kk_lt c_1
    refine lv_iconst (v := 0) hx hb dX5_has_16 (by decide) ?_
    have hP9 := hP.sub (ws' := [(h0, .inr (5, [.ref h1, .int 0, .ref h2, .int 0]))]) [0] rfl
    have hD9 := hD.sub (ws' := [(h0, .inr (5, [.ref h1, .int 0, .ref h2, .int 0]))]) [0] (by decide) rfl
    have hK9 := hK.sub (tys' := []) [] rfl
    exact W.zret (v := 0) hx hb hr rfl (fun t ht hW => ⟨⟨0, (), rfl, rfl, by rw [ht]; exact hP9, va_K.moved hW.alike hK9, hD9⟩, hS.F ht⟩) hS.2.2 dX5_has_17
  · have t_1 : 0 ≤ p0.toInt := kk_nlt c_1
    refine lv_iload_n hx hb dX5_has_4 rfl (lv_at hl 1 rfl) ?_
    refine lv_aload_n hx hb dX5_has_5 rfl (lv_at hl 0 rfl) ?_
    refine va_get (D := (dC, dI)) (ci := 5) (v := .int 0) (C := RX5) (T := TX5) (N := 4) hx hb hts (fun _ h => List.mem_cons_of_mem _ (List.mem_append_right _ h)) hown hK hP 0 rfl rfl 1 (by decide) (hts (.fieldLink RX5 25 "KinkStreet$Lines" "size" "I") (List.mem_of_getElem? (i := 1) rfl)) (fun _ h9 => h9) rfl dX5_has_6 ?_
    refine lv_icmp_ge (tgt := 16) hx hb dX5_has_9 (by decide) (fun c_2 => ?_) (fun c_2 => ?_)
    · have t_2 : 0 ≤ p0.toInt := kk_le c_2
      refine lv_iconst (v := 0) hx hb dX5_has_16 (by decide) ?_
      have hP9 := hP.sub (ws' := [(h0, .inr (5, [.ref h1, .int 0, .ref h2, .int 0]))]) [0] rfl
      have hD9 := hD.sub (ws' := [(h0, .inr (5, [.ref h1, .int 0, .ref h2, .int 0]))]) [0] (by decide) rfl
      have hK9 := hK.sub (tys' := []) [] rfl
      exact W.zret (v := 0) hx hb hr rfl (fun t ht hW => ⟨⟨0, (), rfl, rfl, by rw [ht]; exact hP9, va_K.moved hW.alike hK9, hD9⟩, hS.F ht⟩) hS.2.2 dX5_has_17
    · have t_2 : p0.toInt < 0 := kk_nle c_2
      exfalso; omega
set_option maxHeartbeats 4000000 in
set_option maxRecDepth 100000 in
theorem k_X5_perform_0 (l : Launch) (dC : Nat → ClassId) (dI : Nat → Nat → Nat) (h0 h1 h2 : Nat) (sz : Nat) (p0 : Int32) (p1 : Int32) (p2 : Int32) : Met l yX5_perform wsX5_perform ({ frames := 1, cells := 0, slots := 0, locals := 21 }) (va_Pc [.ref h0, .int p0, .int p1, .int p2] (fun U => U.heap.size = sz ∧ va_P (dC, dI) vwCl [(h0, .inr (5, [.ref h1, .int 0, .ref h2, .int 0]))] U.heap ∧ va_K (dC, dI) vwCl [] U ∧ va_D (fun _ => True) [(h0, .inr (5, [.ref h1, .int 0, .ref h2, .int 0]))])) (va_Qi (fun (r : Int32) (_ : Unit) => r = 0) (fun (_ : Unit) t => va_P (dC, dI) vwCl [(h0, .inr (5, [.ref h1, .int 0, .ref h2, .int 0]))] t.heap ∧ va_K (dC, dI) vwCl [] t ∧ va_D (va_A [(h0, .inr (5, [.ref h1, .int 0, .ref h2, .int 0]))] sz) [(h0, .inr (5, [.ref h1, .int 0, .ref h2, .int 0]))]) (va_A [(h0, .inr (5, [.ref h1, .int 0, .ref h2, .int 0]))] sz)) 0 0 (va_A [(h0, .inr (5, [.ref h1, .int 0, .ref h2, .int 0]))] sz) := by
  refine Met.ofW (cc := cX5_perform) (maxL := 4) (ret := (some .int)) (by decide) rfl ?_
  intro p e s m args below meth c s₁ B hml hv
  obtain ⟨rfl, hsz, hP, hK, hD0⟩ := hv
  have hx := B.exec
  have hb := B.bytes
  have hr := B.returns
  have hts := atoms_spec (ws := wsX5_perform) B.pre
  have hown : s.vm.findClass RX5 = some m.cls := findClass_of_methodNamed B.named
  have hlocks := B.notSynchronized
  subst hsz
  have hD := hD0.self (sz := s.heap.size)
  generalize hAe : va_A [(h0, .inr (5, [.ref h1, .int 0, .ref h2, .int 0]))] s.heap.size = A at hD ⊢
  have hA : ∀ q : Nat, s.heap.size ≤ q → A q := fun q h => by rw [← hAe]; exact Or.inr h
  have hS : va_S A s.heap s.heap [] := va_S.rf
  have hP : va_P (dC, dI) vwCl [(h0, .inr (5, [.ref h1, .int 0, .ref h2, .int 0]))] s.heap := hP
  have hl := lv_entry ([.ref h0, .int p0, .int p1, .int p2]) (n := 4) (Nat.le_of_ble_eq_true rfl)
  rw [lg_entry_eq]
  generalize (lg_sl ([.ref h0, .int p0, .int p1, .int p2]) ++ List.replicate (4 - (lg_sl ([.ref h0, .int p0, .int p1, .int p2])).length) Slot.unset).toArray = ls at hl ⊢
  have hl : lv_has ls 4 [(0, .ref h0), (1, .int p0), (2, .int p1), (3, .int p2)] := hl
  refine lv_aload_n hx hb dX5_perform_0 rfl (lv_at hl 0 rfl) ?_
  refine lv_iconst (v := 0) hx hb dX5_perform_1 (by decide) ?_
  refine va_put (D := (dC, dI)) (ci := 5) (v := .int 0) (ty := .int) (C := RX5) (T := TX5) (N := 4) hx hb hts (fun _ h => List.mem_cons_of_mem _ (List.mem_append_right _ h)) tyX5 tyX5_ok nmX5 hown hK hP hD hS 0 rfl rfl 3 (by decide) (hts (.fieldLink RX5 36 "KinkStreet$Lines" "ran" "I") (List.mem_of_getElem? (i := 1) rfl)) (fun _ h9 => h9) rfl (by decide +kernel) rfl rfl (Nat.le_of_ble_eq_true rfl) dX5_perform_2 (fun H locs hP hD hS => ?_)
  have hP : va_P (dC, dI) vwCl [(h0, .inr (5, [.ref h1, .int 0, .ref h2, .int 0]))] H := hP
  have hD : va_D A [(h0, .inr (5, [.ref h1, .int 0, .ref h2, .int 0]))] := hD
  refine lv_aload_n hx hb dX5_perform_5 rfl (lv_at hl 0 rfl) ?_
  refine lv_iload_n hx hb dX5_perform_6 rfl (lv_at hl 1 rfl) ?_
  have hPc := hP.sub (ws' := [(h0, .inr (5, [.ref h1, .int 0, .ref h2, .int 0]))]) [0] rfl
  have hDc := hD.sub (ws' := [(h0, .inr (5, [.ref h1, .int 0, .ref h2, .int 0]))]) [0] (by decide) rfl
  have hKc := hK.sub (tys' := []) [] rfl
  have hFc := va_free (wc := [(h0, .inr (5, [.ref h1, .int 0, .ref h2, .int 0]))]) hD hS hA [0] rfl
  refine va_calli (va_runV (As := [.int p0]) (rest := []) ⟨hx, hb, hml, hown, hts⟩ (k_X5_has_0 l dC dI h0 h1 h2 H.size p0) (cwV 1 hts gX5_perform_X5_has rfl rfl rfl (by decide +kernel) ⟨Nat.le_of_ble_eq_true rfl, Nat.le_of_ble_eq_true rfl⟩) ⟨fun a U g mk q => by obtain ⟨q0, q1, qP, qK, qD⟩ := q; exact ⟨q0, q1, qP, va_K.moved (u := U) (U := U.calling g mk a) (Vm.Alike.refl U.vm) qK, qD⟩, va_recv hKc hPc (ci := 5) (q0 := 0) rfl rfl, fun U hU hW => ⟨rfl, by rw [hU], by rw [hU]; exact hPc, va_K.moved hW.alike hKc, hDc.weaken (fun _ _ _ _ => trivial)⟩⟩ rfl rfl hl.1 rfl (lv_room (Nat.le_of_ble_eq_true rfl)) dX5_perform_7 ⟨Nat.le_of_ble_eq_true rfl, Nat.le_of_ble_eq_true rfl⟩) hS (fun q _ h => hFc q h) hFc (fun r_1 u t H1 locs ht hvm hw hB hz1 hk1 hS => ?_)
  obtain ⟨hP1, hK1, hD1⟩ := hB
  rw [ht] at hP1
  have hK1 := va_K.moved hvm.symm hK1
  obtain ⟨hP, hD⟩ := va_join (wr := []) (w1 := [(h0, .inr (5, [.ref h1, .int 0, .ref h2, .int 0]))]) hP hD [0] [] rfl rfl (by decide) (by decide) hk1 hFc hP1 hD1
  generalize H1 = H at hP hS ⊢
  have hP : va_P (dC, dI) vwCl [(h0, .inr (5, [.ref h1, .int 0, .ref h2, .int 0]))] H := hP
  have hD : va_D A [(h0, .inr (5, [.ref h1, .int 0, .ref h2, .int 0]))] := hD
  obtain rfl := hw
  refine lv_if_eq (tgt := 22) hx hb dX5_perform_10 (by decide) (fun _ => ?_) (fun c => absurd c (by decide))
  refine lv_iconst (v := 0) hx hb dX5_perform_22 (by decide) ?_
  have hP9 := hP.sub (ws' := [(h0, .inr (5, [.ref h1, .int 0, .ref h2, .int 0]))]) [0] rfl
  have hD9 := hD.sub (ws' := [(h0, .inr (5, [.ref h1, .int 0, .ref h2, .int 0]))]) [0] (by decide) rfl
  have hK9 := hK.sub (tys' := []) [] rfl
  exact W.iret (v := 0) hx hb hr (fun t ht hW => ⟨⟨0, (), rfl, rfl, by rw [ht]; exact hP9, va_K.moved hW.alike hK9, hD9⟩, hS.F ht⟩) hS.2.2 dX5_perform_23
set_option maxHeartbeats 4000000 in
set_option maxRecDepth 100000 in
theorem k_X11_act_0 (l : Launch) (dC : Nat → ClassId) (dI : Nat → Nat → Nat) (h0 h1 h2 h3 h4 h5 h6 h7 h8 h9 h10 h11 h12 h13 h14 : Nat) (sz : Nat) (p0 : Int32) (p1 : Int32) (p2 : Int32) : Met l yX11_act wsX11_act ({ frames := 2, cells := 0, slots := 0, locals := 44 }) (va_Pc [.ref h0, .int p0, .int p1, .int p2] (fun U => U.heap.size = sz ∧ va_P (dC, dI) vwCl [(h0, .inr (11, [.ref h2, .int 0, .ref h3, .ref h4, .ref h5, .ref h6, .ref h7, .ref h8, .ref h9, .ref h10, .ref h11, .int 0, .ref h1, .ref h12])), (h1, .inr (5, [.ref h13, .int 0, .ref h14, .int 0]))] U.heap ∧ va_K (dC, dI) vwCl [] U ∧ va_D (fun _ => True) [(h0, .inr (11, [.ref h2, .int 0, .ref h3, .ref h4, .ref h5, .ref h6, .ref h7, .ref h8, .ref h9, .ref h10, .ref h11, .int 0, .ref h1, .ref h12])), (h1, .inr (5, [.ref h13, .int 0, .ref h14, .int 0]))])) (va_Qi (fun (r : Int32) (_ : Unit) => r = 0) (fun (_ : Unit) t => va_P (dC, dI) vwCl [] t.heap ∧ va_K (dC, dI) vwCl [] t ∧ va_D (va_A [(h0, .inr (11, [.ref h2, .int 0, .ref h3, .ref h4, .ref h5, .ref h6, .ref h7, .ref h8, .ref h9, .ref h10, .ref h11, .int 0, .ref h1, .ref h12])), (h1, .inr (5, [.ref h13, .int 0, .ref h14, .int 0]))] sz) []) (va_A [(h0, .inr (11, [.ref h2, .int 0, .ref h3, .ref h4, .ref h5, .ref h6, .ref h7, .ref h8, .ref h9, .ref h10, .ref h11, .int 0, .ref h1, .ref h12])), (h1, .inr (5, [.ref h13, .int 0, .ref h14, .int 0]))] sz)) 0 0 (va_A [(h0, .inr (11, [.ref h2, .int 0, .ref h3, .ref h4, .ref h5, .ref h6, .ref h7, .ref h8, .ref h9, .ref h10, .ref h11, .int 0, .ref h1, .ref h12])), (h1, .inr (5, [.ref h13, .int 0, .ref h14, .int 0]))] sz) := by
  refine Met.ofW (cc := cX11_act) (maxL := 4) (ret := (some .int)) (by decide) rfl ?_
  intro p e s m args below meth c s₁ B hml hv
  obtain ⟨rfl, hsz, hP, hK, hD0⟩ := hv
  have hx := B.exec
  have hb := B.bytes
  have hr := B.returns
  have hts := atoms_spec (ws := wsX11_act) B.pre
  have hown : s.vm.findClass RX11 = some m.cls := findClass_of_methodNamed B.named
  have hlocks := B.notSynchronized
  subst hsz
  have hD := hD0.self (sz := s.heap.size)
  generalize hAe : va_A [(h0, .inr (11, [.ref h2, .int 0, .ref h3, .ref h4, .ref h5, .ref h6, .ref h7, .ref h8, .ref h9, .ref h10, .ref h11, .int 0, .ref h1, .ref h12])), (h1, .inr (5, [.ref h13, .int 0, .ref h14, .int 0]))] s.heap.size = A at hD ⊢
  have hA : ∀ q : Nat, s.heap.size ≤ q → A q := fun q h => by rw [← hAe]; exact Or.inr h
  have hS : va_S A s.heap s.heap [] := va_S.rf
  have hP : va_P (dC, dI) vwCl [(h0, .inr (11, [.ref h2, .int 0, .ref h3, .ref h4, .ref h5, .ref h6, .ref h7, .ref h8, .ref h9, .ref h10, .ref h11, .int 0, .ref h1, .ref h12])), (h1, .inr (5, [.ref h13, .int 0, .ref h14, .int 0]))] s.heap := hP
  have hl := lv_entry ([.ref h0, .int p0, .int p1, .int p2]) (n := 4) (Nat.le_of_ble_eq_true rfl)
  rw [lg_entry_eq]
  generalize (lg_sl ([.ref h0, .int p0, .int p1, .int p2]) ++ List.replicate (4 - (lg_sl ([.ref h0, .int p0, .int p1, .int p2])).length) Slot.unset).toArray = ls at hl ⊢
  have hl : lv_has ls 4 [(0, .ref h0), (1, .int p0), (2, .int p1), (3, .int p2)] := hl
  refine lv_aload_n hx hb dX11_act_0 rfl (lv_at hl 0 rfl) ?_
  refine va_get (D := (dC, dI)) (ci := 11) (v := .ref h1) (C := RX11) (T := TX11) (N := 14) hx hb hts (fun _ h => List.mem_cons_of_mem _ (List.mem_append_left _ (List.mem_append_right _ h))) hown hK hP 0 rfl rfl 12 (by decide) (hts (.fieldLink RX11 78 "KinkStreet" "lines" "LKinkStreet$Lines;") (List.mem_of_getElem? (i := 1) rfl)) (fun _ h9 => h9) rfl dX11_act_1 ?_
  refine lv_iload_n hx hb dX11_act_4 rfl (lv_at hl 1 rfl) ?_
  refine lv_iload_n hx hb dX11_act_5 rfl (lv_at hl 2 rfl) ?_
  refine lv_iload_n hx hb dX11_act_6 rfl (lv_at hl 3 rfl) ?_
  have hPc := hP.sub (ws' := [(h1, .inr (5, [.ref h13, .int 0, .ref h14, .int 0]))]) [1] rfl
  have hDc := hD.sub (ws' := [(h1, .inr (5, [.ref h13, .int 0, .ref h14, .int 0]))]) [1] (by decide) rfl
  have hKc := hK.sub (tys' := []) [] rfl
  have hFc := va_free (wc := [(h1, .inr (5, [.ref h13, .int 0, .ref h14, .int 0]))]) hD hS hA [1] rfl
  refine va_calli (va_runV (As := [.int p0, .int p1, .int p2]) (rest := []) ⟨hx, hb, hml, hown, hts⟩ (k_X5_perform_0 l dC dI h1 h13 h14 s.heap.size p0 p1 p2) (cwV 3 hts gX11_act_X5_perform rfl rfl rfl (by decide +kernel) ⟨Nat.le_of_ble_eq_true rfl, Nat.le_of_ble_eq_true rfl⟩) ⟨fun a U g mk q => by obtain ⟨q0, q1, qP, qK, qD⟩ := q; exact ⟨q0, q1, qP, va_K.moved (u := U) (U := U.calling g mk a) (Vm.Alike.refl U.vm) qK, qD⟩, va_recv hKc hPc (ci := 5) (q0 := 0) rfl rfl, fun U hU hW => ⟨rfl, by rw [hU], by rw [hU]; exact hPc, va_K.moved hW.alike hKc, hDc.weaken (fun _ _ _ _ => trivial)⟩⟩ rfl rfl hl.1 rfl (lv_room (Nat.le_of_ble_eq_true rfl)) dX11_act_7 ⟨Nat.le_of_ble_eq_true rfl, Nat.le_of_ble_eq_true rfl⟩) hS (fun q _ h => hFc q h) hFc (fun r_1 u t H1 locs ht hvm hw hB hz1 hk1 hS => ?_)
  obtain ⟨hP1, hK1, hD1⟩ := hB
  rw [ht] at hP1
  have hK1 := va_K.moved hvm.symm hK1
  obtain ⟨hP, hD⟩ := va_join (wr := [(h0, .inr (11, [.ref h2, .int 0, .ref h3, .ref h4, .ref h5, .ref h6, .ref h7, .ref h8, .ref h9, .ref h10, .ref h11, .int 0, .ref h1, .ref h12]))]) (w1 := [(h1, .inr (5, [.ref h13, .int 0, .ref h14, .int 0]))]) hP hD [1] [0] rfl rfl (by decide) (by decide) hk1 hFc hP1 hD1
  generalize H1 = H at hP hS ⊢
  have hP : va_P (dC, dI) vwCl [(h0, .inr (11, [.ref h2, .int 0, .ref h3, .ref h4, .ref h5, .ref h6, .ref h7, .ref h8, .ref h9, .ref h10, .ref h11, .int 0, .ref h1, .ref h12])), (h1, .inr (5, [.ref h13, .int 0, .ref h14, .int 0]))] H := hP
  have hD : va_D A [(h0, .inr (11, [.ref h2, .int 0, .ref h3, .ref h4, .ref h5, .ref h6, .ref h7, .ref h8, .ref h9, .ref h10, .ref h11, .int 0, .ref h1, .ref h12])), (h1, .inr (5, [.ref h13, .int 0, .ref h14, .int 0]))] := hD
  obtain rfl := hw
  have hP9 := hP.sub (ws' := []) [] rfl
  have hD9 := hD.sub (ws' := []) [] (by decide) rfl
  have hK9 := hK.sub (tys' := []) [] rfl
  exact W.iret (v := 0) hx hb hr (fun t ht hW => ⟨⟨0, (), rfl, by first | rfl | ((repeat' split) <;> first | rfl | (exfalso; omega) | (exact Int32.toInt_inj.mp (by show (0 : Int) = _; omega))), by rw [ht]; exact hP9, va_K.moved hW.alike hK9, hD9⟩, hS.F ht⟩) hS.2.2 dX11_act_10
set_option maxHeartbeats 4000000 in
set_option maxRecDepth 100000 in
theorem k_X5_traced_0 (l : Launch) (dC : Nat → ClassId) (dI : Nat → Nat → Nat) (h0 h1 h2 : Nat) (sz : Nat) (p0 : Int32) : Met l yX5_traced wsX5_traced ({ frames := 0, cells := 0, slots := 0, locals := 0 }) (va_Pc [.ref h0, .int p0] (fun U => U.heap.size = sz ∧ va_P (dC, dI) vwCl [(h0, .inr (5, [.ref h1, .int 0, .ref h2, .int 0]))] U.heap ∧ va_K (dC, dI) vwCl [] U ∧ va_D (fun _ => True) [(h0, .inr (5, [.ref h1, .int 0, .ref h2, .int 0]))])) (va_Qi (fun (r : Int32) (_ : Unit) => r = (-1)) (fun (_ : Unit) t => va_P (dC, dI) vwCl [(h0, .inr (5, [.ref h1, .int 0, .ref h2, .int 0]))] t.heap ∧ va_K (dC, dI) vwCl [] t ∧ va_D (va_A [(h0, .inr (5, [.ref h1, .int 0, .ref h2, .int 0]))] sz) [(h0, .inr (5, [.ref h1, .int 0, .ref h2, .int 0]))]) (va_A [(h0, .inr (5, [.ref h1, .int 0, .ref h2, .int 0]))] sz)) 0 0 (va_A [(h0, .inr (5, [.ref h1, .int 0, .ref h2, .int 0]))] sz) := by
  refine Met.ofW (cc := cX5_traced) (maxL := 2) (ret := (some .int)) (by decide) rfl ?_
  intro p e s m args below meth c s₁ B hml hv
  obtain ⟨rfl, hsz, hP, hK, hD0⟩ := hv
  have hx := B.exec
  have hb := B.bytes
  have hr := B.returns
  have hts := atoms_spec (ws := wsX5_traced) B.pre
  have hown : s.vm.findClass RX5 = some m.cls := findClass_of_methodNamed B.named
  have hlocks := B.notSynchronized
  subst hsz
  have hD := hD0.self (sz := s.heap.size)
  generalize hAe : va_A [(h0, .inr (5, [.ref h1, .int 0, .ref h2, .int 0]))] s.heap.size = A at hD ⊢
  have hA : ∀ q : Nat, s.heap.size ≤ q → A q := fun q h => by rw [← hAe]; exact Or.inr h
  have hS : va_S A s.heap s.heap [] := va_S.rf
  have hP : va_P (dC, dI) vwCl [(h0, .inr (5, [.ref h1, .int 0, .ref h2, .int 0]))] s.heap := hP
  have hl := lv_entry ([.ref h0, .int p0]) (n := 2) (Nat.le_of_ble_eq_true rfl)
  rw [lg_entry_eq]
  generalize (lg_sl ([.ref h0, .int p0]) ++ List.replicate (2 - (lg_sl ([.ref h0, .int p0])).length) Slot.unset).toArray = ls at hl ⊢
  have hl : lv_has ls 2 [(0, .ref h0), (1, .int p0)] := hl
  refine lv_iload_n hx hb dX5_traced_0 rfl (lv_at hl 1 rfl) ?_
  refine lv_if_lt (tgt := 27) hx hb dX5_traced_1 (by decide) (fun c_1 => ?_) (fun c_1 => ?_)
  · have t_1 : p0.toInt < 0 := kk_lt c_1
    refine lv_iconst (v := (-1)) hx hb dX5_traced_27 (by decide) ?_
    have hP9 := hP.sub (ws' := [(h0, .inr (5, [.ref h1, .int 0, .ref h2, .int 0]))]) [0] rfl
    have hD9 := hD.sub (ws' := [(h0, .inr (5, [.ref h1, .int 0, .ref h2, .int 0]))]) [0] (by decide) rfl
    have hK9 := hK.sub (tys' := []) [] rfl
    exact W.iret (v := (-1)) hx hb hr (fun t ht hW => ⟨⟨(-1), (), rfl, rfl, by rw [ht]; exact hP9, va_K.moved hW.alike hK9, hD9⟩, hS.F ht⟩) hS.2.2 dX5_traced_28
  · have t_1 : 0 ≤ p0.toInt := kk_nlt c_1
    refine lv_iload_n hx hb dX5_traced_4 rfl (lv_at hl 1 rfl) ?_
    refine lv_aload_n hx hb dX5_traced_5 rfl (lv_at hl 0 rfl) ?_
    refine va_get (D := (dC, dI)) (ci := 5) (v := .int 0) (C := RX5) (T := TX5) (N := 4) hx hb hts (fun _ h => List.mem_cons_of_mem _ (List.mem_append_right _ h)) hown hK hP 0 rfl rfl 3 (by decide) (hts (.fieldLink RX5 36 "KinkStreet$Lines" "ran" "I") (List.mem_of_getElem? (i := 1) rfl)) (fun _ h9 => h9) rfl dX5_traced_6 ?_
    refine lv_icmp_ge (tgt := 27) hx hb dX5_traced_9 (by decide) (fun c_2 => ?_) (fun c_2 => ?_)
    · have t_2 : 0 ≤ p0.toInt := kk_le c_2
      refine lv_iconst (v := (-1)) hx hb dX5_traced_27 (by decide) ?_
      have hP9 := hP.sub (ws' := [(h0, .inr (5, [.ref h1, .int 0, .ref h2, .int 0]))]) [0] rfl
      have hD9 := hD.sub (ws' := [(h0, .inr (5, [.ref h1, .int 0, .ref h2, .int 0]))]) [0] (by decide) rfl
      have hK9 := hK.sub (tys' := []) [] rfl
      exact W.iret (v := (-1)) hx hb hr (fun t ht hW => ⟨⟨(-1), (), rfl, rfl, by rw [ht]; exact hP9, va_K.moved hW.alike hK9, hD9⟩, hS.F ht⟩) hS.2.2 dX5_traced_28
    · have t_2 : p0.toInt < 0 := kk_nle c_2
      exfalso; omega
set_option maxHeartbeats 4000000 in
set_option maxRecDepth 100000 in
theorem k_X11_trace_0 (l : Launch) (dC : Nat → ClassId) (dI : Nat → Nat → Nat) (h0 h1 h2 h3 h4 h5 h6 h7 h8 h9 h10 h11 h12 h13 h14 : Nat) (sz : Nat) (p0 : Int32) : Met l yX11_trace wsX11_trace ({ frames := 1, cells := 0, slots := 0, locals := 21 }) (va_Pc [.ref h0, .int p0] (fun U => U.heap.size = sz ∧ va_P (dC, dI) vwCl [(h0, .inr (11, [.ref h2, .int 0, .ref h3, .ref h4, .ref h5, .ref h6, .ref h7, .ref h8, .ref h9, .ref h10, .ref h11, .int 0, .ref h1, .ref h12])), (h1, .inr (5, [.ref h13, .int 0, .ref h14, .int 0]))] U.heap ∧ va_K (dC, dI) vwCl [] U ∧ va_D (fun _ => True) [(h0, .inr (11, [.ref h2, .int 0, .ref h3, .ref h4, .ref h5, .ref h6, .ref h7, .ref h8, .ref h9, .ref h10, .ref h11, .int 0, .ref h1, .ref h12])), (h1, .inr (5, [.ref h13, .int 0, .ref h14, .int 0]))])) (va_Qi (fun (r : Int32) (_ : Unit) => r = -1) (fun (_ : Unit) t => va_P (dC, dI) vwCl [] t.heap ∧ va_K (dC, dI) vwCl [] t ∧ va_D (va_A [(h0, .inr (11, [.ref h2, .int 0, .ref h3, .ref h4, .ref h5, .ref h6, .ref h7, .ref h8, .ref h9, .ref h10, .ref h11, .int 0, .ref h1, .ref h12])), (h1, .inr (5, [.ref h13, .int 0, .ref h14, .int 0]))] sz) []) (va_A [(h0, .inr (11, [.ref h2, .int 0, .ref h3, .ref h4, .ref h5, .ref h6, .ref h7, .ref h8, .ref h9, .ref h10, .ref h11, .int 0, .ref h1, .ref h12])), (h1, .inr (5, [.ref h13, .int 0, .ref h14, .int 0]))] sz)) 0 0 (va_A [(h0, .inr (11, [.ref h2, .int 0, .ref h3, .ref h4, .ref h5, .ref h6, .ref h7, .ref h8, .ref h9, .ref h10, .ref h11, .int 0, .ref h1, .ref h12])), (h1, .inr (5, [.ref h13, .int 0, .ref h14, .int 0]))] sz) := by
  refine Met.ofW (cc := cX11_trace) (maxL := 2) (ret := (some .int)) (by decide) rfl ?_
  intro p e s m args below meth c s₁ B hml hv
  obtain ⟨rfl, hsz, hP, hK, hD0⟩ := hv
  have hx := B.exec
  have hb := B.bytes
  have hr := B.returns
  have hts := atoms_spec (ws := wsX11_trace) B.pre
  have hown : s.vm.findClass RX11 = some m.cls := findClass_of_methodNamed B.named
  have hlocks := B.notSynchronized
  subst hsz
  have hD := hD0.self (sz := s.heap.size)
  generalize hAe : va_A [(h0, .inr (11, [.ref h2, .int 0, .ref h3, .ref h4, .ref h5, .ref h6, .ref h7, .ref h8, .ref h9, .ref h10, .ref h11, .int 0, .ref h1, .ref h12])), (h1, .inr (5, [.ref h13, .int 0, .ref h14, .int 0]))] s.heap.size = A at hD ⊢
  have hA : ∀ q : Nat, s.heap.size ≤ q → A q := fun q h => by rw [← hAe]; exact Or.inr h
  have hS : va_S A s.heap s.heap [] := va_S.rf
  have hP : va_P (dC, dI) vwCl [(h0, .inr (11, [.ref h2, .int 0, .ref h3, .ref h4, .ref h5, .ref h6, .ref h7, .ref h8, .ref h9, .ref h10, .ref h11, .int 0, .ref h1, .ref h12])), (h1, .inr (5, [.ref h13, .int 0, .ref h14, .int 0]))] s.heap := hP
  have hl := lv_entry ([.ref h0, .int p0]) (n := 2) (Nat.le_of_ble_eq_true rfl)
  rw [lg_entry_eq]
  generalize (lg_sl ([.ref h0, .int p0]) ++ List.replicate (2 - (lg_sl ([.ref h0, .int p0])).length) Slot.unset).toArray = ls at hl ⊢
  have hl : lv_has ls 2 [(0, .ref h0), (1, .int p0)] := hl
  refine lv_aload_n hx hb dX11_trace_0 rfl (lv_at hl 0 rfl) ?_
  refine va_get (D := (dC, dI)) (ci := 11) (v := .ref h1) (C := RX11) (T := TX11) (N := 14) hx hb hts (fun _ h => List.mem_cons_of_mem _ (List.mem_append_left _ (List.mem_append_right _ h))) hown hK hP 0 rfl rfl 12 (by decide) (hts (.fieldLink RX11 78 "KinkStreet" "lines" "LKinkStreet$Lines;") (List.mem_of_getElem? (i := 1) rfl)) (fun _ h9 => h9) rfl dX11_trace_1 ?_
  refine lv_iload_n hx hb dX11_trace_4 rfl (lv_at hl 1 rfl) ?_
  have hPc := hP.sub (ws' := [(h1, .inr (5, [.ref h13, .int 0, .ref h14, .int 0]))]) [1] rfl
  have hDc := hD.sub (ws' := [(h1, .inr (5, [.ref h13, .int 0, .ref h14, .int 0]))]) [1] (by decide) rfl
  have hKc := hK.sub (tys' := []) [] rfl
  have hFc := va_free (wc := [(h1, .inr (5, [.ref h13, .int 0, .ref h14, .int 0]))]) hD hS hA [1] rfl
  refine va_calli (va_runV (As := [.int p0]) (rest := []) ⟨hx, hb, hml, hown, hts⟩ (k_X5_traced_0 l dC dI h1 h13 h14 s.heap.size p0) (cwV 1 hts gX11_trace_X5_traced rfl rfl rfl (by decide +kernel) ⟨Nat.le_of_ble_eq_true rfl, Nat.le_of_ble_eq_true rfl⟩) ⟨fun a U g mk q => by obtain ⟨q0, q1, qP, qK, qD⟩ := q; exact ⟨q0, q1, qP, va_K.moved (u := U) (U := U.calling g mk a) (Vm.Alike.refl U.vm) qK, qD⟩, va_recv hKc hPc (ci := 5) (q0 := 0) rfl rfl, fun U hU hW => ⟨rfl, by rw [hU], by rw [hU]; exact hPc, va_K.moved hW.alike hKc, hDc.weaken (fun _ _ _ _ => trivial)⟩⟩ rfl rfl hl.1 rfl (lv_room (Nat.le_of_ble_eq_true rfl)) dX11_trace_5 ⟨Nat.le_of_ble_eq_true rfl, Nat.le_of_ble_eq_true rfl⟩) hS (fun q _ h => hFc q h) hFc (fun r_1 u t H1 locs ht hvm hw hB hz1 hk1 hS => ?_)
  obtain ⟨hP1, hK1, hD1⟩ := hB
  rw [ht] at hP1
  have hK1 := va_K.moved hvm.symm hK1
  obtain ⟨hP, hD⟩ := va_join (wr := [(h0, .inr (11, [.ref h2, .int 0, .ref h3, .ref h4, .ref h5, .ref h6, .ref h7, .ref h8, .ref h9, .ref h10, .ref h11, .int 0, .ref h1, .ref h12]))]) (w1 := [(h1, .inr (5, [.ref h13, .int 0, .ref h14, .int 0]))]) hP hD [1] [0] rfl rfl (by decide) (by decide) hk1 hFc hP1 hD1
  generalize H1 = H at hP hS ⊢
  have hP : va_P (dC, dI) vwCl [(h0, .inr (11, [.ref h2, .int 0, .ref h3, .ref h4, .ref h5, .ref h6, .ref h7, .ref h8, .ref h9, .ref h10, .ref h11, .int 0, .ref h1, .ref h12])), (h1, .inr (5, [.ref h13, .int 0, .ref h14, .int 0]))] H := hP
  have hD : va_D A [(h0, .inr (11, [.ref h2, .int 0, .ref h3, .ref h4, .ref h5, .ref h6, .ref h7, .ref h8, .ref h9, .ref h10, .ref h11, .int 0, .ref h1, .ref h12])), (h1, .inr (5, [.ref h13, .int 0, .ref h14, .int 0]))] := hD
  obtain rfl := hw
  have hP9 := hP.sub (ws' := []) [] rfl
  have hD9 := hD.sub (ws' := []) [] (by decide) rfl
  have hK9 := hK.sub (tys' := []) [] rfl
  exact W.iret (v := (-1)) hx hb hr (fun t ht hW => ⟨⟨(-1), (), rfl, by first | rfl | ((repeat' split) <;> first | rfl | (exfalso; omega) | (exact Int32.toInt_inj.mp (by show ((-1) : Int) = _; omega))), by rw [ht]; exact hP9, va_K.moved hW.alike hK9, hD9⟩, hS.F ht⟩) hS.2.2 dX11_trace_8
set_option maxHeartbeats 4000000 in
set_option maxRecDepth 100000 in
theorem k_X8_holdNothing_0 (l : Launch) (dC : Nat → ClassId) (dI : Nat → Nat → Nat) (h0 h1 : Nat) (sz : Nat)  : Met l yX8_holdNothing wsX8_holdNothing ({ frames := 0, cells := 0, slots := 0, locals := 0 }) (va_Pc [.ref h0] (fun U => U.heap.size = sz ∧ va_P (dC, dI) vwCl [(h0, .inr (8, [.ref h1, .int (-1), .int 0, .int 0]))] U.heap ∧ va_K (dC, dI) vwCl [] U ∧ va_D (fun _ => True) [(h0, .inr (8, [.ref h1, .int (-1), .int 0, .int 0]))])) (va_Qv (fun (_ : Unit) => True) (fun (_ : Unit) t => va_P (dC, dI) vwCl [(h0, .inr (8, [.ref h1, .int (-1), .int 0, .int 0]))] t.heap ∧ va_K (dC, dI) vwCl [] t ∧ va_D (va_A [(h0, .inr (8, [.ref h1, .int (-1), .int 0, .int 0]))] sz) [(h0, .inr (8, [.ref h1, .int (-1), .int 0, .int 0]))]) (va_A [(h0, .inr (8, [.ref h1, .int (-1), .int 0, .int 0]))] sz)) 0 0 (va_A [(h0, .inr (8, [.ref h1, .int (-1), .int 0, .int 0]))] sz) := by
  refine Met.ofW (cc := cX8_holdNothing) (maxL := 1) (ret := none) (by decide) rfl ?_
  intro p e s m args below meth c s₁ B hml hv
  obtain ⟨rfl, hsz, hP, hK, hD0⟩ := hv
  have hx := B.exec
  have hb := B.bytes
  have hr := B.returns
  have hts := atoms_spec (ws := wsX8_holdNothing) B.pre
  have hown : s.vm.findClass RX8 = some m.cls := findClass_of_methodNamed B.named
  have hlocks := B.notSynchronized
  subst hsz
  have hD := hD0.self (sz := s.heap.size)
  generalize hAe : va_A [(h0, .inr (8, [.ref h1, .int (-1), .int 0, .int 0]))] s.heap.size = A at hD ⊢
  have hA : ∀ q : Nat, s.heap.size ≤ q → A q := fun q h => by rw [← hAe]; exact Or.inr h
  have hS : va_S A s.heap s.heap [] := va_S.rf
  have hP : va_P (dC, dI) vwCl [(h0, .inr (8, [.ref h1, .int (-1), .int 0, .int 0]))] s.heap := hP
  have hl := lv_entry ([.ref h0]) (n := 1) (Nat.le_of_ble_eq_true rfl)
  rw [lg_entry_eq]
  generalize (lg_sl ([.ref h0]) ++ List.replicate (1 - (lg_sl ([.ref h0])).length) Slot.unset).toArray = ls at hl ⊢
  have hl : lv_has ls 1 [(0, .ref h0)] := hl
  refine lv_aload_n hx hb dX8_holdNothing_0 rfl (lv_at hl 0 rfl) ?_
  refine lv_iconst (v := (-1)) hx hb dX8_holdNothing_1 (by decide) ?_
  refine va_put (D := (dC, dI)) (ci := 8) (v := .int (-1)) (ty := .int) (C := RX8) (T := TX8) (N := 4) hx hb hts (fun _ h => List.mem_cons_of_mem _ (List.mem_append_right _ h)) tyX8 tyX8_ok nmX8 hown hK hP hD hS 0 rfl rfl 1 (by decide) (hts (.fieldLink RX8 15 "KinkStreet$Shelf" "holds" "I") (List.mem_of_getElem? (i := 1) rfl)) (fun _ h9 => h9) rfl (by decide +kernel) rfl rfl (Nat.le_of_ble_eq_true rfl) dX8_holdNothing_2 (fun H locs hP hD hS => ?_)
  have hP : va_P (dC, dI) vwCl [(h0, .inr (8, [.ref h1, .int (-1), .int 0, .int 0]))] H := hP
  have hD : va_D A [(h0, .inr (8, [.ref h1, .int (-1), .int 0, .int 0]))] := hD
  have hP9 := hP.sub (ws' := [(h0, .inr (8, [.ref h1, .int (-1), .int 0, .int 0]))]) [0] rfl
  have hD9 := hD.sub (ws' := [(h0, .inr (8, [.ref h1, .int (-1), .int 0, .int 0]))]) [0] (by decide) rfl
  have hK9 := hK.sub (tys' := []) [] rfl
  exact W.vret hx hb hr (fun t ht hW => ⟨⟨(), rfl, trivial, by rw [ht]; exact hP9, va_K.moved hW.alike hK9, hD9⟩, hS.F ht⟩) hS.2.2 dX8_holdNothing_5
set_option maxHeartbeats 4000000 in
set_option maxRecDepth 100000 in
theorem k_X11_keep_0 (l : Launch) (dC : Nat → ClassId) (dI : Nat → Nat → Nat) (h0 h1 h2 h3 h4 h5 h6 h7 h8 h9 h10 h11 h12 h13 h14 h15 h16 h17 h18 h19 h20 h21 h22 h23 h24 h25 h26 : Nat) (cOShelf : ClassId) (sz : Nat) (p0 : Int32) (p1 : Int32) : Met l yX11_keep wsX11_keep ({ frames := 1, cells := 0, slots := 0, locals := 21 }) (va_Pc [.ref h0, .int p0, .int p1] (fun U => U.heap.size = sz ∧ va_P (dC, dI) vwCl [(h0, .inr (11, [.ref h9, .int 0, .ref h10, .ref h11, .ref h12, .ref h13, .ref h14, .ref h15, .ref h16, .ref h17, .ref h18, .int 0, .ref h1, .ref h2])), (h1, .inr (5, [.ref h19, .int 0, .ref h20, .int 0])), (h2, .inl (cOShelf, 6, .inr (.inr (.inr (.inr (va_up (va_up (va_up (va_up (va_up (va_up (fun _ => none) (0 : Int32).toNatClampNeg (some h3)) (1 : Int32).toNatClampNeg (some h4)) (2 : Int32).toNatClampNeg (some h5)) (3 : Int32).toNatClampNeg (some h6)) (4 : Int32).toNatClampNeg (some h7)) (5 : Int32).toNatClampNeg (some h8))))))), (h3, .inr (8, [.ref h21, .int (-1), .int 0, .int 0])), (h4, .inr (8, [.ref h22, .int (-1), .int 0, .int 0])), (h5, .inr (8, [.ref h23, .int (-1), .int 0, .int 0])), (h6, .inr (8, [.ref h24, .int (-1), .int 0, .int 0])), (h7, .inr (8, [.ref h25, .int (-1), .int 0, .int 0])), (h8, .inr (8, [.ref h26, .int (-1), .int 0, .int 0]))] U.heap ∧ va_K (dC, dI) vwCl [(cOShelf, .object "KinkStreet$Shelf")] U ∧ va_D (fun _ => True) [(h0, .inr (11, [.ref h9, .int 0, .ref h10, .ref h11, .ref h12, .ref h13, .ref h14, .ref h15, .ref h16, .ref h17, .ref h18, .int 0, .ref h1, .ref h2])), (h1, .inr (5, [.ref h19, .int 0, .ref h20, .int 0])), (h2, .inl (cOShelf, 6, .inr (.inr (.inr (.inr (va_up (va_up (va_up (va_up (va_up (va_up (fun _ => none) (0 : Int32).toNatClampNeg (some h3)) (1 : Int32).toNatClampNeg (some h4)) (2 : Int32).toNatClampNeg (some h5)) (3 : Int32).toNatClampNeg (some h6)) (4 : Int32).toNatClampNeg (some h7)) (5 : Int32).toNatClampNeg (some h8))))))), (h3, .inr (8, [.ref h21, .int (-1), .int 0, .int 0])), (h4, .inr (8, [.ref h22, .int (-1), .int 0, .int 0])), (h5, .inr (8, [.ref h23, .int (-1), .int 0, .int 0])), (h6, .inr (8, [.ref h24, .int (-1), .int 0, .int 0])), (h7, .inr (8, [.ref h25, .int (-1), .int 0, .int 0])), (h8, .inr (8, [.ref h26, .int (-1), .int 0, .int 0]))])) (va_Qi (fun (r : Int32) (_ : Unit) => r = if 0 ≤ p0.toInt ∧ p0.toInt < 6 ∧ p1.toInt = -1 then (1 : Int32) else -1) (fun (_ : Unit) t => va_P (dC, dI) vwCl [] t.heap ∧ va_K (dC, dI) vwCl [] t ∧ va_D (va_A [(h0, .inr (11, [.ref h9, .int 0, .ref h10, .ref h11, .ref h12, .ref h13, .ref h14, .ref h15, .ref h16, .ref h17, .ref h18, .int 0, .ref h1, .ref h2])), (h1, .inr (5, [.ref h19, .int 0, .ref h20, .int 0])), (h2, .inl (cOShelf, 6, .inr (.inr (.inr (.inr (va_up (va_up (va_up (va_up (va_up (va_up (fun _ => none) (0 : Int32).toNatClampNeg (some h3)) (1 : Int32).toNatClampNeg (some h4)) (2 : Int32).toNatClampNeg (some h5)) (3 : Int32).toNatClampNeg (some h6)) (4 : Int32).toNatClampNeg (some h7)) (5 : Int32).toNatClampNeg (some h8))))))), (h3, .inr (8, [.ref h21, .int (-1), .int 0, .int 0])), (h4, .inr (8, [.ref h22, .int (-1), .int 0, .int 0])), (h5, .inr (8, [.ref h23, .int (-1), .int 0, .int 0])), (h6, .inr (8, [.ref h24, .int (-1), .int 0, .int 0])), (h7, .inr (8, [.ref h25, .int (-1), .int 0, .int 0])), (h8, .inr (8, [.ref h26, .int (-1), .int 0, .int 0]))] sz) []) (va_A [(h0, .inr (11, [.ref h9, .int 0, .ref h10, .ref h11, .ref h12, .ref h13, .ref h14, .ref h15, .ref h16, .ref h17, .ref h18, .int 0, .ref h1, .ref h2])), (h1, .inr (5, [.ref h19, .int 0, .ref h20, .int 0])), (h2, .inl (cOShelf, 6, .inr (.inr (.inr (.inr (va_up (va_up (va_up (va_up (va_up (va_up (fun _ => none) (0 : Int32).toNatClampNeg (some h3)) (1 : Int32).toNatClampNeg (some h4)) (2 : Int32).toNatClampNeg (some h5)) (3 : Int32).toNatClampNeg (some h6)) (4 : Int32).toNatClampNeg (some h7)) (5 : Int32).toNatClampNeg (some h8))))))), (h3, .inr (8, [.ref h21, .int (-1), .int 0, .int 0])), (h4, .inr (8, [.ref h22, .int (-1), .int 0, .int 0])), (h5, .inr (8, [.ref h23, .int (-1), .int 0, .int 0])), (h6, .inr (8, [.ref h24, .int (-1), .int 0, .int 0])), (h7, .inr (8, [.ref h25, .int (-1), .int 0, .int 0])), (h8, .inr (8, [.ref h26, .int (-1), .int 0, .int 0]))] sz)) 0 0 (va_A [(h0, .inr (11, [.ref h9, .int 0, .ref h10, .ref h11, .ref h12, .ref h13, .ref h14, .ref h15, .ref h16, .ref h17, .ref h18, .int 0, .ref h1, .ref h2])), (h1, .inr (5, [.ref h19, .int 0, .ref h20, .int 0])), (h2, .inl (cOShelf, 6, .inr (.inr (.inr (.inr (va_up (va_up (va_up (va_up (va_up (va_up (fun _ => none) (0 : Int32).toNatClampNeg (some h3)) (1 : Int32).toNatClampNeg (some h4)) (2 : Int32).toNatClampNeg (some h5)) (3 : Int32).toNatClampNeg (some h6)) (4 : Int32).toNatClampNeg (some h7)) (5 : Int32).toNatClampNeg (some h8))))))), (h3, .inr (8, [.ref h21, .int (-1), .int 0, .int 0])), (h4, .inr (8, [.ref h22, .int (-1), .int 0, .int 0])), (h5, .inr (8, [.ref h23, .int (-1), .int 0, .int 0])), (h6, .inr (8, [.ref h24, .int (-1), .int 0, .int 0])), (h7, .inr (8, [.ref h25, .int (-1), .int 0, .int 0])), (h8, .inr (8, [.ref h26, .int (-1), .int 0, .int 0]))] sz) := by
  refine Met.ofW (cc := cX11_keep) (maxL := 4) (ret := (some .int)) (by decide) rfl ?_
  intro p e s m args below meth c s₁ B hml hv
  obtain ⟨rfl, hsz, hP, hK, hD0⟩ := hv
  have hx := B.exec
  have hb := B.bytes
  have hr := B.returns
  have hts := atoms_spec (ws := wsX11_keep) B.pre
  have hown : s.vm.findClass RX11 = some m.cls := findClass_of_methodNamed B.named
  have hlocks := B.notSynchronized
  subst hsz
  have hD := hD0.self (sz := s.heap.size)
  generalize hAe : va_A [(h0, .inr (11, [.ref h9, .int 0, .ref h10, .ref h11, .ref h12, .ref h13, .ref h14, .ref h15, .ref h16, .ref h17, .ref h18, .int 0, .ref h1, .ref h2])), (h1, .inr (5, [.ref h19, .int 0, .ref h20, .int 0])), (h2, .inl (cOShelf, 6, .inr (.inr (.inr (.inr (va_up (va_up (va_up (va_up (va_up (va_up (fun _ => none) (0 : Int32).toNatClampNeg (some h3)) (1 : Int32).toNatClampNeg (some h4)) (2 : Int32).toNatClampNeg (some h5)) (3 : Int32).toNatClampNeg (some h6)) (4 : Int32).toNatClampNeg (some h7)) (5 : Int32).toNatClampNeg (some h8))))))), (h3, .inr (8, [.ref h21, .int (-1), .int 0, .int 0])), (h4, .inr (8, [.ref h22, .int (-1), .int 0, .int 0])), (h5, .inr (8, [.ref h23, .int (-1), .int 0, .int 0])), (h6, .inr (8, [.ref h24, .int (-1), .int 0, .int 0])), (h7, .inr (8, [.ref h25, .int (-1), .int 0, .int 0])), (h8, .inr (8, [.ref h26, .int (-1), .int 0, .int 0]))] s.heap.size = A at hD ⊢
  have hA : ∀ q : Nat, s.heap.size ≤ q → A q := fun q h => by rw [← hAe]; exact Or.inr h
  have hS : va_S A s.heap s.heap [] := va_S.rf
  have hP : va_P (dC, dI) vwCl [(h0, .inr (11, [.ref h9, .int 0, .ref h10, .ref h11, .ref h12, .ref h13, .ref h14, .ref h15, .ref h16, .ref h17, .ref h18, .int 0, .ref h1, .ref h2])), (h1, .inr (5, [.ref h19, .int 0, .ref h20, .int 0])), (h2, .inl (cOShelf, 6, .inr (.inr (.inr (.inr (va_up (va_up (va_up (va_up (va_up (va_up (fun _ => none) (0 : Int32).toNatClampNeg (some h3)) (1 : Int32).toNatClampNeg (some h4)) (2 : Int32).toNatClampNeg (some h5)) (3 : Int32).toNatClampNeg (some h6)) (4 : Int32).toNatClampNeg (some h7)) (5 : Int32).toNatClampNeg (some h8))))))), (h3, .inr (8, [.ref h21, .int (-1), .int 0, .int 0])), (h4, .inr (8, [.ref h22, .int (-1), .int 0, .int 0])), (h5, .inr (8, [.ref h23, .int (-1), .int 0, .int 0])), (h6, .inr (8, [.ref h24, .int (-1), .int 0, .int 0])), (h7, .inr (8, [.ref h25, .int (-1), .int 0, .int 0])), (h8, .inr (8, [.ref h26, .int (-1), .int 0, .int 0]))] s.heap := hP
  have hl := lv_entry ([.ref h0, .int p0, .int p1]) (n := 4) (Nat.le_of_ble_eq_true rfl)
  rw [lg_entry_eq]
  generalize (lg_sl ([.ref h0, .int p0, .int p1]) ++ List.replicate (4 - (lg_sl ([.ref h0, .int p0, .int p1])).length) Slot.unset).toArray = ls at hl ⊢
  have hl : lv_has ls 4 [(0, .ref h0), (1, .int p0), (2, .int p1)] := hl
  refine lv_aload_n hx hb dX11_keep_0 rfl (lv_at hl 0 rfl) ?_
  refine lv_iload_n hx hb dX11_keep_1 rfl (lv_at hl 1 rfl) ?_
  have hPc := hP.sub (ws' := [(h0, .inr (11, [.ref h9, .int 0, .ref h10, .ref h11, .ref h12, .ref h13, .ref h14, .ref h15, .ref h16, .ref h17, .ref h18, .int 0, .ref h1, .ref h2])), (h2, .inl (cOShelf, 6, .inr (.inr (.inr (.inr (va_up (va_up (va_up (va_up (va_up (va_up (fun _ => none) (0 : Int32).toNatClampNeg (some h3)) (1 : Int32).toNatClampNeg (some h4)) (2 : Int32).toNatClampNeg (some h5)) (3 : Int32).toNatClampNeg (some h6)) (4 : Int32).toNatClampNeg (some h7)) (5 : Int32).toNatClampNeg (some h8)))))))]) [0, 2] rfl
  have hDc := hD.sub (ws' := [(h0, .inr (11, [.ref h9, .int 0, .ref h10, .ref h11, .ref h12, .ref h13, .ref h14, .ref h15, .ref h16, .ref h17, .ref h18, .int 0, .ref h1, .ref h2])), (h2, .inl (cOShelf, 6, .inr (.inr (.inr (.inr (va_up (va_up (va_up (va_up (va_up (va_up (fun _ => none) (0 : Int32).toNatClampNeg (some h3)) (1 : Int32).toNatClampNeg (some h4)) (2 : Int32).toNatClampNeg (some h5)) (3 : Int32).toNatClampNeg (some h6)) (4 : Int32).toNatClampNeg (some h7)) (5 : Int32).toNatClampNeg (some h8)))))))]) [0, 2] (by decide) rfl
  have hKc := hK.sub (tys' := [(cOShelf, .object "KinkStreet$Shelf")]) [0] rfl
  have hFc := va_free (wc := [(h0, .inr (11, [.ref h9, .int 0, .ref h10, .ref h11, .ref h12, .ref h13, .ref h14, .ref h15, .ref h16, .ref h17, .ref h18, .int 0, .ref h1, .ref h2])), (h2, .inl (cOShelf, 6, .inr (.inr (.inr (.inr (va_up (va_up (va_up (va_up (va_up (va_up (fun _ => none) (0 : Int32).toNatClampNeg (some h3)) (1 : Int32).toNatClampNeg (some h4)) (2 : Int32).toNatClampNeg (some h5)) (3 : Int32).toNatClampNeg (some h6)) (4 : Int32).toNatClampNeg (some h7)) (5 : Int32).toNatClampNeg (some h8)))))))]) hD hS hA [0, 2] rfl
  refine va_callq (va_runV (As := [.int p0]) (rest := []) ⟨hx, hb, hml, hown, hts⟩ (k_X11_knownShelf_0 l dC dI h0 h2 h9 h10 h11 h12 h13 h14 h15 h16 h17 h18 h1 h3 h4 h5 h6 h7 h8 cOShelf s.heap.size p0) (cwV 1 hts gX11_keep_X11_knownShelf rfl rfl rfl (by decide +kernel) ⟨Nat.le_of_ble_eq_true rfl, Nat.le_of_ble_eq_true rfl⟩) ⟨fun a U g mk q => by obtain ⟨q0, q1, qP, qK, qD⟩ := q; exact ⟨q0, q1, qP, va_K.moved (u := U) (U := U.calling g mk a) (Vm.Alike.refl U.vm) qK, qD⟩, va_recv hKc hPc (ci := 11) (q0 := 0) rfl rfl, fun U hU hW => ⟨rfl, by rw [hU], by rw [hU]; exact hPc, va_K.moved hW.alike hKc, hDc.weaken (fun _ _ _ _ => trivial)⟩⟩ rfl rfl hl.1 rfl (lv_room (Nat.le_of_ble_eq_true rfl)) dX11_keep_2 ⟨Nat.le_of_ble_eq_true rfl, Nat.le_of_ble_eq_true rfl⟩) hS (fun q _ h => hFc q h) hFc (fun r_1 u t H1 locs ht hvm hw hB hz1 hk1 hS => ?_)
  obtain ⟨hP1, hK1, hD1⟩ := hB
  rw [ht] at hP1
  have hK1 := va_K.moved hvm.symm hK1
  obtain ⟨hP, hD⟩ := va_join (wr := [(h1, .inr (5, [.ref h19, .int 0, .ref h20, .int 0])), (h3, .inr (8, [.ref h21, .int (-1), .int 0, .int 0])), (h4, .inr (8, [.ref h22, .int (-1), .int 0, .int 0])), (h5, .inr (8, [.ref h23, .int (-1), .int 0, .int 0])), (h6, .inr (8, [.ref h24, .int (-1), .int 0, .int 0])), (h7, .inr (8, [.ref h25, .int (-1), .int 0, .int 0])), (h8, .inr (8, [.ref h26, .int (-1), .int 0, .int 0]))]) (w1 := [(h0, .inr (11, [.ref h9, .int 0, .ref h10, .ref h11, .ref h12, .ref h13, .ref h14, .ref h15, .ref h16, .ref h17, .ref h18, .int 0, .ref h1, .ref h2])), (h2, .inl (cOShelf, 6, .inr (.inr (.inr (.inr (va_up (va_up (va_up (va_up (va_up (va_up (fun _ => none) (0 : Int32).toNatClampNeg (some h3)) (1 : Int32).toNatClampNeg (some h4)) (2 : Int32).toNatClampNeg (some h5)) (3 : Int32).toNatClampNeg (some h6)) (4 : Int32).toNatClampNeg (some h7)) (5 : Int32).toNatClampNeg (some h8)))))))]) hP hD [0, 2] [1, 3, 4, 5, 6, 7, 8] rfl rfl (by decide) (by decide) hk1 hFc hP1 hD1
  generalize H1 = H at hP hS ⊢
  have hP : va_P (dC, dI) vwCl [(h1, .inr (5, [.ref h19, .int 0, .ref h20, .int 0])), (h3, .inr (8, [.ref h21, .int (-1), .int 0, .int 0])), (h4, .inr (8, [.ref h22, .int (-1), .int 0, .int 0])), (h5, .inr (8, [.ref h23, .int (-1), .int 0, .int 0])), (h6, .inr (8, [.ref h24, .int (-1), .int 0, .int 0])), (h7, .inr (8, [.ref h25, .int (-1), .int 0, .int 0])), (h8, .inr (8, [.ref h26, .int (-1), .int 0, .int 0])), (h0, .inr (11, [.ref h9, .int 0, .ref h10, .ref h11, .ref h12, .ref h13, .ref h14, .ref h15, .ref h16, .ref h17, .ref h18, .int 0, .ref h1, .ref h2])), (h2, .inl (cOShelf, 6, .inr (.inr (.inr (.inr (va_up (va_up (va_up (va_up (va_up (va_up (fun _ => none) (0 : Int32).toNatClampNeg (some h3)) (1 : Int32).toNatClampNeg (some h4)) (2 : Int32).toNatClampNeg (some h5)) (3 : Int32).toNatClampNeg (some h6)) (4 : Int32).toNatClampNeg (some h7)) (5 : Int32).toNatClampNeg (some h8)))))))] H := hP
  have hD : va_D A [(h1, .inr (5, [.ref h19, .int 0, .ref h20, .int 0])), (h3, .inr (8, [.ref h21, .int (-1), .int 0, .int 0])), (h4, .inr (8, [.ref h22, .int (-1), .int 0, .int 0])), (h5, .inr (8, [.ref h23, .int (-1), .int 0, .int 0])), (h6, .inr (8, [.ref h24, .int (-1), .int 0, .int 0])), (h7, .inr (8, [.ref h25, .int (-1), .int 0, .int 0])), (h8, .inr (8, [.ref h26, .int (-1), .int 0, .int 0])), (h0, .inr (11, [.ref h9, .int 0, .ref h10, .ref h11, .ref h12, .ref h13, .ref h14, .ref h15, .ref h16, .ref h17, .ref h18, .int 0, .ref h1, .ref h2])), (h2, .inl (cOShelf, 6, .inr (.inr (.inr (.inr (va_up (va_up (va_up (va_up (va_up (va_up (fun _ => none) (0 : Int32).toNatClampNeg (some h3)) (1 : Int32).toNatClampNeg (some h4)) (2 : Int32).toNatClampNeg (some h5)) (3 : Int32).toNatClampNeg (some h6)) (4 : Int32).toNatClampNeg (some h7)) (5 : Int32).toNatClampNeg (some h8)))))))] := hD
  rcases hw with ⟨t_1_0, rfl⟩ | ⟨t_1_0, t_1_1, rfl⟩ | ⟨t_1_0, t_1_1, t_1_2, rfl⟩ | ⟨t_1_0, t_1_1, t_1_2, rfl⟩ | ⟨t_1_0, t_1_1, t_1_2, rfl⟩ | ⟨t_1_0, t_1_1, t_1_2, rfl⟩ | ⟨t_1_0, t_1_1, t_1_2, rfl⟩ | ⟨t_1_0, t_1_1, t_1_2, rfl⟩
  · skip
    refine W.eq (g2 := F0 m 5 ls [.null]) rfl ?_
    refine lv_astore_nN (lv' := [(3, .null), (0, .ref h0), (1, .int p0), (2, .int p1)]) hx hb dX11_keep_5 rfl hl (by decide) rfl (fun ls hl => ?_)
    refine lv_aload_nN hx hb dX11_keep_6 rfl (lv_at hl 0 rfl) ?_
    refine lv_ifnullN (tgt := 26) hx hb dX11_keep_7 (by decide) ?_
    refine lv_iconst (v := (-1)) hx hb dX11_keep_26 (by decide) ?_
    have hP9 := hP.sub (ws' := []) [] rfl
    have hD9 := hD.sub (ws' := []) [] (by decide) rfl
    have hK9 := hK.sub (tys' := []) [] rfl
    exact W.iret (v := (-1)) hx hb hr (fun t ht hW => ⟨⟨(-1), (), rfl, by first | rfl | ((repeat' split) <;> first | rfl | (exfalso; omega) | (exact Int32.toInt_inj.mp (by show ((-1) : Int) = _; omega))), by rw [ht]; exact hP9, va_K.moved hW.alike hK9, hD9⟩, hS.F ht⟩) hS.2.2 dX11_keep_27
  · skip
    refine W.eq (g2 := F0 m 5 ls [.null]) rfl ?_
    refine lv_astore_nN (lv' := [(3, .null), (0, .ref h0), (1, .int p0), (2, .int p1)]) hx hb dX11_keep_5 rfl hl (by decide) rfl (fun ls hl => ?_)
    refine lv_aload_nN hx hb dX11_keep_6 rfl (lv_at hl 0 rfl) ?_
    refine lv_ifnullN (tgt := 26) hx hb dX11_keep_7 (by decide) ?_
    refine lv_iconst (v := (-1)) hx hb dX11_keep_26 (by decide) ?_
    have hP9 := hP.sub (ws' := []) [] rfl
    have hD9 := hD.sub (ws' := []) [] (by decide) rfl
    have hK9 := hK.sub (tys' := []) [] rfl
    exact W.iret (v := (-1)) hx hb hr (fun t ht hW => ⟨⟨(-1), (), rfl, by first | rfl | ((repeat' split) <;> first | rfl | (exfalso; omega) | (exact Int32.toInt_inj.mp (by show ((-1) : Int) = _; omega))), by rw [ht]; exact hP9, va_K.moved hW.alike hK9, hD9⟩, hS.F ht⟩) hS.2.2 dX11_keep_27
  · skip
    refine W.eq (g2 := F0 m 5 ls [.ref h3]) rfl ?_
    refine lv_astore_n (lv' := [(3, .ref h3), (0, .ref h0), (1, .int p0), (2, .int p1)]) hx hb dX11_keep_5 rfl hl (by decide) rfl (fun ls hl => ?_)
    refine lv_aload_n hx hb dX11_keep_6 rfl (lv_at hl 0 rfl) ?_
    refine lv_ifnull hx hb dX11_keep_7 ?_
    refine lv_iload_n hx hb dX11_keep_10 rfl (lv_at hl 3 rfl) ?_
    refine lv_iconst (v := (-1)) hx hb dX11_keep_11 (by decide) ?_
    refine lv_icmp_eq (tgt := 28) hx hb dX11_keep_12 (by decide) (fun c_2 => ?_) (fun c_2 => ?_)
    · have t_2 : p1.toInt = (-1) := kk_eq c_2
      refine lv_iload_n hx hb dX11_keep_28 rfl (lv_at hl 3 rfl) ?_
      refine lv_iconst (v := (-1)) hx hb dX11_keep_29 (by decide) ?_
      refine lv_icmp_ne (tgt := 40) hx hb dX11_keep_30 (by decide) (fun c_3 => ?_) (fun c_3 => ?_)
      · have t_3 : p1.toInt ≠ (-1) := kk_ne c_3
        exfalso; omega
      · have t_3 : p1.toInt = (-1) := kk_eq c_3
        refine lv_aload_n hx hb dX11_keep_33 rfl (lv_at hl 0 rfl) ?_
        have hPc := hP.sub (ws' := [(h3, .inr (8, [.ref h21, .int (-1), .int 0, .int 0]))]) [1] rfl
        have hDc := hD.sub (ws' := [(h3, .inr (8, [.ref h21, .int (-1), .int 0, .int 0]))]) [1] (by decide) rfl
        have hKc := hK.sub (tys' := []) [] rfl
        have hFc := va_free (wc := [(h3, .inr (8, [.ref h21, .int (-1), .int 0, .int 0]))]) hD hS hA [1] rfl
        refine va_callv (va_runV (As := []) (rest := []) ⟨hx, hb, hml, hown, hts⟩ (k_X8_holdNothing_0 l dC dI h3 h21 H.size) (cwV 0 hts gX11_keep_X8_holdNothing rfl rfl rfl (by decide +kernel) ⟨Nat.le_of_ble_eq_true rfl, Nat.le_of_ble_eq_true rfl⟩) ⟨fun a U g mk q => by obtain ⟨q0, q1, qP, qK, qD⟩ := q; exact ⟨q0, q1, qP, va_K.moved (u := U) (U := U.calling g mk a) (Vm.Alike.refl U.vm) qK, qD⟩, va_recv hKc hPc (ci := 8) (q0 := 0) rfl rfl, fun U hU hW => ⟨rfl, by rw [hU], by rw [hU]; exact hPc, va_K.moved hW.alike hKc, hDc.weaken (fun _ _ _ _ => trivial)⟩⟩ rfl rfl hl.1 rfl (lv_room (Nat.le_of_ble_eq_true rfl)) dX11_keep_34 ⟨Nat.le_of_ble_eq_true rfl, Nat.le_of_ble_eq_true rfl⟩) hS (fun q _ h => hFc q h) hFc (fun u t H1 locs ht hvm hw hB hz1 hk1 hS => ?_)
        obtain ⟨hP1, hK1, hD1⟩ := hB
        rw [ht] at hP1
        have hK1 := va_K.moved hvm.symm hK1
        obtain ⟨hP, hD⟩ := va_join (wr := [(h1, .inr (5, [.ref h19, .int 0, .ref h20, .int 0])), (h4, .inr (8, [.ref h22, .int (-1), .int 0, .int 0])), (h5, .inr (8, [.ref h23, .int (-1), .int 0, .int 0])), (h6, .inr (8, [.ref h24, .int (-1), .int 0, .int 0])), (h7, .inr (8, [.ref h25, .int (-1), .int 0, .int 0])), (h8, .inr (8, [.ref h26, .int (-1), .int 0, .int 0])), (h0, .inr (11, [.ref h9, .int 0, .ref h10, .ref h11, .ref h12, .ref h13, .ref h14, .ref h15, .ref h16, .ref h17, .ref h18, .int 0, .ref h1, .ref h2])), (h2, .inl (cOShelf, 6, .inr (.inr (.inr (.inr (va_up (va_up (va_up (va_up (va_up (va_up (fun _ => none) (0 : Int32).toNatClampNeg (some h3)) (1 : Int32).toNatClampNeg (some h4)) (2 : Int32).toNatClampNeg (some h5)) (3 : Int32).toNatClampNeg (some h6)) (4 : Int32).toNatClampNeg (some h7)) (5 : Int32).toNatClampNeg (some h8)))))))]) (w1 := [(h3, .inr (8, [.ref h21, .int (-1), .int 0, .int 0]))]) hP hD [1] [0, 2, 3, 4, 5, 6, 7, 8] rfl rfl (by decide) (by decide) hk1 hFc hP1 hD1
        generalize H1 = H at hP hS ⊢
        have hP : va_P (dC, dI) vwCl [(h1, .inr (5, [.ref h19, .int 0, .ref h20, .int 0])), (h4, .inr (8, [.ref h22, .int (-1), .int 0, .int 0])), (h5, .inr (8, [.ref h23, .int (-1), .int 0, .int 0])), (h6, .inr (8, [.ref h24, .int (-1), .int 0, .int 0])), (h7, .inr (8, [.ref h25, .int (-1), .int 0, .int 0])), (h8, .inr (8, [.ref h26, .int (-1), .int 0, .int 0])), (h0, .inr (11, [.ref h9, .int 0, .ref h10, .ref h11, .ref h12, .ref h13, .ref h14, .ref h15, .ref h16, .ref h17, .ref h18, .int 0, .ref h1, .ref h2])), (h2, .inl (cOShelf, 6, .inr (.inr (.inr (.inr (va_up (va_up (va_up (va_up (va_up (va_up (fun _ => none) (0 : Int32).toNatClampNeg (some h3)) (1 : Int32).toNatClampNeg (some h4)) (2 : Int32).toNatClampNeg (some h5)) (3 : Int32).toNatClampNeg (some h6)) (4 : Int32).toNatClampNeg (some h7)) (5 : Int32).toNatClampNeg (some h8))))))), (h3, .inr (8, [.ref h21, .int (-1), .int 0, .int 0]))] H := hP
        have hD : va_D A [(h1, .inr (5, [.ref h19, .int 0, .ref h20, .int 0])), (h4, .inr (8, [.ref h22, .int (-1), .int 0, .int 0])), (h5, .inr (8, [.ref h23, .int (-1), .int 0, .int 0])), (h6, .inr (8, [.ref h24, .int (-1), .int 0, .int 0])), (h7, .inr (8, [.ref h25, .int (-1), .int 0, .int 0])), (h8, .inr (8, [.ref h26, .int (-1), .int 0, .int 0])), (h0, .inr (11, [.ref h9, .int 0, .ref h10, .ref h11, .ref h12, .ref h13, .ref h14, .ref h15, .ref h16, .ref h17, .ref h18, .int 0, .ref h1, .ref h2])), (h2, .inl (cOShelf, 6, .inr (.inr (.inr (.inr (va_up (va_up (va_up (va_up (va_up (va_up (fun _ => none) (0 : Int32).toNatClampNeg (some h3)) (1 : Int32).toNatClampNeg (some h4)) (2 : Int32).toNatClampNeg (some h5)) (3 : Int32).toNatClampNeg (some h6)) (4 : Int32).toNatClampNeg (some h7)) (5 : Int32).toNatClampNeg (some h8))))))), (h3, .inr (8, [.ref h21, .int (-1), .int 0, .int 0]))] := hD
        refine lv_goto (tgt := 45) hx hb dX11_keep_37 (by decide) ?_
        refine lv_iconst (v := 1) hx hb dX11_keep_45 (by decide) ?_
        have hP9 := hP.sub (ws' := []) [] rfl
        have hD9 := hD.sub (ws' := []) [] (by decide) rfl
        have hK9 := hK.sub (tys' := []) [] rfl
        exact W.iret (v := 1) hx hb hr (fun t ht hW => ⟨⟨1, (), rfl, by first | rfl | ((repeat' split) <;> first | rfl | (exfalso; omega) | (exact Int32.toInt_inj.mp (by show (1 : Int) = _; omega))), by rw [ht]; exact hP9, va_K.moved hW.alike hK9, hD9⟩, hS.F ht⟩) hS.2.2 dX11_keep_46
    · have t_2 : p1.toInt ≠ (-1) := kk_ne c_2
      refine lv_aload_n hx hb dX11_keep_15 rfl (lv_at hl 1 rfl) ?_
      refine va_get (D := (dC, dI)) (ci := 11) (v := .ref h1) (C := RX11) (T := TX11) (N := 14) hx hb hts (fun _ h => List.mem_cons_of_mem _ (List.mem_append_left _ (List.mem_append_left _ (List.mem_append_right _ h)))) hown hK hP 7 rfl rfl 12 (by decide) (hts (.fieldLink RX11 78 "KinkStreet" "lines" "LKinkStreet$Lines;") (List.mem_of_getElem? (i := 1) rfl)) (fun _ h9 => h9) rfl dX11_keep_16 ?_
      refine lv_iload_n hx hb dX11_keep_19 rfl (lv_at hl 3 rfl) ?_
      have hPc := hP.sub (ws' := [(h1, .inr (5, [.ref h19, .int 0, .ref h20, .int 0]))]) [0] rfl
      have hDc := hD.sub (ws' := [(h1, .inr (5, [.ref h19, .int 0, .ref h20, .int 0]))]) [0] (by decide) rfl
      have hKc := hK.sub (tys' := []) [] rfl
      have hFc := va_free (wc := [(h1, .inr (5, [.ref h19, .int 0, .ref h20, .int 0]))]) hD hS hA [0] rfl
      refine va_calli (va_runV (As := [.int p1]) (rest := []) ⟨hx, hb, hml, hown, hts⟩ (k_X5_has_0 l dC dI h1 h19 h20 H.size p1) (cwV 1 hts gX11_keep_X5_has rfl rfl rfl (by decide +kernel) ⟨Nat.le_of_ble_eq_true rfl, Nat.le_of_ble_eq_true rfl⟩) ⟨fun a U g mk q => by obtain ⟨q0, q1, qP, qK, qD⟩ := q; exact ⟨q0, q1, qP, va_K.moved (u := U) (U := U.calling g mk a) (Vm.Alike.refl U.vm) qK, qD⟩, va_recv hKc hPc (ci := 5) (q0 := 0) rfl rfl, fun U hU hW => ⟨rfl, by rw [hU], by rw [hU]; exact hPc, va_K.moved hW.alike hKc, hDc.weaken (fun _ _ _ _ => trivial)⟩⟩ rfl rfl hl.1 rfl (lv_room (Nat.le_of_ble_eq_true rfl)) dX11_keep_20 ⟨Nat.le_of_ble_eq_true rfl, Nat.le_of_ble_eq_true rfl⟩) hS (fun q _ h => hFc q h) hFc (fun r_5 u t H1 locs ht hvm hw hB hz1 hk1 hS => ?_)
      obtain ⟨hP1, hK1, hD1⟩ := hB
      rw [ht] at hP1
      have hK1 := va_K.moved hvm.symm hK1
      obtain ⟨hP, hD⟩ := va_join (wr := [(h3, .inr (8, [.ref h21, .int (-1), .int 0, .int 0])), (h4, .inr (8, [.ref h22, .int (-1), .int 0, .int 0])), (h5, .inr (8, [.ref h23, .int (-1), .int 0, .int 0])), (h6, .inr (8, [.ref h24, .int (-1), .int 0, .int 0])), (h7, .inr (8, [.ref h25, .int (-1), .int 0, .int 0])), (h8, .inr (8, [.ref h26, .int (-1), .int 0, .int 0])), (h0, .inr (11, [.ref h9, .int 0, .ref h10, .ref h11, .ref h12, .ref h13, .ref h14, .ref h15, .ref h16, .ref h17, .ref h18, .int 0, .ref h1, .ref h2])), (h2, .inl (cOShelf, 6, .inr (.inr (.inr (.inr (va_up (va_up (va_up (va_up (va_up (va_up (fun _ => none) (0 : Int32).toNatClampNeg (some h3)) (1 : Int32).toNatClampNeg (some h4)) (2 : Int32).toNatClampNeg (some h5)) (3 : Int32).toNatClampNeg (some h6)) (4 : Int32).toNatClampNeg (some h7)) (5 : Int32).toNatClampNeg (some h8)))))))]) (w1 := [(h1, .inr (5, [.ref h19, .int 0, .ref h20, .int 0]))]) hP hD [0] [1, 2, 3, 4, 5, 6, 7, 8] rfl rfl (by decide) (by decide) hk1 hFc hP1 hD1
      generalize H1 = H at hP hS ⊢
      have hP : va_P (dC, dI) vwCl [(h3, .inr (8, [.ref h21, .int (-1), .int 0, .int 0])), (h4, .inr (8, [.ref h22, .int (-1), .int 0, .int 0])), (h5, .inr (8, [.ref h23, .int (-1), .int 0, .int 0])), (h6, .inr (8, [.ref h24, .int (-1), .int 0, .int 0])), (h7, .inr (8, [.ref h25, .int (-1), .int 0, .int 0])), (h8, .inr (8, [.ref h26, .int (-1), .int 0, .int 0])), (h0, .inr (11, [.ref h9, .int 0, .ref h10, .ref h11, .ref h12, .ref h13, .ref h14, .ref h15, .ref h16, .ref h17, .ref h18, .int 0, .ref h1, .ref h2])), (h2, .inl (cOShelf, 6, .inr (.inr (.inr (.inr (va_up (va_up (va_up (va_up (va_up (va_up (fun _ => none) (0 : Int32).toNatClampNeg (some h3)) (1 : Int32).toNatClampNeg (some h4)) (2 : Int32).toNatClampNeg (some h5)) (3 : Int32).toNatClampNeg (some h6)) (4 : Int32).toNatClampNeg (some h7)) (5 : Int32).toNatClampNeg (some h8))))))), (h1, .inr (5, [.ref h19, .int 0, .ref h20, .int 0]))] H := hP
      have hD : va_D A [(h3, .inr (8, [.ref h21, .int (-1), .int 0, .int 0])), (h4, .inr (8, [.ref h22, .int (-1), .int 0, .int 0])), (h5, .inr (8, [.ref h23, .int (-1), .int 0, .int 0])), (h6, .inr (8, [.ref h24, .int (-1), .int 0, .int 0])), (h7, .inr (8, [.ref h25, .int (-1), .int 0, .int 0])), (h8, .inr (8, [.ref h26, .int (-1), .int 0, .int 0])), (h0, .inr (11, [.ref h9, .int 0, .ref h10, .ref h11, .ref h12, .ref h13, .ref h14, .ref h15, .ref h16, .ref h17, .ref h18, .int 0, .ref h1, .ref h2])), (h2, .inl (cOShelf, 6, .inr (.inr (.inr (.inr (va_up (va_up (va_up (va_up (va_up (va_up (fun _ => none) (0 : Int32).toNatClampNeg (some h3)) (1 : Int32).toNatClampNeg (some h4)) (2 : Int32).toNatClampNeg (some h5)) (3 : Int32).toNatClampNeg (some h6)) (4 : Int32).toNatClampNeg (some h7)) (5 : Int32).toNatClampNeg (some h8))))))), (h1, .inr (5, [.ref h19, .int 0, .ref h20, .int 0]))] := hD
      obtain rfl := hw
      refine lv_if_ne (tgt := 28) hx hb dX11_keep_23 (by decide) (fun c => absurd c (by decide)) (fun _ => ?_)
      refine lv_iconst (v := (-1)) hx hb dX11_keep_26 (by decide) ?_
      have hP9 := hP.sub (ws' := []) [] rfl
      have hD9 := hD.sub (ws' := []) [] (by decide) rfl
      have hK9 := hK.sub (tys' := []) [] rfl
      exact W.iret (v := (-1)) hx hb hr (fun t ht hW => ⟨⟨(-1), (), rfl, by first | rfl | ((repeat' split) <;> first | rfl | (exfalso; omega) | (exact Int32.toInt_inj.mp (by show ((-1) : Int) = _; omega))), by rw [ht]; exact hP9, va_K.moved hW.alike hK9, hD9⟩, hS.F ht⟩) hS.2.2 dX11_keep_27
  · skip
    refine W.eq (g2 := F0 m 5 ls [.ref h4]) rfl ?_
    refine lv_astore_n (lv' := [(3, .ref h4), (0, .ref h0), (1, .int p0), (2, .int p1)]) hx hb dX11_keep_5 rfl hl (by decide) rfl (fun ls hl => ?_)
    refine lv_aload_n hx hb dX11_keep_6 rfl (lv_at hl 0 rfl) ?_
    refine lv_ifnull hx hb dX11_keep_7 ?_
    refine lv_iload_n hx hb dX11_keep_10 rfl (lv_at hl 3 rfl) ?_
    refine lv_iconst (v := (-1)) hx hb dX11_keep_11 (by decide) ?_
    refine lv_icmp_eq (tgt := 28) hx hb dX11_keep_12 (by decide) (fun c_6 => ?_) (fun c_6 => ?_)
    · have t_6 : p1.toInt = (-1) := kk_eq c_6
      refine lv_iload_n hx hb dX11_keep_28 rfl (lv_at hl 3 rfl) ?_
      refine lv_iconst (v := (-1)) hx hb dX11_keep_29 (by decide) ?_
      refine lv_icmp_ne (tgt := 40) hx hb dX11_keep_30 (by decide) (fun c_7 => ?_) (fun c_7 => ?_)
      · have t_7 : p1.toInt ≠ (-1) := kk_ne c_7
        exfalso; omega
      · have t_7 : p1.toInt = (-1) := kk_eq c_7
        refine lv_aload_n hx hb dX11_keep_33 rfl (lv_at hl 0 rfl) ?_
        have hPc := hP.sub (ws' := [(h4, .inr (8, [.ref h22, .int (-1), .int 0, .int 0]))]) [2] rfl
        have hDc := hD.sub (ws' := [(h4, .inr (8, [.ref h22, .int (-1), .int 0, .int 0]))]) [2] (by decide) rfl
        have hKc := hK.sub (tys' := []) [] rfl
        have hFc := va_free (wc := [(h4, .inr (8, [.ref h22, .int (-1), .int 0, .int 0]))]) hD hS hA [2] rfl
        refine va_callv (va_runV (As := []) (rest := []) ⟨hx, hb, hml, hown, hts⟩ (k_X8_holdNothing_0 l dC dI h4 h22 H.size) (cwV 0 hts gX11_keep_X8_holdNothing rfl rfl rfl (by decide +kernel) ⟨Nat.le_of_ble_eq_true rfl, Nat.le_of_ble_eq_true rfl⟩) ⟨fun a U g mk q => by obtain ⟨q0, q1, qP, qK, qD⟩ := q; exact ⟨q0, q1, qP, va_K.moved (u := U) (U := U.calling g mk a) (Vm.Alike.refl U.vm) qK, qD⟩, va_recv hKc hPc (ci := 8) (q0 := 0) rfl rfl, fun U hU hW => ⟨rfl, by rw [hU], by rw [hU]; exact hPc, va_K.moved hW.alike hKc, hDc.weaken (fun _ _ _ _ => trivial)⟩⟩ rfl rfl hl.1 rfl (lv_room (Nat.le_of_ble_eq_true rfl)) dX11_keep_34 ⟨Nat.le_of_ble_eq_true rfl, Nat.le_of_ble_eq_true rfl⟩) hS (fun q _ h => hFc q h) hFc (fun u t H1 locs ht hvm hw hB hz1 hk1 hS => ?_)
        obtain ⟨hP1, hK1, hD1⟩ := hB
        rw [ht] at hP1
        have hK1 := va_K.moved hvm.symm hK1
        obtain ⟨hP, hD⟩ := va_join (wr := [(h1, .inr (5, [.ref h19, .int 0, .ref h20, .int 0])), (h3, .inr (8, [.ref h21, .int (-1), .int 0, .int 0])), (h5, .inr (8, [.ref h23, .int (-1), .int 0, .int 0])), (h6, .inr (8, [.ref h24, .int (-1), .int 0, .int 0])), (h7, .inr (8, [.ref h25, .int (-1), .int 0, .int 0])), (h8, .inr (8, [.ref h26, .int (-1), .int 0, .int 0])), (h0, .inr (11, [.ref h9, .int 0, .ref h10, .ref h11, .ref h12, .ref h13, .ref h14, .ref h15, .ref h16, .ref h17, .ref h18, .int 0, .ref h1, .ref h2])), (h2, .inl (cOShelf, 6, .inr (.inr (.inr (.inr (va_up (va_up (va_up (va_up (va_up (va_up (fun _ => none) (0 : Int32).toNatClampNeg (some h3)) (1 : Int32).toNatClampNeg (some h4)) (2 : Int32).toNatClampNeg (some h5)) (3 : Int32).toNatClampNeg (some h6)) (4 : Int32).toNatClampNeg (some h7)) (5 : Int32).toNatClampNeg (some h8)))))))]) (w1 := [(h4, .inr (8, [.ref h22, .int (-1), .int 0, .int 0]))]) hP hD [2] [0, 1, 3, 4, 5, 6, 7, 8] rfl rfl (by decide) (by decide) hk1 hFc hP1 hD1
        generalize H1 = H at hP hS ⊢
        have hP : va_P (dC, dI) vwCl [(h1, .inr (5, [.ref h19, .int 0, .ref h20, .int 0])), (h3, .inr (8, [.ref h21, .int (-1), .int 0, .int 0])), (h5, .inr (8, [.ref h23, .int (-1), .int 0, .int 0])), (h6, .inr (8, [.ref h24, .int (-1), .int 0, .int 0])), (h7, .inr (8, [.ref h25, .int (-1), .int 0, .int 0])), (h8, .inr (8, [.ref h26, .int (-1), .int 0, .int 0])), (h0, .inr (11, [.ref h9, .int 0, .ref h10, .ref h11, .ref h12, .ref h13, .ref h14, .ref h15, .ref h16, .ref h17, .ref h18, .int 0, .ref h1, .ref h2])), (h2, .inl (cOShelf, 6, .inr (.inr (.inr (.inr (va_up (va_up (va_up (va_up (va_up (va_up (fun _ => none) (0 : Int32).toNatClampNeg (some h3)) (1 : Int32).toNatClampNeg (some h4)) (2 : Int32).toNatClampNeg (some h5)) (3 : Int32).toNatClampNeg (some h6)) (4 : Int32).toNatClampNeg (some h7)) (5 : Int32).toNatClampNeg (some h8))))))), (h4, .inr (8, [.ref h22, .int (-1), .int 0, .int 0]))] H := hP
        have hD : va_D A [(h1, .inr (5, [.ref h19, .int 0, .ref h20, .int 0])), (h3, .inr (8, [.ref h21, .int (-1), .int 0, .int 0])), (h5, .inr (8, [.ref h23, .int (-1), .int 0, .int 0])), (h6, .inr (8, [.ref h24, .int (-1), .int 0, .int 0])), (h7, .inr (8, [.ref h25, .int (-1), .int 0, .int 0])), (h8, .inr (8, [.ref h26, .int (-1), .int 0, .int 0])), (h0, .inr (11, [.ref h9, .int 0, .ref h10, .ref h11, .ref h12, .ref h13, .ref h14, .ref h15, .ref h16, .ref h17, .ref h18, .int 0, .ref h1, .ref h2])), (h2, .inl (cOShelf, 6, .inr (.inr (.inr (.inr (va_up (va_up (va_up (va_up (va_up (va_up (fun _ => none) (0 : Int32).toNatClampNeg (some h3)) (1 : Int32).toNatClampNeg (some h4)) (2 : Int32).toNatClampNeg (some h5)) (3 : Int32).toNatClampNeg (some h6)) (4 : Int32).toNatClampNeg (some h7)) (5 : Int32).toNatClampNeg (some h8))))))), (h4, .inr (8, [.ref h22, .int (-1), .int 0, .int 0]))] := hD
        refine lv_goto (tgt := 45) hx hb dX11_keep_37 (by decide) ?_
        refine lv_iconst (v := 1) hx hb dX11_keep_45 (by decide) ?_
        have hP9 := hP.sub (ws' := []) [] rfl
        have hD9 := hD.sub (ws' := []) [] (by decide) rfl
        have hK9 := hK.sub (tys' := []) [] rfl
        exact W.iret (v := 1) hx hb hr (fun t ht hW => ⟨⟨1, (), rfl, by first | rfl | ((repeat' split) <;> first | rfl | (exfalso; omega) | (exact Int32.toInt_inj.mp (by show (1 : Int) = _; omega))), by rw [ht]; exact hP9, va_K.moved hW.alike hK9, hD9⟩, hS.F ht⟩) hS.2.2 dX11_keep_46
    · have t_6 : p1.toInt ≠ (-1) := kk_ne c_6
      refine lv_aload_n hx hb dX11_keep_15 rfl (lv_at hl 1 rfl) ?_
      refine va_get (D := (dC, dI)) (ci := 11) (v := .ref h1) (C := RX11) (T := TX11) (N := 14) hx hb hts (fun _ h => List.mem_cons_of_mem _ (List.mem_append_left _ (List.mem_append_left _ (List.mem_append_right _ h)))) hown hK hP 7 rfl rfl 12 (by decide) (hts (.fieldLink RX11 78 "KinkStreet" "lines" "LKinkStreet$Lines;") (List.mem_of_getElem? (i := 1) rfl)) (fun _ h9 => h9) rfl dX11_keep_16 ?_
      refine lv_iload_n hx hb dX11_keep_19 rfl (lv_at hl 3 rfl) ?_
      have hPc := hP.sub (ws' := [(h1, .inr (5, [.ref h19, .int 0, .ref h20, .int 0]))]) [0] rfl
      have hDc := hD.sub (ws' := [(h1, .inr (5, [.ref h19, .int 0, .ref h20, .int 0]))]) [0] (by decide) rfl
      have hKc := hK.sub (tys' := []) [] rfl
      have hFc := va_free (wc := [(h1, .inr (5, [.ref h19, .int 0, .ref h20, .int 0]))]) hD hS hA [0] rfl
      refine va_calli (va_runV (As := [.int p1]) (rest := []) ⟨hx, hb, hml, hown, hts⟩ (k_X5_has_0 l dC dI h1 h19 h20 H.size p1) (cwV 1 hts gX11_keep_X5_has rfl rfl rfl (by decide +kernel) ⟨Nat.le_of_ble_eq_true rfl, Nat.le_of_ble_eq_true rfl⟩) ⟨fun a U g mk q => by obtain ⟨q0, q1, qP, qK, qD⟩ := q; exact ⟨q0, q1, qP, va_K.moved (u := U) (U := U.calling g mk a) (Vm.Alike.refl U.vm) qK, qD⟩, va_recv hKc hPc (ci := 5) (q0 := 0) rfl rfl, fun U hU hW => ⟨rfl, by rw [hU], by rw [hU]; exact hPc, va_K.moved hW.alike hKc, hDc.weaken (fun _ _ _ _ => trivial)⟩⟩ rfl rfl hl.1 rfl (lv_room (Nat.le_of_ble_eq_true rfl)) dX11_keep_20 ⟨Nat.le_of_ble_eq_true rfl, Nat.le_of_ble_eq_true rfl⟩) hS (fun q _ h => hFc q h) hFc (fun r_9 u t H1 locs ht hvm hw hB hz1 hk1 hS => ?_)
      obtain ⟨hP1, hK1, hD1⟩ := hB
      rw [ht] at hP1
      have hK1 := va_K.moved hvm.symm hK1
      obtain ⟨hP, hD⟩ := va_join (wr := [(h3, .inr (8, [.ref h21, .int (-1), .int 0, .int 0])), (h4, .inr (8, [.ref h22, .int (-1), .int 0, .int 0])), (h5, .inr (8, [.ref h23, .int (-1), .int 0, .int 0])), (h6, .inr (8, [.ref h24, .int (-1), .int 0, .int 0])), (h7, .inr (8, [.ref h25, .int (-1), .int 0, .int 0])), (h8, .inr (8, [.ref h26, .int (-1), .int 0, .int 0])), (h0, .inr (11, [.ref h9, .int 0, .ref h10, .ref h11, .ref h12, .ref h13, .ref h14, .ref h15, .ref h16, .ref h17, .ref h18, .int 0, .ref h1, .ref h2])), (h2, .inl (cOShelf, 6, .inr (.inr (.inr (.inr (va_up (va_up (va_up (va_up (va_up (va_up (fun _ => none) (0 : Int32).toNatClampNeg (some h3)) (1 : Int32).toNatClampNeg (some h4)) (2 : Int32).toNatClampNeg (some h5)) (3 : Int32).toNatClampNeg (some h6)) (4 : Int32).toNatClampNeg (some h7)) (5 : Int32).toNatClampNeg (some h8)))))))]) (w1 := [(h1, .inr (5, [.ref h19, .int 0, .ref h20, .int 0]))]) hP hD [0] [1, 2, 3, 4, 5, 6, 7, 8] rfl rfl (by decide) (by decide) hk1 hFc hP1 hD1
      generalize H1 = H at hP hS ⊢
      have hP : va_P (dC, dI) vwCl [(h3, .inr (8, [.ref h21, .int (-1), .int 0, .int 0])), (h4, .inr (8, [.ref h22, .int (-1), .int 0, .int 0])), (h5, .inr (8, [.ref h23, .int (-1), .int 0, .int 0])), (h6, .inr (8, [.ref h24, .int (-1), .int 0, .int 0])), (h7, .inr (8, [.ref h25, .int (-1), .int 0, .int 0])), (h8, .inr (8, [.ref h26, .int (-1), .int 0, .int 0])), (h0, .inr (11, [.ref h9, .int 0, .ref h10, .ref h11, .ref h12, .ref h13, .ref h14, .ref h15, .ref h16, .ref h17, .ref h18, .int 0, .ref h1, .ref h2])), (h2, .inl (cOShelf, 6, .inr (.inr (.inr (.inr (va_up (va_up (va_up (va_up (va_up (va_up (fun _ => none) (0 : Int32).toNatClampNeg (some h3)) (1 : Int32).toNatClampNeg (some h4)) (2 : Int32).toNatClampNeg (some h5)) (3 : Int32).toNatClampNeg (some h6)) (4 : Int32).toNatClampNeg (some h7)) (5 : Int32).toNatClampNeg (some h8))))))), (h1, .inr (5, [.ref h19, .int 0, .ref h20, .int 0]))] H := hP
      have hD : va_D A [(h3, .inr (8, [.ref h21, .int (-1), .int 0, .int 0])), (h4, .inr (8, [.ref h22, .int (-1), .int 0, .int 0])), (h5, .inr (8, [.ref h23, .int (-1), .int 0, .int 0])), (h6, .inr (8, [.ref h24, .int (-1), .int 0, .int 0])), (h7, .inr (8, [.ref h25, .int (-1), .int 0, .int 0])), (h8, .inr (8, [.ref h26, .int (-1), .int 0, .int 0])), (h0, .inr (11, [.ref h9, .int 0, .ref h10, .ref h11, .ref h12, .ref h13, .ref h14, .ref h15, .ref h16, .ref h17, .ref h18, .int 0, .ref h1, .ref h2])), (h2, .inl (cOShelf, 6, .inr (.inr (.inr (.inr (va_up (va_up (va_up (va_up (va_up (va_up (fun _ => none) (0 : Int32).toNatClampNeg (some h3)) (1 : Int32).toNatClampNeg (some h4)) (2 : Int32).toNatClampNeg (some h5)) (3 : Int32).toNatClampNeg (some h6)) (4 : Int32).toNatClampNeg (some h7)) (5 : Int32).toNatClampNeg (some h8))))))), (h1, .inr (5, [.ref h19, .int 0, .ref h20, .int 0]))] := hD
      obtain rfl := hw
      refine lv_if_ne (tgt := 28) hx hb dX11_keep_23 (by decide) (fun c => absurd c (by decide)) (fun _ => ?_)
      refine lv_iconst (v := (-1)) hx hb dX11_keep_26 (by decide) ?_
      have hP9 := hP.sub (ws' := []) [] rfl
      have hD9 := hD.sub (ws' := []) [] (by decide) rfl
      have hK9 := hK.sub (tys' := []) [] rfl
      exact W.iret (v := (-1)) hx hb hr (fun t ht hW => ⟨⟨(-1), (), rfl, by first | rfl | ((repeat' split) <;> first | rfl | (exfalso; omega) | (exact Int32.toInt_inj.mp (by show ((-1) : Int) = _; omega))), by rw [ht]; exact hP9, va_K.moved hW.alike hK9, hD9⟩, hS.F ht⟩) hS.2.2 dX11_keep_27
  · skip
    refine W.eq (g2 := F0 m 5 ls [.ref h5]) rfl ?_
    refine lv_astore_n (lv' := [(3, .ref h5), (0, .ref h0), (1, .int p0), (2, .int p1)]) hx hb dX11_keep_5 rfl hl (by decide) rfl (fun ls hl => ?_)
    refine lv_aload_n hx hb dX11_keep_6 rfl (lv_at hl 0 rfl) ?_
    refine lv_ifnull hx hb dX11_keep_7 ?_
    refine lv_iload_n hx hb dX11_keep_10 rfl (lv_at hl 3 rfl) ?_
    refine lv_iconst (v := (-1)) hx hb dX11_keep_11 (by decide) ?_
    refine lv_icmp_eq (tgt := 28) hx hb dX11_keep_12 (by decide) (fun c_10 => ?_) (fun c_10 => ?_)
    · have t_10 : p1.toInt = (-1) := kk_eq c_10
      refine lv_iload_n hx hb dX11_keep_28 rfl (lv_at hl 3 rfl) ?_
      refine lv_iconst (v := (-1)) hx hb dX11_keep_29 (by decide) ?_
      refine lv_icmp_ne (tgt := 40) hx hb dX11_keep_30 (by decide) (fun c_11 => ?_) (fun c_11 => ?_)
      · have t_11 : p1.toInt ≠ (-1) := kk_ne c_11
        exfalso; omega
      · have t_11 : p1.toInt = (-1) := kk_eq c_11
        refine lv_aload_n hx hb dX11_keep_33 rfl (lv_at hl 0 rfl) ?_
        have hPc := hP.sub (ws' := [(h5, .inr (8, [.ref h23, .int (-1), .int 0, .int 0]))]) [3] rfl
        have hDc := hD.sub (ws' := [(h5, .inr (8, [.ref h23, .int (-1), .int 0, .int 0]))]) [3] (by decide) rfl
        have hKc := hK.sub (tys' := []) [] rfl
        have hFc := va_free (wc := [(h5, .inr (8, [.ref h23, .int (-1), .int 0, .int 0]))]) hD hS hA [3] rfl
        refine va_callv (va_runV (As := []) (rest := []) ⟨hx, hb, hml, hown, hts⟩ (k_X8_holdNothing_0 l dC dI h5 h23 H.size) (cwV 0 hts gX11_keep_X8_holdNothing rfl rfl rfl (by decide +kernel) ⟨Nat.le_of_ble_eq_true rfl, Nat.le_of_ble_eq_true rfl⟩) ⟨fun a U g mk q => by obtain ⟨q0, q1, qP, qK, qD⟩ := q; exact ⟨q0, q1, qP, va_K.moved (u := U) (U := U.calling g mk a) (Vm.Alike.refl U.vm) qK, qD⟩, va_recv hKc hPc (ci := 8) (q0 := 0) rfl rfl, fun U hU hW => ⟨rfl, by rw [hU], by rw [hU]; exact hPc, va_K.moved hW.alike hKc, hDc.weaken (fun _ _ _ _ => trivial)⟩⟩ rfl rfl hl.1 rfl (lv_room (Nat.le_of_ble_eq_true rfl)) dX11_keep_34 ⟨Nat.le_of_ble_eq_true rfl, Nat.le_of_ble_eq_true rfl⟩) hS (fun q _ h => hFc q h) hFc (fun u t H1 locs ht hvm hw hB hz1 hk1 hS => ?_)
        obtain ⟨hP1, hK1, hD1⟩ := hB
        rw [ht] at hP1
        have hK1 := va_K.moved hvm.symm hK1
        obtain ⟨hP, hD⟩ := va_join (wr := [(h1, .inr (5, [.ref h19, .int 0, .ref h20, .int 0])), (h3, .inr (8, [.ref h21, .int (-1), .int 0, .int 0])), (h4, .inr (8, [.ref h22, .int (-1), .int 0, .int 0])), (h6, .inr (8, [.ref h24, .int (-1), .int 0, .int 0])), (h7, .inr (8, [.ref h25, .int (-1), .int 0, .int 0])), (h8, .inr (8, [.ref h26, .int (-1), .int 0, .int 0])), (h0, .inr (11, [.ref h9, .int 0, .ref h10, .ref h11, .ref h12, .ref h13, .ref h14, .ref h15, .ref h16, .ref h17, .ref h18, .int 0, .ref h1, .ref h2])), (h2, .inl (cOShelf, 6, .inr (.inr (.inr (.inr (va_up (va_up (va_up (va_up (va_up (va_up (fun _ => none) (0 : Int32).toNatClampNeg (some h3)) (1 : Int32).toNatClampNeg (some h4)) (2 : Int32).toNatClampNeg (some h5)) (3 : Int32).toNatClampNeg (some h6)) (4 : Int32).toNatClampNeg (some h7)) (5 : Int32).toNatClampNeg (some h8)))))))]) (w1 := [(h5, .inr (8, [.ref h23, .int (-1), .int 0, .int 0]))]) hP hD [3] [0, 1, 2, 4, 5, 6, 7, 8] rfl rfl (by decide) (by decide) hk1 hFc hP1 hD1
        generalize H1 = H at hP hS ⊢
        have hP : va_P (dC, dI) vwCl [(h1, .inr (5, [.ref h19, .int 0, .ref h20, .int 0])), (h3, .inr (8, [.ref h21, .int (-1), .int 0, .int 0])), (h4, .inr (8, [.ref h22, .int (-1), .int 0, .int 0])), (h6, .inr (8, [.ref h24, .int (-1), .int 0, .int 0])), (h7, .inr (8, [.ref h25, .int (-1), .int 0, .int 0])), (h8, .inr (8, [.ref h26, .int (-1), .int 0, .int 0])), (h0, .inr (11, [.ref h9, .int 0, .ref h10, .ref h11, .ref h12, .ref h13, .ref h14, .ref h15, .ref h16, .ref h17, .ref h18, .int 0, .ref h1, .ref h2])), (h2, .inl (cOShelf, 6, .inr (.inr (.inr (.inr (va_up (va_up (va_up (va_up (va_up (va_up (fun _ => none) (0 : Int32).toNatClampNeg (some h3)) (1 : Int32).toNatClampNeg (some h4)) (2 : Int32).toNatClampNeg (some h5)) (3 : Int32).toNatClampNeg (some h6)) (4 : Int32).toNatClampNeg (some h7)) (5 : Int32).toNatClampNeg (some h8))))))), (h5, .inr (8, [.ref h23, .int (-1), .int 0, .int 0]))] H := hP
        have hD : va_D A [(h1, .inr (5, [.ref h19, .int 0, .ref h20, .int 0])), (h3, .inr (8, [.ref h21, .int (-1), .int 0, .int 0])), (h4, .inr (8, [.ref h22, .int (-1), .int 0, .int 0])), (h6, .inr (8, [.ref h24, .int (-1), .int 0, .int 0])), (h7, .inr (8, [.ref h25, .int (-1), .int 0, .int 0])), (h8, .inr (8, [.ref h26, .int (-1), .int 0, .int 0])), (h0, .inr (11, [.ref h9, .int 0, .ref h10, .ref h11, .ref h12, .ref h13, .ref h14, .ref h15, .ref h16, .ref h17, .ref h18, .int 0, .ref h1, .ref h2])), (h2, .inl (cOShelf, 6, .inr (.inr (.inr (.inr (va_up (va_up (va_up (va_up (va_up (va_up (fun _ => none) (0 : Int32).toNatClampNeg (some h3)) (1 : Int32).toNatClampNeg (some h4)) (2 : Int32).toNatClampNeg (some h5)) (3 : Int32).toNatClampNeg (some h6)) (4 : Int32).toNatClampNeg (some h7)) (5 : Int32).toNatClampNeg (some h8))))))), (h5, .inr (8, [.ref h23, .int (-1), .int 0, .int 0]))] := hD
        refine lv_goto (tgt := 45) hx hb dX11_keep_37 (by decide) ?_
        refine lv_iconst (v := 1) hx hb dX11_keep_45 (by decide) ?_
        have hP9 := hP.sub (ws' := []) [] rfl
        have hD9 := hD.sub (ws' := []) [] (by decide) rfl
        have hK9 := hK.sub (tys' := []) [] rfl
        exact W.iret (v := 1) hx hb hr (fun t ht hW => ⟨⟨1, (), rfl, by first | rfl | ((repeat' split) <;> first | rfl | (exfalso; omega) | (exact Int32.toInt_inj.mp (by show (1 : Int) = _; omega))), by rw [ht]; exact hP9, va_K.moved hW.alike hK9, hD9⟩, hS.F ht⟩) hS.2.2 dX11_keep_46
    · have t_10 : p1.toInt ≠ (-1) := kk_ne c_10
      refine lv_aload_n hx hb dX11_keep_15 rfl (lv_at hl 1 rfl) ?_
      refine va_get (D := (dC, dI)) (ci := 11) (v := .ref h1) (C := RX11) (T := TX11) (N := 14) hx hb hts (fun _ h => List.mem_cons_of_mem _ (List.mem_append_left _ (List.mem_append_left _ (List.mem_append_right _ h)))) hown hK hP 7 rfl rfl 12 (by decide) (hts (.fieldLink RX11 78 "KinkStreet" "lines" "LKinkStreet$Lines;") (List.mem_of_getElem? (i := 1) rfl)) (fun _ h9 => h9) rfl dX11_keep_16 ?_
      refine lv_iload_n hx hb dX11_keep_19 rfl (lv_at hl 3 rfl) ?_
      have hPc := hP.sub (ws' := [(h1, .inr (5, [.ref h19, .int 0, .ref h20, .int 0]))]) [0] rfl
      have hDc := hD.sub (ws' := [(h1, .inr (5, [.ref h19, .int 0, .ref h20, .int 0]))]) [0] (by decide) rfl
      have hKc := hK.sub (tys' := []) [] rfl
      have hFc := va_free (wc := [(h1, .inr (5, [.ref h19, .int 0, .ref h20, .int 0]))]) hD hS hA [0] rfl
      refine va_calli (va_runV (As := [.int p1]) (rest := []) ⟨hx, hb, hml, hown, hts⟩ (k_X5_has_0 l dC dI h1 h19 h20 H.size p1) (cwV 1 hts gX11_keep_X5_has rfl rfl rfl (by decide +kernel) ⟨Nat.le_of_ble_eq_true rfl, Nat.le_of_ble_eq_true rfl⟩) ⟨fun a U g mk q => by obtain ⟨q0, q1, qP, qK, qD⟩ := q; exact ⟨q0, q1, qP, va_K.moved (u := U) (U := U.calling g mk a) (Vm.Alike.refl U.vm) qK, qD⟩, va_recv hKc hPc (ci := 5) (q0 := 0) rfl rfl, fun U hU hW => ⟨rfl, by rw [hU], by rw [hU]; exact hPc, va_K.moved hW.alike hKc, hDc.weaken (fun _ _ _ _ => trivial)⟩⟩ rfl rfl hl.1 rfl (lv_room (Nat.le_of_ble_eq_true rfl)) dX11_keep_20 ⟨Nat.le_of_ble_eq_true rfl, Nat.le_of_ble_eq_true rfl⟩) hS (fun q _ h => hFc q h) hFc (fun r_13 u t H1 locs ht hvm hw hB hz1 hk1 hS => ?_)
      obtain ⟨hP1, hK1, hD1⟩ := hB
      rw [ht] at hP1
      have hK1 := va_K.moved hvm.symm hK1
      obtain ⟨hP, hD⟩ := va_join (wr := [(h3, .inr (8, [.ref h21, .int (-1), .int 0, .int 0])), (h4, .inr (8, [.ref h22, .int (-1), .int 0, .int 0])), (h5, .inr (8, [.ref h23, .int (-1), .int 0, .int 0])), (h6, .inr (8, [.ref h24, .int (-1), .int 0, .int 0])), (h7, .inr (8, [.ref h25, .int (-1), .int 0, .int 0])), (h8, .inr (8, [.ref h26, .int (-1), .int 0, .int 0])), (h0, .inr (11, [.ref h9, .int 0, .ref h10, .ref h11, .ref h12, .ref h13, .ref h14, .ref h15, .ref h16, .ref h17, .ref h18, .int 0, .ref h1, .ref h2])), (h2, .inl (cOShelf, 6, .inr (.inr (.inr (.inr (va_up (va_up (va_up (va_up (va_up (va_up (fun _ => none) (0 : Int32).toNatClampNeg (some h3)) (1 : Int32).toNatClampNeg (some h4)) (2 : Int32).toNatClampNeg (some h5)) (3 : Int32).toNatClampNeg (some h6)) (4 : Int32).toNatClampNeg (some h7)) (5 : Int32).toNatClampNeg (some h8)))))))]) (w1 := [(h1, .inr (5, [.ref h19, .int 0, .ref h20, .int 0]))]) hP hD [0] [1, 2, 3, 4, 5, 6, 7, 8] rfl rfl (by decide) (by decide) hk1 hFc hP1 hD1
      generalize H1 = H at hP hS ⊢
      have hP : va_P (dC, dI) vwCl [(h3, .inr (8, [.ref h21, .int (-1), .int 0, .int 0])), (h4, .inr (8, [.ref h22, .int (-1), .int 0, .int 0])), (h5, .inr (8, [.ref h23, .int (-1), .int 0, .int 0])), (h6, .inr (8, [.ref h24, .int (-1), .int 0, .int 0])), (h7, .inr (8, [.ref h25, .int (-1), .int 0, .int 0])), (h8, .inr (8, [.ref h26, .int (-1), .int 0, .int 0])), (h0, .inr (11, [.ref h9, .int 0, .ref h10, .ref h11, .ref h12, .ref h13, .ref h14, .ref h15, .ref h16, .ref h17, .ref h18, .int 0, .ref h1, .ref h2])), (h2, .inl (cOShelf, 6, .inr (.inr (.inr (.inr (va_up (va_up (va_up (va_up (va_up (va_up (fun _ => none) (0 : Int32).toNatClampNeg (some h3)) (1 : Int32).toNatClampNeg (some h4)) (2 : Int32).toNatClampNeg (some h5)) (3 : Int32).toNatClampNeg (some h6)) (4 : Int32).toNatClampNeg (some h7)) (5 : Int32).toNatClampNeg (some h8))))))), (h1, .inr (5, [.ref h19, .int 0, .ref h20, .int 0]))] H := hP
      have hD : va_D A [(h3, .inr (8, [.ref h21, .int (-1), .int 0, .int 0])), (h4, .inr (8, [.ref h22, .int (-1), .int 0, .int 0])), (h5, .inr (8, [.ref h23, .int (-1), .int 0, .int 0])), (h6, .inr (8, [.ref h24, .int (-1), .int 0, .int 0])), (h7, .inr (8, [.ref h25, .int (-1), .int 0, .int 0])), (h8, .inr (8, [.ref h26, .int (-1), .int 0, .int 0])), (h0, .inr (11, [.ref h9, .int 0, .ref h10, .ref h11, .ref h12, .ref h13, .ref h14, .ref h15, .ref h16, .ref h17, .ref h18, .int 0, .ref h1, .ref h2])), (h2, .inl (cOShelf, 6, .inr (.inr (.inr (.inr (va_up (va_up (va_up (va_up (va_up (va_up (fun _ => none) (0 : Int32).toNatClampNeg (some h3)) (1 : Int32).toNatClampNeg (some h4)) (2 : Int32).toNatClampNeg (some h5)) (3 : Int32).toNatClampNeg (some h6)) (4 : Int32).toNatClampNeg (some h7)) (5 : Int32).toNatClampNeg (some h8))))))), (h1, .inr (5, [.ref h19, .int 0, .ref h20, .int 0]))] := hD
      obtain rfl := hw
      refine lv_if_ne (tgt := 28) hx hb dX11_keep_23 (by decide) (fun c => absurd c (by decide)) (fun _ => ?_)
      refine lv_iconst (v := (-1)) hx hb dX11_keep_26 (by decide) ?_
      have hP9 := hP.sub (ws' := []) [] rfl
      have hD9 := hD.sub (ws' := []) [] (by decide) rfl
      have hK9 := hK.sub (tys' := []) [] rfl
      exact W.iret (v := (-1)) hx hb hr (fun t ht hW => ⟨⟨(-1), (), rfl, by first | rfl | ((repeat' split) <;> first | rfl | (exfalso; omega) | (exact Int32.toInt_inj.mp (by show ((-1) : Int) = _; omega))), by rw [ht]; exact hP9, va_K.moved hW.alike hK9, hD9⟩, hS.F ht⟩) hS.2.2 dX11_keep_27
  · skip
    refine W.eq (g2 := F0 m 5 ls [.ref h6]) rfl ?_
    refine lv_astore_n (lv' := [(3, .ref h6), (0, .ref h0), (1, .int p0), (2, .int p1)]) hx hb dX11_keep_5 rfl hl (by decide) rfl (fun ls hl => ?_)
    refine lv_aload_n hx hb dX11_keep_6 rfl (lv_at hl 0 rfl) ?_
    refine lv_ifnull hx hb dX11_keep_7 ?_
    refine lv_iload_n hx hb dX11_keep_10 rfl (lv_at hl 3 rfl) ?_
    refine lv_iconst (v := (-1)) hx hb dX11_keep_11 (by decide) ?_
    refine lv_icmp_eq (tgt := 28) hx hb dX11_keep_12 (by decide) (fun c_14 => ?_) (fun c_14 => ?_)
    · have t_14 : p1.toInt = (-1) := kk_eq c_14
      refine lv_iload_n hx hb dX11_keep_28 rfl (lv_at hl 3 rfl) ?_
      refine lv_iconst (v := (-1)) hx hb dX11_keep_29 (by decide) ?_
      refine lv_icmp_ne (tgt := 40) hx hb dX11_keep_30 (by decide) (fun c_15 => ?_) (fun c_15 => ?_)
      · have t_15 : p1.toInt ≠ (-1) := kk_ne c_15
        exfalso; omega
      · have t_15 : p1.toInt = (-1) := kk_eq c_15
        refine lv_aload_n hx hb dX11_keep_33 rfl (lv_at hl 0 rfl) ?_
        have hPc := hP.sub (ws' := [(h6, .inr (8, [.ref h24, .int (-1), .int 0, .int 0]))]) [4] rfl
        have hDc := hD.sub (ws' := [(h6, .inr (8, [.ref h24, .int (-1), .int 0, .int 0]))]) [4] (by decide) rfl
        have hKc := hK.sub (tys' := []) [] rfl
        have hFc := va_free (wc := [(h6, .inr (8, [.ref h24, .int (-1), .int 0, .int 0]))]) hD hS hA [4] rfl
        refine va_callv (va_runV (As := []) (rest := []) ⟨hx, hb, hml, hown, hts⟩ (k_X8_holdNothing_0 l dC dI h6 h24 H.size) (cwV 0 hts gX11_keep_X8_holdNothing rfl rfl rfl (by decide +kernel) ⟨Nat.le_of_ble_eq_true rfl, Nat.le_of_ble_eq_true rfl⟩) ⟨fun a U g mk q => by obtain ⟨q0, q1, qP, qK, qD⟩ := q; exact ⟨q0, q1, qP, va_K.moved (u := U) (U := U.calling g mk a) (Vm.Alike.refl U.vm) qK, qD⟩, va_recv hKc hPc (ci := 8) (q0 := 0) rfl rfl, fun U hU hW => ⟨rfl, by rw [hU], by rw [hU]; exact hPc, va_K.moved hW.alike hKc, hDc.weaken (fun _ _ _ _ => trivial)⟩⟩ rfl rfl hl.1 rfl (lv_room (Nat.le_of_ble_eq_true rfl)) dX11_keep_34 ⟨Nat.le_of_ble_eq_true rfl, Nat.le_of_ble_eq_true rfl⟩) hS (fun q _ h => hFc q h) hFc (fun u t H1 locs ht hvm hw hB hz1 hk1 hS => ?_)
        obtain ⟨hP1, hK1, hD1⟩ := hB
        rw [ht] at hP1
        have hK1 := va_K.moved hvm.symm hK1
        obtain ⟨hP, hD⟩ := va_join (wr := [(h1, .inr (5, [.ref h19, .int 0, .ref h20, .int 0])), (h3, .inr (8, [.ref h21, .int (-1), .int 0, .int 0])), (h4, .inr (8, [.ref h22, .int (-1), .int 0, .int 0])), (h5, .inr (8, [.ref h23, .int (-1), .int 0, .int 0])), (h7, .inr (8, [.ref h25, .int (-1), .int 0, .int 0])), (h8, .inr (8, [.ref h26, .int (-1), .int 0, .int 0])), (h0, .inr (11, [.ref h9, .int 0, .ref h10, .ref h11, .ref h12, .ref h13, .ref h14, .ref h15, .ref h16, .ref h17, .ref h18, .int 0, .ref h1, .ref h2])), (h2, .inl (cOShelf, 6, .inr (.inr (.inr (.inr (va_up (va_up (va_up (va_up (va_up (va_up (fun _ => none) (0 : Int32).toNatClampNeg (some h3)) (1 : Int32).toNatClampNeg (some h4)) (2 : Int32).toNatClampNeg (some h5)) (3 : Int32).toNatClampNeg (some h6)) (4 : Int32).toNatClampNeg (some h7)) (5 : Int32).toNatClampNeg (some h8)))))))]) (w1 := [(h6, .inr (8, [.ref h24, .int (-1), .int 0, .int 0]))]) hP hD [4] [0, 1, 2, 3, 5, 6, 7, 8] rfl rfl (by decide) (by decide) hk1 hFc hP1 hD1
        generalize H1 = H at hP hS ⊢
        have hP : va_P (dC, dI) vwCl [(h1, .inr (5, [.ref h19, .int 0, .ref h20, .int 0])), (h3, .inr (8, [.ref h21, .int (-1), .int 0, .int 0])), (h4, .inr (8, [.ref h22, .int (-1), .int 0, .int 0])), (h5, .inr (8, [.ref h23, .int (-1), .int 0, .int 0])), (h7, .inr (8, [.ref h25, .int (-1), .int 0, .int 0])), (h8, .inr (8, [.ref h26, .int (-1), .int 0, .int 0])), (h0, .inr (11, [.ref h9, .int 0, .ref h10, .ref h11, .ref h12, .ref h13, .ref h14, .ref h15, .ref h16, .ref h17, .ref h18, .int 0, .ref h1, .ref h2])), (h2, .inl (cOShelf, 6, .inr (.inr (.inr (.inr (va_up (va_up (va_up (va_up (va_up (va_up (fun _ => none) (0 : Int32).toNatClampNeg (some h3)) (1 : Int32).toNatClampNeg (some h4)) (2 : Int32).toNatClampNeg (some h5)) (3 : Int32).toNatClampNeg (some h6)) (4 : Int32).toNatClampNeg (some h7)) (5 : Int32).toNatClampNeg (some h8))))))), (h6, .inr (8, [.ref h24, .int (-1), .int 0, .int 0]))] H := hP
        have hD : va_D A [(h1, .inr (5, [.ref h19, .int 0, .ref h20, .int 0])), (h3, .inr (8, [.ref h21, .int (-1), .int 0, .int 0])), (h4, .inr (8, [.ref h22, .int (-1), .int 0, .int 0])), (h5, .inr (8, [.ref h23, .int (-1), .int 0, .int 0])), (h7, .inr (8, [.ref h25, .int (-1), .int 0, .int 0])), (h8, .inr (8, [.ref h26, .int (-1), .int 0, .int 0])), (h0, .inr (11, [.ref h9, .int 0, .ref h10, .ref h11, .ref h12, .ref h13, .ref h14, .ref h15, .ref h16, .ref h17, .ref h18, .int 0, .ref h1, .ref h2])), (h2, .inl (cOShelf, 6, .inr (.inr (.inr (.inr (va_up (va_up (va_up (va_up (va_up (va_up (fun _ => none) (0 : Int32).toNatClampNeg (some h3)) (1 : Int32).toNatClampNeg (some h4)) (2 : Int32).toNatClampNeg (some h5)) (3 : Int32).toNatClampNeg (some h6)) (4 : Int32).toNatClampNeg (some h7)) (5 : Int32).toNatClampNeg (some h8))))))), (h6, .inr (8, [.ref h24, .int (-1), .int 0, .int 0]))] := hD
        refine lv_goto (tgt := 45) hx hb dX11_keep_37 (by decide) ?_
        refine lv_iconst (v := 1) hx hb dX11_keep_45 (by decide) ?_
        have hP9 := hP.sub (ws' := []) [] rfl
        have hD9 := hD.sub (ws' := []) [] (by decide) rfl
        have hK9 := hK.sub (tys' := []) [] rfl
        exact W.iret (v := 1) hx hb hr (fun t ht hW => ⟨⟨1, (), rfl, by first | rfl | ((repeat' split) <;> first | rfl | (exfalso; omega) | (exact Int32.toInt_inj.mp (by show (1 : Int) = _; omega))), by rw [ht]; exact hP9, va_K.moved hW.alike hK9, hD9⟩, hS.F ht⟩) hS.2.2 dX11_keep_46
    · have t_14 : p1.toInt ≠ (-1) := kk_ne c_14
      refine lv_aload_n hx hb dX11_keep_15 rfl (lv_at hl 1 rfl) ?_
      refine va_get (D := (dC, dI)) (ci := 11) (v := .ref h1) (C := RX11) (T := TX11) (N := 14) hx hb hts (fun _ h => List.mem_cons_of_mem _ (List.mem_append_left _ (List.mem_append_left _ (List.mem_append_right _ h)))) hown hK hP 7 rfl rfl 12 (by decide) (hts (.fieldLink RX11 78 "KinkStreet" "lines" "LKinkStreet$Lines;") (List.mem_of_getElem? (i := 1) rfl)) (fun _ h9 => h9) rfl dX11_keep_16 ?_
      refine lv_iload_n hx hb dX11_keep_19 rfl (lv_at hl 3 rfl) ?_
      have hPc := hP.sub (ws' := [(h1, .inr (5, [.ref h19, .int 0, .ref h20, .int 0]))]) [0] rfl
      have hDc := hD.sub (ws' := [(h1, .inr (5, [.ref h19, .int 0, .ref h20, .int 0]))]) [0] (by decide) rfl
      have hKc := hK.sub (tys' := []) [] rfl
      have hFc := va_free (wc := [(h1, .inr (5, [.ref h19, .int 0, .ref h20, .int 0]))]) hD hS hA [0] rfl
      refine va_calli (va_runV (As := [.int p1]) (rest := []) ⟨hx, hb, hml, hown, hts⟩ (k_X5_has_0 l dC dI h1 h19 h20 H.size p1) (cwV 1 hts gX11_keep_X5_has rfl rfl rfl (by decide +kernel) ⟨Nat.le_of_ble_eq_true rfl, Nat.le_of_ble_eq_true rfl⟩) ⟨fun a U g mk q => by obtain ⟨q0, q1, qP, qK, qD⟩ := q; exact ⟨q0, q1, qP, va_K.moved (u := U) (U := U.calling g mk a) (Vm.Alike.refl U.vm) qK, qD⟩, va_recv hKc hPc (ci := 5) (q0 := 0) rfl rfl, fun U hU hW => ⟨rfl, by rw [hU], by rw [hU]; exact hPc, va_K.moved hW.alike hKc, hDc.weaken (fun _ _ _ _ => trivial)⟩⟩ rfl rfl hl.1 rfl (lv_room (Nat.le_of_ble_eq_true rfl)) dX11_keep_20 ⟨Nat.le_of_ble_eq_true rfl, Nat.le_of_ble_eq_true rfl⟩) hS (fun q _ h => hFc q h) hFc (fun r_17 u t H1 locs ht hvm hw hB hz1 hk1 hS => ?_)
      obtain ⟨hP1, hK1, hD1⟩ := hB
      rw [ht] at hP1
      have hK1 := va_K.moved hvm.symm hK1
      obtain ⟨hP, hD⟩ := va_join (wr := [(h3, .inr (8, [.ref h21, .int (-1), .int 0, .int 0])), (h4, .inr (8, [.ref h22, .int (-1), .int 0, .int 0])), (h5, .inr (8, [.ref h23, .int (-1), .int 0, .int 0])), (h6, .inr (8, [.ref h24, .int (-1), .int 0, .int 0])), (h7, .inr (8, [.ref h25, .int (-1), .int 0, .int 0])), (h8, .inr (8, [.ref h26, .int (-1), .int 0, .int 0])), (h0, .inr (11, [.ref h9, .int 0, .ref h10, .ref h11, .ref h12, .ref h13, .ref h14, .ref h15, .ref h16, .ref h17, .ref h18, .int 0, .ref h1, .ref h2])), (h2, .inl (cOShelf, 6, .inr (.inr (.inr (.inr (va_up (va_up (va_up (va_up (va_up (va_up (fun _ => none) (0 : Int32).toNatClampNeg (some h3)) (1 : Int32).toNatClampNeg (some h4)) (2 : Int32).toNatClampNeg (some h5)) (3 : Int32).toNatClampNeg (some h6)) (4 : Int32).toNatClampNeg (some h7)) (5 : Int32).toNatClampNeg (some h8)))))))]) (w1 := [(h1, .inr (5, [.ref h19, .int 0, .ref h20, .int 0]))]) hP hD [0] [1, 2, 3, 4, 5, 6, 7, 8] rfl rfl (by decide) (by decide) hk1 hFc hP1 hD1
      generalize H1 = H at hP hS ⊢
      have hP : va_P (dC, dI) vwCl [(h3, .inr (8, [.ref h21, .int (-1), .int 0, .int 0])), (h4, .inr (8, [.ref h22, .int (-1), .int 0, .int 0])), (h5, .inr (8, [.ref h23, .int (-1), .int 0, .int 0])), (h6, .inr (8, [.ref h24, .int (-1), .int 0, .int 0])), (h7, .inr (8, [.ref h25, .int (-1), .int 0, .int 0])), (h8, .inr (8, [.ref h26, .int (-1), .int 0, .int 0])), (h0, .inr (11, [.ref h9, .int 0, .ref h10, .ref h11, .ref h12, .ref h13, .ref h14, .ref h15, .ref h16, .ref h17, .ref h18, .int 0, .ref h1, .ref h2])), (h2, .inl (cOShelf, 6, .inr (.inr (.inr (.inr (va_up (va_up (va_up (va_up (va_up (va_up (fun _ => none) (0 : Int32).toNatClampNeg (some h3)) (1 : Int32).toNatClampNeg (some h4)) (2 : Int32).toNatClampNeg (some h5)) (3 : Int32).toNatClampNeg (some h6)) (4 : Int32).toNatClampNeg (some h7)) (5 : Int32).toNatClampNeg (some h8))))))), (h1, .inr (5, [.ref h19, .int 0, .ref h20, .int 0]))] H := hP
      have hD : va_D A [(h3, .inr (8, [.ref h21, .int (-1), .int 0, .int 0])), (h4, .inr (8, [.ref h22, .int (-1), .int 0, .int 0])), (h5, .inr (8, [.ref h23, .int (-1), .int 0, .int 0])), (h6, .inr (8, [.ref h24, .int (-1), .int 0, .int 0])), (h7, .inr (8, [.ref h25, .int (-1), .int 0, .int 0])), (h8, .inr (8, [.ref h26, .int (-1), .int 0, .int 0])), (h0, .inr (11, [.ref h9, .int 0, .ref h10, .ref h11, .ref h12, .ref h13, .ref h14, .ref h15, .ref h16, .ref h17, .ref h18, .int 0, .ref h1, .ref h2])), (h2, .inl (cOShelf, 6, .inr (.inr (.inr (.inr (va_up (va_up (va_up (va_up (va_up (va_up (fun _ => none) (0 : Int32).toNatClampNeg (some h3)) (1 : Int32).toNatClampNeg (some h4)) (2 : Int32).toNatClampNeg (some h5)) (3 : Int32).toNatClampNeg (some h6)) (4 : Int32).toNatClampNeg (some h7)) (5 : Int32).toNatClampNeg (some h8))))))), (h1, .inr (5, [.ref h19, .int 0, .ref h20, .int 0]))] := hD
      obtain rfl := hw
      refine lv_if_ne (tgt := 28) hx hb dX11_keep_23 (by decide) (fun c => absurd c (by decide)) (fun _ => ?_)
      refine lv_iconst (v := (-1)) hx hb dX11_keep_26 (by decide) ?_
      have hP9 := hP.sub (ws' := []) [] rfl
      have hD9 := hD.sub (ws' := []) [] (by decide) rfl
      have hK9 := hK.sub (tys' := []) [] rfl
      exact W.iret (v := (-1)) hx hb hr (fun t ht hW => ⟨⟨(-1), (), rfl, by first | rfl | ((repeat' split) <;> first | rfl | (exfalso; omega) | (exact Int32.toInt_inj.mp (by show ((-1) : Int) = _; omega))), by rw [ht]; exact hP9, va_K.moved hW.alike hK9, hD9⟩, hS.F ht⟩) hS.2.2 dX11_keep_27
  · skip
    refine W.eq (g2 := F0 m 5 ls [.ref h7]) rfl ?_
    refine lv_astore_n (lv' := [(3, .ref h7), (0, .ref h0), (1, .int p0), (2, .int p1)]) hx hb dX11_keep_5 rfl hl (by decide) rfl (fun ls hl => ?_)
    refine lv_aload_n hx hb dX11_keep_6 rfl (lv_at hl 0 rfl) ?_
    refine lv_ifnull hx hb dX11_keep_7 ?_
    refine lv_iload_n hx hb dX11_keep_10 rfl (lv_at hl 3 rfl) ?_
    refine lv_iconst (v := (-1)) hx hb dX11_keep_11 (by decide) ?_
    refine lv_icmp_eq (tgt := 28) hx hb dX11_keep_12 (by decide) (fun c_18 => ?_) (fun c_18 => ?_)
    · have t_18 : p1.toInt = (-1) := kk_eq c_18
      refine lv_iload_n hx hb dX11_keep_28 rfl (lv_at hl 3 rfl) ?_
      refine lv_iconst (v := (-1)) hx hb dX11_keep_29 (by decide) ?_
      refine lv_icmp_ne (tgt := 40) hx hb dX11_keep_30 (by decide) (fun c_19 => ?_) (fun c_19 => ?_)
      · have t_19 : p1.toInt ≠ (-1) := kk_ne c_19
        exfalso; omega
      · have t_19 : p1.toInt = (-1) := kk_eq c_19
        refine lv_aload_n hx hb dX11_keep_33 rfl (lv_at hl 0 rfl) ?_
        have hPc := hP.sub (ws' := [(h7, .inr (8, [.ref h25, .int (-1), .int 0, .int 0]))]) [5] rfl
        have hDc := hD.sub (ws' := [(h7, .inr (8, [.ref h25, .int (-1), .int 0, .int 0]))]) [5] (by decide) rfl
        have hKc := hK.sub (tys' := []) [] rfl
        have hFc := va_free (wc := [(h7, .inr (8, [.ref h25, .int (-1), .int 0, .int 0]))]) hD hS hA [5] rfl
        refine va_callv (va_runV (As := []) (rest := []) ⟨hx, hb, hml, hown, hts⟩ (k_X8_holdNothing_0 l dC dI h7 h25 H.size) (cwV 0 hts gX11_keep_X8_holdNothing rfl rfl rfl (by decide +kernel) ⟨Nat.le_of_ble_eq_true rfl, Nat.le_of_ble_eq_true rfl⟩) ⟨fun a U g mk q => by obtain ⟨q0, q1, qP, qK, qD⟩ := q; exact ⟨q0, q1, qP, va_K.moved (u := U) (U := U.calling g mk a) (Vm.Alike.refl U.vm) qK, qD⟩, va_recv hKc hPc (ci := 8) (q0 := 0) rfl rfl, fun U hU hW => ⟨rfl, by rw [hU], by rw [hU]; exact hPc, va_K.moved hW.alike hKc, hDc.weaken (fun _ _ _ _ => trivial)⟩⟩ rfl rfl hl.1 rfl (lv_room (Nat.le_of_ble_eq_true rfl)) dX11_keep_34 ⟨Nat.le_of_ble_eq_true rfl, Nat.le_of_ble_eq_true rfl⟩) hS (fun q _ h => hFc q h) hFc (fun u t H1 locs ht hvm hw hB hz1 hk1 hS => ?_)
        obtain ⟨hP1, hK1, hD1⟩ := hB
        rw [ht] at hP1
        have hK1 := va_K.moved hvm.symm hK1
        obtain ⟨hP, hD⟩ := va_join (wr := [(h1, .inr (5, [.ref h19, .int 0, .ref h20, .int 0])), (h3, .inr (8, [.ref h21, .int (-1), .int 0, .int 0])), (h4, .inr (8, [.ref h22, .int (-1), .int 0, .int 0])), (h5, .inr (8, [.ref h23, .int (-1), .int 0, .int 0])), (h6, .inr (8, [.ref h24, .int (-1), .int 0, .int 0])), (h8, .inr (8, [.ref h26, .int (-1), .int 0, .int 0])), (h0, .inr (11, [.ref h9, .int 0, .ref h10, .ref h11, .ref h12, .ref h13, .ref h14, .ref h15, .ref h16, .ref h17, .ref h18, .int 0, .ref h1, .ref h2])), (h2, .inl (cOShelf, 6, .inr (.inr (.inr (.inr (va_up (va_up (va_up (va_up (va_up (va_up (fun _ => none) (0 : Int32).toNatClampNeg (some h3)) (1 : Int32).toNatClampNeg (some h4)) (2 : Int32).toNatClampNeg (some h5)) (3 : Int32).toNatClampNeg (some h6)) (4 : Int32).toNatClampNeg (some h7)) (5 : Int32).toNatClampNeg (some h8)))))))]) (w1 := [(h7, .inr (8, [.ref h25, .int (-1), .int 0, .int 0]))]) hP hD [5] [0, 1, 2, 3, 4, 6, 7, 8] rfl rfl (by decide) (by decide) hk1 hFc hP1 hD1
        generalize H1 = H at hP hS ⊢
        have hP : va_P (dC, dI) vwCl [(h1, .inr (5, [.ref h19, .int 0, .ref h20, .int 0])), (h3, .inr (8, [.ref h21, .int (-1), .int 0, .int 0])), (h4, .inr (8, [.ref h22, .int (-1), .int 0, .int 0])), (h5, .inr (8, [.ref h23, .int (-1), .int 0, .int 0])), (h6, .inr (8, [.ref h24, .int (-1), .int 0, .int 0])), (h8, .inr (8, [.ref h26, .int (-1), .int 0, .int 0])), (h0, .inr (11, [.ref h9, .int 0, .ref h10, .ref h11, .ref h12, .ref h13, .ref h14, .ref h15, .ref h16, .ref h17, .ref h18, .int 0, .ref h1, .ref h2])), (h2, .inl (cOShelf, 6, .inr (.inr (.inr (.inr (va_up (va_up (va_up (va_up (va_up (va_up (fun _ => none) (0 : Int32).toNatClampNeg (some h3)) (1 : Int32).toNatClampNeg (some h4)) (2 : Int32).toNatClampNeg (some h5)) (3 : Int32).toNatClampNeg (some h6)) (4 : Int32).toNatClampNeg (some h7)) (5 : Int32).toNatClampNeg (some h8))))))), (h7, .inr (8, [.ref h25, .int (-1), .int 0, .int 0]))] H := hP
        have hD : va_D A [(h1, .inr (5, [.ref h19, .int 0, .ref h20, .int 0])), (h3, .inr (8, [.ref h21, .int (-1), .int 0, .int 0])), (h4, .inr (8, [.ref h22, .int (-1), .int 0, .int 0])), (h5, .inr (8, [.ref h23, .int (-1), .int 0, .int 0])), (h6, .inr (8, [.ref h24, .int (-1), .int 0, .int 0])), (h8, .inr (8, [.ref h26, .int (-1), .int 0, .int 0])), (h0, .inr (11, [.ref h9, .int 0, .ref h10, .ref h11, .ref h12, .ref h13, .ref h14, .ref h15, .ref h16, .ref h17, .ref h18, .int 0, .ref h1, .ref h2])), (h2, .inl (cOShelf, 6, .inr (.inr (.inr (.inr (va_up (va_up (va_up (va_up (va_up (va_up (fun _ => none) (0 : Int32).toNatClampNeg (some h3)) (1 : Int32).toNatClampNeg (some h4)) (2 : Int32).toNatClampNeg (some h5)) (3 : Int32).toNatClampNeg (some h6)) (4 : Int32).toNatClampNeg (some h7)) (5 : Int32).toNatClampNeg (some h8))))))), (h7, .inr (8, [.ref h25, .int (-1), .int 0, .int 0]))] := hD
        refine lv_goto (tgt := 45) hx hb dX11_keep_37 (by decide) ?_
        refine lv_iconst (v := 1) hx hb dX11_keep_45 (by decide) ?_
        have hP9 := hP.sub (ws' := []) [] rfl
        have hD9 := hD.sub (ws' := []) [] (by decide) rfl
        have hK9 := hK.sub (tys' := []) [] rfl
        exact W.iret (v := 1) hx hb hr (fun t ht hW => ⟨⟨1, (), rfl, by first | rfl | ((repeat' split) <;> first | rfl | (exfalso; omega) | (exact Int32.toInt_inj.mp (by show (1 : Int) = _; omega))), by rw [ht]; exact hP9, va_K.moved hW.alike hK9, hD9⟩, hS.F ht⟩) hS.2.2 dX11_keep_46
    · have t_18 : p1.toInt ≠ (-1) := kk_ne c_18
      refine lv_aload_n hx hb dX11_keep_15 rfl (lv_at hl 1 rfl) ?_
      refine va_get (D := (dC, dI)) (ci := 11) (v := .ref h1) (C := RX11) (T := TX11) (N := 14) hx hb hts (fun _ h => List.mem_cons_of_mem _ (List.mem_append_left _ (List.mem_append_left _ (List.mem_append_right _ h)))) hown hK hP 7 rfl rfl 12 (by decide) (hts (.fieldLink RX11 78 "KinkStreet" "lines" "LKinkStreet$Lines;") (List.mem_of_getElem? (i := 1) rfl)) (fun _ h9 => h9) rfl dX11_keep_16 ?_
      refine lv_iload_n hx hb dX11_keep_19 rfl (lv_at hl 3 rfl) ?_
      have hPc := hP.sub (ws' := [(h1, .inr (5, [.ref h19, .int 0, .ref h20, .int 0]))]) [0] rfl
      have hDc := hD.sub (ws' := [(h1, .inr (5, [.ref h19, .int 0, .ref h20, .int 0]))]) [0] (by decide) rfl
      have hKc := hK.sub (tys' := []) [] rfl
      have hFc := va_free (wc := [(h1, .inr (5, [.ref h19, .int 0, .ref h20, .int 0]))]) hD hS hA [0] rfl
      refine va_calli (va_runV (As := [.int p1]) (rest := []) ⟨hx, hb, hml, hown, hts⟩ (k_X5_has_0 l dC dI h1 h19 h20 H.size p1) (cwV 1 hts gX11_keep_X5_has rfl rfl rfl (by decide +kernel) ⟨Nat.le_of_ble_eq_true rfl, Nat.le_of_ble_eq_true rfl⟩) ⟨fun a U g mk q => by obtain ⟨q0, q1, qP, qK, qD⟩ := q; exact ⟨q0, q1, qP, va_K.moved (u := U) (U := U.calling g mk a) (Vm.Alike.refl U.vm) qK, qD⟩, va_recv hKc hPc (ci := 5) (q0 := 0) rfl rfl, fun U hU hW => ⟨rfl, by rw [hU], by rw [hU]; exact hPc, va_K.moved hW.alike hKc, hDc.weaken (fun _ _ _ _ => trivial)⟩⟩ rfl rfl hl.1 rfl (lv_room (Nat.le_of_ble_eq_true rfl)) dX11_keep_20 ⟨Nat.le_of_ble_eq_true rfl, Nat.le_of_ble_eq_true rfl⟩) hS (fun q _ h => hFc q h) hFc (fun r_21 u t H1 locs ht hvm hw hB hz1 hk1 hS => ?_)
      obtain ⟨hP1, hK1, hD1⟩ := hB
      rw [ht] at hP1
      have hK1 := va_K.moved hvm.symm hK1
      obtain ⟨hP, hD⟩ := va_join (wr := [(h3, .inr (8, [.ref h21, .int (-1), .int 0, .int 0])), (h4, .inr (8, [.ref h22, .int (-1), .int 0, .int 0])), (h5, .inr (8, [.ref h23, .int (-1), .int 0, .int 0])), (h6, .inr (8, [.ref h24, .int (-1), .int 0, .int 0])), (h7, .inr (8, [.ref h25, .int (-1), .int 0, .int 0])), (h8, .inr (8, [.ref h26, .int (-1), .int 0, .int 0])), (h0, .inr (11, [.ref h9, .int 0, .ref h10, .ref h11, .ref h12, .ref h13, .ref h14, .ref h15, .ref h16, .ref h17, .ref h18, .int 0, .ref h1, .ref h2])), (h2, .inl (cOShelf, 6, .inr (.inr (.inr (.inr (va_up (va_up (va_up (va_up (va_up (va_up (fun _ => none) (0 : Int32).toNatClampNeg (some h3)) (1 : Int32).toNatClampNeg (some h4)) (2 : Int32).toNatClampNeg (some h5)) (3 : Int32).toNatClampNeg (some h6)) (4 : Int32).toNatClampNeg (some h7)) (5 : Int32).toNatClampNeg (some h8)))))))]) (w1 := [(h1, .inr (5, [.ref h19, .int 0, .ref h20, .int 0]))]) hP hD [0] [1, 2, 3, 4, 5, 6, 7, 8] rfl rfl (by decide) (by decide) hk1 hFc hP1 hD1
      generalize H1 = H at hP hS ⊢
      have hP : va_P (dC, dI) vwCl [(h3, .inr (8, [.ref h21, .int (-1), .int 0, .int 0])), (h4, .inr (8, [.ref h22, .int (-1), .int 0, .int 0])), (h5, .inr (8, [.ref h23, .int (-1), .int 0, .int 0])), (h6, .inr (8, [.ref h24, .int (-1), .int 0, .int 0])), (h7, .inr (8, [.ref h25, .int (-1), .int 0, .int 0])), (h8, .inr (8, [.ref h26, .int (-1), .int 0, .int 0])), (h0, .inr (11, [.ref h9, .int 0, .ref h10, .ref h11, .ref h12, .ref h13, .ref h14, .ref h15, .ref h16, .ref h17, .ref h18, .int 0, .ref h1, .ref h2])), (h2, .inl (cOShelf, 6, .inr (.inr (.inr (.inr (va_up (va_up (va_up (va_up (va_up (va_up (fun _ => none) (0 : Int32).toNatClampNeg (some h3)) (1 : Int32).toNatClampNeg (some h4)) (2 : Int32).toNatClampNeg (some h5)) (3 : Int32).toNatClampNeg (some h6)) (4 : Int32).toNatClampNeg (some h7)) (5 : Int32).toNatClampNeg (some h8))))))), (h1, .inr (5, [.ref h19, .int 0, .ref h20, .int 0]))] H := hP
      have hD : va_D A [(h3, .inr (8, [.ref h21, .int (-1), .int 0, .int 0])), (h4, .inr (8, [.ref h22, .int (-1), .int 0, .int 0])), (h5, .inr (8, [.ref h23, .int (-1), .int 0, .int 0])), (h6, .inr (8, [.ref h24, .int (-1), .int 0, .int 0])), (h7, .inr (8, [.ref h25, .int (-1), .int 0, .int 0])), (h8, .inr (8, [.ref h26, .int (-1), .int 0, .int 0])), (h0, .inr (11, [.ref h9, .int 0, .ref h10, .ref h11, .ref h12, .ref h13, .ref h14, .ref h15, .ref h16, .ref h17, .ref h18, .int 0, .ref h1, .ref h2])), (h2, .inl (cOShelf, 6, .inr (.inr (.inr (.inr (va_up (va_up (va_up (va_up (va_up (va_up (fun _ => none) (0 : Int32).toNatClampNeg (some h3)) (1 : Int32).toNatClampNeg (some h4)) (2 : Int32).toNatClampNeg (some h5)) (3 : Int32).toNatClampNeg (some h6)) (4 : Int32).toNatClampNeg (some h7)) (5 : Int32).toNatClampNeg (some h8))))))), (h1, .inr (5, [.ref h19, .int 0, .ref h20, .int 0]))] := hD
      obtain rfl := hw
      refine lv_if_ne (tgt := 28) hx hb dX11_keep_23 (by decide) (fun c => absurd c (by decide)) (fun _ => ?_)
      refine lv_iconst (v := (-1)) hx hb dX11_keep_26 (by decide) ?_
      have hP9 := hP.sub (ws' := []) [] rfl
      have hD9 := hD.sub (ws' := []) [] (by decide) rfl
      have hK9 := hK.sub (tys' := []) [] rfl
      exact W.iret (v := (-1)) hx hb hr (fun t ht hW => ⟨⟨(-1), (), rfl, by first | rfl | ((repeat' split) <;> first | rfl | (exfalso; omega) | (exact Int32.toInt_inj.mp (by show ((-1) : Int) = _; omega))), by rw [ht]; exact hP9, va_K.moved hW.alike hK9, hD9⟩, hS.F ht⟩) hS.2.2 dX11_keep_27
  · skip
    refine W.eq (g2 := F0 m 5 ls [.ref h8]) rfl ?_
    refine lv_astore_n (lv' := [(3, .ref h8), (0, .ref h0), (1, .int p0), (2, .int p1)]) hx hb dX11_keep_5 rfl hl (by decide) rfl (fun ls hl => ?_)
    refine lv_aload_n hx hb dX11_keep_6 rfl (lv_at hl 0 rfl) ?_
    refine lv_ifnull hx hb dX11_keep_7 ?_
    refine lv_iload_n hx hb dX11_keep_10 rfl (lv_at hl 3 rfl) ?_
    refine lv_iconst (v := (-1)) hx hb dX11_keep_11 (by decide) ?_
    refine lv_icmp_eq (tgt := 28) hx hb dX11_keep_12 (by decide) (fun c_22 => ?_) (fun c_22 => ?_)
    · have t_22 : p1.toInt = (-1) := kk_eq c_22
      refine lv_iload_n hx hb dX11_keep_28 rfl (lv_at hl 3 rfl) ?_
      refine lv_iconst (v := (-1)) hx hb dX11_keep_29 (by decide) ?_
      refine lv_icmp_ne (tgt := 40) hx hb dX11_keep_30 (by decide) (fun c_23 => ?_) (fun c_23 => ?_)
      · have t_23 : p1.toInt ≠ (-1) := kk_ne c_23
        exfalso; omega
      · have t_23 : p1.toInt = (-1) := kk_eq c_23
        refine lv_aload_n hx hb dX11_keep_33 rfl (lv_at hl 0 rfl) ?_
        have hPc := hP.sub (ws' := [(h8, .inr (8, [.ref h26, .int (-1), .int 0, .int 0]))]) [6] rfl
        have hDc := hD.sub (ws' := [(h8, .inr (8, [.ref h26, .int (-1), .int 0, .int 0]))]) [6] (by decide) rfl
        have hKc := hK.sub (tys' := []) [] rfl
        have hFc := va_free (wc := [(h8, .inr (8, [.ref h26, .int (-1), .int 0, .int 0]))]) hD hS hA [6] rfl
        refine va_callv (va_runV (As := []) (rest := []) ⟨hx, hb, hml, hown, hts⟩ (k_X8_holdNothing_0 l dC dI h8 h26 H.size) (cwV 0 hts gX11_keep_X8_holdNothing rfl rfl rfl (by decide +kernel) ⟨Nat.le_of_ble_eq_true rfl, Nat.le_of_ble_eq_true rfl⟩) ⟨fun a U g mk q => by obtain ⟨q0, q1, qP, qK, qD⟩ := q; exact ⟨q0, q1, qP, va_K.moved (u := U) (U := U.calling g mk a) (Vm.Alike.refl U.vm) qK, qD⟩, va_recv hKc hPc (ci := 8) (q0 := 0) rfl rfl, fun U hU hW => ⟨rfl, by rw [hU], by rw [hU]; exact hPc, va_K.moved hW.alike hKc, hDc.weaken (fun _ _ _ _ => trivial)⟩⟩ rfl rfl hl.1 rfl (lv_room (Nat.le_of_ble_eq_true rfl)) dX11_keep_34 ⟨Nat.le_of_ble_eq_true rfl, Nat.le_of_ble_eq_true rfl⟩) hS (fun q _ h => hFc q h) hFc (fun u t H1 locs ht hvm hw hB hz1 hk1 hS => ?_)
        obtain ⟨hP1, hK1, hD1⟩ := hB
        rw [ht] at hP1
        have hK1 := va_K.moved hvm.symm hK1
        obtain ⟨hP, hD⟩ := va_join (wr := [(h1, .inr (5, [.ref h19, .int 0, .ref h20, .int 0])), (h3, .inr (8, [.ref h21, .int (-1), .int 0, .int 0])), (h4, .inr (8, [.ref h22, .int (-1), .int 0, .int 0])), (h5, .inr (8, [.ref h23, .int (-1), .int 0, .int 0])), (h6, .inr (8, [.ref h24, .int (-1), .int 0, .int 0])), (h7, .inr (8, [.ref h25, .int (-1), .int 0, .int 0])), (h0, .inr (11, [.ref h9, .int 0, .ref h10, .ref h11, .ref h12, .ref h13, .ref h14, .ref h15, .ref h16, .ref h17, .ref h18, .int 0, .ref h1, .ref h2])), (h2, .inl (cOShelf, 6, .inr (.inr (.inr (.inr (va_up (va_up (va_up (va_up (va_up (va_up (fun _ => none) (0 : Int32).toNatClampNeg (some h3)) (1 : Int32).toNatClampNeg (some h4)) (2 : Int32).toNatClampNeg (some h5)) (3 : Int32).toNatClampNeg (some h6)) (4 : Int32).toNatClampNeg (some h7)) (5 : Int32).toNatClampNeg (some h8)))))))]) (w1 := [(h8, .inr (8, [.ref h26, .int (-1), .int 0, .int 0]))]) hP hD [6] [0, 1, 2, 3, 4, 5, 7, 8] rfl rfl (by decide) (by decide) hk1 hFc hP1 hD1
        generalize H1 = H at hP hS ⊢
        have hP : va_P (dC, dI) vwCl [(h1, .inr (5, [.ref h19, .int 0, .ref h20, .int 0])), (h3, .inr (8, [.ref h21, .int (-1), .int 0, .int 0])), (h4, .inr (8, [.ref h22, .int (-1), .int 0, .int 0])), (h5, .inr (8, [.ref h23, .int (-1), .int 0, .int 0])), (h6, .inr (8, [.ref h24, .int (-1), .int 0, .int 0])), (h7, .inr (8, [.ref h25, .int (-1), .int 0, .int 0])), (h0, .inr (11, [.ref h9, .int 0, .ref h10, .ref h11, .ref h12, .ref h13, .ref h14, .ref h15, .ref h16, .ref h17, .ref h18, .int 0, .ref h1, .ref h2])), (h2, .inl (cOShelf, 6, .inr (.inr (.inr (.inr (va_up (va_up (va_up (va_up (va_up (va_up (fun _ => none) (0 : Int32).toNatClampNeg (some h3)) (1 : Int32).toNatClampNeg (some h4)) (2 : Int32).toNatClampNeg (some h5)) (3 : Int32).toNatClampNeg (some h6)) (4 : Int32).toNatClampNeg (some h7)) (5 : Int32).toNatClampNeg (some h8))))))), (h8, .inr (8, [.ref h26, .int (-1), .int 0, .int 0]))] H := hP
        have hD : va_D A [(h1, .inr (5, [.ref h19, .int 0, .ref h20, .int 0])), (h3, .inr (8, [.ref h21, .int (-1), .int 0, .int 0])), (h4, .inr (8, [.ref h22, .int (-1), .int 0, .int 0])), (h5, .inr (8, [.ref h23, .int (-1), .int 0, .int 0])), (h6, .inr (8, [.ref h24, .int (-1), .int 0, .int 0])), (h7, .inr (8, [.ref h25, .int (-1), .int 0, .int 0])), (h0, .inr (11, [.ref h9, .int 0, .ref h10, .ref h11, .ref h12, .ref h13, .ref h14, .ref h15, .ref h16, .ref h17, .ref h18, .int 0, .ref h1, .ref h2])), (h2, .inl (cOShelf, 6, .inr (.inr (.inr (.inr (va_up (va_up (va_up (va_up (va_up (va_up (fun _ => none) (0 : Int32).toNatClampNeg (some h3)) (1 : Int32).toNatClampNeg (some h4)) (2 : Int32).toNatClampNeg (some h5)) (3 : Int32).toNatClampNeg (some h6)) (4 : Int32).toNatClampNeg (some h7)) (5 : Int32).toNatClampNeg (some h8))))))), (h8, .inr (8, [.ref h26, .int (-1), .int 0, .int 0]))] := hD
        refine lv_goto (tgt := 45) hx hb dX11_keep_37 (by decide) ?_
        refine lv_iconst (v := 1) hx hb dX11_keep_45 (by decide) ?_
        have hP9 := hP.sub (ws' := []) [] rfl
        have hD9 := hD.sub (ws' := []) [] (by decide) rfl
        have hK9 := hK.sub (tys' := []) [] rfl
        exact W.iret (v := 1) hx hb hr (fun t ht hW => ⟨⟨1, (), rfl, by first | rfl | ((repeat' split) <;> first | rfl | (exfalso; omega) | (exact Int32.toInt_inj.mp (by show (1 : Int) = _; omega))), by rw [ht]; exact hP9, va_K.moved hW.alike hK9, hD9⟩, hS.F ht⟩) hS.2.2 dX11_keep_46
    · have t_22 : p1.toInt ≠ (-1) := kk_ne c_22
      refine lv_aload_n hx hb dX11_keep_15 rfl (lv_at hl 1 rfl) ?_
      refine va_get (D := (dC, dI)) (ci := 11) (v := .ref h1) (C := RX11) (T := TX11) (N := 14) hx hb hts (fun _ h => List.mem_cons_of_mem _ (List.mem_append_left _ (List.mem_append_left _ (List.mem_append_right _ h)))) hown hK hP 7 rfl rfl 12 (by decide) (hts (.fieldLink RX11 78 "KinkStreet" "lines" "LKinkStreet$Lines;") (List.mem_of_getElem? (i := 1) rfl)) (fun _ h9 => h9) rfl dX11_keep_16 ?_
      refine lv_iload_n hx hb dX11_keep_19 rfl (lv_at hl 3 rfl) ?_
      have hPc := hP.sub (ws' := [(h1, .inr (5, [.ref h19, .int 0, .ref h20, .int 0]))]) [0] rfl
      have hDc := hD.sub (ws' := [(h1, .inr (5, [.ref h19, .int 0, .ref h20, .int 0]))]) [0] (by decide) rfl
      have hKc := hK.sub (tys' := []) [] rfl
      have hFc := va_free (wc := [(h1, .inr (5, [.ref h19, .int 0, .ref h20, .int 0]))]) hD hS hA [0] rfl
      refine va_calli (va_runV (As := [.int p1]) (rest := []) ⟨hx, hb, hml, hown, hts⟩ (k_X5_has_0 l dC dI h1 h19 h20 H.size p1) (cwV 1 hts gX11_keep_X5_has rfl rfl rfl (by decide +kernel) ⟨Nat.le_of_ble_eq_true rfl, Nat.le_of_ble_eq_true rfl⟩) ⟨fun a U g mk q => by obtain ⟨q0, q1, qP, qK, qD⟩ := q; exact ⟨q0, q1, qP, va_K.moved (u := U) (U := U.calling g mk a) (Vm.Alike.refl U.vm) qK, qD⟩, va_recv hKc hPc (ci := 5) (q0 := 0) rfl rfl, fun U hU hW => ⟨rfl, by rw [hU], by rw [hU]; exact hPc, va_K.moved hW.alike hKc, hDc.weaken (fun _ _ _ _ => trivial)⟩⟩ rfl rfl hl.1 rfl (lv_room (Nat.le_of_ble_eq_true rfl)) dX11_keep_20 ⟨Nat.le_of_ble_eq_true rfl, Nat.le_of_ble_eq_true rfl⟩) hS (fun q _ h => hFc q h) hFc (fun r_25 u t H1 locs ht hvm hw hB hz1 hk1 hS => ?_)
      obtain ⟨hP1, hK1, hD1⟩ := hB
      rw [ht] at hP1
      have hK1 := va_K.moved hvm.symm hK1
      obtain ⟨hP, hD⟩ := va_join (wr := [(h3, .inr (8, [.ref h21, .int (-1), .int 0, .int 0])), (h4, .inr (8, [.ref h22, .int (-1), .int 0, .int 0])), (h5, .inr (8, [.ref h23, .int (-1), .int 0, .int 0])), (h6, .inr (8, [.ref h24, .int (-1), .int 0, .int 0])), (h7, .inr (8, [.ref h25, .int (-1), .int 0, .int 0])), (h8, .inr (8, [.ref h26, .int (-1), .int 0, .int 0])), (h0, .inr (11, [.ref h9, .int 0, .ref h10, .ref h11, .ref h12, .ref h13, .ref h14, .ref h15, .ref h16, .ref h17, .ref h18, .int 0, .ref h1, .ref h2])), (h2, .inl (cOShelf, 6, .inr (.inr (.inr (.inr (va_up (va_up (va_up (va_up (va_up (va_up (fun _ => none) (0 : Int32).toNatClampNeg (some h3)) (1 : Int32).toNatClampNeg (some h4)) (2 : Int32).toNatClampNeg (some h5)) (3 : Int32).toNatClampNeg (some h6)) (4 : Int32).toNatClampNeg (some h7)) (5 : Int32).toNatClampNeg (some h8)))))))]) (w1 := [(h1, .inr (5, [.ref h19, .int 0, .ref h20, .int 0]))]) hP hD [0] [1, 2, 3, 4, 5, 6, 7, 8] rfl rfl (by decide) (by decide) hk1 hFc hP1 hD1
      generalize H1 = H at hP hS ⊢
      have hP : va_P (dC, dI) vwCl [(h3, .inr (8, [.ref h21, .int (-1), .int 0, .int 0])), (h4, .inr (8, [.ref h22, .int (-1), .int 0, .int 0])), (h5, .inr (8, [.ref h23, .int (-1), .int 0, .int 0])), (h6, .inr (8, [.ref h24, .int (-1), .int 0, .int 0])), (h7, .inr (8, [.ref h25, .int (-1), .int 0, .int 0])), (h8, .inr (8, [.ref h26, .int (-1), .int 0, .int 0])), (h0, .inr (11, [.ref h9, .int 0, .ref h10, .ref h11, .ref h12, .ref h13, .ref h14, .ref h15, .ref h16, .ref h17, .ref h18, .int 0, .ref h1, .ref h2])), (h2, .inl (cOShelf, 6, .inr (.inr (.inr (.inr (va_up (va_up (va_up (va_up (va_up (va_up (fun _ => none) (0 : Int32).toNatClampNeg (some h3)) (1 : Int32).toNatClampNeg (some h4)) (2 : Int32).toNatClampNeg (some h5)) (3 : Int32).toNatClampNeg (some h6)) (4 : Int32).toNatClampNeg (some h7)) (5 : Int32).toNatClampNeg (some h8))))))), (h1, .inr (5, [.ref h19, .int 0, .ref h20, .int 0]))] H := hP
      have hD : va_D A [(h3, .inr (8, [.ref h21, .int (-1), .int 0, .int 0])), (h4, .inr (8, [.ref h22, .int (-1), .int 0, .int 0])), (h5, .inr (8, [.ref h23, .int (-1), .int 0, .int 0])), (h6, .inr (8, [.ref h24, .int (-1), .int 0, .int 0])), (h7, .inr (8, [.ref h25, .int (-1), .int 0, .int 0])), (h8, .inr (8, [.ref h26, .int (-1), .int 0, .int 0])), (h0, .inr (11, [.ref h9, .int 0, .ref h10, .ref h11, .ref h12, .ref h13, .ref h14, .ref h15, .ref h16, .ref h17, .ref h18, .int 0, .ref h1, .ref h2])), (h2, .inl (cOShelf, 6, .inr (.inr (.inr (.inr (va_up (va_up (va_up (va_up (va_up (va_up (fun _ => none) (0 : Int32).toNatClampNeg (some h3)) (1 : Int32).toNatClampNeg (some h4)) (2 : Int32).toNatClampNeg (some h5)) (3 : Int32).toNatClampNeg (some h6)) (4 : Int32).toNatClampNeg (some h7)) (5 : Int32).toNatClampNeg (some h8))))))), (h1, .inr (5, [.ref h19, .int 0, .ref h20, .int 0]))] := hD
      obtain rfl := hw
      refine lv_if_ne (tgt := 28) hx hb dX11_keep_23 (by decide) (fun c => absurd c (by decide)) (fun _ => ?_)
      refine lv_iconst (v := (-1)) hx hb dX11_keep_26 (by decide) ?_
      have hP9 := hP.sub (ws' := []) [] rfl
      have hD9 := hD.sub (ws' := []) [] (by decide) rfl
      have hK9 := hK.sub (tys' := []) [] rfl
      exact W.iret (v := (-1)) hx hb hr (fun t ht hW => ⟨⟨(-1), (), rfl, by first | rfl | ((repeat' split) <;> first | rfl | (exfalso; omega) | (exact Int32.toInt_inj.mp (by show ((-1) : Int) = _; omega))), by rw [ht]; exact hP9, va_K.moved hW.alike hK9, hD9⟩, hS.F ht⟩) hS.2.2 dX11_keep_27
