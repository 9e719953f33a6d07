set_option maxHeartbeats 4000000 in
set_option maxRecDepth 100000 in
theorem k_X12_body_0 (l : Launch) (dC : Nat → ClassId) (dI : Nat → Nat → Nat) (h0 h1 h2 h3 h4 h5 h6 h7 h8 h9 h10 h11 h12 h13 h14 h15 h16 h17 h18 h19 h20 h21 h22 h23 h24 h25 h26 h27 h28 h29 : Nat) (cint : ClassId) (sz : Nat) (p0 : Int32) : Met l yX12_body wsX12_body ({ frames := 1, cells := 0, slots := 0, locals := 25 }) (va_Pc [.ref h0, .int p0] (fun U => U.heap.size = sz ∧ va_P (dC, dI) vwCl [(h0, .inr (12, [.int 0, .ref h2, .ref h3, .ref h4, .ref h5, .ref h6, .int 0, .int 0, .ref h7, .int 0, .int 0, .ref h8, .ref h9, .ref h10, .ref h11, .ref h12, .ref h13, .ref h14, .int 0, .int 0, .ref h15, .ref h16, .ref h17, .ref h18, .int 0, .ref h19, .ref h20, .int 0, .ref h21, .int 0, .int 0, .ref h22, .ref h23, .int 0, .int 0, .int 0, .int 0, .int 0, .ref h24, .int 0, .ref h1, .ref h25, .int 0, .int 0, .int 0, .ref h26, .ref h27, .ref h28, .ref h29])), (h1, .inl (cint, 50, .inl (fun _ => 0)))] U.heap ∧ va_K (dC, dI) vwCl [(cint, .int)] U ∧ va_D (fun _ => True) [(h0, .inr (12, [.int 0, .ref h2, .ref h3, .ref h4, .ref h5, .ref h6, .int 0, .int 0, .ref h7, .int 0, .int 0, .ref h8, .ref h9, .ref h10, .ref h11, .ref h12, .ref h13, .ref h14, .int 0, .int 0, .ref h15, .ref h16, .ref h17, .ref h18, .int 0, .ref h19, .ref h20, .int 0, .ref h21, .int 0, .int 0, .ref h22, .ref h23, .int 0, .int 0, .int 0, .int 0, .int 0, .ref h24, .int 0, .ref h1, .ref h25, .int 0, .int 0, .int 0, .ref h26, .ref h27, .ref h28, .ref h29])), (h1, .inl (cint, 50, .inl (fun _ => 0)))])) (va_Qi (fun (r : Int32) (_ : Unit) => r = if 0 ≤ p0.toInt ∧ p0.toInt < 8 then (0 : Int32) else -1) (fun (_ : Unit) t => va_P (dC, dI) vwCl [] t.heap ∧ va_K (dC, dI) vwCl [] t ∧ va_D (va_A [(h0, .inr (12, [.int 0, .ref h2, .ref h3, .ref h4, .ref h5, .ref h6, .int 0, .int 0, .ref h7, .int 0, .int 0, .ref h8, .ref h9, .ref h10, .ref h11, .ref h12, .ref h13, .ref h14, .int 0, .int 0, .ref h15, .ref h16, .ref h17, .ref h18, .int 0, .ref h19, .ref h20, .int 0, .ref h21, .int 0, .int 0, .ref h22, .ref h23, .int 0, .int 0, .int 0, .int 0, .int 0, .ref h24, .int 0, .ref h1, .ref h25, .int 0, .int 0, .int 0, .ref h26, .ref h27, .ref h28, .ref h29])), (h1, .inl (cint, 50, .inl (fun _ => 0)))] sz) []) (va_A [(h0, .inr (12, [.int 0, .ref h2, .ref h3, .ref h4, .ref h5, .ref h6, .int 0, .int 0, .ref h7, .int 0, .int 0, .ref h8, .ref h9, .ref h10, .ref h11, .ref h12, .ref h13, .ref h14, .int 0, .int 0, .ref h15, .ref h16, .ref h17, .ref h18, .int 0, .ref h19, .ref h20, .int 0, .ref h21, .int 0, .int 0, .ref h22, .ref h23, .int 0, .int 0, .int 0, .int 0, .int 0, .ref h24, .int 0, .ref h1, .ref h25, .int 0, .int 0, .int 0, .ref h26, .ref h27, .ref h28, .ref h29])), (h1, .inl (cint, 50, .inl (fun _ => 0)))] sz)) 0 0 (va_A [(h0, .inr (12, [.int 0, .ref h2, .ref h3, .ref h4, .ref h5, .ref h6, .int 0, .int 0, .ref h7, .int 0, .int 0, .ref h8, .ref h9, .ref h10, .ref h11, .ref h12, .ref h13, .ref h14, .int 0, .int 0, .ref h15, .ref h16, .ref h17, .ref h18, .int 0, .ref h19, .ref h20, .int 0, .ref h21, .int 0, .int 0, .ref h22, .ref h23, .int 0, .int 0, .int 0, .int 0, .int 0, .ref h24, .int 0, .ref h1, .ref h25, .int 0, .int 0, .int 0, .ref h26, .ref h27, .ref h28, .ref h29])), (h1, .inl (cint, 50, .inl (fun _ => 0)))] sz) := by
  refine Met.ofW (cc := cX12_body) (maxL := 2) (ret := (some .int)) (by decide) rfl ?_
  intro p e s m args below meth c s₁ B hml hv
  obtain ⟨rfl, hsz, hP, hK, hD0⟩ := hv
  have hx := B.exec
  have hb := B.bytes
  have hr := B.returns
  have hts := atoms_spec (ws := wsX12_body) B.pre
  have hown : s.vm.findClass RX12 = some m.cls := findClass_of_methodNamed B.named
  have hlocks := B.notSynchronized
  subst hsz
  have hD := hD0.self (sz := s.heap.size)
  generalize hAe : va_A [(h0, .inr (12, [.int 0, .ref h2, .ref h3, .ref h4, .ref h5, .ref h6, .int 0, .int 0, .ref h7, .int 0, .int 0, .ref h8, .ref h9, .ref h10, .ref h11, .ref h12, .ref h13, .ref h14, .int 0, .int 0, .ref h15, .ref h16, .ref h17, .ref h18, .int 0, .ref h19, .ref h20, .int 0, .ref h21, .int 0, .int 0, .ref h22, .ref h23, .int 0, .int 0, .int 0, .int 0, .int 0, .ref h24, .int 0, .ref h1, .ref h25, .int 0, .int 0, .int 0, .ref h26, .ref h27, .ref h28, .ref h29])), (h1, .inl (cint, 50, .inl (fun _ => 0)))] s.heap.size = A at hD ⊢
  have hA : ∀ q : Nat, s.heap.size ≤ q → A q := fun q h => by rw [← hAe]; exact Or.inr h
  have hS : va_S A s.heap s.heap [] := va_S.rf
  have hP : va_P (dC, dI) vwCl [(h0, .inr (12, [.int 0, .ref h2, .ref h3, .ref h4, .ref h5, .ref h6, .int 0, .int 0, .ref h7, .int 0, .int 0, .ref h8, .ref h9, .ref h10, .ref h11, .ref h12, .ref h13, .ref h14, .int 0, .int 0, .ref h15, .ref h16, .ref h17, .ref h18, .int 0, .ref h19, .ref h20, .int 0, .ref h21, .int 0, .int 0, .ref h22, .ref h23, .int 0, .int 0, .int 0, .int 0, .int 0, .ref h24, .int 0, .ref h1, .ref h25, .int 0, .int 0, .int 0, .ref h26, .ref h27, .ref h28, .ref h29])), (h1, .inl (cint, 50, .inl (fun _ => 0)))] s.heap := hP
  have hl := lv_entry ([.ref h0, .int p0]) (n := 2) (Nat.le_of_ble_eq_true rfl)
  rw [lg_entry_eq]
  generalize (lg_sl ([.ref h0, .int p0]) ++ List.replicate (2 - (lg_sl ([.ref h0, .int p0])).length) Slot.unset).toArray = ls at hl ⊢
  have hl : lv_has ls 2 [(0, .ref h0), (1, .int p0)] := hl
  refine lv_iload_n hx hb dX12_body_0 rfl (lv_at hl 1 rfl) ?_
  refine lv_i2l (v := (p0).toInt64) hx hb dX12_body_1 (by first | rfl | decide) ?_
  refine lv_lconst (v := 0) hx hb dX12_body_2 (by decide) ?_
  refine lv_ldc2 hx hb hown (hts _ (List.mem_of_getElem? (i := 1) rfl)) dX12_body_3 ?_
  have hPc := hP.sub (ws' := []) [] rfl
  have hDc := hD.sub (ws' := []) [] (by decide) rfl
  have hKc := hK.sub (tys' := []) [] rfl
  have hFc := va_free (wc := []) hD hS hA [] rfl
  refine va_calli (va_runS (As := [.long (p0).toInt64, .long 0, .long 7]) (rest := []) ⟨hx, hb, hml, hown, hts⟩ (k_X12_within_1 l dC dI s.heap.size (p0).toInt64 (p0.toInt) (kk_64 _)) (va_cwS 3 hts gX12_body_X12_within rfl rfl rfl (by decide +kernel) ⟨Nat.le_of_ble_eq_true rfl, Nat.le_of_ble_eq_true rfl⟩) ⟨fun a U g mk q => by obtain ⟨q0, q1, qP, qK, qD⟩ := q; exact ⟨q0, q1, qP, va_K.moved (u := U) (U := U.calling g mk a) (Vm.Alike.refl U.vm) qK, qD⟩, fun U hU hW => ⟨rfl, by rw [hU], by rw [hU]; exact hPc, va_K.moved hW.alike hKc, hDc.weaken (fun _ _ _ _ => trivial)⟩⟩ rfl rfl hl.1 rfl (lv_room (Nat.le_of_ble_eq_true rfl)) dX12_body_6 ⟨Nat.le_of_ble_eq_true rfl, Nat.le_of_ble_eq_true rfl⟩) hS (fun q _ h => hFc q h) hFc (fun r_1 u t H1 locs ht hvm hw hB hz1 hk1 hS => ?_)
  obtain ⟨hP1, hK1, hD1⟩ := hB
  rw [ht] at hP1
  have hK1 := va_K.moved hvm.symm hK1
  obtain ⟨hP, hD⟩ := va_join (wr := [(h0, .inr (12, [.int 0, .ref h2, .ref h3, .ref h4, .ref h5, .ref h6, .int 0, .int 0, .ref h7, .int 0, .int 0, .ref h8, .ref h9, .ref h10, .ref h11, .ref h12, .ref h13, .ref h14, .int 0, .int 0, .ref h15, .ref h16, .ref h17, .ref h18, .int 0, .ref h19, .ref h20, .int 0, .ref h21, .int 0, .int 0, .ref h22, .ref h23, .int 0, .int 0, .int 0, .int 0, .int 0, .ref h24, .int 0, .ref h1, .ref h25, .int 0, .int 0, .int 0, .ref h26, .ref h27, .ref h28, .ref h29])), (h1, .inl (cint, 50, .inl (fun _ => 0)))]) (w1 := []) hP hD [] [0, 1] rfl rfl (by decide) (by decide) hk1 hFc hP1 hD1
  generalize H1 = H at hP hS ⊢
  have hP : va_P (dC, dI) vwCl [(h0, .inr (12, [.int 0, .ref h2, .ref h3, .ref h4, .ref h5, .ref h6, .int 0, .int 0, .ref h7, .int 0, .int 0, .ref h8, .ref h9, .ref h10, .ref h11, .ref h12, .ref h13, .ref h14, .int 0, .int 0, .ref h15, .ref h16, .ref h17, .ref h18, .int 0, .ref h19, .ref h20, .int 0, .ref h21, .int 0, .int 0, .ref h22, .ref h23, .int 0, .int 0, .int 0, .int 0, .int 0, .ref h24, .int 0, .ref h1, .ref h25, .int 0, .int 0, .int 0, .ref h26, .ref h27, .ref h28, .ref h29])), (h1, .inl (cint, 50, .inl (fun _ => 0)))] H := hP
  have hD : va_D A [(h0, .inr (12, [.int 0, .ref h2, .ref h3, .ref h4, .ref h5, .ref h6, .int 0, .int 0, .ref h7, .int 0, .int 0, .ref h8, .ref h9, .ref h10, .ref h11, .ref h12, .ref h13, .ref h14, .int 0, .int 0, .ref h15, .ref h16, .ref h17, .ref h18, .int 0, .ref h19, .ref h20, .int 0, .ref h21, .int 0, .int 0, .ref h22, .ref h23, .int 0, .int 0, .int 0, .int 0, .int 0, .ref h24, .int 0, .ref h1, .ref h25, .int 0, .int 0, .int 0, .ref h26, .ref h27, .ref h28, .ref h29])), (h1, .inl (cint, 50, .inl (fun _ => 0)))] := hD
  rcases hw with ⟨t_1_0, rfl⟩ | ⟨t_1_0, t_1_1, rfl⟩ | ⟨t_1_0, t_1_1, rfl⟩
  · skip
    refine lv_if_ne (tgt := 14) hx hb dX12_body_9 (by decide) (fun c => absurd c (by decide)) (fun _ => ?_)
    refine lv_iconst (v := (-1)) hx hb dX12_body_12 (by decide) ?_
    have hP9 := hP.sub (ws' := []) [] rfl
    have hD9 := hD.sub (ws' := []) [] (by decide) rfl
    have hK9 := hK.sub (tys' := []) [] rfl
    exact W.iret (v := (-1)) hx hb hr (fun t ht hW => ⟨⟨(-1), (), rfl, by first | rfl | ((repeat' split) <;> first | rfl | (exfalso; omega) | (exact Int32.toInt_inj.mp (by show ((-1) : Int) = _; omega))), by rw [ht]; exact hP9, va_K.moved hW.alike hK9, hD9⟩, hS.F ht⟩) hS.2.2 dX12_body_13
  · skip
    refine lv_if_ne (tgt := 14) hx hb dX12_body_9 (by decide) (fun c => absurd c (by decide)) (fun _ => ?_)
    refine lv_iconst (v := (-1)) hx hb dX12_body_12 (by decide) ?_
    have hP9 := hP.sub (ws' := []) [] rfl
    have hD9 := hD.sub (ws' := []) [] (by decide) rfl
    have hK9 := hK.sub (tys' := []) [] rfl
    exact W.iret (v := (-1)) hx hb hr (fun t ht hW => ⟨⟨(-1), (), rfl, by first | rfl | ((repeat' split) <;> first | rfl | (exfalso; omega) | (exact Int32.toInt_inj.mp (by show ((-1) : Int) = _; omega))), by rw [ht]; exact hP9, va_K.moved hW.alike hK9, hD9⟩, hS.F ht⟩) hS.2.2 dX12_body_13
  · skip
    refine lv_if_ne (tgt := 14) hx hb dX12_body_9 (by decide) (fun _ => ?_) (fun c => absurd c (by decide))
    refine lv_aload_n hx hb dX12_body_14 rfl (lv_at hl 0 rfl) ?_
    refine va_get (D := (dC, dI)) (ci := 12) (v := .int 0) (C := RX12) (T := TX12) (N := 49) hx hb hts (fun _ h => List.mem_cons_of_mem _ (List.mem_append_right _ h)) hown hK hP 0 rfl rfl 39 (by decide) (hts (.fieldLink RX12 337 "KinkStreetModel" "bodies" "I") (List.mem_of_getElem? (i := 2) rfl)) (fun _ h9 => h9) rfl dX12_body_15 ?_
    refine lv_bipush (v := 50) hx hb dX12_body_18 (by decide) ?_
    refine lv_icmp_ne (tgt := 26) hx hb dX12_body_20 (by decide) (fun _ => ?_) (fun c => absurd c (by decide))
    refine lv_aload_n hx hb dX12_body_26 rfl (lv_at hl 0 rfl) ?_
    refine va_get (D := (dC, dI)) (ci := 12) (v := .ref h1) (C := RX12) (T := TX12) (N := 49) hx hb hts (fun _ h => List.mem_cons_of_mem _ (List.mem_append_right _ h)) hown hK hP 0 rfl rfl 40 (by decide) (hts (.fieldLink RX12 80 "KinkStreetModel" "bodyKind" "[I") (List.mem_of_getElem? (i := 3) rfl)) (fun _ h9 => h9) rfl dX12_body_27 ?_
    refine lv_aload_n hx hb dX12_body_30 rfl (lv_at hl 0 rfl) ?_
    refine va_get (D := (dC, dI)) (ci := 12) (v := .int 0) (C := RX12) (T := TX12) (N := 49) hx hb hts (fun _ h => List.mem_cons_of_mem _ (List.mem_append_right _ h)) hown hK hP 0 rfl rfl 39 (by decide) (hts (.fieldLink RX12 337 "KinkStreetModel" "bodies" "I") (List.mem_of_getElem? (i := 2) rfl)) (fun _ h9 => h9) rfl dX12_body_31 ?_
    refine lv_iload_n hx hb dX12_body_34 rfl (lv_at hl 1 rfl) ?_
    refine va_iast hx hb hK hP hD hS 1 0 rfl rfl (by unfold vp_in; decide) dX12_body_35 (fun H locs hP hD hS => ?_)
    have hP : va_P (dC, dI) vwCl [(h0, .inr (12, [.int 0, .ref h2, .ref h3, .ref h4, .ref h5, .ref h6, .int 0, .int 0, .ref h7, .int 0, .int 0, .ref h8, .ref h9, .ref h10, .ref h11, .ref h12, .ref h13, .ref h14, .int 0, .int 0, .ref h15, .ref h16, .ref h17, .ref h18, .int 0, .ref h19, .ref h20, .int 0, .ref h21, .int 0, .int 0, .ref h22, .ref h23, .int 0, .int 0, .int 0, .int 0, .int 0, .ref h24, .int 0, .ref h1, .ref h25, .int 0, .int 0, .int 0, .ref h26, .ref h27, .ref h28, .ref h29])), (h1, .inl (cint, 50, .inl (upd (fun _ => 0) (0 : Int32).toNatClampNeg p0)))] H := hP
    have hD : va_D A [(h0, .inr (12, [.int 0, .ref h2, .ref h3, .ref h4, .ref h5, .ref h6, .int 0, .int 0, .ref h7, .int 0, .int 0, .ref h8, .ref h9, .ref h10, .ref h11, .ref h12, .ref h13, .ref h14, .int 0, .int 0, .ref h15, .ref h16, .ref h17, .ref h18, .int 0, .ref h19, .ref h20, .int 0, .ref h21, .int 0, .int 0, .ref h22, .ref h23, .int 0, .int 0, .int 0, .int 0, .int 0, .ref h24, .int 0, .ref h1, .ref h25, .int 0, .int 0, .int 0, .ref h26, .ref h27, .ref h28, .ref h29])), (h1, .inl (cint, 50, .inl (upd (fun _ => 0) (0 : Int32).toNatClampNeg p0)))] := hD
    refine lv_aload_n hx hb dX12_body_36 rfl (lv_at hl 0 rfl) ?_
    refine lv_dup hx hb dX12_body_37 rfl ?_
    refine va_get (D := (dC, dI)) (ci := 12) (v := .int 0) (C := RX12) (T := TX12) (N := 49) hx hb hts (fun _ h => List.mem_cons_of_mem _ (List.mem_append_right _ h)) hown hK hP 0 rfl rfl 39 (by decide) (hts (.fieldLink RX12 337 "KinkStreetModel" "bodies" "I") (List.mem_of_getElem? (i := 2) rfl)) (fun _ h9 => h9) rfl dX12_body_38 ?_
    refine lv_iconst (v := 1) hx hb dX12_body_41 (by decide) ?_
    refine lv_iadd hx hb dX12_body_42 ?_
    refine lv_topi (fun y_2 e_2 => ?_)
    obtain rfl : y_2 = 1 := e_2.trans (by decide)
    refine va_put (D := (dC, dI)) (ci := 12) (v := .int 1) (ty := .int) (C := RX12) (T := TX12) (N := 49) hx hb hts (fun _ h => List.mem_cons_of_mem _ (List.mem_append_right _ h)) tyX12 tyX12_ok nmX12 hown hK hP hD hS 0 rfl rfl 39 (by decide) (hts (.fieldLink RX12 337 "KinkStreetModel" "bodies" "I") (List.mem_of_getElem? (i := 2) rfl)) (fun _ h9 => h9) rfl (by decide +kernel) rfl rfl (Nat.le_of_ble_eq_true rfl) dX12_body_43 (fun H locs hP hD hS => ?_)
    have hP : va_P (dC, dI) vwCl [(h0, .inr (12, [.int 0, .ref h2, .ref h3, .ref h4, .ref h5, .ref h6, .int 0, .int 0, .ref h7, .int 0, .int 0, .ref h8, .ref h9, .ref h10, .ref h11, .ref h12, .ref h13, .ref h14, .int 0, .int 0, .ref h15, .ref h16, .ref h17, .ref h18, .int 0, .ref h19, .ref h20, .int 0, .ref h21, .int 0, .int 0, .ref h22, .ref h23, .int 0, .int 0, .int 0, .int 0, .int 0, .ref h24, .int 1, .ref h1, .ref h25, .int 0, .int 0, .int 0, .ref h26, .ref h27, .ref h28, .ref h29])), (h1, .inl (cint, 50, .inl (upd (fun _ => 0) (0 : Int32).toNatClampNeg p0)))] H := hP
    have hD : va_D A [(h0, .inr (12, [.int 0, .ref h2, .ref h3, .ref h4, .ref h5, .ref h6, .int 0, .int 0, .ref h7, .int 0, .int 0, .ref h8, .ref h9, .ref h10, .ref h11, .ref h12, .ref h13, .ref h14, .int 0, .int 0, .ref h15, .ref h16, .ref h17, .ref h18, .int 0, .ref h19, .ref h20, .int 0, .ref h21, .int 0, .int 0, .ref h22, .ref h23, .int 0, .int 0, .int 0, .int 0, .int 0, .ref h24, .int 1, .ref h1, .ref h25, .int 0, .int 0, .int 0, .ref h26, .ref h27, .ref h28, .ref h29])), (h1, .inl (cint, 50, .inl (upd (fun _ => 0) (0 : Int32).toNatClampNeg p0)))] := hD
    refine lv_aload_n hx hb dX12_body_46 rfl (lv_at hl 0 rfl) ?_
    refine va_get (D := (dC, dI)) (ci := 12) (v := .int 1) (C := RX12) (T := TX12) (N := 49) hx hb hts (fun _ h => List.mem_cons_of_mem _ (List.mem_append_right _ h)) hown hK hP 0 rfl rfl 39 (by decide) (hts (.fieldLink RX12 337 "KinkStreetModel" "bodies" "I") (List.mem_of_getElem? (i := 2) rfl)) (fun _ h9 => h9) rfl dX12_body_47 ?_
    refine lv_iconst (v := 1) hx hb dX12_body_50 (by decide) ?_
    refine lv_isub hx hb dX12_body_51 ?_
    refine lv_topi (fun y_3 e_3 => ?_)
    obtain rfl : y_3 = 0 := e_3.trans (by decide)
    have hP9 := hP.sub (ws' := []) [] rfl
    have hD9 := hD.sub (ws' := []) [] (by decide) rfl
    have hK9 := hK.sub (tys' := []) [] rfl
    exact W.iret (v := 0) hx hb hr (fun t ht hW => ⟨⟨0, (), rfl, by first | rfl | ((repeat' split) <;> first | rfl | (exfalso; omega) | (exact Int32.toInt_inj.mp (by show (0 : Int) = _; omega))), by rw [ht]; exact hP9, va_K.moved hW.alike hK9, hD9⟩, hS.F ht⟩) hS.2.2 dX12_body_52
set_option maxHeartbeats 4000000 in
set_option maxRecDepth 100000 in
theorem k_X12_isBody_0 (l : Launch) (dC : Nat → ClassId) (dI : Nat → Nat → Nat) (h0 h1 h2 h3 h4 h5 h6 h7 h8 h9 h10 h11 h12 h13 h14 h15 h16 h17 h18 h19 h20 h21 h22 h23 h24 h25 h26 h27 h28 h29 : Nat) (sz : Nat) (p0 : Int32) : Met l yX12_isBody wsX12_isBody ({ frames := 1, cells := 0, slots := 0, locals := 25 }) (va_Pc [.ref h0, .int p0] (fun U => U.heap.size = sz ∧ va_P (dC, dI) vwCl [(h0, .inr (12, [.int 0, .ref h1, .ref h2, .ref h3, .ref h4, .ref h5, .int 0, .int 0, .ref h6, .int 0, .int 0, .ref h7, .ref h8, .ref h9, .ref h10, .ref h11, .ref h12, .ref h13, .int 0, .int 0, .ref h14, .ref h15, .ref h16, .ref h17, .int 0, .ref h18, .ref h19, .int 0, .ref h20, .int 0, .int 0, .ref h21, .ref h22, .int 0, .int 0, .int 0, .int 0, .int 0, .ref h23, .int 0, .ref h24, .ref h25, .int 0, .int 0, .int 0, .ref h26, .ref h27, .ref h28, .ref h29]))] U.heap ∧ va_K (dC, dI) vwCl [] U ∧ va_D (fun _ => True) [(h0, .inr (12, [.int 0, .ref h1, .ref h2, .ref h3, .ref h4, .ref h5, .int 0, .int 0, .ref h6, .int 0, .int 0, .ref h7, .ref h8, .ref h9, .ref h10, .ref h11, .ref h12, .ref h13, .int 0, .int 0, .ref h14, .ref h15, .ref h16, .ref h17, .int 0, .ref h18, .ref h19, .int 0, .ref h20, .int 0, .int 0, .ref h21, .ref h22, .int 0, .int 0, .int 0, .int 0, .int 0, .ref h23, .int 0, .ref h24, .ref h25, .int 0, .int 0, .int 0, .ref h26, .ref h27, .ref h28, .ref h29]))])) (va_Qi (fun (r : Int32) (_ : Unit) => r = 0) (fun (_ : Unit) t => va_P (dC, dI) vwCl [(h0, .inr (12, [.int 0, .ref h1, .ref h2, .ref h3, .ref h4, .ref h5, .int 0, .int 0, .ref h6, .int 0, .int 0, .ref h7, .ref h8, .ref h9, .ref h10, .ref h11, .ref h12, .ref h13, .int 0, .int 0, .ref h14, .ref h15, .ref h16, .ref h17, .int 0, .ref h18, .ref h19, .int 0, .ref h20, .int 0, .int 0, .ref h21, .ref h22, .int 0, .int 0, .int 0, .int 0, .int 0, .ref h23, .int 0, .ref h24, .ref h25, .int 0, .int 0, .int 0, .ref h26, .ref h27, .ref h28, .ref h29]))] t.heap ∧ va_K (dC, dI) vwCl [] t ∧ va_D (va_A [(h0, .inr (12, [.int 0, .ref h1, .ref h2, .ref h3, .ref h4, .ref h5, .int 0, .int 0, .ref h6, .int 0, .int 0, .ref h7, .ref h8, .ref h9, .ref h10, .ref h11, .ref h12, .ref h13, .int 0, .int 0, .ref h14, .ref h15, .ref h16, .ref h17, .int 0, .ref h18, .ref h19, .int 0, .ref h20, .int 0, .int 0, .ref h21, .ref h22, .int 0, .int 0, .int 0, .int 0, .int 0, .ref h23, .int 0, .ref h24, .ref h25, .int 0, .int 0, .int 0, .ref h26, .ref h27, .ref h28, .ref h29]))] sz) [(h0, .inr (12, [.int 0, .ref h1, .ref h2, .ref h3, .ref h4, .ref h5, .int 0, .int 0, .ref h6, .int 0, .int 0, .ref h7, .ref h8, .ref h9, .ref h10, .ref h11, .ref h12, .ref h13, .int 0, .int 0, .ref h14, .ref h15, .ref h16, .ref h17, .int 0, .ref h18, .ref h19, .int 0, .ref h20, .int 0, .int 0, .ref h21, .ref h22, .int 0, .int 0, .int 0, .int 0, .int 0, .ref h23, .int 0, .ref h24, .ref h25, .int 0, .int 0, .int 0, .ref h26, .ref h27, .ref h28, .ref h29]))]) (va_A [(h0, .inr (12, [.int 0, .ref h1, .ref h2, .ref h3, .ref h4, .ref h5, .int 0, .int 0, .ref h6, .int 0, .int 0, .ref h7, .ref h8, .ref h9, .ref h10, .ref h11, .ref h12, .ref h13, .int 0, .int 0, .ref h14, .ref h15, .ref h16, .ref h17, .int 0, .ref h18, .ref h19, .int 0, .ref h20, .int 0, .int 0, .ref h21, .ref h22, .int 0, .int 0, .int 0, .int 0, .int 0, .ref h23, .int 0, .ref h24, .ref h25, .int 0, .int 0, .int 0, .ref h26, .ref h27, .ref h28, .ref h29]))] sz)) 0 0 (va_A [(h0, .inr (12, [.int 0, .ref h1, .ref h2, .ref h3, .ref h4, .ref h5, .int 0, .int 0, .ref h6, .int 0, .int 0, .ref h7, .ref h8, .ref h9, .ref h10, .ref h11, .ref h12, .ref h13, .int 0, .int 0, .ref h14, .ref h15, .ref h16, .ref h17, .int 0, .ref h18, .ref h19, .int 0, .ref h20, .int 0, .int 0, .ref h21, .ref h22, .int 0, .int 0, .int 0, .int 0, .int 0, .ref h23, .int 0, .ref h24, .ref h25, .int 0, .int 0, .int 0, .ref h26, .ref h27, .ref h28, .ref h29]))] sz) := by
  refine Met.ofW (cc := cX12_isBody) (maxL := 2) (ret := (some .boolean)) (by decide) rfl ?_
  intro p e s m args below meth c s₁ B hml hv
  obtain ⟨rfl, hsz, hP, hK, hD0⟩ := hv
  have hx := B.exec
  have hb := B.bytes
  have hr := B.returns
  have hts := atoms_spec (ws := wsX12_isBody) B.pre
  have hown : s.vm.findClass RX12 = some m.cls := findClass_of_methodNamed B.named
  have hlocks := B.notSynchronized
  subst hsz
  have hD := hD0.self (sz := s.heap.size)
  generalize hAe : va_A [(h0, .inr (12, [.int 0, .ref h1, .ref h2, .ref h3, .ref h4, .ref h5, .int 0, .int 0, .ref h6, .int 0, .int 0, .ref h7, .ref h8, .ref h9, .ref h10, .ref h11, .ref h12, .ref h13, .int 0, .int 0, .ref h14, .ref h15, .ref h16, .ref h17, .int 0, .ref h18, .ref h19, .int 0, .ref h20, .int 0, .int 0, .ref h21, .ref h22, .int 0, .int 0, .int 0, .int 0, .int 0, .ref h23, .int 0, .ref h24, .ref h25, .int 0, .int 0, .int 0, .ref h26, .ref h27, .ref h28, .ref h29]))] s.heap.size = A at hD ⊢
  have hA : ∀ q : Nat, s.heap.size ≤ q → A q := fun q h => by rw [← hAe]; exact Or.inr h
  have hS : va_S A s.heap s.heap [] := va_S.rf
  have hP : va_P (dC, dI) vwCl [(h0, .inr (12, [.int 0, .ref h1, .ref h2, .ref h3, .ref h4, .ref h5, .int 0, .int 0, .ref h6, .int 0, .int 0, .ref h7, .ref h8, .ref h9, .ref h10, .ref h11, .ref h12, .ref h13, .int 0, .int 0, .ref h14, .ref h15, .ref h16, .ref h17, .int 0, .ref h18, .ref h19, .int 0, .ref h20, .int 0, .int 0, .ref h21, .ref h22, .int 0, .int 0, .int 0, .int 0, .int 0, .ref h23, .int 0, .ref h24, .ref h25, .int 0, .int 0, .int 0, .ref h26, .ref h27, .ref h28, .ref h29]))] s.heap := hP
  have hl := lv_entry ([.ref h0, .int p0]) (n := 2) (Nat.le_of_ble_eq_true rfl)
  rw [lg_entry_eq]
  generalize (lg_sl ([.ref h0, .int p0]) ++ List.replicate (2 - (lg_sl ([.ref h0, .int p0])).length) Slot.unset).toArray = ls at hl ⊢
  have hl : lv_has ls 2 [(0, .ref h0), (1, .int p0)] := hl
  refine lv_iload_n hx hb dX12_isBody_0 rfl (lv_at hl 1 rfl) ?_
  refine lv_i2l (v := (p0).toInt64) hx hb dX12_isBody_1 (by first | rfl | decide) ?_
  refine lv_lconst (v := 0) hx hb dX12_isBody_2 (by decide) ?_
  refine lv_aload_n hx hb dX12_isBody_3 rfl (lv_at hl 0 rfl) ?_
  refine va_get (D := (dC, dI)) (ci := 12) (v := .int 0) (C := RX12) (T := TX12) (N := 49) hx hb hts (fun _ h => List.mem_cons_of_mem _ (List.mem_append_right _ h)) hown hK hP 0 rfl rfl 39 (by decide) (hts (.fieldLink RX12 337 "KinkStreetModel" "bodies" "I") (List.mem_of_getElem? (i := 1) rfl)) (fun _ h9 => h9) rfl dX12_isBody_4 ?_
  refine lv_iconst (v := 1) hx hb dX12_isBody_7 (by decide) ?_
  refine lv_isub hx hb dX12_isBody_8 ?_
  refine lv_topi (fun y_1 e_1 => ?_)
  obtain rfl : y_1 = (-1) := e_1.trans (by decide)
  refine lv_i2l (v := (-1)) hx hb dX12_isBody_9 (by first | rfl | decide) ?_
  have hPc := hP.sub (ws' := []) [] rfl
  have hDc := hD.sub (ws' := []) [] (by decide) rfl
  have hKc := hK.sub (tys' := []) [] rfl
  have hFc := va_free (wc := []) hD hS hA [] rfl
  refine va_calli (va_runS (As := [.long (p0).toInt64, .long 0, .long (-1)]) (rest := []) ⟨hx, hb, hml, hown, hts⟩ (k_X12_within_0 l dC dI s.heap.size (p0).toInt64 (p0.toInt) (kk_64 _)) (va_cwS 3 hts gX12_isBody_X12_within rfl rfl rfl (by decide +kernel) ⟨Nat.le_of_ble_eq_true rfl, Nat.le_of_ble_eq_true rfl⟩) ⟨fun a U g mk q => by obtain ⟨q0, q1, qP, qK, qD⟩ := q; exact ⟨q0, q1, qP, va_K.moved (u := U) (U := U.calling g mk a) (Vm.Alike.refl U.vm) qK, qD⟩, fun U hU hW => ⟨rfl, by rw [hU], by rw [hU]; exact hPc, va_K.moved hW.alike hKc, hDc.weaken (fun _ _ _ _ => trivial)⟩⟩ rfl rfl hl.1 rfl (lv_room (Nat.le_of_ble_eq_true rfl)) dX12_isBody_10 ⟨Nat.le_of_ble_eq_true rfl, Nat.le_of_ble_eq_true rfl⟩) hS (fun q _ h => hFc q h) hFc (fun r_2 u t H1 locs ht hvm hw hB hz1 hk1 hS => ?_)
  obtain ⟨hP1, hK1, hD1⟩ := hB
  rw [ht] at hP1
  have hK1 := va_K.moved hvm.symm hK1
  obtain ⟨hP, hD⟩ := va_join (wr := [(h0, .inr (12, [.int 0, .ref h1, .ref h2, .ref h3, .ref h4, .ref h5, .int 0, .int 0, .ref h6, .int 0, .int 0, .ref h7, .ref h8, .ref h9, .ref h10, .ref h11, .ref h12, .ref h13, .int 0, .int 0, .ref h14, .ref h15, .ref h16, .ref h17, .int 0, .ref h18, .ref h19, .int 0, .ref h20, .int 0, .int 0, .ref h21, .ref h22, .int 0, .int 0, .int 0, .int 0, .int 0, .ref h23, .int 0, .ref h24, .ref h25, .int 0, .int 0, .int 0, .ref h26, .ref h27, .ref h28, .ref h29]))]) (w1 := []) hP hD [] [0] rfl rfl (by decide) (by decide) hk1 hFc hP1 hD1
  generalize H1 = H at hP hS ⊢
  have hP : va_P (dC, dI) vwCl [(h0, .inr (12, [.int 0, .ref h1, .ref h2, .ref h3, .ref h4, .ref h5, .int 0, .int 0, .ref h6, .int 0, .int 0, .ref h7, .ref h8, .ref h9, .ref h10, .ref h11, .ref h12, .ref h13, .int 0, .int 0, .ref h14, .ref h15, .ref h16, .ref h17, .int 0, .ref h18, .ref h19, .int 0, .ref h20, .int 0, .int 0, .ref h21, .ref h22, .int 0, .int 0, .int 0, .int 0, .int 0, .ref h23, .int 0, .ref h24, .ref h25, .int 0, .int 0, .int 0, .ref h26, .ref h27, .ref h28, .ref h29]))] H := hP
  have hD : va_D A [(h0, .inr (12, [.int 0, .ref h1, .ref h2, .ref h3, .ref h4, .ref h5, .int 0, .int 0, .ref h6, .int 0, .int 0, .ref h7, .ref h8, .ref h9, .ref h10, .ref h11, .ref h12, .ref h13, .int 0, .int 0, .ref h14, .ref h15, .ref h16, .ref h17, .int 0, .ref h18, .ref h19, .int 0, .ref h20, .int 0, .int 0, .ref h21, .ref h22, .int 0, .int 0, .int 0, .int 0, .int 0, .ref h23, .int 0, .ref h24, .ref h25, .int 0, .int 0, .int 0, .ref h26, .ref h27, .ref h28, .ref h29]))] := hD
  rcases hw with ⟨t_2_0, rfl⟩ | ⟨t_2_0, t_2_1, rfl⟩ | ⟨t_2_0, t_2_1, rfl⟩
  · skip
    have hP9 := hP.sub (ws' := [(h0, .inr (12, [.int 0, .ref h1, .ref h2, .ref h3, .ref h4, .ref h5, .int 0, .int 0, .ref h6, .int 0, .int 0, .ref h7, .ref h8, .ref h9, .ref h10, .ref h11, .ref h12, .ref h13, .int 0, .int 0, .ref h14, .ref h15, .ref h16, .ref h17, .int 0, .ref h18, .ref h19, .int 0, .ref h20, .int 0, .int 0, .ref h21, .ref h22, .int 0, .int 0, .int 0, .int 0, .int 0, .ref h23, .int 0, .ref h24, .ref h25, .int 0, .int 0, .int 0, .ref h26, .ref h27, .ref h28, .ref h29]))]) [0] rfl
    have hD9 := hD.sub (ws' := [(h0, .inr (12, [.int 0, .ref h1, .ref h2, .ref h3, .ref h4, .ref h5, .int 0, .int 0, .ref h6, .int 0, .int 0, .ref h7, .ref h8, .ref h9, .ref h10, .ref h11, .ref h12, .ref h13, .int 0, .int 0, .ref h14, .ref h15, .ref h16, .ref h17, .int 0, .ref h18, .ref h19, .int 0, .ref h20, .int 0, .int 0, .ref h21, .ref h22, .int 0, .int 0, .int 0, .int 0, .int 0, .ref h23, .int 0, .ref h24, .ref h25, .int 0, .int 0, .int 0, .ref h26, .ref h27, .ref h28, .ref h29]))]) [0] (by decide) rfl
    have hK9 := hK.sub (tys' := []) [] rfl
    exact W.zret (v := 0) hx hb hr rfl (fun t ht hW => ⟨⟨0, (), rfl, rfl, by rw [ht]; exact hP9, va_K.moved hW.alike hK9, hD9⟩, hS.F ht⟩) hS.2.2 dX12_isBody_13
  · skip
    have hP9 := hP.sub (ws' := [(h0, .inr (12, [.int 0, .ref h1, .ref h2, .ref h3, .ref h4, .ref h5, .int 0, .int 0, .ref h6, .int 0, .int 0, .ref h7, .ref h8, .ref h9, .ref h10, .ref h11, .ref h12, .ref h13, .int 0, .int 0, .ref h14, .ref h15, .ref h16, .ref h17, .int 0, .ref h18, .ref h19, .int 0, .ref h20, .int 0, .int 0, .ref h21, .ref h22, .int 0, .int 0, .int 0, .int 0, .int 0, .ref h23, .int 0, .ref h24, .ref h25, .int 0, .int 0, .int 0, .ref h26, .ref h27, .ref h28, .ref h29]))]) [0] rfl
    have hD9 := hD.sub (ws' := [(h0, .inr (12, [.int 0, .ref h1, .ref h2, .ref h3, .ref h4, .ref h5, .int 0, .int 0, .ref h6, .int 0, .int 0, .ref h7, .ref h8, .ref h9, .ref h10, .ref h11, .ref h12, .ref h13, .int 0, .int 0, .ref h14, .ref h15, .ref h16, .ref h17, .int 0, .ref h18, .ref h19, .int 0, .ref h20, .int 0, .int 0, .ref h21, .ref h22, .int 0, .int 0, .int 0, .int 0, .int 0, .ref h23, .int 0, .ref h24, .ref h25, .int 0, .int 0, .int 0, .ref h26, .ref h27, .ref h28, .ref h29]))]) [0] (by decide) rfl
    have hK9 := hK.sub (tys' := []) [] rfl
    exact W.zret (v := 0) hx hb hr rfl (fun t ht hW => ⟨⟨0, (), rfl, rfl, by rw [ht]; exact hP9, va_K.moved hW.alike hK9, hD9⟩, hS.F ht⟩) hS.2.2 dX12_isBody_13
  · exfalso; omega
set_option maxHeartbeats 4000000 in
set_option maxRecDepth 100000 in
theorem k_X12_act_0 (l : Launch) (dC : Nat → ClassId) (dI : Nat → Nat → Nat) (h0 h1 h2 h3 h4 h5 h6 h7 h8 h9 h10 h11 h12 h13 h14 h15 h16 h17 h18 h19 h20 h21 h22 h23 h24 h25 h26 h27 h28 h29 : Nat) (sz : Nat) (p0 : Int32) (p1 : Int32) (p2 : Int32) : Met l yX12_act wsX12_act ({ frames := 2, cells := 0, slots := 0, locals := 46 }) (va_Pc [.ref h0, .int p0, .int p1, .int p2] (fun U => U.heap.size = sz ∧ va_P (dC, dI) vwCl [(h0, .inr (12, [.int 0, .ref h1, .ref h2, .ref h3, .ref h4, .ref h5, .int 0, .int 0, .ref h6, .int 0, .int 0, .ref h7, .ref h8, .ref h9, .ref h10, .ref h11, .ref h12, .ref h13, .int 0, .int 0, .ref h14, .ref h15, .ref h16, .ref h17, .int 0, .ref h18, .ref h19, .int 0, .ref h20, .int 0, .int 0, .ref h21, .ref h22, .int 0, .int 0, .int 0, .int 0, .int 0, .ref h23, .int 0, .ref h24, .ref h25, .int 0, .int 0, .int 0, .ref h26, .ref h27, .ref h28, .ref h29]))] U.heap ∧ va_K (dC, dI) vwCl [] U ∧ va_D (fun _ => True) [(h0, .inr (12, [.int 0, .ref h1, .ref h2, .ref h3, .ref h4, .ref h5, .int 0, .int 0, .ref h6, .int 0, .int 0, .ref h7, .ref h8, .ref h9, .ref h10, .ref h11, .ref h12, .ref h13, .int 0, .int 0, .ref h14, .ref h15, .ref h16, .ref h17, .int 0, .ref h18, .ref h19, .int 0, .ref h20, .int 0, .int 0, .ref h21, .ref h22, .int 0, .int 0, .int 0, .int 0, .int 0, .ref h23, .int 0, .ref h24, .ref h25, .int 0, .int 0, .int 0, .ref h26, .ref h27, .ref h28, .ref h29]))])) (va_Qi (fun (r : Int32) (_ : Unit) => r = 0) (fun (_ : Unit) t => va_P (dC, dI) vwCl [] t.heap ∧ va_K (dC, dI) vwCl [] t ∧ va_D (va_A [(h0, .inr (12, [.int 0, .ref h1, .ref h2, .ref h3, .ref h4, .ref h5, .int 0, .int 0, .ref h6, .int 0, .int 0, .ref h7, .ref h8, .ref h9, .ref h10, .ref h11, .ref h12, .ref h13, .int 0, .int 0, .ref h14, .ref h15, .ref h16, .ref h17, .int 0, .ref h18, .ref h19, .int 0, .ref h20, .int 0, .int 0, .ref h21, .ref h22, .int 0, .int 0, .int 0, .int 0, .int 0, .ref h23, .int 0, .ref h24, .ref h25, .int 0, .int 0, .int 0, .ref h26, .ref h27, .ref h28, .ref h29]))] sz) []) (va_A [(h0, .inr (12, [.int 0, .ref h1, .ref h2, .ref h3, .ref h4, .ref h5, .int 0, .int 0, .ref h6, .int 0, .int 0, .ref h7, .ref h8, .ref h9, .ref h10, .ref h11, .ref h12, .ref h13, .int 0, .int 0, .ref h14, .ref h15, .ref h16, .ref h17, .int 0, .ref h18, .ref h19, .int 0, .ref h20, .int 0, .int 0, .ref h21, .ref h22, .int 0, .int 0, .int 0, .int 0, .int 0, .ref h23, .int 0, .ref h24, .ref h25, .int 0, .int 0, .int 0, .ref h26, .ref h27, .ref h28, .ref h29]))] sz)) 0 0 (va_A [(h0, .inr (12, [.int 0, .ref h1, .ref h2, .ref h3, .ref h4, .ref h5, .int 0, .int 0, .ref h6, .int 0, .int 0, .ref h7, .ref h8, .ref h9, .ref h10, .ref h11, .ref h12, .ref h13, .int 0, .int 0, .ref h14, .ref h15, .ref h16, .ref h17, .int 0, .ref h18, .ref h19, .int 0, .ref h20, .int 0, .int 0, .ref h21, .ref h22, .int 0, .int 0, .int 0, .int 0, .int 0, .ref h23, .int 0, .ref h24, .ref h25, .int 0, .int 0, .int 0, .ref h26, .ref h27, .ref h28, .ref h29]))] sz) := by
  refine Met.ofW (cc := cX12_act) (maxL := 4) (ret := (some .int)) (by decide) rfl ?_
  intro p e s m args below meth c s₁ B hml hv
  obtain ⟨rfl, hsz, hP, hK, hD0⟩ := hv
  have hx := B.exec
  have hb := B.bytes
  have hr := B.returns
  have hts := atoms_spec (ws := wsX12_act) B.pre
  have hown : s.vm.findClass RX12 = some m.cls := findClass_of_methodNamed B.named
  have hlocks := B.notSynchronized
  subst hsz
  have hD := hD0.self (sz := s.heap.size)
  generalize hAe : va_A [(h0, .inr (12, [.int 0, .ref h1, .ref h2, .ref h3, .ref h4, .ref h5, .int 0, .int 0, .ref h6, .int 0, .int 0, .ref h7, .ref h8, .ref h9, .ref h10, .ref h11, .ref h12, .ref h13, .int 0, .int 0, .ref h14, .ref h15, .ref h16, .ref h17, .int 0, .ref h18, .ref h19, .int 0, .ref h20, .int 0, .int 0, .ref h21, .ref h22, .int 0, .int 0, .int 0, .int 0, .int 0, .ref h23, .int 0, .ref h24, .ref h25, .int 0, .int 0, .int 0, .ref h26, .ref h27, .ref h28, .ref h29]))] s.heap.size = A at hD ⊢
  have hA : ∀ q : Nat, s.heap.size ≤ q → A q := fun q h => by rw [← hAe]; exact Or.inr h
  have hS : va_S A s.heap s.heap [] := va_S.rf
  have hP : va_P (dC, dI) vwCl [(h0, .inr (12, [.int 0, .ref h1, .ref h2, .ref h3, .ref h4, .ref h5, .int 0, .int 0, .ref h6, .int 0, .int 0, .ref h7, .ref h8, .ref h9, .ref h10, .ref h11, .ref h12, .ref h13, .int 0, .int 0, .ref h14, .ref h15, .ref h16, .ref h17, .int 0, .ref h18, .ref h19, .int 0, .ref h20, .int 0, .int 0, .ref h21, .ref h22, .int 0, .int 0, .int 0, .int 0, .int 0, .ref h23, .int 0, .ref h24, .ref h25, .int 0, .int 0, .int 0, .ref h26, .ref h27, .ref h28, .ref h29]))] s.heap := hP
  have hl := lv_entry ([.ref h0, .int p0, .int p1, .int p2]) (n := 4) (Nat.le_of_ble_eq_true rfl)
  rw [lg_entry_eq]
  generalize (lg_sl ([.ref h0, .int p0, .int p1, .int p2]) ++ List.replicate (4 - (lg_sl ([.ref h0, .int p0, .int p1, .int p2])).length) Slot.unset).toArray = ls at hl ⊢
  have hl : lv_has ls 4 [(0, .ref h0), (1, .int p0), (2, .int p1), (3, .int p2)] := hl
  refine lv_aload_n hx hb dX12_act_0 rfl (lv_at hl 0 rfl) ?_
  refine lv_iconst (v := 0) hx hb dX12_act_1 (by decide) ?_
  refine va_put (D := (dC, dI)) (ci := 12) (v := .int 0) (ty := .int) (C := RX12) (T := TX12) (N := 49) hx hb hts (fun _ h => List.mem_cons_of_mem _ (List.mem_append_right _ h)) tyX12 tyX12_ok nmX12 hown hK hP hD hS 0 rfl rfl 42 (by decide) (hts (.fieldLink RX12 340 "KinkStreetModel" "ran" "I") (List.mem_of_getElem? (i := 1) rfl)) (fun _ h9 => h9) rfl (by decide +kernel) rfl rfl (Nat.le_of_ble_eq_true rfl) dX12_act_2 (fun H locs hP hD hS => ?_)
  have hP : va_P (dC, dI) vwCl [(h0, .inr (12, [.int 0, .ref h1, .ref h2, .ref h3, .ref h4, .ref h5, .int 0, .int 0, .ref h6, .int 0, .int 0, .ref h7, .ref h8, .ref h9, .ref h10, .ref h11, .ref h12, .ref h13, .int 0, .int 0, .ref h14, .ref h15, .ref h16, .ref h17, .int 0, .ref h18, .ref h19, .int 0, .ref h20, .int 0, .int 0, .ref h21, .ref h22, .int 0, .int 0, .int 0, .int 0, .int 0, .ref h23, .int 0, .ref h24, .ref h25, .int 0, .int 0, .int 0, .ref h26, .ref h27, .ref h28, .ref h29]))] H := hP
  have hD : va_D A [(h0, .inr (12, [.int 0, .ref h1, .ref h2, .ref h3, .ref h4, .ref h5, .int 0, .int 0, .ref h6, .int 0, .int 0, .ref h7, .ref h8, .ref h9, .ref h10, .ref h11, .ref h12, .ref h13, .int 0, .int 0, .ref h14, .ref h15, .ref h16, .ref h17, .int 0, .ref h18, .ref h19, .int 0, .ref h20, .int 0, .int 0, .ref h21, .ref h22, .int 0, .int 0, .int 0, .int 0, .int 0, .ref h23, .int 0, .ref h24, .ref h25, .int 0, .int 0, .int 0, .ref h26, .ref h27, .ref h28, .ref h29]))] := hD
  refine lv_aload_n hx hb dX12_act_5 rfl (lv_at hl 0 rfl) ?_
  refine lv_iload_n hx hb dX12_act_6 rfl (lv_at hl 1 rfl) ?_
  have hPc := hP.sub (ws' := [(h0, .inr (12, [.int 0, .ref h1, .ref h2, .ref h3, .ref h4, .ref h5, .int 0, .int 0, .ref h6, .int 0, .int 0, .ref h7, .ref h8, .ref h9, .ref h10, .ref h11, .ref h12, .ref h13, .int 0, .int 0, .ref h14, .ref h15, .ref h16, .ref h17, .int 0, .ref h18, .ref h19, .int 0, .ref h20, .int 0, .int 0, .ref h21, .ref h22, .int 0, .int 0, .int 0, .int 0, .int 0, .ref h23, .int 0, .ref h24, .ref h25, .int 0, .int 0, .int 0, .ref h26, .ref h27, .ref h28, .ref h29]))]) [0] rfl
  have hDc := hD.sub (ws' := [(h0, .inr (12, [.int 0, .ref h1, .ref h2, .ref h3, .ref h4, .ref h5, .int 0, .int 0, .ref h6, .int 0, .int 0, .ref h7, .ref h8, .ref h9, .ref h10, .ref h11, .ref h12, .ref h13, .int 0, .int 0, .ref h14, .ref h15, .ref h16, .ref h17, .int 0, .ref h18, .ref h19, .int 0, .ref h20, .int 0, .int 0, .ref h21, .ref h22, .int 0, .int 0, .int 0, .int 0, .int 0, .ref h23, .int 0, .ref h24, .ref h25, .int 0, .int 0, .int 0, .ref h26, .ref h27, .ref h28, .ref h29]))]) [0] (by decide) rfl
  have hKc := hK.sub (tys' := []) [] rfl
  have hFc := va_free (wc := [(h0, .inr (12, [.int 0, .ref h1, .ref h2, .ref h3, .ref h4, .ref h5, .int 0, .int 0, .ref h6, .int 0, .int 0, .ref h7, .ref h8, .ref h9, .ref h10, .ref h11, .ref h12, .ref h13, .int 0, .int 0, .ref h14, .ref h15, .ref h16, .ref h17, .int 0, .ref h18, .ref h19, .int 0, .ref h20, .int 0, .int 0, .ref h21, .ref h22, .int 0, .int 0, .int 0, .int 0, .int 0, .ref h23, .int 0, .ref h24, .ref h25, .int 0, .int 0, .int 0, .ref h26, .ref h27, .ref h28, .ref h29]))]) hD hS hA [0] rfl
  refine va_calli (va_runV (As := [.int p0]) (rest := []) ⟨hx, hb, hml, hown, hts⟩ (k_X12_isBody_0 l dC dI h0 h1 h2 h3 h4 h5 h6 h7 h8 h9 h10 h11 h12 h13 h14 h15 h16 h17 h18 h19 h20 h21 h22 h23 h24 h25 h26 h27 h28 h29 H.size p0) (cwV 1 hts gX12_act_X12_isBody rfl rfl rfl (by decide +kernel) ⟨Nat.le_of_ble_eq_true rfl, Nat.le_of_ble_eq_true rfl⟩) ⟨fun a U g mk q => by obtain ⟨q0, q1, qP, qK, qD⟩ := q; exact ⟨q0, q1, qP, va_K.moved (u := U) (U := U.calling g mk a) (Vm.Alike.refl U.vm) qK, qD⟩, va_recv hKc hPc (ci := 12) (q0 := 0) rfl rfl, fun U hU hW => ⟨rfl, by rw [hU], by rw [hU]; exact hPc, va_K.moved hW.alike hKc, hDc.weaken (fun _ _ _ _ => trivial)⟩⟩ rfl rfl hl.1 rfl (lv_room (Nat.le_of_ble_eq_true rfl)) dX12_act_7 ⟨Nat.le_of_ble_eq_true rfl, Nat.le_of_ble_eq_true rfl⟩) hS (fun q _ h => hFc q h) hFc (fun r_1 u t H1 locs ht hvm hw hB hz1 hk1 hS => ?_)
  obtain ⟨hP1, hK1, hD1⟩ := hB
  rw [ht] at hP1
  have hK1 := va_K.moved hvm.symm hK1
  obtain ⟨hP, hD⟩ := va_join (wr := []) (w1 := [(h0, .inr (12, [.int 0, .ref h1, .ref h2, .ref h3, .ref h4, .ref h5, .int 0, .int 0, .ref h6, .int 0, .int 0, .ref h7, .ref h8, .ref h9, .ref h10, .ref h11, .ref h12, .ref h13, .int 0, .int 0, .ref h14, .ref h15, .ref h16, .ref h17, .int 0, .ref h18, .ref h19, .int 0, .ref h20, .int 0, .int 0, .ref h21, .ref h22, .int 0, .int 0, .int 0, .int 0, .int 0, .ref h23, .int 0, .ref h24, .ref h25, .int 0, .int 0, .int 0, .ref h26, .ref h27, .ref h28, .ref h29]))]) hP hD [0] [] rfl rfl (by decide) (by decide) hk1 hFc hP1 hD1
  generalize H1 = H at hP hS ⊢
  have hP : va_P (dC, dI) vwCl [(h0, .inr (12, [.int 0, .ref h1, .ref h2, .ref h3, .ref h4, .ref h5, .int 0, .int 0, .ref h6, .int 0, .int 0, .ref h7, .ref h8, .ref h9, .ref h10, .ref h11, .ref h12, .ref h13, .int 0, .int 0, .ref h14, .ref h15, .ref h16, .ref h17, .int 0, .ref h18, .ref h19, .int 0, .ref h20, .int 0, .int 0, .ref h21, .ref h22, .int 0, .int 0, .int 0, .int 0, .int 0, .ref h23, .int 0, .ref h24, .ref h25, .int 0, .int 0, .int 0, .ref h26, .ref h27, .ref h28, .ref h29]))] H := hP
  have hD : va_D A [(h0, .inr (12, [.int 0, .ref h1, .ref h2, .ref h3, .ref h4, .ref h5, .int 0, .int 0, .ref h6, .int 0, .int 0, .ref h7, .ref h8, .ref h9, .ref h10, .ref h11, .ref h12, .ref h13, .int 0, .int 0, .ref h14, .ref h15, .ref h16, .ref h17, .int 0, .ref h18, .ref h19, .int 0, .ref h20, .int 0, .int 0, .ref h21, .ref h22, .int 0, .int 0, .int 0, .int 0, .int 0, .ref h23, .int 0, .ref h24, .ref h25, .int 0, .int 0, .int 0, .ref h26, .ref h27, .ref h28, .ref h29]))] := hD
  obtain rfl := hw
  refine lv_if_ne (tgt := 15) hx hb dX12_act_10 (by decide) (fun c => absurd c (by decide)) (fun _ => ?_)
  refine lv_iconst (v := 0) hx hb dX12_act_13 (by decide) ?_
  have hP9 := hP.sub (ws' := []) [] rfl
  have hD9 := hD.sub (ws' := []) [] (by decide) rfl
  have hK9 := hK.sub (tys' := []) [] rfl
  exact W.iret (v := 0) hx hb hr (fun t ht hW => ⟨⟨0, (), rfl, by first | rfl | ((repeat' split) <;> first | rfl | (exfalso; omega) | (exact Int32.toInt_inj.mp (by show (0 : Int) = _; omega))), by rw [ht]; exact hP9, va_K.moved hW.alike hK9, hD9⟩, hS.F ht⟩) hS.2.2 dX12_act_14
set_option maxHeartbeats 4000000 in
set_option maxRecDepth 100000 in
theorem k_X12_trace_0 (l : Launch) (dC : Nat → ClassId) (dI : Nat → Nat → Nat) (h0 h1 h2 h3 h4 h5 h6 h7 h8 h9 h10 h11 h12 h13 h14 h15 h16 h17 h18 h19 h20 h21 h22 h23 h24 h25 h26 h27 h28 h29 : Nat) (sz : Nat) (p0 : Int32) : Met l yX12_trace wsX12_trace ({ frames := 0, cells := 0, slots := 0, locals := 0 }) (va_Pc [.ref h0, .int p0] (fun U => U.heap.size = sz ∧ va_P (dC, dI) vwCl [(h0, .inr (12, [.int 0, .ref h1, .ref h2, .ref h3, .ref h4, .ref h5, .int 0, .int 0, .ref h6, .int 0, .int 0, .ref h7, .ref h8, .ref h9, .ref h10, .ref h11, .ref h12, .ref h13, .int 0, .int 0, .ref h14, .ref h15, .ref h16, .ref h17, .int 0, .ref h18, .ref h19, .int 0, .ref h20, .int 0, .int 0, .ref h21, .ref h22, .int 0, .int 0, .int 0, .int 0, .int 0, .ref h23, .int 0, .ref h24, .ref h25, .int 0, .int 0, .int 0, .ref h26, .ref h27, .ref h28, .ref h29]))] U.heap ∧ va_K (dC, dI) vwCl [] U ∧ va_D (fun _ => True) [(h0, .inr (12, [.int 0, .ref h1, .ref h2, .ref h3, .ref h4, .ref h5, .int 0, .int 0, .ref h6, .int 0, .int 0, .ref h7, .ref h8, .ref h9, .ref h10, .ref h11, .ref h12, .ref h13, .int 0, .int 0, .ref h14, .ref h15, .ref h16, .ref h17, .int 0, .ref h18, .ref h19, .int 0, .ref h20, .int 0, .int 0, .ref h21, .ref h22, .int 0, .int 0, .int 0, .int 0, .int 0, .ref h23, .int 0, .ref h24, .ref h25, .int 0, .int 0, .int 0, .ref h26, .ref h27, .ref h28, .ref h29]))])) (va_Qi (fun (r : Int32) (_ : Unit) => r = -1) (fun (_ : Unit) t => va_P (dC, dI) vwCl [] t.heap ∧ va_K (dC, dI) vwCl [] t ∧ va_D (va_A [(h0, .inr (12, [.int 0, .ref h1, .ref h2, .ref h3, .ref h4, .ref h5, .int 0, .int 0, .ref h6, .int 0, .int 0, .ref h7, .ref h8, .ref h9, .ref h10, .ref h11, .ref h12, .ref h13, .int 0, .int 0, .ref h14, .ref h15, .ref h16, .ref h17, .int 0, .ref h18, .ref h19, .int 0, .ref h20, .int 0, .int 0, .ref h21, .ref h22, .int 0, .int 0, .int 0, .int 0, .int 0, .ref h23, .int 0, .ref h24, .ref h25, .int 0, .int 0, .int 0, .ref h26, .ref h27, .ref h28, .ref h29]))] sz) []) (va_A [(h0, .inr (12, [.int 0, .ref h1, .ref h2, .ref h3, .ref h4, .ref h5, .int 0, .int 0, .ref h6, .int 0, .int 0, .ref h7, .ref h8, .ref h9, .ref h10, .ref h11, .ref h12, .ref h13, .int 0, .int 0, .ref h14, .ref h15, .ref h16, .ref h17, .int 0, .ref h18, .ref h19, .int 0, .ref h20, .int 0, .int 0, .ref h21, .ref h22, .int 0, .int 0, .int 0, .int 0, .int 0, .ref h23, .int 0, .ref h24, .ref h25, .int 0, .int 0, .int 0, .ref h26, .ref h27, .ref h28, .ref h29]))] sz)) 0 0 (va_A [(h0, .inr (12, [.int 0, .ref h1, .ref h2, .ref h3, .ref h4, .ref h5, .int 0, .int 0, .ref h6, .int 0, .int 0, .ref h7, .ref h8, .ref h9, .ref h10, .ref h11, .ref h12, .ref h13, .int 0, .int 0, .ref h14, .ref h15, .ref h16, .ref h17, .int 0, .ref h18, .ref h19, .int 0, .ref h20, .int 0, .int 0, .ref h21, .ref h22, .int 0, .int 0, .int 0, .int 0, .int 0, .ref h23, .int 0, .ref h24, .ref h25, .int 0, .int 0, .int 0, .ref h26, .ref h27, .ref h28, .ref h29]))] sz) := by
  refine Met.ofW (cc := cX12_trace) (maxL := 2) (ret := (some .int)) (by decide) rfl ?_
  intro p e s m args below meth c s₁ B hml hv
  obtain ⟨rfl, hsz, hP, hK, hD0⟩ := hv
  have hx := B.exec
  have hb := B.bytes
  have hr := B.returns
  have hts := atoms_spec (ws := wsX12_trace) B.pre
  have hown : s.vm.findClass RX12 = some m.cls := findClass_of_methodNamed B.named
  have hlocks := B.notSynchronized
  subst hsz
  have hD := hD0.self (sz := s.heap.size)
  generalize hAe : va_A [(h0, .inr (12, [.int 0, .ref h1, .ref h2, .ref h3, .ref h4, .ref h5, .int 0, .int 0, .ref h6, .int 0, .int 0, .ref h7, .ref h8, .ref h9, .ref h10, .ref h11, .ref h12, .ref h13, .int 0, .int 0, .ref h14, .ref h15, .ref h16, .ref h17, .int 0, .ref h18, .ref h19, .int 0, .ref h20, .int 0, .int 0, .ref h21, .ref h22, .int 0, .int 0, .int 0, .int 0, .int 0, .ref h23, .int 0, .ref h24, .ref h25, .int 0, .int 0, .int 0, .ref h26, .ref h27, .ref h28, .ref h29]))] s.heap.size = A at hD ⊢
  have hA : ∀ q : Nat, s.heap.size ≤ q → A q := fun q h => by rw [← hAe]; exact Or.inr h
  have hS : va_S A s.heap s.heap [] := va_S.rf
  have hP : va_P (dC, dI) vwCl [(h0, .inr (12, [.int 0, .ref h1, .ref h2, .ref h3, .ref h4, .ref h5, .int 0, .int 0, .ref h6, .int 0, .int 0, .ref h7, .ref h8, .ref h9, .ref h10, .ref h11, .ref h12, .ref h13, .int 0, .int 0, .ref h14, .ref h15, .ref h16, .ref h17, .int 0, .ref h18, .ref h19, .int 0, .ref h20, .int 0, .int 0, .ref h21, .ref h22, .int 0, .int 0, .int 0, .int 0, .int 0, .ref h23, .int 0, .ref h24, .ref h25, .int 0, .int 0, .int 0, .ref h26, .ref h27, .ref h28, .ref h29]))] s.heap := hP
  have hl := lv_entry ([.ref h0, .int p0]) (n := 2) (Nat.le_of_ble_eq_true rfl)
  rw [lg_entry_eq]
  generalize (lg_sl ([.ref h0, .int p0]) ++ List.replicate (2 - (lg_sl ([.ref h0, .int p0])).length) Slot.unset).toArray = ls at hl ⊢
  have hl : lv_has ls 2 [(0, .ref h0), (1, .int p0)] := hl
  refine lv_iload_n hx hb dX12_trace_0 rfl (lv_at hl 1 rfl) ?_
  refine lv_if_lt (tgt := 27) hx hb dX12_trace_1 (by decide) (fun c_1 => ?_) (fun c_1 => ?_)
  · have t_1 : p0.toInt < 0 := kk_lt c_1
    refine lv_iconst (v := (-1)) hx hb dX12_trace_27 (by decide) ?_
    have hP9 := hP.sub (ws' := []) [] rfl
    have hD9 := hD.sub (ws' := []) [] (by decide) rfl
    have hK9 := hK.sub (tys' := []) [] rfl
    exact W.iret (v := (-1)) hx hb hr (fun t ht hW => ⟨⟨(-1), (), rfl, by first | rfl | ((repeat' split) <;> first | rfl | (exfalso; omega) | (exact Int32.toInt_inj.mp (by show ((-1) : Int) = _; omega))), by rw [ht]; exact hP9, va_K.moved hW.alike hK9, hD9⟩, hS.F ht⟩) hS.2.2 dX12_trace_28
  · have t_1 : 0 ≤ p0.toInt := kk_nlt c_1
    refine lv_iload_n hx hb dX12_trace_4 rfl (lv_at hl 1 rfl) ?_
    refine lv_aload_n hx hb dX12_trace_5 rfl (lv_at hl 0 rfl) ?_
    refine va_get (D := (dC, dI)) (ci := 12) (v := .int 0) (C := RX12) (T := TX12) (N := 49) hx hb hts (fun _ h => List.mem_cons_of_mem _ (List.mem_append_right _ h)) hown hK hP 0 rfl rfl 42 (by decide) (hts (.fieldLink RX12 340 "KinkStreetModel" "ran" "I") (List.mem_of_getElem? (i := 1) rfl)) (fun _ h9 => h9) rfl dX12_trace_6 ?_
    refine lv_icmp_ge (tgt := 27) hx hb dX12_trace_9 (by decide) (fun c_2 => ?_) (fun c_2 => ?_)
    · have t_2 : 0 ≤ p0.toInt := kk_le c_2
      refine lv_iconst (v := (-1)) hx hb dX12_trace_27 (by decide) ?_
      have hP9 := hP.sub (ws' := []) [] rfl
      have hD9 := hD.sub (ws' := []) [] (by decide) rfl
      have hK9 := hK.sub (tys' := []) [] rfl
      exact W.iret (v := (-1)) hx hb hr (fun t ht hW => ⟨⟨(-1), (), rfl, by first | rfl | ((repeat' split) <;> first | rfl | (exfalso; omega) | (exact Int32.toInt_inj.mp (by show ((-1) : Int) = _; omega))), by rw [ht]; exact hP9, va_K.moved hW.alike hK9, hD9⟩, hS.F ht⟩) hS.2.2 dX12_trace_28
    · have t_2 : p0.toInt < 0 := kk_nle c_2
      exfalso; omega
set_option maxHeartbeats 4000000 in
set_option maxRecDepth 100000 in
theorem k_X12_within_6 (l : Launch) (dC : Nat → ClassId) (dI : Nat → Nat → Nat) (sz : Nat) (v0 : Int64) (xv0 : Int) (exv0 : v0.toInt = xv0) : Met l yX12_within wsX12_within ({ frames := 0, cells := 0, slots := 0, locals := 0 }) (va_Pc [.long v0, .long 0, .long 5] (fun U => U.heap.size = sz ∧ va_P (dC, dI) vwCl [] U.heap ∧ va_K (dC, dI) vwCl [] U ∧ va_D (fun _ => True) [])) (va_Qi (fun (r : Int32) (_ : Unit) => (xv0 < 0 ∧ r = 0) ∨ (0 ≤ xv0 ∧ 5 < xv0 ∧ r = 0) ∨ (0 ≤ xv0 ∧ xv0 ≤ 5 ∧ r = 1)) (fun (_ : Unit) t => va_P (dC, dI) vwCl [] t.heap ∧ va_K (dC, dI) vwCl [] t ∧ va_D (va_A [] sz) []) (va_A [] sz)) 0 0 (va_A [] sz) := by
  refine Met.ofW (cc := cX12_within) (maxL := 6) (ret := (some .boolean)) (by decide) rfl ?_
  intro p e s m args below meth c s₁ B hml hv
  obtain ⟨rfl, hsz, hP, hK, hD0⟩ := hv
  have hx := B.exec
  have hb := B.bytes
  have hr := B.returns
  have hts := atoms_spec (ws := wsX12_within) B.pre
  have hown : s.vm.findClass RX12 = some m.cls := findClass_of_methodNamed B.named
  have hlocks := B.notSynchronized
  subst hsz
  have hD := hD0.self (sz := s.heap.size)
  generalize hAe : va_A [] s.heap.size = A at hD ⊢
  have hA : ∀ q : Nat, s.heap.size ≤ q → A q := fun q h => by rw [← hAe]; exact Or.inr h
  have hS : va_S A s.heap s.heap [] := va_S.rf
  have hP : va_P (dC, dI) vwCl [] s.heap := hP
  have hl := lv_entry ([.long v0, .long 0, .long 5]) (n := 6) (Nat.le_of_ble_eq_true rfl)
  rw [lg_entry_eq]
  generalize (lg_sl ([.long v0, .long 0, .long 5]) ++ List.replicate (6 - (lg_sl ([.long v0, .long 0, .long 5])).length) Slot.unset).toArray = ls at hl ⊢
  have hl : lv_has ls 6 [(0, .long v0), (2, .long 0), (4, .long 5)] := hl
  refine lv_lload_n hx hb dX12_within_0 rfl (lv_at hl 0 rfl) ?_
  refine lv_lload_n hx hb dX12_within_1 rfl (lv_at hl 1 rfl) ?_
  refine W.lcmp hx hb dX12_within_2 ?_
  refine lv_if_lt (tgt := 17) hx hb dX12_within_3 (by decide) (fun c_1 => ?_) (fun c_1 => ?_)
  · have t_1 : xv0 < 0 := by have h := kk_Lt c_1; have e1 : (0 : Int64).toInt = 0 := (by decide); omega
    refine lv_iconst (v := 0) hx hb dX12_within_17 (by decide) ?_
    have hP9 := hP.sub (ws' := []) [] rfl
    have hD9 := hD.sub (ws' := []) [] (by decide) rfl
    have hK9 := hK.sub (tys' := []) [] rfl
    exact W.zret (v := 0) hx hb hr rfl (fun t ht hW => ⟨⟨0, (), rfl, Or.inl ⟨by first | assumption | omega, rfl⟩, by rw [ht]; exact hP9, va_K.moved hW.alike hK9, hD9⟩, hS.F ht⟩) hS.2.2 dX12_within_18
  · have t_1 : 0 ≤ xv0 := by have h := kk_nLt c_1; have e1 : (0 : Int64).toInt = 0 := (by decide); omega
    refine lv_lload_n hx hb dX12_within_6 rfl (lv_at hl 0 rfl) ?_
    refine lv_lload hx hb dX12_within_7 (lv_at hl 2 rfl) ?_
    refine W.lcmp hx hb dX12_within_9 ?_
    refine lv_if_gt (tgt := 17) hx hb dX12_within_10 (by decide) (fun c_2 => ?_) (fun c_2 => ?_)
    · have t_2 : 5 < xv0 := by have h := kk_Gt c_2; have e1 : (5 : Int64).toInt = 5 := (by decide); omega
      refine lv_iconst (v := 0) hx hb dX12_within_17 (by decide) ?_
      have hP9 := hP.sub (ws' := []) [] rfl
      have hD9 := hD.sub (ws' := []) [] (by decide) rfl
      have hK9 := hK.sub (tys' := []) [] rfl
      exact W.zret (v := 0) hx hb hr rfl (fun t ht hW => ⟨⟨0, (), rfl, Or.inr (Or.inl ⟨by first | assumption | omega, by first | assumption | omega, rfl⟩), by rw [ht]; exact hP9, va_K.moved hW.alike hK9, hD9⟩, hS.F ht⟩) hS.2.2 dX12_within_18
    · have t_2 : xv0 ≤ 5 := by have h := kk_nGt c_2; have e1 : (5 : Int64).toInt = 5 := (by decide); omega
      refine lv_iconst (v := 1) hx hb dX12_within_13 (by decide) ?_
      refine lv_goto (tgt := 18) hx hb dX12_within_14 (by decide) ?_
      have hP9 := hP.sub (ws' := []) [] rfl
      have hD9 := hD.sub (ws' := []) [] (by decide) rfl
      have hK9 := hK.sub (tys' := []) [] rfl
      exact W.zret (v := 1) hx hb hr rfl (fun t ht hW => ⟨⟨1, (), rfl, Or.inr (Or.inr (⟨by first | assumption | omega, by first | assumption | omega, rfl⟩)), by rw [ht]; exact hP9, va_K.moved hW.alike hK9, hD9⟩, hS.F ht⟩) hS.2.2 dX12_within_18
set_option maxHeartbeats 4000000 in
set_option maxRecDepth 100000 in
theorem k_X12_isShelf_0 (l : Launch) (dC : Nat → ClassId) (dI : Nat → Nat → Nat) (sz : Nat) (p0 : Int32) : Met l yX12_isShelf wsX12_isShelf ({ frames := 1, cells := 0, slots := 0, locals := 25 }) (va_Pc [.int p0] (fun U => U.heap.size = sz ∧ va_P (dC, dI) vwCl [] U.heap ∧ va_K (dC, dI) vwCl [] U ∧ va_D (fun _ => True) [])) (va_Qi (fun (r : Int32) (_ : Unit) => (p0.toInt < 0 ∧ r = 0) ∨ (0 ≤ p0.toInt ∧ 5 < p0.toInt ∧ r = 0) ∨ (0 ≤ p0.toInt ∧ p0.toInt ≤ 5 ∧ r = 1)) (fun (_ : Unit) t => va_P (dC, dI) vwCl [] t.heap ∧ va_K (dC, dI) vwCl [] t ∧ va_D (va_A [] sz) []) (va_A [] sz)) 0 0 (va_A [] sz) := by
  refine Met.ofW (cc := cX12_isShelf) (maxL := 1) (ret := (some .boolean)) (by decide) rfl ?_
  intro p e s m args below meth c s₁ B hml hv
  obtain ⟨rfl, hsz, hP, hK, hD0⟩ := hv
  have hx := B.exec
  have hb := B.bytes
  have hr := B.returns
  have hts := atoms_spec (ws := wsX12_isShelf) B.pre
  have hown : s.vm.findClass RX12 = some m.cls := findClass_of_methodNamed B.named
  have hlocks := B.notSynchronized
  subst hsz
  have hD := hD0.self (sz := s.heap.size)
  generalize hAe : va_A [] s.heap.size = A at hD ⊢
  have hA : ∀ q : Nat, s.heap.size ≤ q → A q := fun q h => by rw [← hAe]; exact Or.inr h
  have hS : va_S A s.heap s.heap [] := va_S.rf
  have hP : va_P (dC, dI) vwCl [] s.heap := hP
  have hl := lv_entry ([.int p0]) (n := 1) (Nat.le_of_ble_eq_true rfl)
  rw [lg_entry_eq]
  generalize (lg_sl ([.int p0]) ++ List.replicate (1 - (lg_sl ([.int p0])).length) Slot.unset).toArray = ls at hl ⊢
  have hl : lv_has ls 1 [(0, .int p0)] := hl
  refine lv_iload_n hx hb dX12_isShelf_0 rfl (lv_at hl 0 rfl) ?_
  refine lv_i2l (v := (p0).toInt64) hx hb dX12_isShelf_1 (by first | rfl | decide) ?_
  refine lv_lconst (v := 0) hx hb dX12_isShelf_2 (by decide) ?_
  refine lv_ldc2 hx hb hown (hts _ (List.mem_of_getElem? (i := 1) rfl)) dX12_isShelf_3 ?_
  have hPc := hP.sub (ws' := []) [] rfl
  have hDc := hD.sub (ws' := []) [] (by decide) rfl
  have hKc := hK.sub (tys' := []) [] rfl
  have hFc := va_free (wc := []) hD hS hA [] rfl
  refine va_calli (va_runS (As := [.long (p0).toInt64, .long 0, .long 5]) (rest := []) ⟨hx, hb, hml, hown, hts⟩ (k_X12_within_6 l dC dI s.heap.size (p0).toInt64 (p0.toInt) (kk_64 _)) (va_cwS 3 hts gX12_isShelf_X12_within rfl rfl rfl (by decide +kernel) ⟨Nat.le_of_ble_eq_true rfl, Nat.le_of_ble_eq_true rfl⟩) ⟨fun a U g mk q => by obtain ⟨q0, q1, qP, qK, qD⟩ := q; exact ⟨q0, q1, qP, va_K.moved (u := U) (U := U.calling g mk a) (Vm.Alike.refl U.vm) qK, qD⟩, fun U hU hW => ⟨rfl, by rw [hU], by rw [hU]; exact hPc, va_K.moved hW.alike hKc, hDc.weaken (fun _ _ _ _ => trivial)⟩⟩ rfl rfl hl.1 rfl (lv_room (Nat.le_of_ble_eq_true rfl)) dX12_isShelf_6 ⟨Nat.le_of_ble_eq_true rfl, Nat.le_of_ble_eq_true rfl⟩) hS (fun q _ h => hFc q h) hFc (fun r_1 u t H1 locs ht hvm hw hB hz1 hk1 hS => ?_)
  obtain ⟨hP1, hK1, hD1⟩ := hB
  rw [ht] at hP1
  have hK1 := va_K.moved hvm.symm hK1
  obtain ⟨hP, hD⟩ := va_join (wr := []) (w1 := []) hP hD [] [] rfl rfl (by decide) (by decide) hk1 hFc hP1 hD1
  generalize H1 = H at hP hS ⊢
  have hP : va_P (dC, dI) vwCl [] H := hP
  have hD : va_D A [] := hD
  rcases hw with ⟨t_1_0, rfl⟩ | ⟨t_1_0, t_1_1, rfl⟩ | ⟨t_1_0, t_1_1, rfl⟩
  · skip
    have hP9 := hP.sub (ws' := []) [] rfl
    have hD9 := hD.sub (ws' := []) [] (by decide) rfl
    have hK9 := hK.sub (tys' := []) [] rfl
    exact W.zret (v := 0) hx hb hr rfl (fun t ht hW => ⟨⟨0, (), rfl, Or.inl ⟨by first | assumption | omega, rfl⟩, by rw [ht]; exact hP9, va_K.moved hW.alike hK9, hD9⟩, hS.F ht⟩) hS.2.2 dX12_isShelf_9
  · skip
    have hP9 := hP.sub (ws' := []) [] rfl
    have hD9 := hD.sub (ws' := []) [] (by decide) rfl
    have hK9 := hK.sub (tys' := []) [] rfl
    exact W.zret (v := 0) hx hb hr rfl (fun t ht hW => ⟨⟨0, (), rfl, Or.inr (Or.inl ⟨by first | assumption | omega, by first | assumption | omega, rfl⟩), by rw [ht]; exact hP9, va_K.moved hW.alike hK9, hD9⟩, hS.F ht⟩) hS.2.2 dX12_isShelf_9
  · skip
    have hP9 := hP.sub (ws' := []) [] rfl
    have hD9 := hD.sub (ws' := []) [] (by decide) rfl
    have hK9 := hK.sub (tys' := []) [] rfl
    exact W.zret (v := 1) hx hb hr rfl (fun t ht hW => ⟨⟨1, (), rfl, Or.inr (Or.inr (⟨by first | assumption | omega, by first | assumption | omega, rfl⟩)), by rw [ht]; exact hP9, va_K.moved hW.alike hK9, hD9⟩, hS.F ht⟩) hS.2.2 dX12_isShelf_9
set_option maxHeartbeats 4000000 in
set_option maxRecDepth 100000 in
theorem k_X12_keep_0 (l : Launch) (dC : Nat → ClassId) (dI : Nat → Nat → Nat) (h0 h1 h2 h3 h4 h5 h6 h7 h8 h9 h10 h11 h12 h13 h14 h15 h16 h17 h18 h19 h20 h21 h22 h23 h24 h25 h26 h27 h28 h29 : Nat) (cint : ClassId) (sz : Nat) (p0 : Int32) (p1 : Int32) : Met l yX12_keep wsX12_keep ({ frames := 2, cells := 0, slots := 0, locals := 46 }) (va_Pc [.ref h0, .int p0, .int p1] (fun U => U.heap.size = sz ∧ va_P (dC, dI) vwCl [(h0, .inr (12, [.int 0, .ref h3, .ref h4, .ref h5, .ref h6, .ref h7, .int 0, .int 0, .ref h8, .int 0, .int 0, .ref h9, .ref h10, .ref h11, .ref h12, .ref h13, .ref h14, .ref h15, .int 0, .int 0, .ref h16, .ref h17, .ref h18, .ref h19, .int 0, .ref h20, .ref h21, .int 0, .ref h22, .int 0, .int 0, .ref h23, .ref h24, .int 0, .int 0, .int 0, .int 0, .int 0, .ref h25, .int 0, .ref h26, .ref h27, .int 0, .int 0, .int 0, .ref h1, .ref h2, .ref h28, .ref h29])), (h1, .inl (cint, 6, .inl (fun _ => (-1)))), (h2, .inl (cint, 6, .inl (fun _ => 0)))] U.heap ∧ va_K (dC, dI) vwCl [(cint, .int)] U ∧ va_D (fun _ => True) [(h0, .inr (12, [.int 0, .ref h3, .ref h4, .ref h5, .ref h6, .ref h7, .int 0, .int 0, .ref h8, .int 0, .int 0, .ref h9, .ref h10, .ref h11, .ref h12, .ref h13, .ref h14, .ref h15, .int 0, .int 0, .ref h16, .ref h17, .ref h18, .ref h19, .int 0, .ref h20, .ref h21, .int 0, .ref h22, .int 0, .int 0, .ref h23, .ref h24, .int 0, .int 0, .int 0, .int 0, .int 0, .ref h25, .int 0, .ref h26, .ref h27, .int 0, .int 0, .int 0, .ref h1, .ref h2, .ref h28, .ref h29])), (h1, .inl (cint, 6, .inl (fun _ => (-1)))), (h2, .inl (cint, 6, .inl (fun _ => 0)))])) (va_Qi (fun (r : Int32) (_ : Unit) => r = if 0 ≤ p0.toInt ∧ p0.toInt < 6 ∧ p1.toInt = -1 then (1 : Int32) else -1) (fun (_ : Unit) t => va_P (dC, dI) vwCl [] t.heap ∧ va_K (dC, dI) vwCl [] t ∧ va_D (va_A [(h0, .inr (12, [.int 0, .ref h3, .ref h4, .ref h5, .ref h6, .ref h7, .int 0, .int 0, .ref h8, .int 0, .int 0, .ref h9, .ref h10, .ref h11, .ref h12, .ref h13, .ref h14, .ref h15, .int 0, .int 0, .ref h16, .ref h17, .ref h18, .ref h19, .int 0, .ref h20, .ref h21, .int 0, .ref h22, .int 0, .int 0, .ref h23, .ref h24, .int 0, .int 0, .int 0, .int 0, .int 0, .ref h25, .int 0, .ref h26, .ref h27, .int 0, .int 0, .int 0, .ref h1, .ref h2, .ref h28, .ref h29])), (h1, .inl (cint, 6, .inl (fun _ => (-1)))), (h2, .inl (cint, 6, .inl (fun _ => 0)))] sz) []) (va_A [(h0, .inr (12, [.int 0, .ref h3, .ref h4, .ref h5, .ref h6, .ref h7, .int 0, .int 0, .ref h8, .int 0, .int 0, .ref h9, .ref h10, .ref h11, .ref h12, .ref h13, .ref h14, .ref h15, .int 0, .int 0, .ref h16, .ref h17, .ref h18, .ref h19, .int 0, .ref h20, .ref h21, .int 0, .ref h22, .int 0, .int 0, .ref h23, .ref h24, .int 0, .int 0, .int 0, .int 0, .int 0, .ref h25, .int 0, .ref h26, .ref h27, .int 0, .int 0, .int 0, .ref h1, .ref h2, .ref h28, .ref h29])), (h1, .inl (cint, 6, .inl (fun _ => (-1)))), (h2, .inl (cint, 6, .inl (fun _ => 0)))] sz)) 0 0 (va_A [(h0, .inr (12, [.int 0, .ref h3, .ref h4, .ref h5, .ref h6, .ref h7, .int 0, .int 0, .ref h8, .int 0, .int 0, .ref h9, .ref h10, .ref h11, .ref h12, .ref h13, .ref h14, .ref h15, .int 0, .int 0, .ref h16, .ref h17, .ref h18, .ref h19, .int 0, .ref h20, .ref h21, .int 0, .ref h22, .int 0, .int 0, .ref h23, .ref h24, .int 0, .int 0, .int 0, .int 0, .int 0, .ref h25, .int 0, .ref h26, .ref h27, .int 0, .int 0, .int 0, .ref h1, .ref h2, .ref h28, .ref h29])), (h1, .inl (cint, 6, .inl (fun _ => (-1)))), (h2, .inl (cint, 6, .inl (fun _ => 0)))] sz) := by
  refine Met.ofW (cc := cX12_keep) (maxL := 3) (ret := (some .int)) (by decide) rfl ?_
  intro p e s m args below meth c s₁ B hml hv
  obtain ⟨rfl, hsz, hP, hK, hD0⟩ := hv
  have hx := B.exec
  have hb := B.bytes
  have hr := B.returns
  have hts := atoms_spec (ws := wsX12_keep) B.pre
  have hown : s.vm.findClass RX12 = some m.cls := findClass_of_methodNamed B.named
  have hlocks := B.notSynchronized
  subst hsz
  have hD := hD0.self (sz := s.heap.size)
  generalize hAe : va_A [(h0, .inr (12, [.int 0, .ref h3, .ref h4, .ref h5, .ref h6, .ref h7, .int 0, .int 0, .ref h8, .int 0, .int 0, .ref h9, .ref h10, .ref h11, .ref h12, .ref h13, .ref h14, .ref h15, .int 0, .int 0, .ref h16, .ref h17, .ref h18, .ref h19, .int 0, .ref h20, .ref h21, .int 0, .ref h22, .int 0, .int 0, .ref h23, .ref h24, .int 0, .int 0, .int 0, .int 0, .int 0, .ref h25, .int 0, .ref h26, .ref h27, .int 0, .int 0, .int 0, .ref h1, .ref h2, .ref h28, .ref h29])), (h1, .inl (cint, 6, .inl (fun _ => (-1)))), (h2, .inl (cint, 6, .inl (fun _ => 0)))] s.heap.size = A at hD ⊢
  have hA : ∀ q : Nat, s.heap.size ≤ q → A q := fun q h => by rw [← hAe]; exact Or.inr h
  have hS : va_S A s.heap s.heap [] := va_S.rf
  have hP : va_P (dC, dI) vwCl [(h0, .inr (12, [.int 0, .ref h3, .ref h4, .ref h5, .ref h6, .ref h7, .int 0, .int 0, .ref h8, .int 0, .int 0, .ref h9, .ref h10, .ref h11, .ref h12, .ref h13, .ref h14, .ref h15, .int 0, .int 0, .ref h16, .ref h17, .ref h18, .ref h19, .int 0, .ref h20, .ref h21, .int 0, .ref h22, .int 0, .int 0, .ref h23, .ref h24, .int 0, .int 0, .int 0, .int 0, .int 0, .ref h25, .int 0, .ref h26, .ref h27, .int 0, .int 0, .int 0, .ref h1, .ref h2, .ref h28, .ref h29])), (h1, .inl (cint, 6, .inl (fun _ => (-1)))), (h2, .inl (cint, 6, .inl (fun _ => 0)))] s.heap := hP
  have hl := lv_entry ([.ref h0, .int p0, .int p1]) (n := 3) (Nat.le_of_ble_eq_true rfl)
  rw [lg_entry_eq]
  generalize (lg_sl ([.ref h0, .int p0, .int p1]) ++ List.replicate (3 - (lg_sl ([.ref h0, .int p0, .int p1])).length) Slot.unset).toArray = ls at hl ⊢
  have hl : lv_has ls 3 [(0, .ref h0), (1, .int p0), (2, .int p1)] := hl
  refine lv_iload_n hx hb dX12_keep_0 rfl (lv_at hl 1 rfl) ?_
  have hPc := hP.sub (ws' := []) [] rfl
  have hDc := hD.sub (ws' := []) [] (by decide) rfl
  have hKc := hK.sub (tys' := []) [] rfl
  have hFc := va_free (wc := []) hD hS hA [] rfl
  refine va_calli (va_runS (As := [.int p0]) (rest := []) ⟨hx, hb, hml, hown, hts⟩ (k_X12_isShelf_0 l dC dI s.heap.size p0) (va_cwS 1 hts gX12_keep_X12_isShelf rfl rfl rfl (by decide +kernel) ⟨Nat.le_of_ble_eq_true rfl, Nat.le_of_ble_eq_true rfl⟩) ⟨fun a U g mk q => by obtain ⟨q0, q1, qP, qK, qD⟩ := q; exact ⟨q0, q1, qP, va_K.moved (u := U) (U := U.calling g mk a) (Vm.Alike.refl U.vm) qK, qD⟩, fun U hU hW => ⟨rfl, by rw [hU], by rw [hU]; exact hPc, va_K.moved hW.alike hKc, hDc.weaken (fun _ _ _ _ => trivial)⟩⟩ rfl rfl hl.1 rfl (lv_room (Nat.le_of_ble_eq_true rfl)) dX12_keep_1 ⟨Nat.le_of_ble_eq_true rfl, Nat.le_of_ble_eq_true rfl⟩) hS (fun q _ h => hFc q h) hFc (fun r_1 u t H1 locs ht hvm hw hB hz1 hk1 hS => ?_)
  obtain ⟨hP1, hK1, hD1⟩ := hB
  rw [ht] at hP1
  have hK1 := va_K.moved hvm.symm hK1
  obtain ⟨hP, hD⟩ := va_join (wr := [(h0, .inr (12, [.int 0, .ref h3, .ref h4, .ref h5, .ref h6, .ref h7, .int 0, .int 0, .ref h8, .int 0, .int 0, .ref h9, .ref h10, .ref h11, .ref h12, .ref h13, .ref h14, .ref h15, .int 0, .int 0, .ref h16, .ref h17, .ref h18, .ref h19, .int 0, .ref h20, .ref h21, .int 0, .ref h22, .int 0, .int 0, .ref h23, .ref h24, .int 0, .int 0, .int 0, .int 0, .int 0, .ref h25, .int 0, .ref h26, .ref h27, .int 0, .int 0, .int 0, .ref h1, .ref h2, .ref h28, .ref h29])), (h1, .inl (cint, 6, .inl (fun _ => (-1)))), (h2, .inl (cint, 6, .inl (fun _ => 0)))]) (w1 := []) hP hD [] [0, 1, 2] rfl rfl (by decide) (by decide) hk1 hFc hP1 hD1
  generalize H1 = H at hP hS ⊢
  have hP : va_P (dC, dI) vwCl [(h0, .inr (12, [.int 0, .ref h3, .ref h4, .ref h5, .ref h6, .ref h7, .int 0, .int 0, .ref h8, .int 0, .int 0, .ref h9, .ref h10, .ref h11, .ref h12, .ref h13, .ref h14, .ref h15, .int 0, .int 0, .ref h16, .ref h17, .ref h18, .ref h19, .int 0, .ref h20, .ref h21, .int 0, .ref h22, .int 0, .int 0, .ref h23, .ref h24, .int 0, .int 0, .int 0, .int 0, .int 0, .ref h25, .int 0, .ref h26, .ref h27, .int 0, .int 0, .int 0, .ref h1, .ref h2, .ref h28, .ref h29])), (h1, .inl (cint, 6, .inl (fun _ => (-1)))), (h2, .inl (cint, 6, .inl (fun _ => 0)))] H := hP
  have hD : va_D A [(h0, .inr (12, [.int 0, .ref h3, .ref h4, .ref h5, .ref h6, .ref h7, .int 0, .int 0, .ref h8, .int 0, .int 0, .ref h9, .ref h10, .ref h11, .ref h12, .ref h13, .ref h14, .ref h15, .int 0, .int 0, .ref h16, .ref h17, .ref h18, .ref h19, .int 0, .ref h20, .ref h21, .int 0, .ref h22, .int 0, .int 0, .ref h23, .ref h24, .int 0, .int 0, .int 0, .int 0, .int 0, .ref h25, .int 0, .ref h26, .ref h27, .int 0, .int 0, .int 0, .ref h1, .ref h2, .ref h28, .ref h29])), (h1, .inl (cint, 6, .inl (fun _ => (-1)))), (h2, .inl (cint, 6, .inl (fun _ => 0)))] := hD
  rcases hw with ⟨t_1_0, rfl⟩ | ⟨t_1_0, t_1_1, rfl⟩ | ⟨t_1_0, t_1_1, rfl⟩
  · skip
    refine lv_if_eq (tgt := 20) hx hb dX12_keep_4 (by decide) (fun _ => ?_) (fun c => absurd c (by decide))
    refine lv_iconst (v := (-1)) hx hb dX12_keep_20 (by decide) ?_
    have hP9 := hP.sub (ws' := []) [] rfl
    have hD9 := hD.sub (ws' := []) [] (by decide) rfl
    have hK9 := hK.sub (tys' := []) [] rfl
    exact W.iret (v := (-1)) hx hb hr (fun t ht hW => ⟨⟨(-1), (), rfl, by first | rfl | ((repeat' split) <;> first | rfl | (exfalso; omega) | (exact Int32.toInt_inj.mp (by show ((-1) : Int) = _; omega))), by rw [ht]; exact hP9, va_K.moved hW.alike hK9, hD9⟩, hS.F ht⟩) hS.2.2 dX12_keep_21
  · skip
    refine lv_if_eq (tgt := 20) hx hb dX12_keep_4 (by decide) (fun _ => ?_) (fun c => absurd c (by decide))
    refine lv_iconst (v := (-1)) hx hb dX12_keep_20 (by decide) ?_
    have hP9 := hP.sub (ws' := []) [] rfl
    have hD9 := hD.sub (ws' := []) [] (by decide) rfl
    have hK9 := hK.sub (tys' := []) [] rfl
    exact W.iret (v := (-1)) hx hb hr (fun t ht hW => ⟨⟨(-1), (), rfl, by first | rfl | ((repeat' split) <;> first | rfl | (exfalso; omega) | (exact Int32.toInt_inj.mp (by show ((-1) : Int) = _; omega))), by rw [ht]; exact hP9, va_K.moved hW.alike hK9, hD9⟩, hS.F ht⟩) hS.2.2 dX12_keep_21
  · skip
    refine lv_if_eq (tgt := 20) hx hb dX12_keep_4 (by decide) (fun c => absurd c (by decide)) (fun _ => ?_)
    refine lv_iload_n hx hb dX12_keep_7 rfl (lv_at hl 2 rfl) ?_
    refine lv_iconst (v := (-1)) hx hb dX12_keep_8 (by decide) ?_
    refine lv_icmp_eq (tgt := 22) hx hb dX12_keep_9 (by decide) (fun c_2 => ?_) (fun c_2 => ?_)
    · have t_2 : p1.toInt = (-1) := kk_eq c_2
      refine lv_aload_n hx hb dX12_keep_22 rfl (lv_at hl 0 rfl) ?_
      refine va_get (D := (dC, dI)) (ci := 12) (v := .ref h1) (C := RX12) (T := TX12) (N := 49) hx hb hts (fun _ h => List.mem_cons_of_mem _ (List.mem_append_right _ h)) hown hK hP 0 rfl rfl 45 (by decide) (hts (.fieldLink RX12 86 "KinkStreetModel" "shelf" "[I") (List.mem_of_getElem? (i := 1) rfl)) (fun _ h9 => h9) rfl dX12_keep_23 ?_
      refine lv_iload_n hx hb dX12_keep_26 rfl (lv_at hl 1 rfl) ?_
      refine lv_iload_n hx hb dX12_keep_27 rfl (lv_at hl 2 rfl) ?_
      refine va_iast hx hb hK hP hD hS 1 0 rfl rfl (vp_in_iff.mpr ⟨by omega, by omega⟩) dX12_keep_28 (fun H locs hP hD hS => ?_)
      generalize upd (fun _ => (-1)) ((p0 : Int32)).toNatClampNeg p1 = f_3 at hP hD
      have hP : va_P (dC, dI) vwCl [(h0, .inr (12, [.int 0, .ref h3, .ref h4, .ref h5, .ref h6, .ref h7, .int 0, .int 0, .ref h8, .int 0, .int 0, .ref h9, .ref h10, .ref h11, .ref h12, .ref h13, .ref h14, .ref h15, .int 0, .int 0, .ref h16, .ref h17, .ref h18, .ref h19, .int 0, .ref h20, .ref h21, .int 0, .ref h22, .int 0, .int 0, .ref h23, .ref h24, .int 0, .int 0, .int 0, .int 0, .int 0, .ref h25, .int 0, .ref h26, .ref h27, .int 0, .int 0, .int 0, .ref h1, .ref h2, .ref h28, .ref h29])), (h1, .inl (cint, 6, .inl f_3)), (h2, .inl (cint, 6, .inl (fun _ => 0)))] H := hP
      have hD : va_D A [(h0, .inr (12, [.int 0, .ref h3, .ref h4, .ref h5, .ref h6, .ref h7, .int 0, .int 0, .ref h8, .int 0, .int 0, .ref h9, .ref h10, .ref h11, .ref h12, .ref h13, .ref h14, .ref h15, .int 0, .int 0, .ref h16, .ref h17, .ref h18, .ref h19, .int 0, .ref h20, .ref h21, .int 0, .ref h22, .int 0, .int 0, .ref h23, .ref h24, .int 0, .int 0, .int 0, .int 0, .int 0, .ref h25, .int 0, .ref h26, .ref h27, .int 0, .int 0, .int 0, .ref h1, .ref h2, .ref h28, .ref h29])), (h1, .inl (cint, 6, .inl f_3)), (h2, .inl (cint, 6, .inl (fun _ => 0)))] := hD
      refine lv_aload_n hx hb dX12_keep_29 rfl (lv_at hl 0 rfl) ?_
      refine va_get (D := (dC, dI)) (ci := 12) (v := .ref h2) (C := RX12) (T := TX12) (N := 49) hx hb hts (fun _ h => List.mem_cons_of_mem _ (List.mem_append_right _ h)) hown hK hP 0 rfl rfl 46 (by decide) (hts (.fieldLink RX12 89 "KinkStreetModel" "many" "[I") (List.mem_of_getElem? (i := 2) rfl)) (fun _ h9 => h9) rfl dX12_keep_30 ?_
      refine lv_iload_n hx hb dX12_keep_33 rfl (lv_at hl 1 rfl) ?_
      refine lv_iconst (v := 0) hx hb dX12_keep_34 (by decide) ?_
      refine va_iast hx hb hK hP hD hS 2 0 rfl rfl (vp_in_iff.mpr ⟨by omega, by omega⟩) dX12_keep_35 (fun H locs hP hD hS => ?_)
      generalize upd (fun _ => 0) ((p0 : Int32)).toNatClampNeg 0 = f_4 at hP hD
      have hP : va_P (dC, dI) vwCl [(h0, .inr (12, [.int 0, .ref h3, .ref h4, .ref h5, .ref h6, .ref h7, .int 0, .int 0, .ref h8, .int 0, .int 0, .ref h9, .ref h10, .ref h11, .ref h12, .ref h13, .ref h14, .ref h15, .int 0, .int 0, .ref h16, .ref h17, .ref h18, .ref h19, .int 0, .ref h20, .ref h21, .int 0, .ref h22, .int 0, .int 0, .ref h23, .ref h24, .int 0, .int 0, .int 0, .int 0, .int 0, .ref h25, .int 0, .ref h26, .ref h27, .int 0, .int 0, .int 0, .ref h1, .ref h2, .ref h28, .ref h29])), (h1, .inl (cint, 6, .inl f_3)), (h2, .inl (cint, 6, .inl f_4))] H := hP
      have hD : va_D A [(h0, .inr (12, [.int 0, .ref h3, .ref h4, .ref h5, .ref h6, .ref h7, .int 0, .int 0, .ref h8, .int 0, .int 0, .ref h9, .ref h10, .ref h11, .ref h12, .ref h13, .ref h14, .ref h15, .int 0, .int 0, .ref h16, .ref h17, .ref h18, .ref h19, .int 0, .ref h20, .ref h21, .int 0, .ref h22, .int 0, .int 0, .ref h23, .ref h24, .int 0, .int 0, .int 0, .int 0, .int 0, .ref h25, .int 0, .ref h26, .ref h27, .int 0, .int 0, .int 0, .ref h1, .ref h2, .ref h28, .ref h29])), (h1, .inl (cint, 6, .inl f_3)), (h2, .inl (cint, 6, .inl f_4))] := hD
      refine lv_iconst (v := 1) hx hb dX12_keep_36 (by decide) ?_
      have hP9 := hP.sub (ws' := []) [] rfl
      have hD9 := hD.sub (ws' := []) [] (by decide) rfl
      have hK9 := hK.sub (tys' := []) [] rfl
      exact W.iret (v := 1) hx hb hr (fun t ht hW => ⟨⟨1, (), rfl, by first | rfl | ((repeat' split) <;> first | rfl | (exfalso; omega) | (exact Int32.toInt_inj.mp (by show (1 : Int) = _; omega))), by rw [ht]; exact hP9, va_K.moved hW.alike hK9, hD9⟩, hS.F ht⟩) hS.2.2 dX12_keep_37
    · have t_2 : p1.toInt ≠ (-1) := kk_ne c_2
      refine lv_aload_n hx hb dX12_keep_12 rfl (lv_at hl 0 rfl) ?_
      refine lv_iload_n hx hb dX12_keep_13 rfl (lv_at hl 2 rfl) ?_
      have hPc := hP.sub (ws' := [(h0, .inr (12, [.int 0, .ref h3, .ref h4, .ref h5, .ref h6, .ref h7, .int 0, .int 0, .ref h8, .int 0, .int 0, .ref h9, .ref h10, .ref h11, .ref h12, .ref h13, .ref h14, .ref h15, .int 0, .int 0, .ref h16, .ref h17, .ref h18, .ref h19, .int 0, .ref h20, .ref h21, .int 0, .ref h22, .int 0, .int 0, .ref h23, .ref h24, .int 0, .int 0, .int 0, .int 0, .int 0, .ref h25, .int 0, .ref h26, .ref h27, .int 0, .int 0, .int 0, .ref h1, .ref h2, .ref h28, .ref h29]))]) [0] rfl
      have hDc := hD.sub (ws' := [(h0, .inr (12, [.int 0, .ref h3, .ref h4, .ref h5, .ref h6, .ref h7, .int 0, .int 0, .ref h8, .int 0, .int 0, .ref h9, .ref h10, .ref h11, .ref h12, .ref h13, .ref h14, .ref h15, .int 0, .int 0, .ref h16, .ref h17, .ref h18, .ref h19, .int 0, .ref h20, .ref h21, .int 0, .ref h22, .int 0, .int 0, .ref h23, .ref h24, .int 0, .int 0, .int 0, .int 0, .int 0, .ref h25, .int 0, .ref h26, .ref h27, .int 0, .int 0, .int 0, .ref h1, .ref h2, .ref h28, .ref h29]))]) [0] (by decide) rfl
      have hKc := hK.sub (tys' := []) [] rfl
      have hFc := va_free (wc := [(h0, .inr (12, [.int 0, .ref h3, .ref h4, .ref h5, .ref h6, .ref h7, .int 0, .int 0, .ref h8, .int 0, .int 0, .ref h9, .ref h10, .ref h11, .ref h12, .ref h13, .ref h14, .ref h15, .int 0, .int 0, .ref h16, .ref h17, .ref h18, .ref h19, .int 0, .ref h20, .ref h21, .int 0, .ref h22, .int 0, .int 0, .ref h23, .ref h24, .int 0, .int 0, .int 0, .int 0, .int 0, .ref h25, .int 0, .ref h26, .ref h27, .int 0, .int 0, .int 0, .ref h1, .ref h2, .ref h28, .ref h29]))]) hD hS hA [0] rfl
      refine va_calli (va_runV (As := [.int p1]) (rest := []) ⟨hx, hb, hml, hown, hts⟩ (k_X12_isBody_0 l dC dI h0 h3 h4 h5 h6 h7 h8 h9 h10 h11 h12 h13 h14 h15 h16 h17 h18 h19 h20 h21 h22 h23 h24 h25 h26 h27 h1 h2 h28 h29 H.size p1) (cwV 1 hts gX12_keep_X12_isBody rfl rfl rfl (by decide +kernel) ⟨Nat.le_of_ble_eq_true rfl, Nat.le_of_ble_eq_true rfl⟩) ⟨fun a U g mk q => by obtain ⟨q0, q1, qP, qK, qD⟩ := q; exact ⟨q0, q1, qP, va_K.moved (u := U) (U := U.calling g mk a) (Vm.Alike.refl U.vm) qK, qD⟩, va_recv hKc hPc (ci := 12) (q0 := 0) rfl rfl, fun U hU hW => ⟨rfl, by rw [hU], by rw [hU]; exact hPc, va_K.moved hW.alike hKc, hDc.weaken (fun _ _ _ _ => trivial)⟩⟩ rfl rfl hl.1 rfl (lv_room (Nat.le_of_ble_eq_true rfl)) dX12_keep_14 ⟨Nat.le_of_ble_eq_true rfl, Nat.le_of_ble_eq_true rfl⟩) hS (fun q _ h => hFc q h) hFc (fun r_5 u t H1 locs ht hvm hw hB hz1 hk1 hS => ?_)
      obtain ⟨hP1, hK1, hD1⟩ := hB
      rw [ht] at hP1
      have hK1 := va_K.moved hvm.symm hK1
      obtain ⟨hP, hD⟩ := va_join (wr := [(h1, .inl (cint, 6, .inl (fun _ => (-1)))), (h2, .inl (cint, 6, .inl (fun _ => 0)))]) (w1 := [(h0, .inr (12, [.int 0, .ref h3, .ref h4, .ref h5, .ref h6, .ref h7, .int 0, .int 0, .ref h8, .int 0, .int 0, .ref h9, .ref h10, .ref h11, .ref h12, .ref h13, .ref h14, .ref h15, .int 0, .int 0, .ref h16, .ref h17, .ref h18, .ref h19, .int 0, .ref h20, .ref h21, .int 0, .ref h22, .int 0, .int 0, .ref h23, .ref h24, .int 0, .int 0, .int 0, .int 0, .int 0, .ref h25, .int 0, .ref h26, .ref h27, .int 0, .int 0, .int 0, .ref h1, .ref h2, .ref h28, .ref h29]))]) hP hD [0] [1, 2] rfl rfl (by decide) (by decide) hk1 hFc hP1 hD1
      generalize H1 = H at hP hS ⊢
      have hP : va_P (dC, dI) vwCl [(h1, .inl (cint, 6, .inl (fun _ => (-1)))), (h2, .inl (cint, 6, .inl (fun _ => 0))), (h0, .inr (12, [.int 0, .ref h3, .ref h4, .ref h5, .ref h6, .ref h7, .int 0, .int 0, .ref h8, .int 0, .int 0, .ref h9, .ref h10, .ref h11, .ref h12, .ref h13, .ref h14, .ref h15, .int 0, .int 0, .ref h16, .ref h17, .ref h18, .ref h19, .int 0, .ref h20, .ref h21, .int 0, .ref h22, .int 0, .int 0, .ref h23, .ref h24, .int 0, .int 0, .int 0, .int 0, .int 0, .ref h25, .int 0, .ref h26, .ref h27, .int 0, .int 0, .int 0, .ref h1, .ref h2, .ref h28, .ref h29]))] H := hP
      have hD : va_D A [(h1, .inl (cint, 6, .inl (fun _ => (-1)))), (h2, .inl (cint, 6, .inl (fun _ => 0))), (h0, .inr (12, [.int 0, .ref h3, .ref h4, .ref h5, .ref h6, .ref h7, .int 0, .int 0, .ref h8, .int 0, .int 0, .ref h9, .ref h10, .ref h11, .ref h12, .ref h13, .ref h14, .ref h15, .int 0, .int 0, .ref h16, .ref h17, .ref h18, .ref h19, .int 0, .ref h20, .ref h21, .int 0, .ref h22, .int 0, .int 0, .ref h23, .ref h24, .int 0, .int 0, .int 0, .int 0, .int 0, .ref h25, .int 0, .ref h26, .ref h27, .int 0, .int 0, .int 0, .ref h1, .ref h2, .ref h28, .ref h29]))] := hD
      obtain rfl := hw
      refine lv_if_ne (tgt := 22) hx hb dX12_keep_17 (by decide) (fun c => absurd c (by decide)) (fun _ => ?_)
      refine lv_iconst (v := (-1)) hx hb dX12_keep_20 (by decide) ?_
      have hP9 := hP.sub (ws' := []) [] rfl
      have hD9 := hD.sub (ws' := []) [] (by decide) rfl
      have hK9 := hK.sub (tys' := []) [] rfl
      exact W.iret (v := (-1)) hx hb hr (fun t ht hW => ⟨⟨(-1), (), rfl, by first | rfl | ((repeat' split) <;> first | rfl | (exfalso; omega) | (exact Int32.toInt_inj.mp (by show ((-1) : Int) = _; omega))), by rw [ht]; exact hP9, va_K.moved hW.alike hK9, hD9⟩, hS.F ht⟩) hS.2.2 dX12_keep_21
set_option maxHeartbeats 4000000 in
set_option maxRecDepth 100000 in
theorem k_X12_within_7 (l : Launch) (dC : Nat → ClassId) (dI : Nat → Nat → Nat) (sz : Nat) (v0 : Int64) (xv0 : Int) (exv0 : v0.toInt = xv0) : Met l yX12_within wsX12_within ({ frames := 0, cells := 0, slots := 0, locals := 0 }) (va_Pc [.long v0, .long 0, .long 4] (fun U => U.heap.size = sz ∧ va_P (dC, dI) vwCl [] U.heap ∧ va_K (dC, dI) vwCl [] U ∧ va_D (fun _ => True) [])) (va_Qi (fun (r : Int32) (_ : Unit) => (xv0 < 0 ∧ r = 0) ∨ (0 ≤ xv0 ∧ 4 < xv0 ∧ r = 0) ∨ (0 ≤ xv0 ∧ xv0 ≤ 4 ∧ r = 1)) (fun (_ : Unit) t => va_P (dC, dI) vwCl [] t.heap ∧ va_K (dC, dI) vwCl [] t ∧ va_D (va_A [] sz) []) (va_A [] sz)) 0 0 (va_A [] sz) := by
  refine Met.ofW (cc := cX12_within) (maxL := 6) (ret := (some .boolean)) (by decide) rfl ?_
  intro p e s m args below meth c s₁ B hml hv
  obtain ⟨rfl, hsz, hP, hK, hD0⟩ := hv
  have hx := B.exec
  have hb := B.bytes
  have hr := B.returns
  have hts := atoms_spec (ws := wsX12_within) B.pre
  have hown : s.vm.findClass RX12 = some m.cls := findClass_of_methodNamed B.named
  have hlocks := B.notSynchronized
  subst hsz
  have hD := hD0.self (sz := s.heap.size)
  generalize hAe : va_A [] s.heap.size = A at hD ⊢
  have hA : ∀ q : Nat, s.heap.size ≤ q → A q := fun q h => by rw [← hAe]; exact Or.inr h
  have hS : va_S A s.heap s.heap [] := va_S.rf
  have hP : va_P (dC, dI) vwCl [] s.heap := hP
  have hl := lv_entry ([.long v0, .long 0, .long 4]) (n := 6) (Nat.le_of_ble_eq_true rfl)
  rw [lg_entry_eq]
  generalize (lg_sl ([.long v0, .long 0, .long 4]) ++ List.replicate (6 - (lg_sl ([.long v0, .long 0, .long 4])).length) Slot.unset).toArray = ls at hl ⊢
  have hl : lv_has ls 6 [(0, .long v0), (2, .long 0), (4, .long 4)] := hl
  refine lv_lload_n hx hb dX12_within_0 rfl (lv_at hl 0 rfl) ?_
  refine lv_lload_n hx hb dX12_within_1 rfl (lv_at hl 1 rfl) ?_
  refine W.lcmp hx hb dX12_within_2 ?_
  refine lv_if_lt (tgt := 17) hx hb dX12_within_3 (by decide) (fun c_1 => ?_) (fun c_1 => ?_)
  · have t_1 : xv0 < 0 := by have h := kk_Lt c_1; have e1 : (0 : Int64).toInt = 0 := (by decide); omega
    refine lv_iconst (v := 0) hx hb dX12_within_17 (by decide) ?_
    have hP9 := hP.sub (ws' := []) [] rfl
    have hD9 := hD.sub (ws' := []) [] (by decide) rfl
    have hK9 := hK.sub (tys' := []) [] rfl
    exact W.zret (v := 0) hx hb hr rfl (fun t ht hW => ⟨⟨0, (), rfl, Or.inl ⟨by first | assumption | omega, rfl⟩, by rw [ht]; exact hP9, va_K.moved hW.alike hK9, hD9⟩, hS.F ht⟩) hS.2.2 dX12_within_18
  · have t_1 : 0 ≤ xv0 := by have h := kk_nLt c_1; have e1 : (0 : Int64).toInt = 0 := (by decide); omega
    refine lv_lload_n hx hb dX12_within_6 rfl (lv_at hl 0 rfl) ?_
    refine lv_lload hx hb dX12_within_7 (lv_at hl 2 rfl) ?_
    refine W.lcmp hx hb dX12_within_9 ?_
    refine lv_if_gt (tgt := 17) hx hb dX12_within_10 (by decide) (fun c_2 => ?_) (fun c_2 => ?_)
    · have t_2 : 4 < xv0 := by have h := kk_Gt c_2; have e1 : (4 : Int64).toInt = 4 := (by decide); omega
      refine lv_iconst (v := 0) hx hb dX12_within_17 (by decide) ?_
      have hP9 := hP.sub (ws' := []) [] rfl
      have hD9 := hD.sub (ws' := []) [] (by decide) rfl
      have hK9 := hK.sub (tys' := []) [] rfl
      exact W.zret (v := 0) hx hb hr rfl (fun t ht hW => ⟨⟨0, (), rfl, Or.inr (Or.inl ⟨by first | assumption | omega, by first | assumption | omega, rfl⟩), by rw [ht]; exact hP9, va_K.moved hW.alike hK9, hD9⟩, hS.F ht⟩) hS.2.2 dX12_within_18
    · have t_2 : xv0 ≤ 4 := by have h := kk_nGt c_2; have e1 : (4 : Int64).toInt = 4 := (by decide); omega
      refine lv_iconst (v := 1) hx hb dX12_within_13 (by decide) ?_
      refine lv_goto (tgt := 18) hx hb dX12_within_14 (by decide) ?_
      have hP9 := hP.sub (ws' := []) [] rfl
      have hD9 := hD.sub (ws' := []) [] (by decide) rfl
      have hK9 := hK.sub (tys' := []) [] rfl
      exact W.zret (v := 1) hx hb hr rfl (fun t ht hW => ⟨⟨1, (), rfl, Or.inr (Or.inr (⟨by first | assumption | omega, by first | assumption | omega, rfl⟩)), by rw [ht]; exact hP9, va_K.moved hW.alike hK9, hD9⟩, hS.F ht⟩) hS.2.2 dX12_within_18
set_option maxHeartbeats 4000000 in
set_option maxRecDepth 100000 in
theorem k_X12_row_0 (l : Launch) (dC : Nat → ClassId) (dI : Nat → Nat → Nat) (h0 h1 h2 h3 h4 h5 h6 h7 h8 h9 h10 h11 h12 h13 h14 h15 h16 h17 h18 h19 h20 h21 h22 h23 h24 h25 h26 h27 h28 h29 : Nat) (cint clong : ClassId) (sz : Nat) (p0 : Int32) (p1 : Int32) (p2 : Int32) : Met l yX12_row wsX12_row ({ frames := 2, cells := 0, slots := 0, locals := 45 }) (va_Pc [.ref h0, .int p0, .int p1, .int p2] (fun U => U.heap.size = sz ∧ va_P (dC, dI) vwCl [(h0, .inr (12, [.int 0, .ref h4, .ref h5, .ref h6, .ref h7, .ref h8, .int 0, .int 0, .ref h9, .int 0, .int 0, .ref h10, .ref h11, .ref h12, .ref h13, .ref h14, .ref h15, .ref h16, .int 0, .int 0, .ref h17, .ref h18, .ref h19, .ref h20, .int 0, .ref h21, .ref h22, .int 0, .ref h23, .int 0, .int 0, .ref h24, .ref h25, .int 0, .int 0, .int 0, .int 0, .int 0, .ref h26, .int 0, .ref h27, .ref h28, .int 0, .int 0, .int 0, .ref h1, .ref h2, .ref h3, .ref h29])), (h1, .inl (cint, 6, .inl (fun _ => (-1)))), (h2, .inl (cint, 6, .inl (fun _ => 0))), (h3, .inl (clong, 360, .inr (.inl (fun _ => 0))))] U.heap ∧ va_K (dC, dI) vwCl [(cint, .int), (clong, .long)] U ∧ va_D (fun _ => True) [(h0, .inr (12, [.int 0, .ref h4, .ref h5, .ref h6, .ref h7, .ref h8, .int 0, .int 0, .ref h9, .int 0, .int 0, .ref h10, .ref h11, .ref h12, .ref h13, .ref h14, .ref h15, .ref h16, .int 0, .int 0, .ref h17, .ref h18, .ref h19, .ref h20, .int 0, .ref h21, .ref h22, .int 0, .ref h23, .int 0, .int 0, .ref h24, .ref h25, .int 0, .int 0, .int 0, .int 0, .int 0, .ref h26, .int 0, .ref h27, .ref h28, .int 0, .int 0, .int 0, .ref h1, .ref h2, .ref h3, .ref h29])), (h1, .inl (cint, 6, .inl (fun _ => (-1)))), (h2, .inl (cint, 6, .inl (fun _ => 0))), (h3, .inl (clong, 360, .inr (.inl (fun _ => 0))))])) (va_Qi (fun (r : Int32) (_ : Unit) => r = if 0 ≤ p0.toInt ∧ p0.toInt < 6 ∧ 0 ≤ p1.toInt ∧ p1.toInt ≤ 4 ∧ p2.toInt ≤ 60 then (if p2.toInt < 0 then (-14 : Int32) else 1) else -1) (fun (_ : Unit) t => va_P (dC, dI) vwCl [] t.heap ∧ va_K (dC, dI) vwCl [] t ∧ va_D (va_A [(h0, .inr (12, [.int 0, .ref h4, .ref h5, .ref h6, .ref h7, .ref h8, .int 0, .int 0, .ref h9, .int 0, .int 0, .ref h10, .ref h11, .ref h12, .ref h13, .ref h14, .ref h15, .ref h16, .int 0, .int 0, .ref h17, .ref h18, .ref h19, .ref h20, .int 0, .ref h21, .ref h22, .int 0, .ref h23, .int 0, .int 0, .ref h24, .ref h25, .int 0, .int 0, .int 0, .int 0, .int 0, .ref h26, .int 0, .ref h27, .ref h28, .int 0, .int 0, .int 0, .ref h1, .ref h2, .ref h3, .ref h29])), (h1, .inl (cint, 6, .inl (fun _ => (-1)))), (h2, .inl (cint, 6, .inl (fun _ => 0))), (h3, .inl (clong, 360, .inr (.inl (fun _ => 0))))] sz) []) (va_A [(h0, .inr (12, [.int 0, .ref h4, .ref h5, .ref h6, .ref h7, .ref h8, .int 0, .int 0, .ref h9, .int 0, .int 0, .ref h10, .ref h11, .ref h12, .ref h13, .ref h14, .ref h15, .ref h16, .int 0, .int 0, .ref h17, .ref h18, .ref h19, .ref h20, .int 0, .ref h21, .ref h22, .int 0, .ref h23, .int 0, .int 0, .ref h24, .ref h25, .int 0, .int 0, .int 0, .int 0, .int 0, .ref h26, .int 0, .ref h27, .ref h28, .int 0, .int 0, .int 0, .ref h1, .ref h2, .ref h3, .ref h29])), (h1, .inl (cint, 6, .inl (fun _ => (-1)))), (h2, .inl (cint, 6, .inl (fun _ => 0))), (h3, .inl (clong, 360, .inr (.inl (fun _ => 0))))] sz)) 0 0 (va_A [(h0, .inr (12, [.int 0, .ref h4, .ref h5, .ref h6, .ref h7, .ref h8, .int 0, .int 0, .ref h9, .int 0, .int 0, .ref h10, .ref h11, .ref h12, .ref h13, .ref h14, .ref h15, .ref h16, .int 0, .int 0, .ref h17, .ref h18, .ref h19, .ref h20, .int 0, .ref h21, .ref h22, .int 0, .ref h23, .int 0, .int 0, .ref h24, .ref h25, .int 0, .int 0, .int 0, .int 0, .int 0, .ref h26, .int 0, .ref h27, .ref h28, .int 0, .int 0, .int 0, .ref h1, .ref h2, .ref h3, .ref h29])), (h1, .inl (cint, 6, .inl (fun _ => (-1)))), (h2, .inl (cint, 6, .inl (fun _ => 0))), (h3, .inl (clong, 360, .inr (.inl (fun _ => 0))))] sz) := by
  refine Met.ofW (cc := cX12_row) (maxL := 5) (ret := (some .int)) (by decide) rfl ?_
  intro p e s m args below meth c s₁ B hml hv
  obtain ⟨rfl, hsz, hP, hK, hD0⟩ := hv
  have hx := B.exec
  have hb := B.bytes
  have hr := B.returns
  have hts := atoms_spec (ws := wsX12_row) B.pre
  have hown : s.vm.findClass RX12 = some m.cls := findClass_of_methodNamed B.named
  have hlocks := B.notSynchronized
  subst hsz
  have hD := hD0.self (sz := s.heap.size)
  generalize hAe : va_A [(h0, .inr (12, [.int 0, .ref h4, .ref h5, .ref h6, .ref h7, .ref h8, .int 0, .int 0, .ref h9, .int 0, .int 0, .ref h10, .ref h11, .ref h12, .ref h13, .ref h14, .ref h15, .ref h16, .int 0, .int 0, .ref h17, .ref h18, .ref h19, .ref h20, .int 0, .ref h21, .ref h22, .int 0, .ref h23, .int 0, .int 0, .ref h24, .ref h25, .int 0, .int 0, .int 0, .int 0, .int 0, .ref h26, .int 0, .ref h27, .ref h28, .int 0, .int 0, .int 0, .ref h1, .ref h2, .ref h3, .ref h29])), (h1, .inl (cint, 6, .inl (fun _ => (-1)))), (h2, .inl (cint, 6, .inl (fun _ => 0))), (h3, .inl (clong, 360, .inr (.inl (fun _ => 0))))] s.heap.size = A at hD ⊢
  have hA : ∀ q : Nat, s.heap.size ≤ q → A q := fun q h => by rw [← hAe]; exact Or.inr h
  have hS : va_S A s.heap s.heap [] := va_S.rf
  have hP : va_P (dC, dI) vwCl [(h0, .inr (12, [.int 0, .ref h4, .ref h5, .ref h6, .ref h7, .ref h8, .int 0, .int 0, .ref h9, .int 0, .int 0, .ref h10, .ref h11, .ref h12, .ref h13, .ref h14, .ref h15, .ref h16, .int 0, .int 0, .ref h17, .ref h18, .ref h19, .ref h20, .int 0, .ref h21, .ref h22, .int 0, .ref h23, .int 0, .int 0, .ref h24, .ref h25, .int 0, .int 0, .int 0, .int 0, .int 0, .ref h26, .int 0, .ref h27, .ref h28, .int 0, .int 0, .int 0, .ref h1, .ref h2, .ref h3, .ref h29])), (h1, .inl (cint, 6, .inl (fun _ => (-1)))), (h2, .inl (cint, 6, .inl (fun _ => 0))), (h3, .inl (clong, 360, .inr (.inl (fun _ => 0))))] s.heap := hP
  have hl := lv_entry ([.ref h0, .int p0, .int p1, .int p2]) (n := 5) (Nat.le_of_ble_eq_true rfl)
  rw [lg_entry_eq]
  generalize (lg_sl ([.ref h0, .int p0, .int p1, .int p2]) ++ List.replicate (5 - (lg_sl ([.ref h0, .int p0, .int p1, .int p2])).length) Slot.unset).toArray = ls at hl ⊢
  have hl : lv_has ls 5 [(0, .ref h0), (1, .int p0), (2, .int p1), (3, .int p2)] := hl
  refine lv_iload_n hx hb dX12_row_0 rfl (lv_at hl 1 rfl) ?_
  have hPc := hP.sub (ws' := []) [] rfl
  have hDc := hD.sub (ws' := []) [] (by decide) rfl
  have hKc := hK.sub (tys' := []) [] rfl
  have hFc := va_free (wc := []) hD hS hA [] rfl
  refine va_calli (va_runS (As := [.int p0]) (rest := []) ⟨hx, hb, hml, hown, hts⟩ (k_X12_isShelf_0 l dC dI s.heap.size p0) (va_cwS 1 hts gX12_row_X12_isShelf rfl rfl rfl (by decide +kernel) ⟨Nat.le_of_ble_eq_true rfl, Nat.le_of_ble_eq_true rfl⟩) ⟨fun a U g mk q => by obtain ⟨q0, q1, qP, qK, qD⟩ := q; exact ⟨q0, q1, qP, va_K.moved (u := U) (U := U.calling g mk a) (Vm.Alike.refl U.vm) qK, qD⟩, fun U hU hW => ⟨rfl, by rw [hU], by rw [hU]; exact hPc, va_K.moved hW.alike hKc, hDc.weaken (fun _ _ _ _ => trivial)⟩⟩ rfl rfl hl.1 rfl (lv_room (Nat.le_of_ble_eq_true rfl)) dX12_row_1 ⟨Nat.le_of_ble_eq_true rfl, Nat.le_of_ble_eq_true rfl⟩) hS (fun q _ h => hFc q h) hFc (fun r_1 u t H1 locs ht hvm hw hB hz1 hk1 hS => ?_)
  obtain ⟨hP1, hK1, hD1⟩ := hB
  rw [ht] at hP1
  have hK1 := va_K.moved hvm.symm hK1
  obtain ⟨hP, hD⟩ := va_join (wr := [(h0, .inr (12, [.int 0, .ref h4, .ref h5, .ref h6, .ref h7, .ref h8, .int 0, .int 0, .ref h9, .int 0, .int 0, .ref h10, .ref h11, .ref h12, .ref h13, .ref h14, .ref h15, .ref h16, .int 0, .int 0, .ref h17, .ref h18, .ref h19, .ref h20, .int 0, .ref h21, .ref h22, .int 0, .ref h23, .int 0, .int 0, .ref h24, .ref h25, .int 0, .int 0, .int 0, .int 0, .int 0, .ref h26, .int 0, .ref h27, .ref h28, .int 0, .int 0, .int 0, .ref h1, .ref h2, .ref h3, .ref h29])), (h1, .inl (cint, 6, .inl (fun _ => (-1)))), (h2, .inl (cint, 6, .inl (fun _ => 0))), (h3, .inl (clong, 360, .inr (.inl (fun _ => 0))))]) (w1 := []) hP hD [] [0, 1, 2, 3] rfl rfl (by decide) (by decide) hk1 hFc hP1 hD1
  generalize H1 = H at hP hS ⊢
  have hP : va_P (dC, dI) vwCl [(h0, .inr (12, [.int 0, .ref h4, .ref h5, .ref h6, .ref h7, .ref h8, .int 0, .int 0, .ref h9, .int 0, .int 0, .ref h10, .ref h11, .ref h12, .ref h13, .ref h14, .ref h15, .ref h16, .int 0, .int 0, .ref h17, .ref h18, .ref h19, .ref h20, .int 0, .ref h21, .ref h22, .int 0, .ref h23, .int 0, .int 0, .ref h24, .ref h25, .int 0, .int 0, .int 0, .int 0, .int 0, .ref h26, .int 0, .ref h27, .ref h28, .int 0, .int 0, .int 0, .ref h1, .ref h2, .ref h3, .ref h29])), (h1, .inl (cint, 6, .inl (fun _ => (-1)))), (h2, .inl (cint, 6, .inl (fun _ => 0))), (h3, .inl (clong, 360, .inr (.inl (fun _ => 0))))] H := hP
  have hD : va_D A [(h0, .inr (12, [.int 0, .ref h4, .ref h5, .ref h6, .ref h7, .ref h8, .int 0, .int 0, .ref h9, .int 0, .int 0, .ref h10, .ref h11, .ref h12, .ref h13, .ref h14, .ref h15, .ref h16, .int 0, .int 0, .ref h17, .ref h18, .ref h19, .ref h20, .int 0, .ref h21, .ref h22, .int 0, .ref h23, .int 0, .int 0, .ref h24, .ref h25, .int 0, .int 0, .int 0, .int 0, .int 0, .ref h26, .int 0, .ref h27, .ref h28, .int 0, .int 0, .int 0, .ref h1, .ref h2, .ref h3, .ref h29])), (h1, .inl (cint, 6, .inl (fun _ => (-1)))), (h2, .inl (cint, 6, .inl (fun _ => 0))), (h3, .inl (clong, 360, .inr (.inl (fun _ => 0))))] := hD
  rcases hw with ⟨t_1_0, rfl⟩ | ⟨t_1_0, t_1_1, rfl⟩ | ⟨t_1_0, t_1_1, rfl⟩
  · skip
    refine lv_if_eq (tgt := 25) hx hb dX12_row_4 (by decide) (fun _ => ?_) (fun c => absurd c (by decide))
    refine lv_iconst (v := (-1)) hx hb dX12_row_25 (by decide) ?_
    have hP9 := hP.sub (ws' := []) [] rfl
    have hD9 := hD.sub (ws' := []) [] (by decide) rfl
    have hK9 := hK.sub (tys' := []) [] rfl
    exact W.iret (v := (-1)) hx hb hr (fun t ht hW => ⟨⟨(-1), (), rfl, by first | rfl | ((repeat' split) <;> first | rfl | (exfalso; omega) | (exact Int32.toInt_inj.mp (by show ((-1) : Int) = _; omega))), by rw [ht]; exact hP9, va_K.moved hW.alike hK9, hD9⟩, hS.F ht⟩) hS.2.2 dX12_row_26
  · skip
    refine lv_if_eq (tgt := 25) hx hb dX12_row_4 (by decide) (fun _ => ?_) (fun c => absurd c (by decide))
    refine lv_iconst (v := (-1)) hx hb dX12_row_25 (by decide) ?_
    have hP9 := hP.sub (ws' := []) [] rfl
    have hD9 := hD.sub (ws' := []) [] (by decide) rfl
    have hK9 := hK.sub (tys' := []) [] rfl
    exact W.iret (v := (-1)) hx hb hr (fun t ht hW => ⟨⟨(-1), (), rfl, by first | rfl | ((repeat' split) <;> first | rfl | (exfalso; omega) | (exact Int32.toInt_inj.mp (by show ((-1) : Int) = _; omega))), by rw [ht]; exact hP9, va_K.moved hW.alike hK9, hD9⟩, hS.F ht⟩) hS.2.2 dX12_row_26
  · skip
    refine lv_if_eq (tgt := 25) hx hb dX12_row_4 (by decide) (fun c => absurd c (by decide)) (fun _ => ?_)
    refine lv_iload_n hx hb dX12_row_7 rfl (lv_at hl 2 rfl) ?_
    refine lv_i2l (v := (p1).toInt64) hx hb dX12_row_8 (by first | rfl | decide) ?_
    refine lv_lconst (v := 0) hx hb dX12_row_9 (by decide) ?_
    refine lv_ldc2 hx hb hown (hts _ (List.mem_of_getElem? (i := 1) rfl)) dX12_row_10 ?_
    have hPc := hP.sub (ws' := []) [] rfl
    have hDc := hD.sub (ws' := []) [] (by decide) rfl
    have hKc := hK.sub (tys' := []) [] rfl
    have hFc := va_free (wc := []) hD hS hA [] rfl
    refine va_calli (va_runS (As := [.long (p1).toInt64, .long 0, .long 4]) (rest := []) ⟨hx, hb, hml, hown, hts⟩ (k_X12_within_7 l dC dI H.size (p1).toInt64 (p1.toInt) (kk_64 _)) (va_cwS 3 hts gX12_row_X12_within rfl rfl rfl (by decide +kernel) ⟨Nat.le_of_ble_eq_true rfl, Nat.le_of_ble_eq_true rfl⟩) ⟨fun a U g mk q => by obtain ⟨q0, q1, qP, qK, qD⟩ := q; exact ⟨q0, q1, qP, va_K.moved (u := U) (U := U.calling g mk a) (Vm.Alike.refl U.vm) qK, qD⟩, fun U hU hW => ⟨rfl, by rw [hU], by rw [hU]; exact hPc, va_K.moved hW.alike hKc, hDc.weaken (fun _ _ _ _ => trivial)⟩⟩ rfl rfl hl.1 rfl (lv_room (Nat.le_of_ble_eq_true rfl)) dX12_row_13 ⟨Nat.le_of_ble_eq_true rfl, Nat.le_of_ble_eq_true rfl⟩) hS (fun q _ h => hFc q h) hFc (fun r_2 u t H1 locs ht hvm hw hB hz1 hk1 hS => ?_)
    obtain ⟨hP1, hK1, hD1⟩ := hB
    rw [ht] at hP1
    have hK1 := va_K.moved hvm.symm hK1
    obtain ⟨hP, hD⟩ := va_join (wr := [(h0, .inr (12, [.int 0, .ref h4, .ref h5, .ref h6, .ref h7, .ref h8, .int 0, .int 0, .ref h9, .int 0, .int 0, .ref h10, .ref h11, .ref h12, .ref h13, .ref h14, .ref h15, .ref h16, .int 0, .int 0, .ref h17, .ref h18, .ref h19, .ref h20, .int 0, .ref h21, .ref h22, .int 0, .ref h23, .int 0, .int 0, .ref h24, .ref h25, .int 0, .int 0, .int 0, .int 0, .int 0, .ref h26, .int 0, .ref h27, .ref h28, .int 0, .int 0, .int 0, .ref h1, .ref h2, .ref h3, .ref h29])), (h1, .inl (cint, 6, .inl (fun _ => (-1)))), (h2, .inl (cint, 6, .inl (fun _ => 0))), (h3, .inl (clong, 360, .inr (.inl (fun _ => 0))))]) (w1 := []) hP hD [] [0, 1, 2, 3] rfl rfl (by decide) (by decide) hk1 hFc hP1 hD1
    generalize H1 = H at hP hS ⊢
    have hP : va_P (dC, dI) vwCl [(h0, .inr (12, [.int 0, .ref h4, .ref h5, .ref h6, .ref h7, .ref h8, .int 0, .int 0, .ref h9, .int 0, .int 0, .ref h10, .ref h11, .ref h12, .ref h13, .ref h14, .ref h15, .ref h16, .int 0, .int 0, .ref h17, .ref h18, .ref h19, .ref h20, .int 0, .ref h21, .ref h22, .int 0, .ref h23, .int 0, .int 0, .ref h24, .ref h25, .int 0, .int 0, .int 0, .int 0, .int 0, .ref h26, .int 0, .ref h27, .ref h28, .int 0, .int 0, .int 0, .ref h1, .ref h2, .ref h3, .ref h29])), (h1, .inl (cint, 6, .inl (fun _ => (-1)))), (h2, .inl (cint, 6, .inl (fun _ => 0))), (h3, .inl (clong, 360, .inr (.inl (fun _ => 0))))] H := hP
    have hD : va_D A [(h0, .inr (12, [.int 0, .ref h4, .ref h5, .ref h6, .ref h7, .ref h8, .int 0, .int 0, .ref h9, .int 0, .int 0, .ref h10, .ref h11, .ref h12, .ref h13, .ref h14, .ref h15, .ref h16, .int 0, .int 0, .ref h17, .ref h18, .ref h19, .ref h20, .int 0, .ref h21, .ref h22, .int 0, .ref h23, .int 0, .int 0, .ref h24, .ref h25, .int 0, .int 0, .int 0, .int 0, .int 0, .ref h26, .int 0, .ref h27, .ref h28, .int 0, .int 0, .int 0, .ref h1, .ref h2, .ref h3, .ref h29])), (h1, .inl (cint, 6, .inl (fun _ => (-1)))), (h2, .inl (cint, 6, .inl (fun _ => 0))), (h3, .inl (clong, 360, .inr (.inl (fun _ => 0))))] := hD
    rcases hw with ⟨t_2_0, rfl⟩ | ⟨t_2_0, t_2_1, rfl⟩ | ⟨t_2_0, t_2_1, rfl⟩
    · skip
      refine lv_if_eq (tgt := 25) hx hb dX12_row_16 (by decide) (fun _ => ?_) (fun c => absurd c (by decide))
      refine lv_iconst (v := (-1)) hx hb dX12_row_25 (by decide) ?_
      have hP9 := hP.sub (ws' := []) [] rfl
      have hD9 := hD.sub (ws' := []) [] (by decide) rfl
      have hK9 := hK.sub (tys' := []) [] rfl
      exact W.iret (v := (-1)) hx hb hr (fun t ht hW => ⟨⟨(-1), (), rfl, by first | rfl | ((repeat' split) <;> first | rfl | (exfalso; omega) | (exact Int32.toInt_inj.mp (by show ((-1) : Int) = _; omega))), by rw [ht]; exact hP9, va_K.moved hW.alike hK9, hD9⟩, hS.F ht⟩) hS.2.2 dX12_row_26
    · skip
      refine lv_if_eq (tgt := 25) hx hb dX12_row_16 (by decide) (fun _ => ?_) (fun c => absurd c (by decide))
      refine lv_iconst (v := (-1)) hx hb dX12_row_25 (by decide) ?_
      have hP9 := hP.sub (ws' := []) [] rfl
      have hD9 := hD.sub (ws' := []) [] (by decide) rfl
      have hK9 := hK.sub (tys' := []) [] rfl
      exact W.iret (v := (-1)) hx hb hr (fun t ht hW => ⟨⟨(-1), (), rfl, by first | rfl | ((repeat' split) <;> first | rfl | (exfalso; omega) | (exact Int32.toInt_inj.mp (by show ((-1) : Int) = _; omega))), by rw [ht]; exact hP9, va_K.moved hW.alike hK9, hD9⟩, hS.F ht⟩) hS.2.2 dX12_row_26
    · skip
      refine lv_if_eq (tgt := 25) hx hb dX12_row_16 (by decide) (fun c => absurd c (by decide)) (fun _ => ?_)
      refine lv_iload_n hx hb dX12_row_19 rfl (lv_at hl 3 rfl) ?_
      refine lv_bipush (v := 60) hx hb dX12_row_20 (by decide) ?_
      refine lv_icmp_le (tgt := 27) hx hb dX12_row_22 (by decide) (fun c_3 => ?_) (fun c_3 => ?_)
      · have t_3 : p2.toInt ≤ 60 := kk_le c_3
        refine lv_iload_n hx hb dX12_row_27 rfl (lv_at hl 3 rfl) ?_
        refine lv_if_ge (tgt := 34) hx hb dX12_row_28 (by decide) (fun c_4 => ?_) (fun c_4 => ?_)
        · have t_4 : 0 ≤ p2.toInt := kk_le c_4
          rcases (show p0 = 0 ∨ p0 = 1 ∨ p0 = 2 ∨ p0 = 3 ∨ p0 = 4 ∨ p0 = 5 from by simp only [← Int32.toInt_inj]; simp; omega) with e_5 | e_5 | e_5 | e_5 | e_5 | e_5
          · have t_5 : p0.toInt = 0 := by rw [e_5]; rfl
            subst e_5
            refine lv_aload_n hx hb dX12_row_34 rfl (lv_at hl 0 rfl) ?_
            refine va_get (D := (dC, dI)) (ci := 12) (v := .ref h1) (C := RX12) (T := TX12) (N := 49) hx hb hts (fun _ h => List.mem_cons_of_mem _ (List.mem_append_right _ h)) hown hK hP 0 rfl rfl 45 (by decide) (hts (.fieldLink RX12 86 "KinkStreetModel" "shelf" "[I") (List.mem_of_getElem? (i := 2) rfl)) (fun _ h9 => h9) rfl dX12_row_35 ?_
            refine lv_iload_n hx hb dX12_row_38 rfl (lv_at hl 1 rfl) ?_
            refine lv_bipush (v := 50) hx hb dX12_row_39 (by decide) ?_
            refine lv_iload_n hx hb dX12_row_41 rfl (lv_at hl 2 rfl) ?_
            refine lv_iadd hx hb dX12_row_42 ?_
            refine va_iast hx hb hK hP hD hS 1 0 rfl rfl (by unfold vp_in; decide) dX12_row_43 (fun H locs hP hD hS => ?_)
            have hP : va_P (dC, dI) vwCl [(h0, .inr (12, [.int 0, .ref h4, .ref h5, .ref h6, .ref h7, .ref h8, .int 0, .int 0, .ref h9, .int 0, .int 0, .ref h10, .ref h11, .ref h12, .ref h13, .ref h14, .ref h15, .ref h16, .int 0, .int 0, .ref h17, .ref h18, .ref h19, .ref h20, .int 0, .ref h21, .ref h22, .int 0, .ref h23, .int 0, .int 0, .ref h24, .ref h25, .int 0, .int 0, .int 0, .int 0, .int 0, .ref h26, .int 0, .ref h27, .ref h28, .int 0, .int 0, .int 0, .ref h1, .ref h2, .ref h3, .ref h29])), (h1, .inl (cint, 6, .inl (upd (fun _ => (-1)) (0 : Int32).toNatClampNeg (50 + p1)))), (h2, .inl (cint, 6, .inl (fun _ => 0))), (h3, .inl (clong, 360, .inr (.inl (fun _ => 0))))] H := hP
            have hD : va_D A [(h0, .inr (12, [.int 0, .ref h4, .ref h5, .ref h6, .ref h7, .ref h8, .int 0, .int 0, .ref h9, .int 0, .int 0, .ref h10, .ref h11, .ref h12, .ref h13, .ref h14, .ref h15, .ref h16, .int 0, .int 0, .ref h17, .ref h18, .ref h19, .ref h20, .int 0, .ref h21, .ref h22, .int 0, .ref h23, .int 0, .int 0, .ref h24, .ref h25, .int 0, .int 0, .int 0, .int 0, .int 0, .ref h26, .int 0, .ref h27, .ref h28, .int 0, .int 0, .int 0, .ref h1, .ref h2, .ref h3, .ref h29])), (h1, .inl (cint, 6, .inl (upd (fun _ => (-1)) (0 : Int32).toNatClampNeg (50 + p1)))), (h2, .inl (cint, 6, .inl (fun _ => 0))), (h3, .inl (clong, 360, .inr (.inl (fun _ => 0))))] := hD
            refine lv_aload_n hx hb dX12_row_44 rfl (lv_at hl 0 rfl) ?_
            refine va_get (D := (dC, dI)) (ci := 12) (v := .ref h2) (C := RX12) (T := TX12) (N := 49) hx hb hts (fun _ h => List.mem_cons_of_mem _ (List.mem_append_right _ h)) hown hK hP 0 rfl rfl 46 (by decide) (hts (.fieldLink RX12 89 "KinkStreetModel" "many" "[I") (List.mem_of_getElem? (i := 3) rfl)) (fun _ h9 => h9) rfl dX12_row_45 ?_
            refine lv_iload_n hx hb dX12_row_48 rfl (lv_at hl 1 rfl) ?_
            refine lv_iload_n hx hb dX12_row_49 rfl (lv_at hl 3 rfl) ?_
            refine va_iast hx hb hK hP hD hS 2 0 rfl rfl (by unfold vp_in; decide) dX12_row_50 (fun H locs hP hD hS => ?_)
            have hP : va_P (dC, dI) vwCl [(h0, .inr (12, [.int 0, .ref h4, .ref h5, .ref h6, .ref h7, .ref h8, .int 0, .int 0, .ref h9, .int 0, .int 0, .ref h10, .ref h11, .ref h12, .ref h13, .ref h14, .ref h15, .ref h16, .int 0, .int 0, .ref h17, .ref h18, .ref h19, .ref h20, .int 0, .ref h21, .ref h22, .int 0, .ref h23, .int 0, .int 0, .ref h24, .ref h25, .int 0, .int 0, .int 0, .int 0, .int 0, .ref h26, .int 0, .ref h27, .ref h28, .int 0, .int 0, .int 0, .ref h1, .ref h2, .ref h3, .ref h29])), (h1, .inl (cint, 6, .inl (upd (fun _ => (-1)) (0 : Int32).toNatClampNeg (50 + p1)))), (h2, .inl (cint, 6, .inl (upd (fun _ => 0) (0 : Int32).toNatClampNeg p2))), (h3, .inl (clong, 360, .inr (.inl (fun _ => 0))))] H := hP
            have hD : va_D A [(h0, .inr (12, [.int 0, .ref h4, .ref h5, .ref h6, .ref h7, .ref h8, .int 0, .int 0, .ref h9, .int 0, .int 0, .ref h10, .ref h11, .ref h12, .ref h13, .ref h14, .ref h15, .ref h16, .int 0, .int 0, .ref h17, .ref h18, .ref h19, .ref h20, .int 0, .ref h21, .ref h22, .int 0, .ref h23, .int 0, .int 0, .ref h24, .ref h25, .int 0, .int 0, .int 0, .int 0, .int 0, .ref h26, .int 0, .ref h27, .ref h28, .int 0, .int 0, .int 0, .ref h1, .ref h2, .ref h3, .ref h29])), (h1, .inl (cint, 6, .inl (upd (fun _ => (-1)) (0 : Int32).toNatClampNeg (50 + p1)))), (h2, .inl (cint, 6, .inl (upd (fun _ => 0) (0 : Int32).toNatClampNeg p2))), (h3, .inl (clong, 360, .inr (.inl (fun _ => 0))))] := hD
            refine lv_bipush (v := 60) hx hb dX12_row_51 (by decide) ?_
            refine lv_iload_n hx hb dX12_row_53 rfl (lv_at hl 1 rfl) ?_
            refine lv_imul hx hb dX12_row_54 ?_
            refine lv_topi (fun y_6 e_6 => ?_)
            obtain rfl : y_6 = 0 := e_6.trans (by decide)
            refine lv_istore (lv' := [(4, .int 0), (0, .ref h0), (1, .int 0), (2, .int p1), (3, .int p2)]) hx hb dX12_row_55 hl (by decide) rfl (fun ls hl => ?_)
            refine kk_loop (σ := Int32 × (Nat → Int64)) (fun x H locs ls => 0 ≤ x.1.toInt ∧ x.1.toInt ≤ 60 ∧ va_P (dC, dI) vwCl [(h0, .inr (12, [.int 0, .ref h4, .ref h5, .ref h6, .ref h7, .ref h8, .int 0, .int 0, .ref h9, .int 0, .int 0, .ref h10, .ref h11, .ref h12, .ref h13, .ref h14, .ref h15, .ref h16, .int 0, .int 0, .ref h17, .ref h18, .ref h19, .ref h20, .int 0, .ref h21, .ref h22, .int 0, .ref h23, .int 0, .int 0, .ref h24, .ref h25, .int 0, .int 0, .int 0, .int 0, .int 0, .ref h26, .int 0, .ref h27, .ref h28, .int 0, .int 0, .int 0, .ref h1, .ref h2, .ref h3, .ref h29])), (h1, .inl (cint, 6, .inl (upd (fun _ => (-1)) (0 : Int32).toNatClampNeg (50 + p1)))), (h2, .inl (cint, 6, .inl (upd (fun _ => 0) (0 : Int32).toNatClampNeg p2))), (h3, .inl (clong, 360, .inr (.inl x.2)))] H ∧ va_D A [(h0, .inr (12, [.int 0, .ref h4, .ref h5, .ref h6, .ref h7, .ref h8, .int 0, .int 0, .ref h9, .int 0, .int 0, .ref h10, .ref h11, .ref h12, .ref h13, .ref h14, .ref h15, .ref h16, .int 0, .int 0, .ref h17, .ref h18, .ref h19, .ref h20, .int 0, .ref h21, .ref h22, .int 0, .ref h23, .int 0, .int 0, .ref h24, .ref h25, .int 0, .int 0, .int 0, .int 0, .int 0, .ref h26, .int 0, .ref h27, .ref h28, .int 0, .int 0, .int 0, .ref h1, .ref h2, .ref h3, .ref h29])), (h1, .inl (cint, 6, .inl (upd (fun _ => (-1)) (0 : Int32).toNatClampNeg (50 + p1)))), (h2, .inl (cint, 6, .inl (upd (fun _ => 0) (0 : Int32).toNatClampNeg p2))), (h3, .inl (clong, 360, .inr (.inl x.2)))] ∧ va_S A s.heap H locs ∧ lv_has ls 5 [(4, .int x.1), (0, .ref h0), (1, .int 0), (2, .int p1), (3, .int p2)]) (fun x => ((60 : Int) - x.1.toInt).toNat) ?_ (0, (fun _ => 0)) _ _ _ ⟨by first | decide | (show _ ≤ (0 : Int32).toInt; decide) | omega, by first | decide | omega, hP, hD, hS, hl⟩
            rintro ⟨i_7, f_7_0⟩ H locs ls ⟨t_7, u_7, hP, hD, hS, hl⟩ ih_7
            have t_7 : 0 ≤ i_7.toInt := t_7
            have u_7 : i_7.toInt ≤ 60 := u_7
            have hl : lv_has ls 5 [(4, .int i_7), (0, .ref h0), (1, .int 0), (2, .int p1), (3, .int p2)] := hl
            have hP : va_P (dC, dI) vwCl [(h0, .inr (12, [.int 0, .ref h4, .ref h5, .ref h6, .ref h7, .ref h8, .int 0, .int 0, .ref h9, .int 0, .int 0, .ref h10, .ref h11, .ref h12, .ref h13, .ref h14, .ref h15, .ref h16, .int 0, .int 0, .ref h17, .ref h18, .ref h19, .ref h20, .int 0, .ref h21, .ref h22, .int 0, .ref h23, .int 0, .int 0, .ref h24, .ref h25, .int 0, .int 0, .int 0, .int 0, .int 0, .ref h26, .int 0, .ref h27, .ref h28, .int 0, .int 0, .int 0, .ref h1, .ref h2, .ref h3, .ref h29])), (h1, .inl (cint, 6, .inl (upd (fun _ => (-1)) (0 : Int32).toNatClampNeg (50 + p1)))), (h2, .inl (cint, 6, .inl (upd (fun _ => 0) (0 : Int32).toNatClampNeg p2))), (h3, .inl (clong, 360, .inr (.inl f_7_0)))] H := hP
            have hD : va_D A [(h0, .inr (12, [.int 0, .ref h4, .ref h5, .ref h6, .ref h7, .ref h8, .int 0, .int 0, .ref h9, .int 0, .int 0, .ref h10, .ref h11, .ref h12, .ref h13, .ref h14, .ref h15, .ref h16, .int 0, .int 0, .ref h17, .ref h18, .ref h19, .ref h20, .int 0, .ref h21, .ref h22, .int 0, .ref h23, .int 0, .int 0, .ref h24, .ref h25, .int 0, .int 0, .int 0, .int 0, .int 0, .ref h26, .int 0, .ref h27, .ref h28, .int 0, .int 0, .int 0, .ref h1, .ref h2, .ref h3, .ref h29])), (h1, .inl (cint, 6, .inl (upd (fun _ => (-1)) (0 : Int32).toNatClampNeg (50 + p1)))), (h2, .inl (cint, 6, .inl (upd (fun _ => 0) (0 : Int32).toNatClampNeg p2))), (h3, .inl (clong, 360, .inr (.inl f_7_0)))] := hD
            refine lv_iload hx hb dX12_row_57 (lv_at hl 0 rfl) ?_
            refine lv_bipush (v := 60) hx hb dX12_row_59 (by decide) ?_
            refine lv_iload_n hx hb dX12_row_61 rfl (lv_at hl 2 rfl) ?_
            refine lv_imul hx hb dX12_row_62 ?_
            refine lv_topi (fun y_8 e_8 => ?_)
            obtain rfl : y_8 = 0 := e_8.trans (by decide)
            refine lv_bipush (v := 60) hx hb dX12_row_63 (by decide) ?_
            refine lv_iadd hx hb dX12_row_65 ?_
            refine lv_topi (fun y_9 e_9 => ?_)
            obtain rfl : y_9 = 60 := e_9.trans (by decide)
            refine lv_icmp_ge (tgt := 83) hx hb dX12_row_66 (by decide) (fun c_10 => ?_) (fun c_10 => ?_)
            · have t_10 : 60 ≤ i_7.toInt := kk_le c_10
              refine lv_iconst (v := 1) hx hb dX12_row_83 (by decide) ?_
              have hP9 := hP.sub (ws' := []) [] rfl
              have hD9 := hD.sub (ws' := []) [] (by decide) rfl
              have hK9 := hK.sub (tys' := []) [] rfl
              exact W.iret (v := 1) hx hb hr (fun t ht hW => ⟨⟨1, (), rfl, by first | rfl | ((repeat' split) <;> first | rfl | (exfalso; have := kk_add2 (x := 50) (y := p1) (a := 50) (b := p1.toInt) rfl rfl (by omega) (by omega); omega) | (exact Int32.toInt_inj.mp (by show (1 : Int) = _; omega))), by rw [ht]; exact hP9, va_K.moved hW.alike hK9, hD9⟩, hS.F ht⟩) hS.2.2 dX12_row_84
            · have t_10 : i_7.toInt < 60 := kk_nle c_10
              refine lv_aload_n hx hb dX12_row_69 rfl (lv_at hl 1 rfl) ?_
              refine va_get (D := (dC, dI)) (ci := 12) (v := .ref h3) (C := RX12) (T := TX12) (N := 49) hx hb hts (fun _ h => List.mem_cons_of_mem _ (List.mem_append_right _ h)) hown hK hP 0 rfl rfl 47 (by decide) (hts (.fieldLink RX12 92 "KinkStreetModel" "items" "[J") (List.mem_of_getElem? (i := 4) rfl)) (fun _ h9 => h9) rfl dX12_row_70 ?_
              refine lv_iload hx hb dX12_row_73 (lv_at hl 0 rfl) ?_
              refine lv_lconst (v := 0) hx hb dX12_row_75 (by decide) ?_
              refine va_last hx hb hK hP hD hS 3 1 rfl rfl (vp_in_iff.mpr ⟨by have := kk_add2 (x := 50) (y := p1) (a := 50) (b := p1.toInt) rfl rfl (by omega) (by omega); omega, by have := kk_add2 (x := 50) (y := p1) (a := 50) (b := p1.toInt) rfl rfl (by omega) (by omega); omega⟩) dX12_row_76 (fun H locs hP hD hS => ?_)
              generalize vp_updL f_7_0 ((i_7 : Int32)).toNatClampNeg 0 = f_11 at hP hD
              have hP : va_P (dC, dI) vwCl [(h0, .inr (12, [.int 0, .ref h4, .ref h5, .ref h6, .ref h7, .ref h8, .int 0, .int 0, .ref h9, .int 0, .int 0, .ref h10, .ref h11, .ref h12, .ref h13, .ref h14, .ref h15, .ref h16, .int 0, .int 0, .ref h17, .ref h18, .ref h19, .ref h20, .int 0, .ref h21, .ref h22, .int 0, .ref h23, .int 0, .int 0, .ref h24, .ref h25, .int 0, .int 0, .int 0, .int 0, .int 0, .ref h26, .int 0, .ref h27, .ref h28, .int 0, .int 0, .int 0, .ref h1, .ref h2, .ref h3, .ref h29])), (h1, .inl (cint, 6, .inl (upd (fun _ => (-1)) (0 : Int32).toNatClampNeg (50 + p1)))), (h2, .inl (cint, 6, .inl (upd (fun _ => 0) (0 : Int32).toNatClampNeg p2))), (h3, .inl (clong, 360, .inr (.inl f_11)))] H := hP
              have hD : va_D A [(h0, .inr (12, [.int 0, .ref h4, .ref h5, .ref h6, .ref h7, .ref h8, .int 0, .int 0, .ref h9, .int 0, .int 0, .ref h10, .ref h11, .ref h12, .ref h13, .ref h14, .ref h15, .ref h16, .int 0, .int 0, .ref h17, .ref h18, .ref h19, .ref h20, .int 0, .ref h21, .ref h22, .int 0, .ref h23, .int 0, .int 0, .ref h24, .ref h25, .int 0, .int 0, .int 0, .int 0, .int 0, .ref h26, .int 0, .ref h27, .ref h28, .int 0, .int 0, .int 0, .ref h1, .ref h2, .ref h3, .ref h29])), (h1, .inl (cint, 6, .inl (upd (fun _ => (-1)) (0 : Int32).toNatClampNeg (50 + p1)))), (h2, .inl (cint, 6, .inl (upd (fun _ => 0) (0 : Int32).toNatClampNeg p2))), (h3, .inl (clong, 360, .inr (.inl f_11)))] := hD
              refine lv_iinc (v := (i_7 + 1)) (lv' := [(4, .int (i_7 + 1)), (0, .ref h0), (1, .int 0), (2, .int p1), (3, .int p2)]) hx hb dX12_row_77 hl (k := 0) rfl (by first | rfl | decide) (by decide) rfl (fun ls hl => ?_)
              refine lv_goto (tgt := 57) hx hb dX12_row_80 (by decide) ?_
              exact ih_7 ((i_7 + 1), f_11) _ _ _ (by show ((60 : Int) - ((i_7 + 1)).toInt).toNat < ((60 : Int) - i_7.toInt).toNat; have hi_ := kk_add (x := i_7) (k := 1) (n := 1) rfl (by omega) (by omega); omega) ⟨by show (0 : Int) ≤ ((i_7 + 1)).toInt; have hi_ := kk_add (x := i_7) (k := 1) (n := 1) rfl (by omega) (by omega); omega, by show ((i_7 + 1)).toInt ≤ (60 : Int); have hi_ := kk_add (x := i_7) (k := 1) (n := 1) rfl (by omega) (by omega); omega, hP, hD, hS, lv_sub hl [0, 1, 2, 3, 4] rfl⟩
          · have t_5 : p0.toInt = 1 := by rw [e_5]; rfl
            subst e_5
            refine lv_aload_n hx hb dX12_row_34 rfl (lv_at hl 0 rfl) ?_
            refine va_get (D := (dC, dI)) (ci := 12) (v := .ref h1) (C := RX12) (T := TX12) (N := 49) hx hb hts (fun _ h => List.mem_cons_of_mem _ (List.mem_append_right _ h)) hown hK hP 0 rfl rfl 45 (by decide) (hts (.fieldLink RX12 86 "KinkStreetModel" "shelf" "[I") (List.mem_of_getElem? (i := 2) rfl)) (fun _ h9 => h9) rfl dX12_row_35 ?_
            refine lv_iload_n hx hb dX12_row_38 rfl (lv_at hl 1 rfl) ?_
            refine lv_bipush (v := 50) hx hb dX12_row_39 (by decide) ?_
            refine lv_iload_n hx hb dX12_row_41 rfl (lv_at hl 2 rfl) ?_
            refine lv_iadd hx hb dX12_row_42 ?_
            refine va_iast hx hb hK hP hD hS 1 0 rfl rfl (by unfold vp_in; decide) dX12_row_43 (fun H locs hP hD hS => ?_)
            have hP : va_P (dC, dI) vwCl [(h0, .inr (12, [.int 0, .ref h4, .ref h5, .ref h6, .ref h7, .ref h8, .int 0, .int 0, .ref h9, .int 0, .int 0, .ref h10, .ref h11, .ref h12, .ref h13, .ref h14, .ref h15, .ref h16, .int 0, .int 0, .ref h17, .ref h18, .ref h19, .ref h20, .int 0, .ref h21, .ref h22, .int 0, .ref h23, .int 0, .int 0, .ref h24, .ref h25, .int 0, .int 0, .int 0, .int 0, .int 0, .ref h26, .int 0, .ref h27, .ref h28, .int 0, .int 0, .int 0, .ref h1, .ref h2, .ref h3, .ref h29])), (h1, .inl (cint, 6, .inl (upd (fun _ => (-1)) (1 : Int32).toNatClampNeg (50 + p1)))), (h2, .inl (cint, 6, .inl (fun _ => 0))), (h3, .inl (clong, 360, .inr (.inl (fun _ => 0))))] H := hP
            have hD : va_D A [(h0, .inr (12, [.int 0, .ref h4, .ref h5, .ref h6, .ref h7, .ref h8, .int 0, .int 0, .ref h9, .int 0, .int 0, .ref h10, .ref h11, .ref h12, .ref h13, .ref h14, .ref h15, .ref h16, .int 0, .int 0, .ref h17, .ref h18, .ref h19, .ref h20, .int 0, .ref h21, .ref h22, .int 0, .ref h23, .int 0, .int 0, .ref h24, .ref h25, .int 0, .int 0, .int 0, .int 0, .int 0, .ref h26, .int 0, .ref h27, .ref h28, .int 0, .int 0, .int 0, .ref h1, .ref h2, .ref h3, .ref h29])), (h1, .inl (cint, 6, .inl (upd (fun _ => (-1)) (1 : Int32).toNatClampNeg (50 + p1)))), (h2, .inl (cint, 6, .inl (fun _ => 0))), (h3, .inl (clong, 360, .inr (.inl (fun _ => 0))))] := hD
            refine lv_aload_n hx hb dX12_row_44 rfl (lv_at hl 0 rfl) ?_
            refine va_get (D := (dC, dI)) (ci := 12) (v := .ref h2) (C := RX12) (T := TX12) (N := 49) hx hb hts (fun _ h => List.mem_cons_of_mem _ (List.mem_append_right _ h)) hown hK hP 0 rfl rfl 46 (by decide) (hts (.fieldLink RX12 89 "KinkStreetModel" "many" "[I") (List.mem_of_getElem? (i := 3) rfl)) (fun _ h9 => h9) rfl dX12_row_45 ?_
            refine lv_iload_n hx hb dX12_row_48 rfl (lv_at hl 1 rfl) ?_
            refine lv_iload_n hx hb dX12_row_49 rfl (lv_at hl 3 rfl) ?_
            refine va_iast hx hb hK hP hD hS 2 0 rfl rfl (by unfold vp_in; decide) dX12_row_50 (fun H locs hP hD hS => ?_)
            have hP : va_P (dC, dI) vwCl [(h0, .inr (12, [.int 0, .ref h4, .ref h5, .ref h6, .ref h7, .ref h8, .int 0, .int 0, .ref h9, .int 0, .int 0, .ref h10, .ref h11, .ref h12, .ref h13, .ref h14, .ref h15, .ref h16, .int 0, .int 0, .ref h17, .ref h18, .ref h19, .ref h20, .int 0, .ref h21, .ref h22, .int 0, .ref h23, .int 0, .int 0, .ref h24, .ref h25, .int 0, .int 0, .int 0, .int 0, .int 0, .ref h26, .int 0, .ref h27, .ref h28, .int 0, .int 0, .int 0, .ref h1, .ref h2, .ref h3, .ref h29])), (h1, .inl (cint, 6, .inl (upd (fun _ => (-1)) (1 : Int32).toNatClampNeg (50 + p1)))), (h2, .inl (cint, 6, .inl (upd (fun _ => 0) (1 : Int32).toNatClampNeg p2))), (h3, .inl (clong, 360, .inr (.inl (fun _ => 0))))] H := hP
            have hD : va_D A [(h0, .inr (12, [.int 0, .ref h4, .ref h5, .ref h6, .ref h7, .ref h8, .int 0, .int 0, .ref h9, .int 0, .int 0, .ref h10, .ref h11, .ref h12, .ref h13, .ref h14, .ref h15, .ref h16, .int 0, .int 0, .ref h17, .ref h18, .ref h19, .ref h20, .int 0, .ref h21, .ref h22, .int 0, .ref h23, .int 0, .int 0, .ref h24, .ref h25, .int 0, .int 0, .int 0, .int 0, .int 0, .ref h26, .int 0, .ref h27, .ref h28, .int 0, .int 0, .int 0, .ref h1, .ref h2, .ref h3, .ref h29])), (h1, .inl (cint, 6, .inl (upd (fun _ => (-1)) (1 : Int32).toNatClampNeg (50 + p1)))), (h2, .inl (cint, 6, .inl (upd (fun _ => 0) (1 : Int32).toNatClampNeg p2))), (h3, .inl (clong, 360, .inr (.inl (fun _ => 0))))] := hD
            refine lv_bipush (v := 60) hx hb dX12_row_51 (by decide) ?_
            refine lv_iload_n hx hb dX12_row_53 rfl (lv_at hl 1 rfl) ?_
            refine lv_imul hx hb dX12_row_54 ?_
            refine lv_topi (fun y_12 e_12 => ?_)
            obtain rfl : y_12 = 60 := e_12.trans (by decide)
            refine lv_istore (lv' := [(4, .int 60), (0, .ref h0), (1, .int 1), (2, .int p1), (3, .int p2)]) hx hb dX12_row_55 hl (by decide) rfl (fun ls hl => ?_)
            refine kk_loop (σ := Int32 × (Nat → Int64)) (fun x H locs ls => 60 ≤ x.1.toInt ∧ x.1.toInt ≤ 120 ∧ va_P (dC, dI) vwCl [(h0, .inr (12, [.int 0, .ref h4, .ref h5, .ref h6, .ref h7, .ref h8, .int 0, .int 0, .ref h9, .int 0, .int 0, .ref h10, .ref h11, .ref h12, .ref h13, .ref h14, .ref h15, .ref h16, .int 0, .int 0, .ref h17, .ref h18, .ref h19, .ref h20, .int 0, .ref h21, .ref h22, .int 0, .ref h23, .int 0, .int 0, .ref h24, .ref h25, .int 0, .int 0, .int 0, .int 0, .int 0, .ref h26, .int 0, .ref h27, .ref h28, .int 0, .int 0, .int 0, .ref h1, .ref h2, .ref h3, .ref h29])), (h1, .inl (cint, 6, .inl (upd (fun _ => (-1)) (1 : Int32).toNatClampNeg (50 + p1)))), (h2, .inl (cint, 6, .inl (upd (fun _ => 0) (1 : Int32).toNatClampNeg p2))), (h3, .inl (clong, 360, .inr (.inl x.2)))] H ∧ va_D A [(h0, .inr (12, [.int 0, .ref h4, .ref h5, .ref h6, .ref h7, .ref h8, .int 0, .int 0, .ref h9, .int 0, .int 0, .ref h10, .ref h11, .ref h12, .ref h13, .ref h14, .ref h15, .ref h16, .int 0, .int 0, .ref h17, .ref h18, .ref h19, .ref h20, .int 0, .ref h21, .ref h22, .int 0, .ref h23, .int 0, .int 0, .ref h24, .ref h25, .int 0, .int 0, .int 0, .int 0, .int 0, .ref h26, .int 0, .ref h27, .ref h28, .int 0, .int 0, .int 0, .ref h1, .ref h2, .ref h3, .ref h29])), (h1, .inl (cint, 6, .inl (upd (fun _ => (-1)) (1 : Int32).toNatClampNeg (50 + p1)))), (h2, .inl (cint, 6, .inl (upd (fun _ => 0) (1 : Int32).toNatClampNeg p2))), (h3, .inl (clong, 360, .inr (.inl x.2)))] ∧ va_S A s.heap H locs ∧ lv_has ls 5 [(4, .int x.1), (0, .ref h0), (1, .int 1), (2, .int p1), (3, .int p2)]) (fun x => ((120 : Int) - x.1.toInt).toNat) ?_ (60, (fun _ => 0)) _ _ _ ⟨by first | decide | (show _ ≤ (60 : Int32).toInt; decide) | omega, by first | decide | omega, hP, hD, hS, hl⟩
            rintro ⟨i_13, f_13_0⟩ H locs ls ⟨t_13, u_13, hP, hD, hS, hl⟩ ih_13
            have t_13 : 60 ≤ i_13.toInt := t_13
            have u_13 : i_13.toInt ≤ 120 := u_13
            have hl : lv_has ls 5 [(4, .int i_13), (0, .ref h0), (1, .int 1), (2, .int p1), (3, .int p2)] := hl
            have hP : va_P (dC, dI) vwCl [(h0, .inr (12, [.int 0, .ref h4, .ref h5, .ref h6, .ref h7, .ref h8, .int 0, .int 0, .ref h9, .int 0, .int 0, .ref h10, .ref h11, .ref h12, .ref h13, .ref h14, .ref h15, .ref h16, .int 0, .int 0, .ref h17, .ref h18, .ref h19, .ref h20, .int 0, .ref h21, .ref h22, .int 0, .ref h23, .int 0, .int 0, .ref h24, .ref h25, .int 0, .int 0, .int 0, .int 0, .int 0, .ref h26, .int 0, .ref h27, .ref h28, .int 0, .int 0, .int 0, .ref h1, .ref h2, .ref h3, .ref h29])), (h1, .inl (cint, 6, .inl (upd (fun _ => (-1)) (1 : Int32).toNatClampNeg (50 + p1)))), (h2, .inl (cint, 6, .inl (upd (fun _ => 0) (1 : Int32).toNatClampNeg p2))), (h3, .inl (clong, 360, .inr (.inl f_13_0)))] H := hP
            have hD : va_D A [(h0, .inr (12, [.int 0, .ref h4, .ref h5, .ref h6, .ref h7, .ref h8, .int 0, .int 0, .ref h9, .int 0, .int 0, .ref h10, .ref h11, .ref h12, .ref h13, .ref h14, .ref h15, .ref h16, .int 0, .int 0, .ref h17, .ref h18, .ref h19, .ref h20, .int 0, .ref h21, .ref h22, .int 0, .ref h23, .int 0, .int 0, .ref h24, .ref h25, .int 0, .int 0, .int 0, .int 0, .int 0, .ref h26, .int 0, .ref h27, .ref h28, .int 0, .int 0, .int 0, .ref h1, .ref h2, .ref h3, .ref h29])), (h1, .inl (cint, 6, .inl (upd (fun _ => (-1)) (1 : Int32).toNatClampNeg (50 + p1)))), (h2, .inl (cint, 6, .inl (upd (fun _ => 0) (1 : Int32).toNatClampNeg p2))), (h3, .inl (clong, 360, .inr (.inl f_13_0)))] := hD
            refine lv_iload hx hb dX12_row_57 (lv_at hl 0 rfl) ?_
            refine lv_bipush (v := 60) hx hb dX12_row_59 (by decide) ?_
            refine lv_iload_n hx hb dX12_row_61 rfl (lv_at hl 2 rfl) ?_
            refine lv_imul hx hb dX12_row_62 ?_
            refine lv_topi (fun y_14 e_14 => ?_)
            obtain rfl : y_14 = 60 := e_14.trans (by decide)
            refine lv_bipush (v := 60) hx hb dX12_row_63 (by decide) ?_
            refine lv_iadd hx hb dX12_row_65 ?_
            refine lv_topi (fun y_15 e_15 => ?_)
            obtain rfl : y_15 = 120 := e_15.trans (by decide)
            refine lv_icmp_ge (tgt := 83) hx hb dX12_row_66 (by decide) (fun c_16 => ?_) (fun c_16 => ?_)
            · have t_16 : 120 ≤ i_13.toInt := kk_le c_16
              refine lv_iconst (v := 1) hx hb dX12_row_83 (by decide) ?_
              have hP9 := hP.sub (ws' := []) [] rfl
              have hD9 := hD.sub (ws' := []) [] (by decide) rfl
              have hK9 := hK.sub (tys' := []) [] rfl
              exact W.iret (v := 1) hx hb hr (fun t ht hW => ⟨⟨1, (), rfl, by first | rfl | ((repeat' split) <;> first | rfl | (exfalso; have := kk_add2 (x := 50) (y := p1) (a := 50) (b := p1.toInt) rfl rfl (by omega) (by omega); omega) | (exact Int32.toInt_inj.mp (by show (1 : Int) = _; omega))), by rw [ht]; exact hP9, va_K.moved hW.alike hK9, hD9⟩, hS.F ht⟩) hS.2.2 dX12_row_84
            · have t_16 : i_13.toInt < 120 := kk_nle c_16
              refine lv_aload_n hx hb dX12_row_69 rfl (lv_at hl 1 rfl) ?_
              refine va_get (D := (dC, dI)) (ci := 12) (v := .ref h3) (C := RX12) (T := TX12) (N := 49) hx hb hts (fun _ h => List.mem_cons_of_mem _ (List.mem_append_right _ h)) hown hK hP 0 rfl rfl 47 (by decide) (hts (.fieldLink RX12 92 "KinkStreetModel" "items" "[J") (List.mem_of_getElem? (i := 4) rfl)) (fun _ h9 => h9) rfl dX12_row_70 ?_
              refine lv_iload hx hb dX12_row_73 (lv_at hl 0 rfl) ?_
              refine lv_lconst (v := 0) hx hb dX12_row_75 (by decide) ?_
              refine va_last hx hb hK hP hD hS 3 1 rfl rfl (vp_in_iff.mpr ⟨by have := kk_add2 (x := 50) (y := p1) (a := 50) (b := p1.toInt) rfl rfl (by omega) (by omega); omega, by have := kk_add2 (x := 50) (y := p1) (a := 50) (b := p1.toInt) rfl rfl (by omega) (by omega); omega⟩) dX12_row_76 (fun H locs hP hD hS => ?_)
              generalize vp_updL f_13_0 ((i_13 : Int32)).toNatClampNeg 0 = f_17 at hP hD
              have hP : va_P (dC, dI) vwCl [(h0, .inr (12, [.int 0, .ref h4, .ref h5, .ref h6, .ref h7, .ref h8, .int 0, .int 0, .ref h9, .int 0, .int 0, .ref h10, .ref h11, .ref h12, .ref h13, .ref h14, .ref h15, .ref h16, .int 0, .int 0, .ref h17, .ref h18, .ref h19, .ref h20, .int 0, .ref h21, .ref h22, .int 0, .ref h23, .int 0, .int 0, .ref h24, .ref h25, .int 0, .int 0, .int 0, .int 0, .int 0, .ref h26, .int 0, .ref h27, .ref h28, .int 0, .int 0, .int 0, .ref h1, .ref h2, .ref h3, .ref h29])), (h1, .inl (cint, 6, .inl (upd (fun _ => (-1)) (1 : Int32).toNatClampNeg (50 + p1)))), (h2, .inl (cint, 6, .inl (upd (fun _ => 0) (1 : Int32).toNatClampNeg p2))), (h3, .inl (clong, 360, .inr (.inl f_17)))] H := hP
              have hD : va_D A [(h0, .inr (12, [.int 0, .ref h4, .ref h5, .ref h6, .ref h7, .ref h8, .int 0, .int 0, .ref h9, .int 0, .int 0, .ref h10, .ref h11, .ref h12, .ref h13, .ref h14, .ref h15, .ref h16, .int 0, .int 0, .ref h17, .ref h18, .ref h19, .ref h20, .int 0, .ref h21, .ref h22, .int 0, .ref h23, .int 0, .int 0, .ref h24, .ref h25, .int 0, .int 0, .int 0, .int 0, .int 0, .ref h26, .int 0, .ref h27, .ref h28, .int 0, .int 0, .int 0, .ref h1, .ref h2, .ref h3, .ref h29])), (h1, .inl (cint, 6, .inl (upd (fun _ => (-1)) (1 : Int32).toNatClampNeg (50 + p1)))), (h2, .inl (cint, 6, .inl (upd (fun _ => 0) (1 : Int32).toNatClampNeg p2))), (h3, .inl (clong, 360, .inr (.inl f_17)))] := hD
              refine lv_iinc (v := (i_13 + 1)) (lv' := [(4, .int (i_13 + 1)), (0, .ref h0), (1, .int 1), (2, .int p1), (3, .int p2)]) hx hb dX12_row_77 hl (k := 0) rfl (by first | rfl | decide) (by decide) rfl (fun ls hl => ?_)
              refine lv_goto (tgt := 57) hx hb dX12_row_80 (by decide) ?_
              exact ih_13 ((i_13 + 1), f_17) _ _ _ (by show ((120 : Int) - ((i_13 + 1)).toInt).toNat < ((120 : Int) - i_13.toInt).toNat; have hi_ := kk_add (x := i_13) (k := 1) (n := 1) rfl (by omega) (by omega); omega) ⟨by show (60 : Int) ≤ ((i_13 + 1)).toInt; have hi_ := kk_add (x := i_13) (k := 1) (n := 1) rfl (by omega) (by omega); omega, by show ((i_13 + 1)).toInt ≤ (120 : Int); have hi_ := kk_add (x := i_13) (k := 1) (n := 1) rfl (by omega) (by omega); omega, hP, hD, hS, lv_sub hl [0, 1, 2, 3, 4] rfl⟩
          · have t_5 : p0.toInt = 2 := by rw [e_5]; rfl
            subst e_5
            refine lv_aload_n hx hb dX12_row_34 rfl (lv_at hl 0 rfl) ?_
            refine va_get (D := (dC, dI)) (ci := 12) (v := .ref h1) (C := RX12) (T := TX12) (N := 49) hx hb hts (fun _ h => List.mem_cons_of_mem _ (List.mem_append_right _ h)) hown hK hP 0 rfl rfl 45 (by decide) (hts (.fieldLink RX12 86 "KinkStreetModel" "shelf" "[I") (List.mem_of_getElem? (i := 2) rfl)) (fun _ h9 => h9) rfl dX12_row_35 ?_
            refine lv_iload_n hx hb dX12_row_38 rfl (lv_at hl 1 rfl) ?_
            refine lv_bipush (v := 50) hx hb dX12_row_39 (by decide) ?_
            refine lv_iload_n hx hb dX12_row_41 rfl (lv_at hl 2 rfl) ?_
            refine lv_iadd hx hb dX12_row_42 ?_
            refine va_iast hx hb hK hP hD hS 1 0 rfl rfl (by unfold vp_in; decide) dX12_row_43 (fun H locs hP hD hS => ?_)
            have hP : va_P (dC, dI) vwCl [(h0, .inr (12, [.int 0, .ref h4, .ref h5, .ref h6, .ref h7, .ref h8, .int 0, .int 0, .ref h9, .int 0, .int 0, .ref h10, .ref h11, .ref h12, .ref h13, .ref h14, .ref h15, .ref h16, .int 0, .int 0, .ref h17, .ref h18, .ref h19, .ref h20, .int 0, .ref h21, .ref h22, .int 0, .ref h23, .int 0, .int 0, .ref h24, .ref h25, .int 0, .int 0, .int 0, .int 0, .int 0, .ref h26, .int 0, .ref h27, .ref h28, .int 0, .int 0, .int 0, .ref h1, .ref h2, .ref h3, .ref h29])), (h1, .inl (cint, 6, .inl (upd (fun _ => (-1)) (2 : Int32).toNatClampNeg (50 + p1)))), (h2, .inl (cint, 6, .inl (fun _ => 0))), (h3, .inl (clong, 360, .inr (.inl (fun _ => 0))))] H := hP
            have hD : va_D A [(h0, .inr (12, [.int 0, .ref h4, .ref h5, .ref h6, .ref h7, .ref h8, .int 0, .int 0, .ref h9, .int 0, .int 0, .ref h10, .ref h11, .ref h12, .ref h13, .ref h14, .ref h15, .ref h16, .int 0, .int 0, .ref h17, .ref h18, .ref h19, .ref h20, .int 0, .ref h21, .ref h22, .int 0, .ref h23, .int 0, .int 0, .ref h24, .ref h25, .int 0, .int 0, .int 0, .int 0, .int 0, .ref h26, .int 0, .ref h27, .ref h28, .int 0, .int 0, .int 0, .ref h1, .ref h2, .ref h3, .ref h29])), (h1, .inl (cint, 6, .inl (upd (fun _ => (-1)) (2 : Int32).toNatClampNeg (50 + p1)))), (h2, .inl (cint, 6, .inl (fun _ => 0))), (h3, .inl (clong, 360, .inr (.inl (fun _ => 0))))] := hD
            refine lv_aload_n hx hb dX12_row_44 rfl (lv_at hl 0 rfl) ?_
            refine va_get (D := (dC, dI)) (ci := 12) (v := .ref h2) (C := RX12) (T := TX12) (N := 49) hx hb hts (fun _ h => List.mem_cons_of_mem _ (List.mem_append_right _ h)) hown hK hP 0 rfl rfl 46 (by decide) (hts (.fieldLink RX12 89 "KinkStreetModel" "many" "[I") (List.mem_of_getElem? (i := 3) rfl)) (fun _ h9 => h9) rfl dX12_row_45 ?_
            refine lv_iload_n hx hb dX12_row_48 rfl (lv_at hl 1 rfl) ?_
            refine lv_iload_n hx hb dX12_row_49 rfl (lv_at hl 3 rfl) ?_
            refine va_iast hx hb hK hP hD hS 2 0 rfl rfl (by unfold vp_in; decide) dX12_row_50 (fun H locs hP hD hS => ?_)
            have hP : va_P (dC, dI) vwCl [(h0, .inr (12, [.int 0, .ref h4, .ref h5, .ref h6, .ref h7, .ref h8, .int 0, .int 0, .ref h9, .int 0, .int 0, .ref h10, .ref h11, .ref h12, .ref h13, .ref h14, .ref h15, .ref h16, .int 0, .int 0, .ref h17, .ref h18, .ref h19, .ref h20, .int 0, .ref h21, .ref h22, .int 0, .ref h23, .int 0, .int 0, .ref h24, .ref h25, .int 0, .int 0, .int 0, .int 0, .int 0, .ref h26, .int 0, .ref h27, .ref h28, .int 0, .int 0, .int 0, .ref h1, .ref h2, .ref h3, .ref h29])), (h1, .inl (cint, 6, .inl (upd (fun _ => (-1)) (2 : Int32).toNatClampNeg (50 + p1)))), (h2, .inl (cint, 6, .inl (upd (fun _ => 0) (2 : Int32).toNatClampNeg p2))), (h3, .inl (clong, 360, .inr (.inl (fun _ => 0))))] H := hP
            have hD : va_D A [(h0, .inr (12, [.int 0, .ref h4, .ref h5, .ref h6, .ref h7, .ref h8, .int 0, .int 0, .ref h9, .int 0, .int 0, .ref h10, .ref h11, .ref h12, .ref h13, .ref h14, .ref h15, .ref h16, .int 0, .int 0, .ref h17, .ref h18, .ref h19, .ref h20, .int 0, .ref h21, .ref h22, .int 0, .ref h23, .int 0, .int 0, .ref h24, .ref h25, .int 0, .int 0, .int 0, .int 0, .int 0, .ref h26, .int 0, .ref h27, .ref h28, .int 0, .int 0, .int 0, .ref h1, .ref h2, .ref h3, .ref h29])), (h1, .inl (cint, 6, .inl (upd (fun _ => (-1)) (2 : Int32).toNatClampNeg (50 + p1)))), (h2, .inl (cint, 6, .inl (upd (fun _ => 0) (2 : Int32).toNatClampNeg p2))), (h3, .inl (clong, 360, .inr (.inl (fun _ => 0))))] := hD
            refine lv_bipush (v := 60) hx hb dX12_row_51 (by decide) ?_
            refine lv_iload_n hx hb dX12_row_53 rfl (lv_at hl 1 rfl) ?_
            refine lv_imul hx hb dX12_row_54 ?_
            refine lv_topi (fun y_18 e_18 => ?_)
            obtain rfl : y_18 = 120 := e_18.trans (by decide)
            refine lv_istore (lv' := [(4, .int 120), (0, .ref h0), (1, .int 2), (2, .int p1), (3, .int p2)]) hx hb dX12_row_55 hl (by decide) rfl (fun ls hl => ?_)
            refine kk_loop (σ := Int32 × (Nat → Int64)) (fun x H locs ls => 120 ≤ x.1.toInt ∧ x.1.toInt ≤ 180 ∧ va_P (dC, dI) vwCl [(h0, .inr (12, [.int 0, .ref h4, .ref h5, .ref h6, .ref h7, .ref h8, .int 0, .int 0, .ref h9, .int 0, .int 0, .ref h10, .ref h11, .ref h12, .ref h13, .ref h14, .ref h15, .ref h16, .int 0, .int 0, .ref h17, .ref h18, .ref h19, .ref h20, .int 0, .ref h21, .ref h22, .int 0, .ref h23, .int 0, .int 0, .ref h24, .ref h25, .int 0, .int 0, .int 0, .int 0, .int 0, .ref h26, .int 0, .ref h27, .ref h28, .int 0, .int 0, .int 0, .ref h1, .ref h2, .ref h3, .ref h29])), (h1, .inl (cint, 6, .inl (upd (fun _ => (-1)) (2 : Int32).toNatClampNeg (50 + p1)))), (h2, .inl (cint, 6, .inl (upd (fun _ => 0) (2 : Int32).toNatClampNeg p2))), (h3, .inl (clong, 360, .inr (.inl x.2)))] H ∧ va_D A [(h0, .inr (12, [.int 0, .ref h4, .ref h5, .ref h6, .ref h7, .ref h8, .int 0, .int 0, .ref h9, .int 0, .int 0, .ref h10, .ref h11, .ref h12, .ref h13, .ref h14, .ref h15, .ref h16, .int 0, .int 0, .ref h17, .ref h18, .ref h19, .ref h20, .int 0, .ref h21, .ref h22, .int 0, .ref h23, .int 0, .int 0, .ref h24, .ref h25, .int 0, .int 0, .int 0, .int 0, .int 0, .ref h26, .int 0, .ref h27, .ref h28, .int 0, .int 0, .int 0, .ref h1, .ref h2, .ref h3, .ref h29])), (h1, .inl (cint, 6, .inl (upd (fun _ => (-1)) (2 : Int32).toNatClampNeg (50 + p1)))), (h2, .inl (cint, 6, .inl (upd (fun _ => 0) (2 : Int32).toNatClampNeg p2))), (h3, .inl (clong, 360, .inr (.inl x.2)))] ∧ va_S A s.heap H locs ∧ lv_has ls 5 [(4, .int x.1), (0, .ref h0), (1, .int 2), (2, .int p1), (3, .int p2)]) (fun x => ((180 : Int) - x.1.toInt).toNat) ?_ (120, (fun _ => 0)) _ _ _ ⟨by first | decide | (show _ ≤ (120 : Int32).toInt; decide) | omega, by first | decide | omega, hP, hD, hS, hl⟩
            rintro ⟨i_19, f_19_0⟩ H locs ls ⟨t_19, u_19, hP, hD, hS, hl⟩ ih_19
            have t_19 : 120 ≤ i_19.toInt := t_19
            have u_19 : i_19.toInt ≤ 180 := u_19
            have hl : lv_has ls 5 [(4, .int i_19), (0, .ref h0), (1, .int 2), (2, .int p1), (3, .int p2)] := hl
            have hP : va_P (dC, dI) vwCl [(h0, .inr (12, [.int 0, .ref h4, .ref h5, .ref h6, .ref h7, .ref h8, .int 0, .int 0, .ref h9, .int 0, .int 0, .ref h10, .ref h11, .ref h12, .ref h13, .ref h14, .ref h15, .ref h16, .int 0, .int 0, .ref h17, .ref h18, .ref h19, .ref h20, .int 0, .ref h21, .ref h22, .int 0, .ref h23, .int 0, .int 0, .ref h24, .ref h25, .int 0, .int 0, .int 0, .int 0, .int 0, .ref h26, .int 0, .ref h27, .ref h28, .int 0, .int 0, .int 0, .ref h1, .ref h2, .ref h3, .ref h29])), (h1, .inl (cint, 6, .inl (upd (fun _ => (-1)) (2 : Int32).toNatClampNeg (50 + p1)))), (h2, .inl (cint, 6, .inl (upd (fun _ => 0) (2 : Int32).toNatClampNeg p2))), (h3, .inl (clong, 360, .inr (.inl f_19_0)))] H := hP
            have hD : va_D A [(h0, .inr (12, [.int 0, .ref h4, .ref h5, .ref h6, .ref h7, .ref h8, .int 0, .int 0, .ref h9, .int 0, .int 0, .ref h10, .ref h11, .ref h12, .ref h13, .ref h14, .ref h15, .ref h16, .int 0, .int 0, .ref h17, .ref h18, .ref h19, .ref h20, .int 0, .ref h21, .ref h22, .int 0, .ref h23, .int 0, .int 0, .ref h24, .ref h25, .int 0, .int 0, .int 0, .int 0, .int 0, .ref h26, .int 0, .ref h27, .ref h28, .int 0, .int 0, .int 0, .ref h1, .ref h2, .ref h3, .ref h29])), (h1, .inl (cint, 6, .inl (upd (fun _ => (-1)) (2 : Int32).toNatClampNeg (50 + p1)))), (h2, .inl (cint, 6, .inl (upd (fun _ => 0) (2 : Int32).toNatClampNeg p2))), (h3, .inl (clong, 360, .inr (.inl f_19_0)))] := hD
            refine lv_iload hx hb dX12_row_57 (lv_at hl 0 rfl) ?_
            refine lv_bipush (v := 60) hx hb dX12_row_59 (by decide) ?_
            refine lv_iload_n hx hb dX12_row_61 rfl (lv_at hl 2 rfl) ?_
            refine lv_imul hx hb dX12_row_62 ?_
            refine lv_topi (fun y_20 e_20 => ?_)
            obtain rfl : y_20 = 120 := e_20.trans (by decide)
            refine lv_bipush (v := 60) hx hb dX12_row_63 (by decide) ?_
            refine lv_iadd hx hb dX12_row_65 ?_
            refine lv_topi (fun y_21 e_21 => ?_)
            obtain rfl : y_21 = 180 := e_21.trans (by decide)
            refine lv_icmp_ge (tgt := 83) hx hb dX12_row_66 (by decide) (fun c_22 => ?_) (fun c_22 => ?_)
            · have t_22 : 180 ≤ i_19.toInt := kk_le c_22
              refine lv_iconst (v := 1) hx hb dX12_row_83 (by decide) ?_
              have hP9 := hP.sub (ws' := []) [] rfl
              have hD9 := hD.sub (ws' := []) [] (by decide) rfl
              have hK9 := hK.sub (tys' := []) [] rfl
              exact W.iret (v := 1) hx hb hr (fun t ht hW => ⟨⟨1, (), rfl, by first | rfl | ((repeat' split) <;> first | rfl | (exfalso; have := kk_add2 (x := 50) (y := p1) (a := 50) (b := p1.toInt) rfl rfl (by omega) (by omega); omega) | (exact Int32.toInt_inj.mp (by show (1 : Int) = _; omega))), by rw [ht]; exact hP9, va_K.moved hW.alike hK9, hD9⟩, hS.F ht⟩) hS.2.2 dX12_row_84
            · have t_22 : i_19.toInt < 180 := kk_nle c_22
              refine lv_aload_n hx hb dX12_row_69 rfl (lv_at hl 1 rfl) ?_
              refine va_get (D := (dC, dI)) (ci := 12) (v := .ref h3) (C := RX12) (T := TX12) (N := 49) hx hb hts (fun _ h => List.mem_cons_of_mem _ (List.mem_append_right _ h)) hown hK hP 0 rfl rfl 47 (by decide) (hts (.fieldLink RX12 92 "KinkStreetModel" "items" "[J") (List.mem_of_getElem? (i := 4) rfl)) (fun _ h9 => h9) rfl dX12_row_70 ?_
              refine lv_iload hx hb dX12_row_73 (lv_at hl 0 rfl) ?_
              refine lv_lconst (v := 0) hx hb dX12_row_75 (by decide) ?_
              refine va_last hx hb hK hP hD hS 3 1 rfl rfl (vp_in_iff.mpr ⟨by have := kk_add2 (x := 50) (y := p1) (a := 50) (b := p1.toInt) rfl rfl (by omega) (by omega); omega, by have := kk_add2 (x := 50) (y := p1) (a := 50) (b := p1.toInt) rfl rfl (by omega) (by omega); omega⟩) dX12_row_76 (fun H locs hP hD hS => ?_)
              generalize vp_updL f_19_0 ((i_19 : Int32)).toNatClampNeg 0 = f_23 at hP hD
              have hP : va_P (dC, dI) vwCl [(h0, .inr (12, [.int 0, .ref h4, .ref h5, .ref h6, .ref h7, .ref h8, .int 0, .int 0, .ref h9, .int 0, .int 0, .ref h10, .ref h11, .ref h12, .ref h13, .ref h14, .ref h15, .ref h16, .int 0, .int 0, .ref h17, .ref h18, .ref h19, .ref h20, .int 0, .ref h21, .ref h22, .int 0, .ref h23, .int 0, .int 0, .ref h24, .ref h25, .int 0, .int 0, .int 0, .int 0, .int 0, .ref h26, .int 0, .ref h27, .ref h28, .int 0, .int 0, .int 0, .ref h1, .ref h2, .ref h3, .ref h29])), (h1, .inl (cint, 6, .inl (upd (fun _ => (-1)) (2 : Int32).toNatClampNeg (50 + p1)))), (h2, .inl (cint, 6, .inl (upd (fun _ => 0) (2 : Int32).toNatClampNeg p2))), (h3, .inl (clong, 360, .inr (.inl f_23)))] H := hP
              have hD : va_D A [(h0, .inr (12, [.int 0, .ref h4, .ref h5, .ref h6, .ref h7, .ref h8, .int 0, .int 0, .ref h9, .int 0, .int 0, .ref h10, .ref h11, .ref h12, .ref h13, .ref h14, .ref h15, .ref h16, .int 0, .int 0, .ref h17, .ref h18, .ref h19, .ref h20, .int 0, .ref h21, .ref h22, .int 0, .ref h23, .int 0, .int 0, .ref h24, .ref h25, .int 0, .int 0, .int 0, .int 0, .int 0, .ref h26, .int 0, .ref h27, .ref h28, .int 0, .int 0, .int 0, .ref h1, .ref h2, .ref h3, .ref h29])), (h1, .inl (cint, 6, .inl (upd (fun _ => (-1)) (2 : Int32).toNatClampNeg (50 + p1)))), (h2, .inl (cint, 6, .inl (upd (fun _ => 0) (2 : Int32).toNatClampNeg p2))), (h3, .inl (clong, 360, .inr (.inl f_23)))] := hD
              refine lv_iinc (v := (i_19 + 1)) (lv' := [(4, .int (i_19 + 1)), (0, .ref h0), (1, .int 2), (2, .int p1), (3, .int p2)]) hx hb dX12_row_77 hl (k := 0) rfl (by first | rfl | decide) (by decide) rfl (fun ls hl => ?_)
              refine lv_goto (tgt := 57) hx hb dX12_row_80 (by decide) ?_
              exact ih_19 ((i_19 + 1), f_23) _ _ _ (by show ((180 : Int) - ((i_19 + 1)).toInt).toNat < ((180 : Int) - i_19.toInt).toNat; have hi_ := kk_add (x := i_19) (k := 1) (n := 1) rfl (by omega) (by omega); omega) ⟨by show (120 : Int) ≤ ((i_19 + 1)).toInt; have hi_ := kk_add (x := i_19) (k := 1) (n := 1) rfl (by omega) (by omega); omega, by show ((i_19 + 1)).toInt ≤ (180 : Int); have hi_ := kk_add (x := i_19) (k := 1) (n := 1) rfl (by omega) (by omega); omega, hP, hD, hS, lv_sub hl [0, 1, 2, 3, 4] rfl⟩
          · have t_5 : p0.toInt = 3 := by rw [e_5]; rfl
            subst e_5
            refine lv_aload_n hx hb dX12_row_34 rfl (lv_at hl 0 rfl) ?_
            refine va_get (D := (dC, dI)) (ci := 12) (v := .ref h1) (C := RX12) (T := TX12) (N := 49) hx hb hts (fun _ h => List.mem_cons_of_mem _ (List.mem_append_right _ h)) hown hK hP 0 rfl rfl 45 (by decide) (hts (.fieldLink RX12 86 "KinkStreetModel" "shelf" "[I") (List.mem_of_getElem? (i := 2) rfl)) (fun _ h9 => h9) rfl dX12_row_35 ?_
            refine lv_iload_n hx hb dX12_row_38 rfl (lv_at hl 1 rfl) ?_
            refine lv_bipush (v := 50) hx hb dX12_row_39 (by decide) ?_
            refine lv_iload_n hx hb dX12_row_41 rfl (lv_at hl 2 rfl) ?_
            refine lv_iadd hx hb dX12_row_42 ?_
            refine va_iast hx hb hK hP hD hS 1 0 rfl rfl (by unfold vp_in; decide) dX12_row_43 (fun H locs hP hD hS => ?_)
            have hP : va_P (dC, dI) vwCl [(h0, .inr (12, [.int 0, .ref h4, .ref h5, .ref h6, .ref h7, .ref h8, .int 0, .int 0, .ref h9, .int 0, .int 0, .ref h10, .ref h11, .ref h12, .ref h13, .ref h14, .ref h15, .ref h16, .int 0, .int 0, .ref h17, .ref h18, .ref h19, .ref h20, .int 0, .ref h21, .ref h22, .int 0, .ref h23, .int 0, .int 0, .ref h24, .ref h25, .int 0, .int 0, .int 0, .int 0, .int 0, .ref h26, .int 0, .ref h27, .ref h28, .int 0, .int 0, .int 0, .ref h1, .ref h2, .ref h3, .ref h29])), (h1, .inl (cint, 6, .inl (upd (fun _ => (-1)) (3 : Int32).toNatClampNeg (50 + p1)))), (h2, .inl (cint, 6, .inl (fun _ => 0))), (h3, .inl (clong, 360, .inr (.inl (fun _ => 0))))] H := hP
            have hD : va_D A [(h0, .inr (12, [.int 0, .ref h4, .ref h5, .ref h6, .ref h7, .ref h8, .int 0, .int 0, .ref h9, .int 0, .int 0, .ref h10, .ref h11, .ref h12, .ref h13, .ref h14, .ref h15, .ref h16, .int 0, .int 0, .ref h17, .ref h18, .ref h19, .ref h20, .int 0, .ref h21, .ref h22, .int 0, .ref h23, .int 0, .int 0, .ref h24, .ref h25, .int 0, .int 0, .int 0, .int 0, .int 0, .ref h26, .int 0, .ref h27, .ref h28, .int 0, .int 0, .int 0, .ref h1, .ref h2, .ref h3, .ref h29])), (h1, .inl (cint, 6, .inl (upd (fun _ => (-1)) (3 : Int32).toNatClampNeg (50 + p1)))), (h2, .inl (cint, 6, .inl (fun _ => 0))), (h3, .inl (clong, 360, .inr (.inl (fun _ => 0))))] := hD
            refine lv_aload_n hx hb dX12_row_44 rfl (lv_at hl 0 rfl) ?_
            refine va_get (D := (dC, dI)) (ci := 12) (v := .ref h2) (C := RX12) (T := TX12) (N := 49) hx hb hts (fun _ h => List.mem_cons_of_mem _ (List.mem_append_right _ h)) hown hK hP 0 rfl rfl 46 (by decide) (hts (.fieldLink RX12 89 "KinkStreetModel" "many" "[I") (List.mem_of_getElem? (i := 3) rfl)) (fun _ h9 => h9) rfl dX12_row_45 ?_
            refine lv_iload_n hx hb dX12_row_48 rfl (lv_at hl 1 rfl) ?_
            refine lv_iload_n hx hb dX12_row_49 rfl (lv_at hl 3 rfl) ?_
            refine va_iast hx hb hK hP hD hS 2 0 rfl rfl (by unfold vp_in; decide) dX12_row_50 (fun H locs hP hD hS => ?_)
            have hP : va_P (dC, dI) vwCl [(h0, .inr (12, [.int 0, .ref h4, .ref h5, .ref h6, .ref h7, .ref h8, .int 0, .int 0, .ref h9, .int 0, .int 0, .ref h10, .ref h11, .ref h12, .ref h13, .ref h14, .ref h15, .ref h16, .int 0, .int 0, .ref h17, .ref h18, .ref h19, .ref h20, .int 0, .ref h21, .ref h22, .int 0, .ref h23, .int 0, .int 0, .ref h24, .ref h25, .int 0, .int 0, .int 0, .int 0, .int 0, .ref h26, .int 0, .ref h27, .ref h28, .int 0, .int 0, .int 0, .ref h1, .ref h2, .ref h3, .ref h29])), (h1, .inl (cint, 6, .inl (upd (fun _ => (-1)) (3 : Int32).toNatClampNeg (50 + p1)))), (h2, .inl (cint, 6, .inl (upd (fun _ => 0) (3 : Int32).toNatClampNeg p2))), (h3, .inl (clong, 360, .inr (.inl (fun _ => 0))))] H := hP
            have hD : va_D A [(h0, .inr (12, [.int 0, .ref h4, .ref h5, .ref h6, .ref h7, .ref h8, .int 0, .int 0, .ref h9, .int 0, .int 0, .ref h10, .ref h11, .ref h12, .ref h13, .ref h14, .ref h15, .ref h16, .int 0, .int 0, .ref h17, .ref h18, .ref h19, .ref h20, .int 0, .ref h21, .ref h22, .int 0, .ref h23, .int 0, .int 0, .ref h24, .ref h25, .int 0, .int 0, .int 0, .int 0, .int 0, .ref h26, .int 0, .ref h27, .ref h28, .int 0, .int 0, .int 0, .ref h1, .ref h2, .ref h3, .ref h29])), (h1, .inl (cint, 6, .inl (upd (fun _ => (-1)) (3 : Int32).toNatClampNeg (50 + p1)))), (h2, .inl (cint, 6, .inl (upd (fun _ => 0) (3 : Int32).toNatClampNeg p2))), (h3, .inl (clong, 360, .inr (.inl (fun _ => 0))))] := hD
            refine lv_bipush (v := 60) hx hb dX12_row_51 (by decide) ?_
            refine lv_iload_n hx hb dX12_row_53 rfl (lv_at hl 1 rfl) ?_
            refine lv_imul hx hb dX12_row_54 ?_
            refine lv_topi (fun y_24 e_24 => ?_)
            obtain rfl : y_24 = 180 := e_24.trans (by decide)
            refine lv_istore (lv' := [(4, .int 180), (0, .ref h0), (1, .int 3), (2, .int p1), (3, .int p2)]) hx hb dX12_row_55 hl (by decide) rfl (fun ls hl => ?_)
            refine kk_loop (σ := Int32 × (Nat → Int64)) (fun x H locs ls => 180 ≤ x.1.toInt ∧ x.1.toInt ≤ 240 ∧ va_P (dC, dI) vwCl [(h0, .inr (12, [.int 0, .ref h4, .ref h5, .ref h6, .ref h7, .ref h8, .int 0, .int 0, .ref h9, .int 0, .int 0, .ref h10, .ref h11, .ref h12, .ref h13, .ref h14, .ref h15, .ref h16, .int 0, .int 0, .ref h17, .ref h18, .ref h19, .ref h20, .int 0, .ref h21, .ref h22, .int 0, .ref h23, .int 0, .int 0, .ref h24, .ref h25, .int 0, .int 0, .int 0, .int 0, .int 0, .ref h26, .int 0, .ref h27, .ref h28, .int 0, .int 0, .int 0, .ref h1, .ref h2, .ref h3, .ref h29])), (h1, .inl (cint, 6, .inl (upd (fun _ => (-1)) (3 : Int32).toNatClampNeg (50 + p1)))), (h2, .inl (cint, 6, .inl (upd (fun _ => 0) (3 : Int32).toNatClampNeg p2))), (h3, .inl (clong, 360, .inr (.inl x.2)))] H ∧ va_D A [(h0, .inr (12, [.int 0, .ref h4, .ref h5, .ref h6, .ref h7, .ref h8, .int 0, .int 0, .ref h9, .int 0, .int 0, .ref h10, .ref h11, .ref h12, .ref h13, .ref h14, .ref h15, .ref h16, .int 0, .int 0, .ref h17, .ref h18, .ref h19, .ref h20, .int 0, .ref h21, .ref h22, .int 0, .ref h23, .int 0, .int 0, .ref h24, .ref h25, .int 0, .int 0, .int 0, .int 0, .int 0, .ref h26, .int 0, .ref h27, .ref h28, .int 0, .int 0, .int 0, .ref h1, .ref h2, .ref h3, .ref h29])), (h1, .inl (cint, 6, .inl (upd (fun _ => (-1)) (3 : Int32).toNatClampNeg (50 + p1)))), (h2, .inl (cint, 6, .inl (upd (fun _ => 0) (3 : Int32).toNatClampNeg p2))), (h3, .inl (clong, 360, .inr (.inl x.2)))] ∧ va_S A s.heap H locs ∧ lv_has ls 5 [(4, .int x.1), (0, .ref h0), (1, .int 3), (2, .int p1), (3, .int p2)]) (fun x => ((240 : Int) - x.1.toInt).toNat) ?_ (180, (fun _ => 0)) _ _ _ ⟨by first | decide | (show _ ≤ (180 : Int32).toInt; decide) | omega, by first | decide | omega, hP, hD, hS, hl⟩
            rintro ⟨i_25, f_25_0⟩ H locs ls ⟨t_25, u_25, hP, hD, hS, hl⟩ ih_25
            have t_25 : 180 ≤ i_25.toInt := t_25
            have u_25 : i_25.toInt ≤ 240 := u_25
            have hl : lv_has ls 5 [(4, .int i_25), (0, .ref h0), (1, .int 3), (2, .int p1), (3, .int p2)] := hl
            have hP : va_P (dC, dI) vwCl [(h0, .inr (12, [.int 0, .ref h4, .ref h5, .ref h6, .ref h7, .ref h8, .int 0, .int 0, .ref h9, .int 0, .int 0, .ref h10, .ref h11, .ref h12, .ref h13, .ref h14, .ref h15, .ref h16, .int 0, .int 0, .ref h17, .ref h18, .ref h19, .ref h20, .int 0, .ref h21, .ref h22, .int 0, .ref h23, .int 0, .int 0, .ref h24, .ref h25, .int 0, .int 0, .int 0, .int 0, .int 0, .ref h26, .int 0, .ref h27, .ref h28, .int 0, .int 0, .int 0, .ref h1, .ref h2, .ref h3, .ref h29])), (h1, .inl (cint, 6, .inl (upd (fun _ => (-1)) (3 : Int32).toNatClampNeg (50 + p1)))), (h2, .inl (cint, 6, .inl (upd (fun _ => 0) (3 : Int32).toNatClampNeg p2))), (h3, .inl (clong, 360, .inr (.inl f_25_0)))] H := hP
            have hD : va_D A [(h0, .inr (12, [.int 0, .ref h4, .ref h5, .ref h6, .ref h7, .ref h8, .int 0, .int 0, .ref h9, .int 0, .int 0, .ref h10, .ref h11, .ref h12, .ref h13, .ref h14, .ref h15, .ref h16, .int 0, .int 0, .ref h17, .ref h18, .ref h19, .ref h20, .int 0, .ref h21, .ref h22, .int 0, .ref h23, .int 0, .int 0, .ref h24, .ref h25, .int 0, .int 0, .int 0, .int 0, .int 0, .ref h26, .int 0, .ref h27, .ref h28, .int 0, .int 0, .int 0, .ref h1, .ref h2, .ref h3, .ref h29])), (h1, .inl (cint, 6, .inl (upd (fun _ => (-1)) (3 : Int32).toNatClampNeg (50 + p1)))), (h2, .inl (cint, 6, .inl (upd (fun _ => 0) (3 : Int32).toNatClampNeg p2))), (h3, .inl (clong, 360, .inr (.inl f_25_0)))] := hD
            refine lv_iload hx hb dX12_row_57 (lv_at hl 0 rfl) ?_
            refine lv_bipush (v := 60) hx hb dX12_row_59 (by decide) ?_
            refine lv_iload_n hx hb dX12_row_61 rfl (lv_at hl 2 rfl) ?_
            refine lv_imul hx hb dX12_row_62 ?_
            refine lv_topi (fun y_26 e_26 => ?_)
            obtain rfl : y_26 = 180 := e_26.trans (by decide)
            refine lv_bipush (v := 60) hx hb dX12_row_63 (by decide) ?_
            refine lv_iadd hx hb dX12_row_65 ?_
            refine lv_topi (fun y_27 e_27 => ?_)
            obtain rfl : y_27 = 240 := e_27.trans (by decide)
            refine lv_icmp_ge (tgt := 83) hx hb dX12_row_66 (by decide) (fun c_28 => ?_) (fun c_28 => ?_)
            · have t_28 : 240 ≤ i_25.toInt := kk_le c_28
              refine lv_iconst (v := 1) hx hb dX12_row_83 (by decide) ?_
              have hP9 := hP.sub (ws' := []) [] rfl
              have hD9 := hD.sub (ws' := []) [] (by decide) rfl
              have hK9 := hK.sub (tys' := []) [] rfl
              exact W.iret (v := 1) hx hb hr (fun t ht hW => ⟨⟨1, (), rfl, by first | rfl | ((repeat' split) <;> first | rfl | (exfalso; have := kk_add2 (x := 50) (y := p1) (a := 50) (b := p1.toInt) rfl rfl (by omega) (by omega); omega) | (exact Int32.toInt_inj.mp (by show (1 : Int) = _; omega))), by rw [ht]; exact hP9, va_K.moved hW.alike hK9, hD9⟩, hS.F ht⟩) hS.2.2 dX12_row_84
            · have t_28 : i_25.toInt < 240 := kk_nle c_28
              refine lv_aload_n hx hb dX12_row_69 rfl (lv_at hl 1 rfl) ?_
              refine va_get (D := (dC, dI)) (ci := 12) (v := .ref h3) (C := RX12) (T := TX12) (N := 49) hx hb hts (fun _ h => List.mem_cons_of_mem _ (List.mem_append_right _ h)) hown hK hP 0 rfl rfl 47 (by decide) (hts (.fieldLink RX12 92 "KinkStreetModel" "items" "[J") (List.mem_of_getElem? (i := 4) rfl)) (fun _ h9 => h9) rfl dX12_row_70 ?_
              refine lv_iload hx hb dX12_row_73 (lv_at hl 0 rfl) ?_
              refine lv_lconst (v := 0) hx hb dX12_row_75 (by decide) ?_
              refine va_last hx hb hK hP hD hS 3 1 rfl rfl (vp_in_iff.mpr ⟨by have := kk_add2 (x := 50) (y := p1) (a := 50) (b := p1.toInt) rfl rfl (by omega) (by omega); omega, by have := kk_add2 (x := 50) (y := p1) (a := 50) (b := p1.toInt) rfl rfl (by omega) (by omega); omega⟩) dX12_row_76 (fun H locs hP hD hS => ?_)
              generalize vp_updL f_25_0 ((i_25 : Int32)).toNatClampNeg 0 = f_29 at hP hD
              have hP : va_P (dC, dI) vwCl [(h0, .inr (12, [.int 0, .ref h4, .ref h5, .ref h6, .ref h7, .ref h8, .int 0, .int 0, .ref h9, .int 0, .int 0, .ref h10, .ref h11, .ref h12, .ref h13, .ref h14, .ref h15, .ref h16, .int 0, .int 0, .ref h17, .ref h18, .ref h19, .ref h20, .int 0, .ref h21, .ref h22, .int 0, .ref h23, .int 0, .int 0, .ref h24, .ref h25, .int 0, .int 0, .int 0, .int 0, .int 0, .ref h26, .int 0, .ref h27, .ref h28, .int 0, .int 0, .int 0, .ref h1, .ref h2, .ref h3, .ref h29])), (h1, .inl (cint, 6, .inl (upd (fun _ => (-1)) (3 : Int32).toNatClampNeg (50 + p1)))), (h2, .inl (cint, 6, .inl (upd (fun _ => 0) (3 : Int32).toNatClampNeg p2))), (h3, .inl (clong, 360, .inr (.inl f_29)))] H := hP
              have hD : va_D A [(h0, .inr (12, [.int 0, .ref h4, .ref h5, .ref h6, .ref h7, .ref h8, .int 0, .int 0, .ref h9, .int 0, .int 0, .ref h10, .ref h11, .ref h12, .ref h13, .ref h14, .ref h15, .ref h16, .int 0, .int 0, .ref h17, .ref h18, .ref h19, .ref h20, .int 0, .ref h21, .ref h22, .int 0, .ref h23, .int 0, .int 0, .ref h24, .ref h25, .int 0, .int 0, .int 0, .int 0, .int 0, .ref h26, .int 0, .ref h27, .ref h28, .int 0, .int 0, .int 0, .ref h1, .ref h2, .ref h3, .ref h29])), (h1, .inl (cint, 6, .inl (upd (fun _ => (-1)) (3 : Int32).toNatClampNeg (50 + p1)))), (h2, .inl (cint, 6, .inl (upd (fun _ => 0) (3 : Int32).toNatClampNeg p2))), (h3, .inl (clong, 360, .inr (.inl f_29)))] := hD
              refine lv_iinc (v := (i_25 + 1)) (lv' := [(4, .int (i_25 + 1)), (0, .ref h0), (1, .int 3), (2, .int p1), (3, .int p2)]) hx hb dX12_row_77 hl (k := 0) rfl (by first | rfl | decide) (by decide) rfl (fun ls hl => ?_)
              refine lv_goto (tgt := 57) hx hb dX12_row_80 (by decide) ?_
              exact ih_25 ((i_25 + 1), f_29) _ _ _ (by show ((240 : Int) - ((i_25 + 1)).toInt).toNat < ((240 : Int) - i_25.toInt).toNat; have hi_ := kk_add (x := i_25) (k := 1) (n := 1) rfl (by omega) (by omega); omega) ⟨by show (180 : Int) ≤ ((i_25 + 1)).toInt; have hi_ := kk_add (x := i_25) (k := 1) (n := 1) rfl (by omega) (by omega); omega, by show ((i_25 + 1)).toInt ≤ (240 : Int); have hi_ := kk_add (x := i_25) (k := 1) (n := 1) rfl (by omega) (by omega); omega, hP, hD, hS, lv_sub hl [0, 1, 2, 3, 4] rfl⟩
          · have t_5 : p0.toInt = 4 := by rw [e_5]; rfl
            subst e_5
            refine lv_aload_n hx hb dX12_row_34 rfl (lv_at hl 0 rfl) ?_
            refine va_get (D := (dC, dI)) (ci := 12) (v := .ref h1) (C := RX12) (T := TX12) (N := 49) hx hb hts (fun _ h => List.mem_cons_of_mem _ (List.mem_append_right _ h)) hown hK hP 0 rfl rfl 45 (by decide) (hts (.fieldLink RX12 86 "KinkStreetModel" "shelf" "[I") (List.mem_of_getElem? (i := 2) rfl)) (fun _ h9 => h9) rfl dX12_row_35 ?_
            refine lv_iload_n hx hb dX12_row_38 rfl (lv_at hl 1 rfl) ?_
            refine lv_bipush (v := 50) hx hb dX12_row_39 (by decide) ?_
            refine lv_iload_n hx hb dX12_row_41 rfl (lv_at hl 2 rfl) ?_
            refine lv_iadd hx hb dX12_row_42 ?_
            refine va_iast hx hb hK hP hD hS 1 0 rfl rfl (by unfold vp_in; decide) dX12_row_43 (fun H locs hP hD hS => ?_)
            have hP : va_P (dC, dI) vwCl [(h0, .inr (12, [.int 0, .ref h4, .ref h5, .ref h6, .ref h7, .ref h8, .int 0, .int 0, .ref h9, .int 0, .int 0, .ref h10, .ref h11, .ref h12, .ref h13, .ref h14, .ref h15, .ref h16, .int 0, .int 0, .ref h17, .ref h18, .ref h19, .ref h20, .int 0, .ref h21, .ref h22, .int 0, .ref h23, .int 0, .int 0, .ref h24, .ref h25, .int 0, .int 0, .int 0, .int 0, .int 0, .ref h26, .int 0, .ref h27, .ref h28, .int 0, .int 0, .int 0, .ref h1, .ref h2, .ref h3, .ref h29])), (h1, .inl (cint, 6, .inl (upd (fun _ => (-1)) (4 : Int32).toNatClampNeg (50 + p1)))), (h2, .inl (cint, 6, .inl (fun _ => 0))), (h3, .inl (clong, 360, .inr (.inl (fun _ => 0))))] H := hP
            have hD : va_D A [(h0, .inr (12, [.int 0, .ref h4, .ref h5, .ref h6, .ref h7, .ref h8, .int 0, .int 0, .ref h9, .int 0, .int 0, .ref h10, .ref h11, .ref h12, .ref h13, .ref h14, .ref h15, .ref h16, .int 0, .int 0, .ref h17, .ref h18, .ref h19, .ref h20, .int 0, .ref h21, .ref h22, .int 0, .ref h23, .int 0, .int 0, .ref h24, .ref h25, .int 0, .int 0, .int 0, .int 0, .int 0, .ref h26, .int 0, .ref h27, .ref h28, .int 0, .int 0, .int 0, .ref h1, .ref h2, .ref h3, .ref h29])), (h1, .inl (cint, 6, .inl (upd (fun _ => (-1)) (4 : Int32).toNatClampNeg (50 + p1)))), (h2, .inl (cint, 6, .inl (fun _ => 0))), (h3, .inl (clong, 360, .inr (.inl (fun _ => 0))))] := hD
            refine lv_aload_n hx hb dX12_row_44 rfl (lv_at hl 0 rfl) ?_
            refine va_get (D := (dC, dI)) (ci := 12) (v := .ref h2) (C := RX12) (T := TX12) (N := 49) hx hb hts (fun _ h => List.mem_cons_of_mem _ (List.mem_append_right _ h)) hown hK hP 0 rfl rfl 46 (by decide) (hts (.fieldLink RX12 89 "KinkStreetModel" "many" "[I") (List.mem_of_getElem? (i := 3) rfl)) (fun _ h9 => h9) rfl dX12_row_45 ?_
            refine lv_iload_n hx hb dX12_row_48 rfl (lv_at hl 1 rfl) ?_
            refine lv_iload_n hx hb dX12_row_49 rfl (lv_at hl 3 rfl) ?_
            refine va_iast hx hb hK hP hD hS 2 0 rfl rfl (by unfold vp_in; decide) dX12_row_50 (fun H locs hP hD hS => ?_)
            have hP : va_P (dC, dI) vwCl [(h0, .inr (12, [.int 0, .ref h4, .ref h5, .ref h6, .ref h7, .ref h8, .int 0, .int 0, .ref h9, .int 0, .int 0, .ref h10, .ref h11, .ref h12, .ref h13, .ref h14, .ref h15, .ref h16, .int 0, .int 0, .ref h17, .ref h18, .ref h19, .ref h20, .int 0, .ref h21, .ref h22, .int 0, .ref h23, .int 0, .int 0, .ref h24, .ref h25, .int 0, .int 0, .int 0, .int 0, .int 0, .ref h26, .int 0, .ref h27, .ref h28, .int 0, .int 0, .int 0, .ref h1, .ref h2, .ref h3, .ref h29])), (h1, .inl (cint, 6, .inl (upd (fun _ => (-1)) (4 : Int32).toNatClampNeg (50 + p1)))), (h2, .inl (cint, 6, .inl (upd (fun _ => 0) (4 : Int32).toNatClampNeg p2))), (h3, .inl (clong, 360, .inr (.inl (fun _ => 0))))] H := hP
            have hD : va_D A [(h0, .inr (12, [.int 0, .ref h4, .ref h5, .ref h6, .ref h7, .ref h8, .int 0, .int 0, .ref h9, .int 0, .int 0, .ref h10, .ref h11, .ref h12, .ref h13, .ref h14, .ref h15, .ref h16, .int 0, .int 0, .ref h17, .ref h18, .ref h19, .ref h20, .int 0, .ref h21, .ref h22, .int 0, .ref h23, .int 0, .int 0, .ref h24, .ref h25, .int 0, .int 0, .int 0, .int 0, .int 0, .ref h26, .int 0, .ref h27, .ref h28, .int 0, .int 0, .int 0, .ref h1, .ref h2, .ref h3, .ref h29])), (h1, .inl (cint, 6, .inl (upd (fun _ => (-1)) (4 : Int32).toNatClampNeg (50 + p1)))), (h2, .inl (cint, 6, .inl (upd (fun _ => 0) (4 : Int32).toNatClampNeg p2))), (h3, .inl (clong, 360, .inr (.inl (fun _ => 0))))] := hD
            refine lv_bipush (v := 60) hx hb dX12_row_51 (by decide) ?_
            refine lv_iload_n hx hb dX12_row_53 rfl (lv_at hl 1 rfl) ?_
            refine lv_imul hx hb dX12_row_54 ?_
            refine lv_topi (fun y_30 e_30 => ?_)
            obtain rfl : y_30 = 240 := e_30.trans (by decide)
            refine lv_istore (lv' := [(4, .int 240), (0, .ref h0), (1, .int 4), (2, .int p1), (3, .int p2)]) hx hb dX12_row_55 hl (by decide) rfl (fun ls hl => ?_)
            refine kk_loop (σ := Int32 × (Nat → Int64)) (fun x H locs ls => 240 ≤ x.1.toInt ∧ x.1.toInt ≤ 300 ∧ va_P (dC, dI) vwCl [(h0, .inr (12, [.int 0, .ref h4, .ref h5, .ref h6, .ref h7, .ref h8, .int 0, .int 0, .ref h9, .int 0, .int 0, .ref h10, .ref h11, .ref h12, .ref h13, .ref h14, .ref h15, .ref h16, .int 0, .int 0, .ref h17, .ref h18, .ref h19, .ref h20, .int 0, .ref h21, .ref h22, .int 0, .ref h23, .int 0, .int 0, .ref h24, .ref h25, .int 0, .int 0, .int 0, .int 0, .int 0, .ref h26, .int 0, .ref h27, .ref h28, .int 0, .int 0, .int 0, .ref h1, .ref h2, .ref h3, .ref h29])), (h1, .inl (cint, 6, .inl (upd (fun _ => (-1)) (4 : Int32).toNatClampNeg (50 + p1)))), (h2, .inl (cint, 6, .inl (upd (fun _ => 0) (4 : Int32).toNatClampNeg p2))), (h3, .inl (clong, 360, .inr (.inl x.2)))] H ∧ va_D A [(h0, .inr (12, [.int 0, .ref h4, .ref h5, .ref h6, .ref h7, .ref h8, .int 0, .int 0, .ref h9, .int 0, .int 0, .ref h10, .ref h11, .ref h12, .ref h13, .ref h14, .ref h15, .ref h16, .int 0, .int 0, .ref h17, .ref h18, .ref h19, .ref h20, .int 0, .ref h21, .ref h22, .int 0, .ref h23, .int 0, .int 0, .ref h24, .ref h25, .int 0, .int 0, .int 0, .int 0, .int 0, .ref h26, .int 0, .ref h27, .ref h28, .int 0, .int 0, .int 0, .ref h1, .ref h2, .ref h3, .ref h29])), (h1, .inl (cint, 6, .inl (upd (fun _ => (-1)) (4 : Int32).toNatClampNeg (50 + p1)))), (h2, .inl (cint, 6, .inl (upd (fun _ => 0) (4 : Int32).toNatClampNeg p2))), (h3, .inl (clong, 360, .inr (.inl x.2)))] ∧ va_S A s.heap H locs ∧ lv_has ls 5 [(4, .int x.1), (0, .ref h0), (1, .int 4), (2, .int p1), (3, .int p2)]) (fun x => ((300 : Int) - x.1.toInt).toNat) ?_ (240, (fun _ => 0)) _ _ _ ⟨by first | decide | (show _ ≤ (240 : Int32).toInt; decide) | omega, by first | decide | omega, hP, hD, hS, hl⟩
            rintro ⟨i_31, f_31_0⟩ H locs ls ⟨t_31, u_31, hP, hD, hS, hl⟩ ih_31
            have t_31 : 240 ≤ i_31.toInt := t_31
            have u_31 : i_31.toInt ≤ 300 := u_31
            have hl : lv_has ls 5 [(4, .int i_31), (0, .ref h0), (1, .int 4), (2, .int p1), (3, .int p2)] := hl
            have hP : va_P (dC, dI) vwCl [(h0, .inr (12, [.int 0, .ref h4, .ref h5, .ref h6, .ref h7, .ref h8, .int 0, .int 0, .ref h9, .int 0, .int 0, .ref h10, .ref h11, .ref h12, .ref h13, .ref h14, .ref h15, .ref h16, .int 0, .int 0, .ref h17, .ref h18, .ref h19, .ref h20, .int 0, .ref h21, .ref h22, .int 0, .ref h23, .int 0, .int 0, .ref h24, .ref h25, .int 0, .int 0, .int 0, .int 0, .int 0, .ref h26, .int 0, .ref h27, .ref h28, .int 0, .int 0, .int 0, .ref h1, .ref h2, .ref h3, .ref h29])), (h1, .inl (cint, 6, .inl (upd (fun _ => (-1)) (4 : Int32).toNatClampNeg (50 + p1)))), (h2, .inl (cint, 6, .inl (upd (fun _ => 0) (4 : Int32).toNatClampNeg p2))), (h3, .inl (clong, 360, .inr (.inl f_31_0)))] H := hP
            have hD : va_D A [(h0, .inr (12, [.int 0, .ref h4, .ref h5, .ref h6, .ref h7, .ref h8, .int 0, .int 0, .ref h9, .int 0, .int 0, .ref h10, .ref h11, .ref h12, .ref h13, .ref h14, .ref h15, .ref h16, .int 0, .int 0, .ref h17, .ref h18, .ref h19, .ref h20, .int 0, .ref h21, .ref h22, .int 0, .ref h23, .int 0, .int 0, .ref h24, .ref h25, .int 0, .int 0, .int 0, .int 0, .int 0, .ref h26, .int 0, .ref h27, .ref h28, .int 0, .int 0, .int 0, .ref h1, .ref h2, .ref h3, .ref h29])), (h1, .inl (cint, 6, .inl (upd (fun _ => (-1)) (4 : Int32).toNatClampNeg (50 + p1)))), (h2, .inl (cint, 6, .inl (upd (fun _ => 0) (4 : Int32).toNatClampNeg p2))), (h3, .inl (clong, 360, .inr (.inl f_31_0)))] := hD
            refine lv_iload hx hb dX12_row_57 (lv_at hl 0 rfl) ?_
            refine lv_bipush (v := 60) hx hb dX12_row_59 (by decide) ?_
            refine lv_iload_n hx hb dX12_row_61 rfl (lv_at hl 2 rfl) ?_
            refine lv_imul hx hb dX12_row_62 ?_
            refine lv_topi (fun y_32 e_32 => ?_)
            obtain rfl : y_32 = 240 := e_32.trans (by decide)
            refine lv_bipush (v := 60) hx hb dX12_row_63 (by decide) ?_
            refine lv_iadd hx hb dX12_row_65 ?_
            refine lv_topi (fun y_33 e_33 => ?_)
            obtain rfl : y_33 = 300 := e_33.trans (by decide)
            refine lv_icmp_ge (tgt := 83) hx hb dX12_row_66 (by decide) (fun c_34 => ?_) (fun c_34 => ?_)
            · have t_34 : 300 ≤ i_31.toInt := kk_le c_34
              refine lv_iconst (v := 1) hx hb dX12_row_83 (by decide) ?_
              have hP9 := hP.sub (ws' := []) [] rfl
              have hD9 := hD.sub (ws' := []) [] (by decide) rfl
              have hK9 := hK.sub (tys' := []) [] rfl
              exact W.iret (v := 1) hx hb hr (fun t ht hW => ⟨⟨1, (), rfl, by first | rfl | ((repeat' split) <;> first | rfl | (exfalso; have := kk_add2 (x := 50) (y := p1) (a := 50) (b := p1.toInt) rfl rfl (by omega) (by omega); omega) | (exact Int32.toInt_inj.mp (by show (1 : Int) = _; omega))), by rw [ht]; exact hP9, va_K.moved hW.alike hK9, hD9⟩, hS.F ht⟩) hS.2.2 dX12_row_84
            · have t_34 : i_31.toInt < 300 := kk_nle c_34
              refine lv_aload_n hx hb dX12_row_69 rfl (lv_at hl 1 rfl) ?_
              refine va_get (D := (dC, dI)) (ci := 12) (v := .ref h3) (C := RX12) (T := TX12) (N := 49) hx hb hts (fun _ h => List.mem_cons_of_mem _ (List.mem_append_right _ h)) hown hK hP 0 rfl rfl 47 (by decide) (hts (.fieldLink RX12 92 "KinkStreetModel" "items" "[J") (List.mem_of_getElem? (i := 4) rfl)) (fun _ h9 => h9) rfl dX12_row_70 ?_
              refine lv_iload hx hb dX12_row_73 (lv_at hl 0 rfl) ?_
              refine lv_lconst (v := 0) hx hb dX12_row_75 (by decide) ?_
              refine va_last hx hb hK hP hD hS 3 1 rfl rfl (vp_in_iff.mpr ⟨by have := kk_add2 (x := 50) (y := p1) (a := 50) (b := p1.toInt) rfl rfl (by omega) (by omega); omega, by have := kk_add2 (x := 50) (y := p1) (a := 50) (b := p1.toInt) rfl rfl (by omega) (by omega); omega⟩) dX12_row_76 (fun H locs hP hD hS => ?_)
              generalize vp_updL f_31_0 ((i_31 : Int32)).toNatClampNeg 0 = f_35 at hP hD
              have hP : va_P (dC, dI) vwCl [(h0, .inr (12, [.int 0, .ref h4, .ref h5, .ref h6, .ref h7, .ref h8, .int 0, .int 0, .ref h9, .int 0, .int 0, .ref h10, .ref h11, .ref h12, .ref h13, .ref h14, .ref h15, .ref h16, .int 0, .int 0, .ref h17, .ref h18, .ref h19, .ref h20, .int 0, .ref h21, .ref h22, .int 0, .ref h23, .int 0, .int 0, .ref h24, .ref h25, .int 0, .int 0, .int 0, .int 0, .int 0, .ref h26, .int 0, .ref h27, .ref h28, .int 0, .int 0, .int 0, .ref h1, .ref h2, .ref h3, .ref h29])), (h1, .inl (cint, 6, .inl (upd (fun _ => (-1)) (4 : Int32).toNatClampNeg (50 + p1)))), (h2, .inl (cint, 6, .inl (upd (fun _ => 0) (4 : Int32).toNatClampNeg p2))), (h3, .inl (clong, 360, .inr (.inl f_35)))] H := hP
              have hD : va_D A [(h0, .inr (12, [.int 0, .ref h4, .ref h5, .ref h6, .ref h7, .ref h8, .int 0, .int 0, .ref h9, .int 0, .int 0, .ref h10, .ref h11, .ref h12, .ref h13, .ref h14, .ref h15, .ref h16, .int 0, .int 0, .ref h17, .ref h18, .ref h19, .ref h20, .int 0, .ref h21, .ref h22, .int 0, .ref h23, .int 0, .int 0, .ref h24, .ref h25, .int 0, .int 0, .int 0, .int 0, .int 0, .ref h26, .int 0, .ref h27, .ref h28, .int 0, .int 0, .int 0, .ref h1, .ref h2, .ref h3, .ref h29])), (h1, .inl (cint, 6, .inl (upd (fun _ => (-1)) (4 : Int32).toNatClampNeg (50 + p1)))), (h2, .inl (cint, 6, .inl (upd (fun _ => 0) (4 : Int32).toNatClampNeg p2))), (h3, .inl (clong, 360, .inr (.inl f_35)))] := hD
              refine lv_iinc (v := (i_31 + 1)) (lv' := [(4, .int (i_31 + 1)), (0, .ref h0), (1, .int 4), (2, .int p1), (3, .int p2)]) hx hb dX12_row_77 hl (k := 0) rfl (by first | rfl | decide) (by decide) rfl (fun ls hl => ?_)
              refine lv_goto (tgt := 57) hx hb dX12_row_80 (by decide) ?_
              exact ih_31 ((i_31 + 1), f_35) _ _ _ (by show ((300 : Int) - ((i_31 + 1)).toInt).toNat < ((300 : Int) - i_31.toInt).toNat; have hi_ := kk_add (x := i_31) (k := 1) (n := 1) rfl (by omega) (by omega); omega) ⟨by show (240 : Int) ≤ ((i_31 + 1)).toInt; have hi_ := kk_add (x := i_31) (k := 1) (n := 1) rfl (by omega) (by omega); omega, by show ((i_31 + 1)).toInt ≤ (300 : Int); have hi_ := kk_add (x := i_31) (k := 1) (n := 1) rfl (by omega) (by omega); omega, hP, hD, hS, lv_sub hl [0, 1, 2, 3, 4] rfl⟩
          · have t_5 : p0.toInt = 5 := by rw [e_5]; rfl
            subst e_5
            refine lv_aload_n hx hb dX12_row_34 rfl (lv_at hl 0 rfl) ?_
            refine va_get (D := (dC, dI)) (ci := 12) (v := .ref h1) (C := RX12) (T := TX12) (N := 49) hx hb hts (fun _ h => List.mem_cons_of_mem _ (List.mem_append_right _ h)) hown hK hP 0 rfl rfl 45 (by decide) (hts (.fieldLink RX12 86 "KinkStreetModel" "shelf" "[I") (List.mem_of_getElem? (i := 2) rfl)) (fun _ h9 => h9) rfl dX12_row_35 ?_
            refine lv_iload_n hx hb dX12_row_38 rfl (lv_at hl 1 rfl) ?_
            refine lv_bipush (v := 50) hx hb dX12_row_39 (by decide) ?_
            refine lv_iload_n hx hb dX12_row_41 rfl (lv_at hl 2 rfl) ?_
            refine lv_iadd hx hb dX12_row_42 ?_
            refine va_iast hx hb hK hP hD hS 1 0 rfl rfl (by unfold vp_in; decide) dX12_row_43 (fun H locs hP hD hS => ?_)
            have hP : va_P (dC, dI) vwCl [(h0, .inr (12, [.int 0, .ref h4, .ref h5, .ref h6, .ref h7, .ref h8, .int 0, .int 0, .ref h9, .int 0, .int 0, .ref h10, .ref h11, .ref h12, .ref h13, .ref h14, .ref h15, .ref h16, .int 0, .int 0, .ref h17, .ref h18, .ref h19, .ref h20, .int 0, .ref h21, .ref h22, .int 0, .ref h23, .int 0, .int 0, .ref h24, .ref h25, .int 0, .int 0, .int 0, .int 0, .int 0, .ref h26, .int 0, .ref h27, .ref h28, .int 0, .int 0, .int 0, .ref h1, .ref h2, .ref h3, .ref h29])), (h1, .inl (cint, 6, .inl (upd (fun _ => (-1)) (5 : Int32).toNatClampNeg (50 + p1)))), (h2, .inl (cint, 6, .inl (fun _ => 0))), (h3, .inl (clong, 360, .inr (.inl (fun _ => 0))))] H := hP
            have hD : va_D A [(h0, .inr (12, [.int 0, .ref h4, .ref h5, .ref h6, .ref h7, .ref h8, .int 0, .int 0, .ref h9, .int 0, .int 0, .ref h10, .ref h11, .ref h12, .ref h13, .ref h14, .ref h15, .ref h16, .int 0, .int 0, .ref h17, .ref h18, .ref h19, .ref h20, .int 0, .ref h21, .ref h22, .int 0, .ref h23, .int 0, .int 0, .ref h24, .ref h25, .int 0, .int 0, .int 0, .int 0, .int 0, .ref h26, .int 0, .ref h27, .ref h28, .int 0, .int 0, .int 0, .ref h1, .ref h2, .ref h3, .ref h29])), (h1, .inl (cint, 6, .inl (upd (fun _ => (-1)) (5 : Int32).toNatClampNeg (50 + p1)))), (h2, .inl (cint, 6, .inl (fun _ => 0))), (h3, .inl (clong, 360, .inr (.inl (fun _ => 0))))] := hD
            refine lv_aload_n hx hb dX12_row_44 rfl (lv_at hl 0 rfl) ?_
            refine va_get (D := (dC, dI)) (ci := 12) (v := .ref h2) (C := RX12) (T := TX12) (N := 49) hx hb hts (fun _ h => List.mem_cons_of_mem _ (List.mem_append_right _ h)) hown hK hP 0 rfl rfl 46 (by decide) (hts (.fieldLink RX12 89 "KinkStreetModel" "many" "[I") (List.mem_of_getElem? (i := 3) rfl)) (fun _ h9 => h9) rfl dX12_row_45 ?_
            refine lv_iload_n hx hb dX12_row_48 rfl (lv_at hl 1 rfl) ?_
            refine lv_iload_n hx hb dX12_row_49 rfl (lv_at hl 3 rfl) ?_
            refine va_iast hx hb hK hP hD hS 2 0 rfl rfl (by unfold vp_in; decide) dX12_row_50 (fun H locs hP hD hS => ?_)
            have hP : va_P (dC, dI) vwCl [(h0, .inr (12, [.int 0, .ref h4, .ref h5, .ref h6, .ref h7, .ref h8, .int 0, .int 0, .ref h9, .int 0, .int 0, .ref h10, .ref h11, .ref h12, .ref h13, .ref h14, .ref h15, .ref h16, .int 0, .int 0, .ref h17, .ref h18, .ref h19, .ref h20, .int 0, .ref h21, .ref h22, .int 0, .ref h23, .int 0, .int 0, .ref h24, .ref h25, .int 0, .int 0, .int 0, .int 0, .int 0, .ref h26, .int 0, .ref h27, .ref h28, .int 0, .int 0, .int 0, .ref h1, .ref h2, .ref h3, .ref h29])), (h1, .inl (cint, 6, .inl (upd (fun _ => (-1)) (5 : Int32).toNatClampNeg (50 + p1)))), (h2, .inl (cint, 6, .inl (upd (fun _ => 0) (5 : Int32).toNatClampNeg p2))), (h3, .inl (clong, 360, .inr (.inl (fun _ => 0))))] H := hP
            have hD : va_D A [(h0, .inr (12, [.int 0, .ref h4, .ref h5, .ref h6, .ref h7, .ref h8, .int 0, .int 0, .ref h9, .int 0, .int 0, .ref h10, .ref h11, .ref h12, .ref h13, .ref h14, .ref h15, .ref h16, .int 0, .int 0, .ref h17, .ref h18, .ref h19, .ref h20, .int 0, .ref h21, .ref h22, .int 0, .ref h23, .int 0, .int 0, .ref h24, .ref h25, .int 0, .int 0, .int 0, .int 0, .int 0, .ref h26, .int 0, .ref h27, .ref h28, .int 0, .int 0, .int 0, .ref h1, .ref h2, .ref h3, .ref h29])), (h1, .inl (cint, 6, .inl (upd (fun _ => (-1)) (5 : Int32).toNatClampNeg (50 + p1)))), (h2, .inl (cint, 6, .inl (upd (fun _ => 0) (5 : Int32).toNatClampNeg p2))), (h3, .inl (clong, 360, .inr (.inl (fun _ => 0))))] := hD
            refine lv_bipush (v := 60) hx hb dX12_row_51 (by decide) ?_
            refine lv_iload_n hx hb dX12_row_53 rfl (lv_at hl 1 rfl) ?_
            refine lv_imul hx hb dX12_row_54 ?_
            refine lv_topi (fun y_36 e_36 => ?_)
            obtain rfl : y_36 = 300 := e_36.trans (by decide)
            refine lv_istore (lv' := [(4, .int 300), (0, .ref h0), (1, .int 5), (2, .int p1), (3, .int p2)]) hx hb dX12_row_55 hl (by decide) rfl (fun ls hl => ?_)
            refine kk_loop (σ := Int32 × (Nat → Int64)) (fun x H locs ls => 300 ≤ x.1.toInt ∧ x.1.toInt ≤ 360 ∧ va_P (dC, dI) vwCl [(h0, .inr (12, [.int 0, .ref h4, .ref h5, .ref h6, .ref h7, .ref h8, .int 0, .int 0, .ref h9, .int 0, .int 0, .ref h10, .ref h11, .ref h12, .ref h13, .ref h14, .ref h15, .ref h16, .int 0, .int 0, .ref h17, .ref h18, .ref h19, .ref h20, .int 0, .ref h21, .ref h22, .int 0, .ref h23, .int 0, .int 0, .ref h24, .ref h25, .int 0, .int 0, .int 0, .int 0, .int 0, .ref h26, .int 0, .ref h27, .ref h28, .int 0, .int 0, .int 0, .ref h1, .ref h2, .ref h3, .ref h29])), (h1, .inl (cint, 6, .inl (upd (fun _ => (-1)) (5 : Int32).toNatClampNeg (50 + p1)))), (h2, .inl (cint, 6, .inl (upd (fun _ => 0) (5 : Int32).toNatClampNeg p2))), (h3, .inl (clong, 360, .inr (.inl x.2)))] H ∧ va_D A [(h0, .inr (12, [.int 0, .ref h4, .ref h5, .ref h6, .ref h7, .ref h8, .int 0, .int 0, .ref h9, .int 0, .int 0, .ref h10, .ref h11, .ref h12, .ref h13, .ref h14, .ref h15, .ref h16, .int 0, .int 0, .ref h17, .ref h18, .ref h19, .ref h20, .int 0, .ref h21, .ref h22, .int 0, .ref h23, .int 0, .int 0, .ref h24, .ref h25, .int 0, .int 0, .int 0, .int 0, .int 0, .ref h26, .int 0, .ref h27, .ref h28, .int 0, .int 0, .int 0, .ref h1, .ref h2, .ref h3, .ref h29])), (h1, .inl (cint, 6, .inl (upd (fun _ => (-1)) (5 : Int32).toNatClampNeg (50 + p1)))), (h2, .inl (cint, 6, .inl (upd (fun _ => 0) (5 : Int32).toNatClampNeg p2))), (h3, .inl (clong, 360, .inr (.inl x.2)))] ∧ va_S A s.heap H locs ∧ lv_has ls 5 [(4, .int x.1), (0, .ref h0), (1, .int 5), (2, .int p1), (3, .int p2)]) (fun x => ((360 : Int) - x.1.toInt).toNat) ?_ (300, (fun _ => 0)) _ _ _ ⟨by first | decide | (show _ ≤ (300 : Int32).toInt; decide) | omega, by first | decide | omega, hP, hD, hS, hl⟩
            rintro ⟨i_37, f_37_0⟩ H locs ls ⟨t_37, u_37, hP, hD, hS, hl⟩ ih_37
            have t_37 : 300 ≤ i_37.toInt := t_37
            have u_37 : i_37.toInt ≤ 360 := u_37
            have hl : lv_has ls 5 [(4, .int i_37), (0, .ref h0), (1, .int 5), (2, .int p1), (3, .int p2)] := hl
            have hP : va_P (dC, dI) vwCl [(h0, .inr (12, [.int 0, .ref h4, .ref h5, .ref h6, .ref h7, .ref h8, .int 0, .int 0, .ref h9, .int 0, .int 0, .ref h10, .ref h11, .ref h12, .ref h13, .ref h14, .ref h15, .ref h16, .int 0, .int 0, .ref h17, .ref h18, .ref h19, .ref h20, .int 0, .ref h21, .ref h22, .int 0, .ref h23, .int 0, .int 0, .ref h24, .ref h25, .int 0, .int 0, .int 0, .int 0, .int 0, .ref h26, .int 0, .ref h27, .ref h28, .int 0, .int 0, .int 0, .ref h1, .ref h2, .ref h3, .ref h29])), (h1, .inl (cint, 6, .inl (upd (fun _ => (-1)) (5 : Int32).toNatClampNeg (50 + p1)))), (h2, .inl (cint, 6, .inl (upd (fun _ => 0) (5 : Int32).toNatClampNeg p2))), (h3, .inl (clong, 360, .inr (.inl f_37_0)))] H := hP
            have hD : va_D A [(h0, .inr (12, [.int 0, .ref h4, .ref h5, .ref h6, .ref h7, .ref h8, .int 0, .int 0, .ref h9, .int 0, .int 0, .ref h10, .ref h11, .ref h12, .ref h13, .ref h14, .ref h15, .ref h16, .int 0, .int 0, .ref h17, .ref h18, .ref h19, .ref h20, .int 0, .ref h21, .ref h22, .int 0, .ref h23, .int 0, .int 0, .ref h24, .ref h25, .int 0, .int 0, .int 0, .int 0, .int 0, .ref h26, .int 0, .ref h27, .ref h28, .int 0, .int 0, .int 0, .ref h1, .ref h2, .ref h3, .ref h29])), (h1, .inl (cint, 6, .inl (upd (fun _ => (-1)) (5 : Int32).toNatClampNeg (50 + p1)))), (h2, .inl (cint, 6, .inl (upd (fun _ => 0) (5 : Int32).toNatClampNeg p2))), (h3, .inl (clong, 360, .inr (.inl f_37_0)))] := hD
            refine lv_iload hx hb dX12_row_57 (lv_at hl 0 rfl) ?_
            refine lv_bipush (v := 60) hx hb dX12_row_59 (by decide) ?_
            refine lv_iload_n hx hb dX12_row_61 rfl (lv_at hl 2 rfl) ?_
            refine lv_imul hx hb dX12_row_62 ?_
            refine lv_topi (fun y_38 e_38 => ?_)
            obtain rfl : y_38 = 300 := e_38.trans (by decide)
            refine lv_bipush (v := 60) hx hb dX12_row_63 (by decide) ?_
            refine lv_iadd hx hb dX12_row_65 ?_
            refine lv_topi (fun y_39 e_39 => ?_)
            obtain rfl : y_39 = 360 := e_39.trans (by decide)
            refine lv_icmp_ge (tgt := 83) hx hb dX12_row_66 (by decide) (fun c_40 => ?_) (fun c_40 => ?_)
            · have t_40 : 360 ≤ i_37.toInt := kk_le c_40
              refine lv_iconst (v := 1) hx hb dX12_row_83 (by decide) ?_
              have hP9 := hP.sub (ws' := []) [] rfl
              have hD9 := hD.sub (ws' := []) [] (by decide) rfl
              have hK9 := hK.sub (tys' := []) [] rfl
              exact W.iret (v := 1) hx hb hr (fun t ht hW => ⟨⟨1, (), rfl, by first | rfl | ((repeat' split) <;> first | rfl | (exfalso; have := kk_add2 (x := 50) (y := p1) (a := 50) (b := p1.toInt) rfl rfl (by omega) (by omega); omega) | (exact Int32.toInt_inj.mp (by show (1 : Int) = _; omega))), by rw [ht]; exact hP9, va_K.moved hW.alike hK9, hD9⟩, hS.F ht⟩) hS.2.2 dX12_row_84
            · have t_40 : i_37.toInt < 360 := kk_nle c_40
              refine lv_aload_n hx hb dX12_row_69 rfl (lv_at hl 1 rfl) ?_
              refine va_get (D := (dC, dI)) (ci := 12) (v := .ref h3) (C := RX12) (T := TX12) (N := 49) hx hb hts (fun _ h => List.mem_cons_of_mem _ (List.mem_append_right _ h)) hown hK hP 0 rfl rfl 47 (by decide) (hts (.fieldLink RX12 92 "KinkStreetModel" "items" "[J") (List.mem_of_getElem? (i := 4) rfl)) (fun _ h9 => h9) rfl dX12_row_70 ?_
              refine lv_iload hx hb dX12_row_73 (lv_at hl 0 rfl) ?_
              refine lv_lconst (v := 0) hx hb dX12_row_75 (by decide) ?_
              refine va_last hx hb hK hP hD hS 3 1 rfl rfl (vp_in_iff.mpr ⟨by have := kk_add2 (x := 50) (y := p1) (a := 50) (b := p1.toInt) rfl rfl (by omega) (by omega); omega, by have := kk_add2 (x := 50) (y := p1) (a := 50) (b := p1.toInt) rfl rfl (by omega) (by omega); omega⟩) dX12_row_76 (fun H locs hP hD hS => ?_)
              generalize vp_updL f_37_0 ((i_37 : Int32)).toNatClampNeg 0 = f_41 at hP hD
              have hP : va_P (dC, dI) vwCl [(h0, .inr (12, [.int 0, .ref h4, .ref h5, .ref h6, .ref h7, .ref h8, .int 0, .int 0, .ref h9, .int 0, .int 0, .ref h10, .ref h11, .ref h12, .ref h13, .ref h14, .ref h15, .ref h16, .int 0, .int 0, .ref h17, .ref h18, .ref h19, .ref h20, .int 0, .ref h21, .ref h22, .int 0, .ref h23, .int 0, .int 0, .ref h24, .ref h25, .int 0, .int 0, .int 0, .int 0, .int 0, .ref h26, .int 0, .ref h27, .ref h28, .int 0, .int 0, .int 0, .ref h1, .ref h2, .ref h3, .ref h29])), (h1, .inl (cint, 6, .inl (upd (fun _ => (-1)) (5 : Int32).toNatClampNeg (50 + p1)))), (h2, .inl (cint, 6, .inl (upd (fun _ => 0) (5 : Int32).toNatClampNeg p2))), (h3, .inl (clong, 360, .inr (.inl f_41)))] H := hP
              have hD : va_D A [(h0, .inr (12, [.int 0, .ref h4, .ref h5, .ref h6, .ref h7, .ref h8, .int 0, .int 0, .ref h9, .int 0, .int 0, .ref h10, .ref h11, .ref h12, .ref h13, .ref h14, .ref h15, .ref h16, .int 0, .int 0, .ref h17, .ref h18, .ref h19, .ref h20, .int 0, .ref h21, .ref h22, .int 0, .ref h23, .int 0, .int 0, .ref h24, .ref h25, .int 0, .int 0, .int 0, .int 0, .int 0, .ref h26, .int 0, .ref h27, .ref h28, .int 0, .int 0, .int 0, .ref h1, .ref h2, .ref h3, .ref h29])), (h1, .inl (cint, 6, .inl (upd (fun _ => (-1)) (5 : Int32).toNatClampNeg (50 + p1)))), (h2, .inl (cint, 6, .inl (upd (fun _ => 0) (5 : Int32).toNatClampNeg p2))), (h3, .inl (clong, 360, .inr (.inl f_41)))] := hD
              refine lv_iinc (v := (i_37 + 1)) (lv' := [(4, .int (i_37 + 1)), (0, .ref h0), (1, .int 5), (2, .int p1), (3, .int p2)]) hx hb dX12_row_77 hl (k := 0) rfl (by first | rfl | decide) (by decide) rfl (fun ls hl => ?_)
              refine lv_goto (tgt := 57) hx hb dX12_row_80 (by decide) ?_
              exact ih_37 ((i_37 + 1), f_41) _ _ _ (by show ((360 : Int) - ((i_37 + 1)).toInt).toNat < ((360 : Int) - i_37.toInt).toNat; have hi_ := kk_add (x := i_37) (k := 1) (n := 1) rfl (by omega) (by omega); omega) ⟨by show (300 : Int) ≤ ((i_37 + 1)).toInt; have hi_ := kk_add (x := i_37) (k := 1) (n := 1) rfl (by omega) (by omega); omega, by show ((i_37 + 1)).toInt ≤ (360 : Int); have hi_ := kk_add (x := i_37) (k := 1) (n := 1) rfl (by omega) (by omega); omega, hP, hD, hS, lv_sub hl [0, 1, 2, 3, 4] rfl⟩
        · have t_4 : p2.toInt < 0 := kk_nle c_4
          refine lv_bipush (v := (-14)) hx hb dX12_row_31 (by decide) ?_
          have hP9 := hP.sub (ws' := []) [] rfl
          have hD9 := hD.sub (ws' := []) [] (by decide) rfl
          have hK9 := hK.sub (tys' := []) [] rfl
          exact W.iret (v := (-14)) hx hb hr (fun t ht hW => ⟨⟨(-14), (), rfl, by first | rfl | ((repeat' split) <;> first | rfl | (exfalso; omega) | (exact Int32.toInt_inj.mp (by show ((-14) : Int) = _; omega))), by rw [ht]; exact hP9, va_K.moved hW.alike hK9, hD9⟩, hS.F ht⟩) hS.2.2 dX12_row_33
      · have t_3 : 60 < p2.toInt := kk_nle c_3
        refine lv_iconst (v := (-1)) hx hb dX12_row_25 (by decide) ?_
        have hP9 := hP.sub (ws' := []) [] rfl
        have hD9 := hD.sub (ws' := []) [] (by decide) rfl
        have hK9 := hK.sub (tys' := []) [] rfl
        exact W.iret (v := (-1)) hx hb hr (fun t ht hW => ⟨⟨(-1), (), rfl, by first | rfl | ((repeat' split) <;> first | rfl | (exfalso; omega) | (exact Int32.toInt_inj.mp (by show ((-1) : Int) = _; omega))), by rw [ht]; exact hP9, va_K.moved hW.alike hK9, hD9⟩, hS.F ht⟩) hS.2.2 dX12_row_26
set_option maxHeartbeats 4000000 in
set_option maxRecDepth 100000 in
theorem k_X12_refusal_0 (l : Launch) (dC : Nat → ClassId) (dI : Nat → Nat → Nat) (h0 h1 h2 h3 h4 h5 h6 h7 h8 h9 h10 h11 h12 h13 h14 h15 h16 h17 h18 h19 h20 h21 h22 h23 h24 h25 h26 h27 h28 h29 : Nat) (cint : ClassId) (sz : Nat) (p0 : Int32) (p1 : Int32) : Met l yX12_refusal wsX12_refusal ({ frames := 2, cells := 0, slots := 0, locals := 45 }) (va_Pc [.ref h0, .int p0, .int p1] (fun U => U.heap.size = sz ∧ va_P (dC, dI) vwCl [(h0, .inr (12, [.int 0, .ref h2, .ref h3, .ref h4, .ref h5, .ref h6, .int 0, .int 0, .ref h7, .int 0, .int 0, .ref h8, .ref h9, .ref h10, .ref h11, .ref h12, .ref h13, .ref h14, .int 0, .int 0, .ref h15, .ref h16, .ref h17, .ref h18, .int 0, .ref h19, .ref h20, .int 0, .ref h21, .int 0, .int 0, .ref h22, .ref h23, .int 0, .int 0, .int 0, .int 0, .int 0, .ref h24, .int 0, .ref h25, .ref h26, .int 0, .int 0, .int 0, .ref h1, .ref h27, .ref h28, .ref h29])), (h1, .inl (cint, 6, .inl (fun _ => (-1))))] U.heap ∧ va_K (dC, dI) vwCl [(cint, .int)] U ∧ va_D (fun _ => True) [(h0, .inr (12, [.int 0, .ref h2, .ref h3, .ref h4, .ref h5, .ref h6, .int 0, .int 0, .ref h7, .int 0, .int 0, .ref h8, .ref h9, .ref h10, .ref h11, .ref h12, .ref h13, .ref h14, .int 0, .int 0, .ref h15, .ref h16, .ref h17, .ref h18, .int 0, .ref h19, .ref h20, .int 0, .ref h21, .int 0, .int 0, .ref h22, .ref h23, .int 0, .int 0, .int 0, .int 0, .int 0, .ref h24, .int 0, .ref h25, .ref h26, .int 0, .int 0, .int 0, .ref h1, .ref h27, .ref h28, .ref h29])), (h1, .inl (cint, 6, .inl (fun _ => (-1))))])) (va_Qi (fun (r : Int32) (_ : Unit) => (p0.toInt < 0 ∧ r = (-1)) ∨ (0 ≤ p0.toInt ∧ 5 < p0.toInt ∧ r = (-1)) ∨ (0 ≤ p0.toInt ∧ p0.toInt ≤ 5 ∧ r = (-11))) (fun (_ : Unit) t => va_P (dC, dI) vwCl [(h0, .inr (12, [.int 0, .ref h2, .ref h3, .ref h4, .ref h5, .ref h6, .int 0, .int 0, .ref h7, .int 0, .int 0, .ref h8, .ref h9, .ref h10, .ref h11, .ref h12, .ref h13, .ref h14, .int 0, .int 0, .ref h15, .ref h16, .ref h17, .ref h18, .int 0, .ref h19, .ref h20, .int 0, .ref h21, .int 0, .int 0, .ref h22, .ref h23, .int 0, .int 0, .int 0, .int 0, .int 0, .ref h24, .int 0, .ref h25, .ref h26, .int 0, .int 0, .int 0, .ref h1, .ref h27, .ref h28, .ref h29])), (h1, .inl (cint, 6, .inl (fun _ => (-1))))] t.heap ∧ va_K (dC, dI) vwCl [] t ∧ va_D (va_A [(h0, .inr (12, [.int 0, .ref h2, .ref h3, .ref h4, .ref h5, .ref h6, .int 0, .int 0, .ref h7, .int 0, .int 0, .ref h8, .ref h9, .ref h10, .ref h11, .ref h12, .ref h13, .ref h14, .int 0, .int 0, .ref h15, .ref h16, .ref h17, .ref h18, .int 0, .ref h19, .ref h20, .int 0, .ref h21, .int 0, .int 0, .ref h22, .ref h23, .int 0, .int 0, .int 0, .int 0, .int 0, .ref h24, .int 0, .ref h25, .ref h26, .int 0, .int 0, .int 0, .ref h1, .ref h27, .ref h28, .ref h29])), (h1, .inl (cint, 6, .inl (fun _ => (-1))))] sz) [(h0, .inr (12, [.int 0, .ref h2, .ref h3, .ref h4, .ref h5, .ref h6, .int 0, .int 0, .ref h7, .int 0, .int 0, .ref h8, .ref h9, .ref h10, .ref h11, .ref h12, .ref h13, .ref h14, .int 0, .int 0, .ref h15, .ref h16, .ref h17, .ref h18, .int 0, .ref h19, .ref h20, .int 0, .ref h21, .int 0, .int 0, .ref h22, .ref h23, .int 0, .int 0, .int 0, .int 0, .int 0, .ref h24, .int 0, .ref h25, .ref h26, .int 0, .int 0, .int 0, .ref h1, .ref h27, .ref h28, .ref h29])), (h1, .inl (cint, 6, .inl (fun _ => (-1))))]) (va_A [(h0, .inr (12, [.int 0, .ref h2, .ref h3, .ref h4, .ref h5, .ref h6, .int 0, .int 0, .ref h7, .int 0, .int 0, .ref h8, .ref h9, .ref h10, .ref h11, .ref h12, .ref h13, .ref h14, .int 0, .int 0, .ref h15, .ref h16, .ref h17, .ref h18, .int 0, .ref h19, .ref h20, .int 0, .ref h21, .int 0, .int 0, .ref h22, .ref h23, .int 0, .int 0, .int 0, .int 0, .int 0, .ref h24, .int 0, .ref h25, .ref h26, .int 0, .int 0, .int 0, .ref h1, .ref h27, .ref h28, .ref h29])), (h1, .inl (cint, 6, .inl (fun _ => (-1))))] sz)) 0 0 (va_A [(h0, .inr (12, [.int 0, .ref h2, .ref h3, .ref h4, .ref h5, .ref h6, .int 0, .int 0, .ref h7, .int 0, .int 0, .ref h8, .ref h9, .ref h10, .ref h11, .ref h12, .ref h13, .ref h14, .int 0, .int 0, .ref h15, .ref h16, .ref h17, .ref h18, .int 0, .ref h19, .ref h20, .int 0, .ref h21, .int 0, .int 0, .ref h22, .ref h23, .int 0, .int 0, .int 0, .int 0, .int 0, .ref h24, .int 0, .ref h25, .ref h26, .int 0, .int 0, .int 0, .ref h1, .ref h27, .ref h28, .ref h29])), (h1, .inl (cint, 6, .inl (fun _ => (-1))))] sz) := by
  refine Met.ofW (cc := cX12_refusal) (maxL := 3) (ret := (some .int)) (by decide) rfl ?_
  intro p e s m args below meth c s₁ B hml hv
  obtain ⟨rfl, hsz, hP, hK, hD0⟩ := hv
  have hx := B.exec
  have hb := B.bytes
  have hr := B.returns
  have hts := atoms_spec (ws := wsX12_refusal) B.pre
  have hown : s.vm.findClass RX12 = some m.cls := findClass_of_methodNamed B.named
  have hlocks := B.notSynchronized
  subst hsz
  have hD := hD0.self (sz := s.heap.size)
  generalize hAe : va_A [(h0, .inr (12, [.int 0, .ref h2, .ref h3, .ref h4, .ref h5, .ref h6, .int 0, .int 0, .ref h7, .int 0, .int 0, .ref h8, .ref h9, .ref h10, .ref h11, .ref h12, .ref h13, .ref h14, .int 0, .int 0, .ref h15, .ref h16, .ref h17, .ref h18, .int 0, .ref h19, .ref h20, .int 0, .ref h21, .int 0, .int 0, .ref h22, .ref h23, .int 0, .int 0, .int 0, .int 0, .int 0, .ref h24, .int 0, .ref h25, .ref h26, .int 0, .int 0, .int 0, .ref h1, .ref h27, .ref h28, .ref h29])), (h1, .inl (cint, 6, .inl (fun _ => (-1))))] s.heap.size = A at hD ⊢
  have hA : ∀ q : Nat, s.heap.size ≤ q → A q := fun q h => by rw [← hAe]; exact Or.inr h
  have hS : va_S A s.heap s.heap [] := va_S.rf
  have hP : va_P (dC, dI) vwCl [(h0, .inr (12, [.int 0, .ref h2, .ref h3, .ref h4, .ref h5, .ref h6, .int 0, .int 0, .ref h7, .int 0, .int 0, .ref h8, .ref h9, .ref h10, .ref h11, .ref h12, .ref h13, .ref h14, .int 0, .int 0, .ref h15, .ref h16, .ref h17, .ref h18, .int 0, .ref h19, .ref h20, .int 0, .ref h21, .int 0, .int 0, .ref h22, .ref h23, .int 0, .int 0, .int 0, .int 0, .int 0, .ref h24, .int 0, .ref h25, .ref h26, .int 0, .int 0, .int 0, .ref h1, .ref h27, .ref h28, .ref h29])), (h1, .inl (cint, 6, .inl (fun _ => (-1))))] s.heap := hP
  have hl := lv_entry ([.ref h0, .int p0, .int p1]) (n := 3) (Nat.le_of_ble_eq_true rfl)
  rw [lg_entry_eq]
  generalize (lg_sl ([.ref h0, .int p0, .int p1]) ++ List.replicate (3 - (lg_sl ([.ref h0, .int p0, .int p1])).length) Slot.unset).toArray = ls at hl ⊢
  have hl : lv_has ls 3 [(0, .ref h0), (1, .int p0), (2, .int p1)] := hl
  refine lv_iload_n hx hb dX12_refusal_0 rfl (lv_at hl 1 rfl) ?_
  have hPc := hP.sub (ws' := []) [] rfl
  have hDc := hD.sub (ws' := []) [] (by decide) rfl
  have hKc := hK.sub (tys' := []) [] rfl
  have hFc := va_free (wc := []) hD hS hA [] rfl
  refine va_calli (va_runS (As := [.int p0]) (rest := []) ⟨hx, hb, hml, hown, hts⟩ (k_X12_isShelf_0 l dC dI s.heap.size p0) (va_cwS 1 hts gX12_refusal_X12_isShelf rfl rfl rfl (by decide +kernel) ⟨Nat.le_of_ble_eq_true rfl, Nat.le_of_ble_eq_true rfl⟩) ⟨fun a U g mk q => by obtain ⟨q0, q1, qP, qK, qD⟩ := q; exact ⟨q0, q1, qP, va_K.moved (u := U) (U := U.calling g mk a) (Vm.Alike.refl U.vm) qK, qD⟩, fun U hU hW => ⟨rfl, by rw [hU], by rw [hU]; exact hPc, va_K.moved hW.alike hKc, hDc.weaken (fun _ _ _ _ => trivial)⟩⟩ rfl rfl hl.1 rfl (lv_room (Nat.le_of_ble_eq_true rfl)) dX12_refusal_1 ⟨Nat.le_of_ble_eq_true rfl, Nat.le_of_ble_eq_true rfl⟩) hS (fun q _ h => hFc q h) hFc (fun r_1 u t H1 locs ht hvm hw hB hz1 hk1 hS => ?_)
  obtain ⟨hP1, hK1, hD1⟩ := hB
  rw [ht] at hP1
  have hK1 := va_K.moved hvm.symm hK1
  obtain ⟨hP, hD⟩ := va_join (wr := [(h0, .inr (12, [.int 0, .ref h2, .ref h3, .ref h4, .ref h5, .ref h6, .int 0, .int 0, .ref h7, .int 0, .int 0, .ref h8, .ref h9, .ref h10, .ref h11, .ref h12, .ref h13, .ref h14, .int 0, .int 0, .ref h15, .ref h16, .ref h17, .ref h18, .int 0, .ref h19, .ref h20, .int 0, .ref h21, .int 0, .int 0, .ref h22, .ref h23, .int 0, .int 0, .int 0, .int 0, .int 0, .ref h24, .int 0, .ref h25, .ref h26, .int 0, .int 0, .int 0, .ref h1, .ref h27, .ref h28, .ref h29])), (h1, .inl (cint, 6, .inl (fun _ => (-1))))]) (w1 := []) hP hD [] [0, 1] rfl rfl (by decide) (by decide) hk1 hFc hP1 hD1
  generalize H1 = H at hP hS ⊢
  have hP : va_P (dC, dI) vwCl [(h0, .inr (12, [.int 0, .ref h2, .ref h3, .ref h4, .ref h5, .ref h6, .int 0, .int 0, .ref h7, .int 0, .int 0, .ref h8, .ref h9, .ref h10, .ref h11, .ref h12, .ref h13, .ref h14, .int 0, .int 0, .ref h15, .ref h16, .ref h17, .ref h18, .int 0, .ref h19, .ref h20, .int 0, .ref h21, .int 0, .int 0, .ref h22, .ref h23, .int 0, .int 0, .int 0, .int 0, .int 0, .ref h24, .int 0, .ref h25, .ref h26, .int 0, .int 0, .int 0, .ref h1, .ref h27, .ref h28, .ref h29])), (h1, .inl (cint, 6, .inl (fun _ => (-1))))] H := hP
  have hD : va_D A [(h0, .inr (12, [.int 0, .ref h2, .ref h3, .ref h4, .ref h5, .ref h6, .int 0, .int 0, .ref h7, .int 0, .int 0, .ref h8, .ref h9, .ref h10, .ref h11, .ref h12, .ref h13, .ref h14, .int 0, .int 0, .ref h15, .ref h16, .ref h17, .ref h18, .int 0, .ref h19, .ref h20, .int 0, .ref h21, .int 0, .int 0, .ref h22, .ref h23, .int 0, .int 0, .int 0, .int 0, .int 0, .ref h24, .int 0, .ref h25, .ref h26, .int 0, .int 0, .int 0, .ref h1, .ref h27, .ref h28, .ref h29])), (h1, .inl (cint, 6, .inl (fun _ => (-1))))] := hD
  rcases hw with ⟨t_1_0, rfl⟩ | ⟨t_1_0, t_1_1, rfl⟩ | ⟨t_1_0, t_1_1, rfl⟩
  · skip
    refine lv_if_ne (tgt := 9) hx hb dX12_refusal_4 (by decide) (fun c => absurd c (by decide)) (fun _ => ?_)
    refine lv_iconst (v := (-1)) hx hb dX12_refusal_7 (by decide) ?_
    have hP9 := hP.sub (ws' := [(h0, .inr (12, [.int 0, .ref h2, .ref h3, .ref h4, .ref h5, .ref h6, .int 0, .int 0, .ref h7, .int 0, .int 0, .ref h8, .ref h9, .ref h10, .ref h11, .ref h12, .ref h13, .ref h14, .int 0, .int 0, .ref h15, .ref h16, .ref h17, .ref h18, .int 0, .ref h19, .ref h20, .int 0, .ref h21, .int 0, .int 0, .ref h22, .ref h23, .int 0, .int 0, .int 0, .int 0, .int 0, .ref h24, .int 0, .ref h25, .ref h26, .int 0, .int 0, .int 0, .ref h1, .ref h27, .ref h28, .ref h29])), (h1, .inl (cint, 6, .inl (fun _ => (-1))))]) [0, 1] rfl
    have hD9 := hD.sub (ws' := [(h0, .inr (12, [.int 0, .ref h2, .ref h3, .ref h4, .ref h5, .ref h6, .int 0, .int 0, .ref h7, .int 0, .int 0, .ref h8, .ref h9, .ref h10, .ref h11, .ref h12, .ref h13, .ref h14, .int 0, .int 0, .ref h15, .ref h16, .ref h17, .ref h18, .int 0, .ref h19, .ref h20, .int 0, .ref h21, .int 0, .int 0, .ref h22, .ref h23, .int 0, .int 0, .int 0, .int 0, .int 0, .ref h24, .int 0, .ref h25, .ref h26, .int 0, .int 0, .int 0, .ref h1, .ref h27, .ref h28, .ref h29])), (h1, .inl (cint, 6, .inl (fun _ => (-1))))]) [0, 1] (by decide) rfl
    have hK9 := hK.sub (tys' := []) [] rfl
    exact W.iret (v := (-1)) hx hb hr (fun t ht hW => ⟨⟨(-1), (), rfl, Or.inl ⟨by first | assumption | omega, rfl⟩, by rw [ht]; exact hP9, va_K.moved hW.alike hK9, hD9⟩, hS.F ht⟩) hS.2.2 dX12_refusal_8
  · skip
    refine lv_if_ne (tgt := 9) hx hb dX12_refusal_4 (by decide) (fun c => absurd c (by decide)) (fun _ => ?_)
    refine lv_iconst (v := (-1)) hx hb dX12_refusal_7 (by decide) ?_
    have hP9 := hP.sub (ws' := [(h0, .inr (12, [.int 0, .ref h2, .ref h3, .ref h4, .ref h5, .ref h6, .int 0, .int 0, .ref h7, .int 0, .int 0, .ref h8, .ref h9, .ref h10, .ref h11, .ref h12, .ref h13, .ref h14, .int 0, .int 0, .ref h15, .ref h16, .ref h17, .ref h18, .int 0, .ref h19, .ref h20, .int 0, .ref h21, .int 0, .int 0, .ref h22, .ref h23, .int 0, .int 0, .int 0, .int 0, .int 0, .ref h24, .int 0, .ref h25, .ref h26, .int 0, .int 0, .int 0, .ref h1, .ref h27, .ref h28, .ref h29])), (h1, .inl (cint, 6, .inl (fun _ => (-1))))]) [0, 1] rfl
    have hD9 := hD.sub (ws' := [(h0, .inr (12, [.int 0, .ref h2, .ref h3, .ref h4, .ref h5, .ref h6, .int 0, .int 0, .ref h7, .int 0, .int 0, .ref h8, .ref h9, .ref h10, .ref h11, .ref h12, .ref h13, .ref h14, .int 0, .int 0, .ref h15, .ref h16, .ref h17, .ref h18, .int 0, .ref h19, .ref h20, .int 0, .ref h21, .int 0, .int 0, .ref h22, .ref h23, .int 0, .int 0, .int 0, .int 0, .int 0, .ref h24, .int 0, .ref h25, .ref h26, .int 0, .int 0, .int 0, .ref h1, .ref h27, .ref h28, .ref h29])), (h1, .inl (cint, 6, .inl (fun _ => (-1))))]) [0, 1] (by decide) rfl
    have hK9 := hK.sub (tys' := []) [] rfl
    exact W.iret (v := (-1)) hx hb hr (fun t ht hW => ⟨⟨(-1), (), rfl, Or.inr (Or.inl ⟨by first | assumption | omega, by first | assumption | omega, rfl⟩), by rw [ht]; exact hP9, va_K.moved hW.alike hK9, hD9⟩, hS.F ht⟩) hS.2.2 dX12_refusal_8
  · skip
    refine lv_if_ne (tgt := 9) hx hb dX12_refusal_4 (by decide) (fun _ => ?_) (fun c => absurd c (by decide))
    refine lv_aload_n hx hb dX12_refusal_9 rfl (lv_at hl 0 rfl) ?_
    refine va_get (D := (dC, dI)) (ci := 12) (v := .ref h1) (C := RX12) (T := TX12) (N := 49) hx hb hts (fun _ h => List.mem_cons_of_mem _ (List.mem_append_right _ h)) hown hK hP 0 rfl rfl 45 (by decide) (hts (.fieldLink RX12 86 "KinkStreetModel" "shelf" "[I") (List.mem_of_getElem? (i := 1) rfl)) (fun _ h9 => h9) rfl dX12_refusal_10 ?_
    refine lv_iload_n hx hb dX12_refusal_13 rfl (lv_at hl 1 rfl) ?_
    refine va_iald hx hb hK hP 1 0 rfl rfl (vp_in_iff.mpr ⟨by omega, by omega⟩) dX12_refusal_14 ?_
    refine lv_topi (fun y_2 e_2 => ?_)
    obtain rfl : y_2 = (-1) := e_2.trans rfl
    refine lv_if_ge (tgt := 21) hx hb dX12_refusal_15 (by decide) (fun c => absurd c (by decide)) (fun _ => ?_)
    refine lv_bipush (v := (-11)) hx hb dX12_refusal_18 (by decide) ?_
    have hP9 := hP.sub (ws' := [(h0, .inr (12, [.int 0, .ref h2, .ref h3, .ref h4, .ref h5, .ref h6, .int 0, .int 0, .ref h7, .int 0, .int 0, .ref h8, .ref h9, .ref h10, .ref h11, .ref h12, .ref h13, .ref h14, .int 0, .int 0, .ref h15, .ref h16, .ref h17, .ref h18, .int 0, .ref h19, .ref h20, .int 0, .ref h21, .int 0, .int 0, .ref h22, .ref h23, .int 0, .int 0, .int 0, .int 0, .int 0, .ref h24, .int 0, .ref h25, .ref h26, .int 0, .int 0, .int 0, .ref h1, .ref h27, .ref h28, .ref h29])), (h1, .inl (cint, 6, .inl (fun _ => (-1))))]) [0, 1] rfl
    have hD9 := hD.sub (ws' := [(h0, .inr (12, [.int 0, .ref h2, .ref h3, .ref h4, .ref h5, .ref h6, .int 0, .int 0, .ref h7, .int 0, .int 0, .ref h8, .ref h9, .ref h10, .ref h11, .ref h12, .ref h13, .ref h14, .int 0, .int 0, .ref h15, .ref h16, .ref h17, .ref h18, .int 0, .ref h19, .ref h20, .int 0, .ref h21, .int 0, .int 0, .ref h22, .ref h23, .int 0, .int 0, .int 0, .int 0, .int 0, .ref h24, .int 0, .ref h25, .ref h26, .int 0, .int 0, .int 0, .ref h1, .ref h27, .ref h28, .ref h29])), (h1, .inl (cint, 6, .inl (fun _ => (-1))))]) [0, 1] (by decide) rfl
    have hK9 := hK.sub (tys' := []) [] rfl
    exact W.iret (v := (-11)) hx hb hr (fun t ht hW => ⟨⟨(-11), (), rfl, Or.inr (Or.inr (⟨by first | assumption | omega, by first | assumption | omega, rfl⟩)), by rw [ht]; exact hP9, va_K.moved hW.alike hK9, hD9⟩, hS.F ht⟩) hS.2.2 dX12_refusal_20
set_option maxHeartbeats 4000000 in
set_option maxRecDepth 100000 in
theorem k_X12_put_0 (l : Launch) (dC : Nat → ClassId) (dI : Nat → Nat → Nat) (h0 h1 h2 h3 h4 h5 h6 h7 h8 h9 h10 h11 h12 h13 h14 h15 h16 h17 h18 h19 h20 h21 h22 h23 h24 h25 h26 h27 h28 h29 : Nat) (cint : ClassId) (sz : Nat) (p0 : Int32) (p1 : Int32) (v2 : Int64) (xv2 : Int) (exv2 : v2.toInt = xv2) : Met l yX12_put wsX12_put ({ frames := 3, cells := 0, slots := 0, locals := 67 }) (va_Pc [.ref h0, .int p0, .int p1, .long v2] (fun U => U.heap.size = sz ∧ va_P (dC, dI) vwCl [(h0, .inr (12, [.int 0, .ref h2, .ref h3, .ref h4, .ref h5, .ref h6, .int 0, .int 0, .ref h7, .int 0, .int 0, .ref h8, .ref h9, .ref h10, .ref h11, .ref h12, .ref h13, .ref h14, .int 0, .int 0, .ref h15, .ref h16, .ref h17, .ref h18, .int 0, .ref h19, .ref h20, .int 0, .ref h21, .int 0, .int 0, .ref h22, .ref h23, .int 0, .int 0, .int 0, .int 0, .int 0, .ref h24, .int 0, .ref h25, .ref h26, .int 0, .int 0, .int 0, .ref h1, .ref h27, .ref h28, .ref h29])), (h1, .inl (cint, 6, .inl (fun _ => (-1))))] U.heap ∧ va_K (dC, dI) vwCl [(cint, .int)] U ∧ va_D (fun _ => True) [(h0, .inr (12, [.int 0, .ref h2, .ref h3, .ref h4, .ref h5, .ref h6, .int 0, .int 0, .ref h7, .int 0, .int 0, .ref h8, .ref h9, .ref h10, .ref h11, .ref h12, .ref h13, .ref h14, .int 0, .int 0, .ref h15, .ref h16, .ref h17, .ref h18, .int 0, .ref h19, .ref h20, .int 0, .ref h21, .int 0, .int 0, .ref h22, .ref h23, .int 0, .int 0, .int 0, .int 0, .int 0, .ref h24, .int 0, .ref h25, .ref h26, .int 0, .int 0, .int 0, .ref h1, .ref h27, .ref h28, .ref h29])), (h1, .inl (cint, 6, .inl (fun _ => (-1))))])) (va_Qi (fun (r : Int32) (_ : Unit) => r = if 0 ≤ p0.toInt ∧ p0.toInt < 6 then (-11 : Int32) else -1) (fun (_ : Unit) t => va_P (dC, dI) vwCl [] t.heap ∧ va_K (dC, dI) vwCl [] t ∧ va_D (va_A [(h0, .inr (12, [.int 0, .ref h2, .ref h3, .ref h4, .ref h5, .ref h6, .int 0, .int 0, .ref h7, .int 0, .int 0, .ref h8, .ref h9, .ref h10, .ref h11, .ref h12, .ref h13, .ref h14, .int 0, .int 0, .ref h15, .ref h16, .ref h17, .ref h18, .int 0, .ref h19, .ref h20, .int 0, .ref h21, .int 0, .int 0, .ref h22, .ref h23, .int 0, .int 0, .int 0, .int 0, .int 0, .ref h24, .int 0, .ref h25, .ref h26, .int 0, .int 0, .int 0, .ref h1, .ref h27, .ref h28, .ref h29])), (h1, .inl (cint, 6, .inl (fun _ => (-1))))] sz) []) (va_A [(h0, .inr (12, [.int 0, .ref h2, .ref h3, .ref h4, .ref h5, .ref h6, .int 0, .int 0, .ref h7, .int 0, .int 0, .ref h8, .ref h9, .ref h10, .ref h11, .ref h12, .ref h13, .ref h14, .int 0, .int 0, .ref h15, .ref h16, .ref h17, .ref h18, .int 0, .ref h19, .ref h20, .int 0, .ref h21, .int 0, .int 0, .ref h22, .ref h23, .int 0, .int 0, .int 0, .int 0, .int 0, .ref h24, .int 0, .ref h25, .ref h26, .int 0, .int 0, .int 0, .ref h1, .ref h27, .ref h28, .ref h29])), (h1, .inl (cint, 6, .inl (fun _ => (-1))))] sz)) 0 0 (va_A [(h0, .inr (12, [.int 0, .ref h2, .ref h3, .ref h4, .ref h5, .ref h6, .int 0, .int 0, .ref h7, .int 0, .int 0, .ref h8, .ref h9, .ref h10, .ref h11, .ref h12, .ref h13, .ref h14, .int 0, .int 0, .ref h15, .ref h16, .ref h17, .ref h18, .int 0, .ref h19, .ref h20, .int 0, .ref h21, .int 0, .int 0, .ref h22, .ref h23, .int 0, .int 0, .int 0, .int 0, .int 0, .ref h24, .int 0, .ref h25, .ref h26, .int 0, .int 0, .int 0, .ref h1, .ref h27, .ref h28, .ref h29])), (h1, .inl (cint, 6, .inl (fun _ => (-1))))] sz) := by
  refine Met.ofW (cc := cX12_put) (maxL := 6) (ret := (some .int)) (by decide) rfl ?_
  intro p e s m args below meth c s₁ B hml hv
  obtain ⟨rfl, hsz, hP, hK, hD0⟩ := hv
  have hx := B.exec
  have hb := B.bytes
  have hr := B.returns
  have hts := atoms_spec (ws := wsX12_put) B.pre
  have hown : s.vm.findClass RX12 = some m.cls := findClass_of_methodNamed B.named
  have hlocks := B.notSynchronized
  subst hsz
  have hD := hD0.self (sz := s.heap.size)
  generalize hAe : va_A [(h0, .inr (12, [.int 0, .ref h2, .ref h3, .ref h4, .ref h5, .ref h6, .int 0, .int 0, .ref h7, .int 0, .int 0, .ref h8, .ref h9, .ref h10, .ref h11, .ref h12, .ref h13, .ref h14, .int 0, .int 0, .ref h15, .ref h16, .ref h17, .ref h18, .int 0, .ref h19, .ref h20, .int 0, .ref h21, .int 0, .int 0, .ref h22, .ref h23, .int 0, .int 0, .int 0, .int 0, .int 0, .ref h24, .int 0, .ref h25, .ref h26, .int 0, .int 0, .int 0, .ref h1, .ref h27, .ref h28, .ref h29])), (h1, .inl (cint, 6, .inl (fun _ => (-1))))] s.heap.size = A at hD ⊢
  have hA : ∀ q : Nat, s.heap.size ≤ q → A q := fun q h => by rw [← hAe]; exact Or.inr h
  have hS : va_S A s.heap s.heap [] := va_S.rf
  have hP : va_P (dC, dI) vwCl [(h0, .inr (12, [.int 0, .ref h2, .ref h3, .ref h4, .ref h5, .ref h6, .int 0, .int 0, .ref h7, .int 0, .int 0, .ref h8, .ref h9, .ref h10, .ref h11, .ref h12, .ref h13, .ref h14, .int 0, .int 0, .ref h15, .ref h16, .ref h17, .ref h18, .int 0, .ref h19, .ref h20, .int 0, .ref h21, .int 0, .int 0, .ref h22, .ref h23, .int 0, .int 0, .int 0, .int 0, .int 0, .ref h24, .int 0, .ref h25, .ref h26, .int 0, .int 0, .int 0, .ref h1, .ref h27, .ref h28, .ref h29])), (h1, .inl (cint, 6, .inl (fun _ => (-1))))] s.heap := hP
  have hl := lv_entry ([.ref h0, .int p0, .int p1, .long v2]) (n := 6) (Nat.le_of_ble_eq_true rfl)
  rw [lg_entry_eq]
  generalize (lg_sl ([.ref h0, .int p0, .int p1, .long v2]) ++ List.replicate (6 - (lg_sl ([.ref h0, .int p0, .int p1, .long v2])).length) Slot.unset).toArray = ls at hl ⊢
  have hl : lv_has ls 6 [(0, .ref h0), (1, .int p0), (2, .int p1), (3, .long v2)] := hl
  refine lv_aload_n hx hb dX12_put_0 rfl (lv_at hl 0 rfl) ?_
  refine lv_iload_n hx hb dX12_put_1 rfl (lv_at hl 1 rfl) ?_
  refine lv_iload_n hx hb dX12_put_2 rfl (lv_at hl 2 rfl) ?_
  have hPc := hP.sub (ws' := [(h0, .inr (12, [.int 0, .ref h2, .ref h3, .ref h4, .ref h5, .ref h6, .int 0, .int 0, .ref h7, .int 0, .int 0, .ref h8, .ref h9, .ref h10, .ref h11, .ref h12, .ref h13, .ref h14, .int 0, .int 0, .ref h15, .ref h16, .ref h17, .ref h18, .int 0, .ref h19, .ref h20, .int 0, .ref h21, .int 0, .int 0, .ref h22, .ref h23, .int 0, .int 0, .int 0, .int 0, .int 0, .ref h24, .int 0, .ref h25, .ref h26, .int 0, .int 0, .int 0, .ref h1, .ref h27, .ref h28, .ref h29])), (h1, .inl (cint, 6, .inl (fun _ => (-1))))]) [0, 1] rfl
  have hDc := hD.sub (ws' := [(h0, .inr (12, [.int 0, .ref h2, .ref h3, .ref h4, .ref h5, .ref h6, .int 0, .int 0, .ref h7, .int 0, .int 0, .ref h8, .ref h9, .ref h10, .ref h11, .ref h12, .ref h13, .ref h14, .int 0, .int 0, .ref h15, .ref h16, .ref h17, .ref h18, .int 0, .ref h19, .ref h20, .int 0, .ref h21, .int 0, .int 0, .ref h22, .ref h23, .int 0, .int 0, .int 0, .int 0, .int 0, .ref h24, .int 0, .ref h25, .ref h26, .int 0, .int 0, .int 0, .ref h1, .ref h27, .ref h28, .ref h29])), (h1, .inl (cint, 6, .inl (fun _ => (-1))))]) [0, 1] (by decide) rfl
  have hKc := hK.sub (tys' := [(cint, .int)]) [0] rfl
  have hFc := va_free (wc := [(h0, .inr (12, [.int 0, .ref h2, .ref h3, .ref h4, .ref h5, .ref h6, .int 0, .int 0, .ref h7, .int 0, .int 0, .ref h8, .ref h9, .ref h10, .ref h11, .ref h12, .ref h13, .ref h14, .int 0, .int 0, .ref h15, .ref h16, .ref h17, .ref h18, .int 0, .ref h19, .ref h20, .int 0, .ref h21, .int 0, .int 0, .ref h22, .ref h23, .int 0, .int 0, .int 0, .int 0, .int 0, .ref h24, .int 0, .ref h25, .ref h26, .int 0, .int 0, .int 0, .ref h1, .ref h27, .ref h28, .ref h29])), (h1, .inl (cint, 6, .inl (fun _ => (-1))))]) hD hS hA [0, 1] rfl
  refine va_calli (va_runV (As := [.int p0, .int p1]) (rest := []) ⟨hx, hb, hml, hown, hts⟩ (k_X12_refusal_0 l dC dI h0 h1 h2 h3 h4 h5 h6 h7 h8 h9 h10 h11 h12 h13 h14 h15 h16 h17 h18 h19 h20 h21 h22 h23 h24 h25 h26 h27 h28 h29 cint s.heap.size p0 p1) (cwV 2 hts gX12_put_X12_refusal rfl rfl rfl (by decide +kernel) ⟨Nat.le_of_ble_eq_true rfl, Nat.le_of_ble_eq_true rfl⟩) ⟨fun a U g mk q => by obtain ⟨q0, q1, qP, qK, qD⟩ := q; exact ⟨q0, q1, qP, va_K.moved (u := U) (U := U.calling g mk a) (Vm.Alike.refl U.vm) qK, qD⟩, va_recv hKc hPc (ci := 12) (q0 := 0) rfl rfl, fun U hU hW => ⟨rfl, by rw [hU], by rw [hU]; exact hPc, va_K.moved hW.alike hKc, hDc.weaken (fun _ _ _ _ => trivial)⟩⟩ rfl rfl hl.1 rfl (lv_room (Nat.le_of_ble_eq_true rfl)) dX12_put_3 ⟨Nat.le_of_ble_eq_true rfl, Nat.le_of_ble_eq_true rfl⟩) hS (fun q _ h => hFc q h) hFc (fun r_1 u t H1 locs ht hvm hw hB hz1 hk1 hS => ?_)
  obtain ⟨hP1, hK1, hD1⟩ := hB
  rw [ht] at hP1
  have hK1 := va_K.moved hvm.symm hK1
  obtain ⟨hP, hD⟩ := va_join (wr := []) (w1 := [(h0, .inr (12, [.int 0, .ref h2, .ref h3, .ref h4, .ref h5, .ref h6, .int 0, .int 0, .ref h7, .int 0, .int 0, .ref h8, .ref h9, .ref h10, .ref h11, .ref h12, .ref h13, .ref h14, .int 0, .int 0, .ref h15, .ref h16, .ref h17, .ref h18, .int 0, .ref h19, .ref h20, .int 0, .ref h21, .int 0, .int 0, .ref h22, .ref h23, .int 0, .int 0, .int 0, .int 0, .int 0, .ref h24, .int 0, .ref h25, .ref h26, .int 0, .int 0, .int 0, .ref h1, .ref h27, .ref h28, .ref h29])), (h1, .inl (cint, 6, .inl (fun _ => (-1))))]) hP hD [0, 1] [] rfl rfl (by decide) (by decide) hk1 hFc hP1 hD1
  generalize H1 = H at hP hS ⊢
  have hP : va_P (dC, dI) vwCl [(h0, .inr (12, [.int 0, .ref h2, .ref h3, .ref h4, .ref h5, .ref h6, .int 0, .int 0, .ref h7, .int 0, .int 0, .ref h8, .ref h9, .ref h10, .ref h11, .ref h12, .ref h13, .ref h14, .int 0, .int 0, .ref h15, .ref h16, .ref h17, .ref h18, .int 0, .ref h19, .ref h20, .int 0, .ref h21, .int 0, .int 0, .ref h22, .ref h23, .int 0, .int 0, .int 0, .int 0, .int 0, .ref h24, .int 0, .ref h25, .ref h26, .int 0, .int 0, .int 0, .ref h1, .ref h27, .ref h28, .ref h29])), (h1, .inl (cint, 6, .inl (fun _ => (-1))))] H := hP
  have hD : va_D A [(h0, .inr (12, [.int 0, .ref h2, .ref h3, .ref h4, .ref h5, .ref h6, .int 0, .int 0, .ref h7, .int 0, .int 0, .ref h8, .ref h9, .ref h10, .ref h11, .ref h12, .ref h13, .ref h14, .int 0, .int 0, .ref h15, .ref h16, .ref h17, .ref h18, .int 0, .ref h19, .ref h20, .int 0, .ref h21, .int 0, .int 0, .ref h22, .ref h23, .int 0, .int 0, .int 0, .int 0, .int 0, .ref h24, .int 0, .ref h25, .ref h26, .int 0, .int 0, .int 0, .ref h1, .ref h27, .ref h28, .ref h29])), (h1, .inl (cint, 6, .inl (fun _ => (-1))))] := hD
  rcases hw with ⟨t_1_0, rfl⟩ | ⟨t_1_0, t_1_1, rfl⟩ | ⟨t_1_0, t_1_1, rfl⟩
  · skip
    refine lv_istore (lv' := [(5, .int (-1)), (0, .ref h0), (1, .int p0), (2, .int p1), (3, .long v2)]) hx hb dX12_put_6 hl (by decide) rfl (fun ls hl => ?_)
    refine lv_iload hx hb dX12_put_8 (lv_at hl 0 rfl) ?_
    refine lv_if_ne (tgt := 37) hx hb dX12_put_10 (by decide) (fun _ => ?_) (fun c => absurd c (by decide))
    refine lv_iload hx hb dX12_put_37 (lv_at hl 0 rfl) ?_
    refine lv_if_ne (tgt := 46) hx hb dX12_put_39 (by decide) (fun _ => ?_) (fun c => absurd c (by decide))
    refine lv_iload hx hb dX12_put_46 (lv_at hl 0 rfl) ?_
    have hP9 := hP.sub (ws' := []) [] rfl
    have hD9 := hD.sub (ws' := []) [] (by decide) rfl
    have hK9 := hK.sub (tys' := []) [] rfl
    exact W.iret (v := (-1)) hx hb hr (fun t ht hW => ⟨⟨(-1), (), rfl, by first | rfl | ((repeat' split) <;> first | rfl | (exfalso; omega) | (exact Int32.toInt_inj.mp (by show ((-1) : Int) = _; omega))), by rw [ht]; exact hP9, va_K.moved hW.alike hK9, hD9⟩, hS.F ht⟩) hS.2.2 dX12_put_48
  · skip
    refine lv_istore (lv' := [(5, .int (-1)), (0, .ref h0), (1, .int p0), (2, .int p1), (3, .long v2)]) hx hb dX12_put_6 hl (by decide) rfl (fun ls hl => ?_)
    refine lv_iload hx hb dX12_put_8 (lv_at hl 0 rfl) ?_
    refine lv_if_ne (tgt := 37) hx hb dX12_put_10 (by decide) (fun _ => ?_) (fun c => absurd c (by decide))
    refine lv_iload hx hb dX12_put_37 (lv_at hl 0 rfl) ?_
    refine lv_if_ne (tgt := 46) hx hb dX12_put_39 (by decide) (fun _ => ?_) (fun c => absurd c (by decide))
    refine lv_iload hx hb dX12_put_46 (lv_at hl 0 rfl) ?_
    have hP9 := hP.sub (ws' := []) [] rfl
    have hD9 := hD.sub (ws' := []) [] (by decide) rfl
    have hK9 := hK.sub (tys' := []) [] rfl
    exact W.iret (v := (-1)) hx hb hr (fun t ht hW => ⟨⟨(-1), (), rfl, by first | rfl | ((repeat' split) <;> first | rfl | (exfalso; omega) | (exact Int32.toInt_inj.mp (by show ((-1) : Int) = _; omega))), by rw [ht]; exact hP9, va_K.moved hW.alike hK9, hD9⟩, hS.F ht⟩) hS.2.2 dX12_put_48
  · skip
    refine lv_istore (lv' := [(5, .int (-11)), (0, .ref h0), (1, .int p0), (2, .int p1), (3, .long v2)]) hx hb dX12_put_6 hl (by decide) rfl (fun ls hl => ?_)
    refine lv_iload hx hb dX12_put_8 (lv_at hl 0 rfl) ?_
    refine lv_if_ne (tgt := 37) hx hb dX12_put_10 (by decide) (fun _ => ?_) (fun c => absurd c (by decide))
    refine lv_iload hx hb dX12_put_37 (lv_at hl 0 rfl) ?_
    refine lv_if_ne (tgt := 46) hx hb dX12_put_39 (by decide) (fun _ => ?_) (fun c => absurd c (by decide))
    refine lv_iload hx hb dX12_put_46 (lv_at hl 0 rfl) ?_
    have hP9 := hP.sub (ws' := []) [] rfl
    have hD9 := hD.sub (ws' := []) [] (by decide) rfl
    have hK9 := hK.sub (tys' := []) [] rfl
    exact W.iret (v := (-11)) hx hb hr (fun t ht hW => ⟨⟨(-11), (), rfl, by first | rfl | ((repeat' split) <;> first | rfl | (exfalso; omega) | (exact Int32.toInt_inj.mp (by show ((-11) : Int) = _; omega))), by rw [ht]; exact hP9, va_K.moved hW.alike hK9, hD9⟩, hS.F ht⟩) hS.2.2 dX12_put_48
set_option maxHeartbeats 4000000 in
set_option maxRecDepth 100000 in
theorem k_X12_element_0 (l : Launch) (dC : Nat → ClassId) (dI : Nat → Nat → Nat) (h0 h1 h2 h3 h4 h5 h6 h7 h8 h9 h10 h11 h12 h13 h14 h15 h16 h17 h18 h19 h20 h21 h22 h23 h24 h25 h26 h27 h28 h29 : Nat) (cint : ClassId) (sz : Nat) (p0 : Int32) (p1 : Int32) : Met l yX12_element wsX12_element ({ frames := 3, cells := 0, slots := 0, locals := 67 }) (va_Pc [.ref h0, .int p0, .int p1] (fun U => U.heap.size = sz ∧ va_P (dC, dI) vwCl [(h0, .inr (12, [.int 0, .ref h2, .ref h3, .ref h4, .ref h5, .ref h6, .int 0, .int 0, .ref h7, .int 0, .int 0, .ref h8, .ref h9, .ref h10, .ref h11, .ref h12, .ref h13, .ref h14, .int 0, .int 0, .ref h15, .ref h16, .ref h17, .ref h18, .int 0, .ref h19, .ref h20, .int 0, .ref h21, .int 0, .int 0, .ref h22, .ref h23, .int 0, .int 0, .int 0, .int 0, .int 0, .ref h24, .int 0, .ref h25, .ref h26, .int 0, .int 0, .int 0, .ref h1, .ref h27, .ref h28, .ref h29])), (h1, .inl (cint, 6, .inl (fun _ => (-1))))] U.heap ∧ va_K (dC, dI) vwCl [(cint, .int)] U ∧ va_D (fun _ => True) [(h0, .inr (12, [.int 0, .ref h2, .ref h3, .ref h4, .ref h5, .ref h6, .int 0, .int 0, .ref h7, .int 0, .int 0, .ref h8, .ref h9, .ref h10, .ref h11, .ref h12, .ref h13, .ref h14, .int 0, .int 0, .ref h15, .ref h16, .ref h17, .ref h18, .int 0, .ref h19, .ref h20, .int 0, .ref h21, .int 0, .int 0, .ref h22, .ref h23, .int 0, .int 0, .int 0, .int 0, .int 0, .ref h24, .int 0, .ref h25, .ref h26, .int 0, .int 0, .int 0, .ref h1, .ref h27, .ref h28, .ref h29])), (h1, .inl (cint, 6, .inl (fun _ => (-1))))])) (va_Ql (fun (r : Int64) (_ : Unit) => r = -9223372036854775808) (fun (_ : Unit) t => va_P (dC, dI) vwCl [] t.heap ∧ va_K (dC, dI) vwCl [] t ∧ va_D (va_A [(h0, .inr (12, [.int 0, .ref h2, .ref h3, .ref h4, .ref h5, .ref h6, .int 0, .int 0, .ref h7, .int 0, .int 0, .ref h8, .ref h9, .ref h10, .ref h11, .ref h12, .ref h13, .ref h14, .int 0, .int 0, .ref h15, .ref h16, .ref h17, .ref h18, .int 0, .ref h19, .ref h20, .int 0, .ref h21, .int 0, .int 0, .ref h22, .ref h23, .int 0, .int 0, .int 0, .int 0, .int 0, .ref h24, .int 0, .ref h25, .ref h26, .int 0, .int 0, .int 0, .ref h1, .ref h27, .ref h28, .ref h29])), (h1, .inl (cint, 6, .inl (fun _ => (-1))))] sz) []) (va_A [(h0, .inr (12, [.int 0, .ref h2, .ref h3, .ref h4, .ref h5, .ref h6, .int 0, .int 0, .ref h7, .int 0, .int 0, .ref h8, .ref h9, .ref h10, .ref h11, .ref h12, .ref h13, .ref h14, .int 0, .int 0, .ref h15, .ref h16, .ref h17, .ref h18, .int 0, .ref h19, .ref h20, .int 0, .ref h21, .int 0, .int 0, .ref h22, .ref h23, .int 0, .int 0, .int 0, .int 0, .int 0, .ref h24, .int 0, .ref h25, .ref h26, .int 0, .int 0, .int 0, .ref h1, .ref h27, .ref h28, .ref h29])), (h1, .inl (cint, 6, .inl (fun _ => (-1))))] sz)) 0 0 (va_A [(h0, .inr (12, [.int 0, .ref h2, .ref h3, .ref h4, .ref h5, .ref h6, .int 0, .int 0, .ref h7, .int 0, .int 0, .ref h8, .ref h9, .ref h10, .ref h11, .ref h12, .ref h13, .ref h14, .int 0, .int 0, .ref h15, .ref h16, .ref h17, .ref h18, .int 0, .ref h19, .ref h20, .int 0, .ref h21, .int 0, .int 0, .ref h22, .ref h23, .int 0, .int 0, .int 0, .int 0, .int 0, .ref h24, .int 0, .ref h25, .ref h26, .int 0, .int 0, .int 0, .ref h1, .ref h27, .ref h28, .ref h29])), (h1, .inl (cint, 6, .inl (fun _ => (-1))))] sz) := by
  refine Met.ofW (cc := cX12_element) (maxL := 3) (ret := (some .long)) (by decide) rfl ?_
  intro p e s m args below meth c s₁ B hml hv
  obtain ⟨rfl, hsz, hP, hK, hD0⟩ := hv
  have hx := B.exec
  have hb := B.bytes
  have hr := B.returns
  have hts := atoms_spec (ws := wsX12_element) B.pre
  have hown : s.vm.findClass RX12 = some m.cls := findClass_of_methodNamed B.named
  have hlocks := B.notSynchronized
  subst hsz
  have hD := hD0.self (sz := s.heap.size)
  generalize hAe : va_A [(h0, .inr (12, [.int 0, .ref h2, .ref h3, .ref h4, .ref h5, .ref h6, .int 0, .int 0, .ref h7, .int 0, .int 0, .ref h8, .ref h9, .ref h10, .ref h11, .ref h12, .ref h13, .ref h14, .int 0, .int 0, .ref h15, .ref h16, .ref h17, .ref h18, .int 0, .ref h19, .ref h20, .int 0, .ref h21, .int 0, .int 0, .ref h22, .ref h23, .int 0, .int 0, .int 0, .int 0, .int 0, .ref h24, .int 0, .ref h25, .ref h26, .int 0, .int 0, .int 0, .ref h1, .ref h27, .ref h28, .ref h29])), (h1, .inl (cint, 6, .inl (fun _ => (-1))))] s.heap.size = A at hD ⊢
  have hA : ∀ q : Nat, s.heap.size ≤ q → A q := fun q h => by rw [← hAe]; exact Or.inr h
  have hS : va_S A s.heap s.heap [] := va_S.rf
  have hP : va_P (dC, dI) vwCl [(h0, .inr (12, [.int 0, .ref h2, .ref h3, .ref h4, .ref h5, .ref h6, .int 0, .int 0, .ref h7, .int 0, .int 0, .ref h8, .ref h9, .ref h10, .ref h11, .ref h12, .ref h13, .ref h14, .int 0, .int 0, .ref h15, .ref h16, .ref h17, .ref h18, .int 0, .ref h19, .ref h20, .int 0, .ref h21, .int 0, .int 0, .ref h22, .ref h23, .int 0, .int 0, .int 0, .int 0, .int 0, .ref h24, .int 0, .ref h25, .ref h26, .int 0, .int 0, .int 0, .ref h1, .ref h27, .ref h28, .ref h29])), (h1, .inl (cint, 6, .inl (fun _ => (-1))))] s.heap := hP
  have hl := lv_entry ([.ref h0, .int p0, .int p1]) (n := 3) (Nat.le_of_ble_eq_true rfl)
  rw [lg_entry_eq]
  generalize (lg_sl ([.ref h0, .int p0, .int p1]) ++ List.replicate (3 - (lg_sl ([.ref h0, .int p0, .int p1])).length) Slot.unset).toArray = ls at hl ⊢
  have hl : lv_has ls 3 [(0, .ref h0), (1, .int p0), (2, .int p1)] := hl
  refine lv_aload_n hx hb dX12_element_0 rfl (lv_at hl 0 rfl) ?_
  refine lv_iload_n hx hb dX12_element_1 rfl (lv_at hl 1 rfl) ?_
  refine lv_iload_n hx hb dX12_element_2 rfl (lv_at hl 2 rfl) ?_
  have hPc := hP.sub (ws' := [(h0, .inr (12, [.int 0, .ref h2, .ref h3, .ref h4, .ref h5, .ref h6, .int 0, .int 0, .ref h7, .int 0, .int 0, .ref h8, .ref h9, .ref h10, .ref h11, .ref h12, .ref h13, .ref h14, .int 0, .int 0, .ref h15, .ref h16, .ref h17, .ref h18, .int 0, .ref h19, .ref h20, .int 0, .ref h21, .int 0, .int 0, .ref h22, .ref h23, .int 0, .int 0, .int 0, .int 0, .int 0, .ref h24, .int 0, .ref h25, .ref h26, .int 0, .int 0, .int 0, .ref h1, .ref h27, .ref h28, .ref h29])), (h1, .inl (cint, 6, .inl (fun _ => (-1))))]) [0, 1] rfl
  have hDc := hD.sub (ws' := [(h0, .inr (12, [.int 0, .ref h2, .ref h3, .ref h4, .ref h5, .ref h6, .int 0, .int 0, .ref h7, .int 0, .int 0, .ref h8, .ref h9, .ref h10, .ref h11, .ref h12, .ref h13, .ref h14, .int 0, .int 0, .ref h15, .ref h16, .ref h17, .ref h18, .int 0, .ref h19, .ref h20, .int 0, .ref h21, .int 0, .int 0, .ref h22, .ref h23, .int 0, .int 0, .int 0, .int 0, .int 0, .ref h24, .int 0, .ref h25, .ref h26, .int 0, .int 0, .int 0, .ref h1, .ref h27, .ref h28, .ref h29])), (h1, .inl (cint, 6, .inl (fun _ => (-1))))]) [0, 1] (by decide) rfl
  have hKc := hK.sub (tys' := [(cint, .int)]) [0] rfl
  have hFc := va_free (wc := [(h0, .inr (12, [.int 0, .ref h2, .ref h3, .ref h4, .ref h5, .ref h6, .int 0, .int 0, .ref h7, .int 0, .int 0, .ref h8, .ref h9, .ref h10, .ref h11, .ref h12, .ref h13, .ref h14, .int 0, .int 0, .ref h15, .ref h16, .ref h17, .ref h18, .int 0, .ref h19, .ref h20, .int 0, .ref h21, .int 0, .int 0, .ref h22, .ref h23, .int 0, .int 0, .int 0, .int 0, .int 0, .ref h24, .int 0, .ref h25, .ref h26, .int 0, .int 0, .int 0, .ref h1, .ref h27, .ref h28, .ref h29])), (h1, .inl (cint, 6, .inl (fun _ => (-1))))]) hD hS hA [0, 1] rfl
  refine va_calli (va_runV (As := [.int p0, .int p1]) (rest := []) ⟨hx, hb, hml, hown, hts⟩ (k_X12_refusal_0 l dC dI h0 h1 h2 h3 h4 h5 h6 h7 h8 h9 h10 h11 h12 h13 h14 h15 h16 h17 h18 h19 h20 h21 h22 h23 h24 h25 h26 h27 h28 h29 cint s.heap.size p0 p1) (cwV 2 hts gX12_element_X12_refusal rfl rfl rfl (by decide +kernel) ⟨Nat.le_of_ble_eq_true rfl, Nat.le_of_ble_eq_true rfl⟩) ⟨fun a U g mk q => by obtain ⟨q0, q1, qP, qK, qD⟩ := q; exact ⟨q0, q1, qP, va_K.moved (u := U) (U := U.calling g mk a) (Vm.Alike.refl U.vm) qK, qD⟩, va_recv hKc hPc (ci := 12) (q0 := 0) rfl rfl, fun U hU hW => ⟨rfl, by rw [hU], by rw [hU]; exact hPc, va_K.moved hW.alike hKc, hDc.weaken (fun _ _ _ _ => trivial)⟩⟩ rfl rfl hl.1 rfl (lv_room (Nat.le_of_ble_eq_true rfl)) dX12_element_3 ⟨Nat.le_of_ble_eq_true rfl, Nat.le_of_ble_eq_true rfl⟩) hS (fun q _ h => hFc q h) hFc (fun r_1 u t H1 locs ht hvm hw hB hz1 hk1 hS => ?_)
  obtain ⟨hP1, hK1, hD1⟩ := hB
  rw [ht] at hP1
  have hK1 := va_K.moved hvm.symm hK1
  obtain ⟨hP, hD⟩ := va_join (wr := []) (w1 := [(h0, .inr (12, [.int 0, .ref h2, .ref h3, .ref h4, .ref h5, .ref h6, .int 0, .int 0, .ref h7, .int 0, .int 0, .ref h8, .ref h9, .ref h10, .ref h11, .ref h12, .ref h13, .ref h14, .int 0, .int 0, .ref h15, .ref h16, .ref h17, .ref h18, .int 0, .ref h19, .ref h20, .int 0, .ref h21, .int 0, .int 0, .ref h22, .ref h23, .int 0, .int 0, .int 0, .int 0, .int 0, .ref h24, .int 0, .ref h25, .ref h26, .int 0, .int 0, .int 0, .ref h1, .ref h27, .ref h28, .ref h29])), (h1, .inl (cint, 6, .inl (fun _ => (-1))))]) hP hD [0, 1] [] rfl rfl (by decide) (by decide) hk1 hFc hP1 hD1
  generalize H1 = H at hP hS ⊢
  have hP : va_P (dC, dI) vwCl [(h0, .inr (12, [.int 0, .ref h2, .ref h3, .ref h4, .ref h5, .ref h6, .int 0, .int 0, .ref h7, .int 0, .int 0, .ref h8, .ref h9, .ref h10, .ref h11, .ref h12, .ref h13, .ref h14, .int 0, .int 0, .ref h15, .ref h16, .ref h17, .ref h18, .int 0, .ref h19, .ref h20, .int 0, .ref h21, .int 0, .int 0, .ref h22, .ref h23, .int 0, .int 0, .int 0, .int 0, .int 0, .ref h24, .int 0, .ref h25, .ref h26, .int 0, .int 0, .int 0, .ref h1, .ref h27, .ref h28, .ref h29])), (h1, .inl (cint, 6, .inl (fun _ => (-1))))] H := hP
  have hD : va_D A [(h0, .inr (12, [.int 0, .ref h2, .ref h3, .ref h4, .ref h5, .ref h6, .int 0, .int 0, .ref h7, .int 0, .int 0, .ref h8, .ref h9, .ref h10, .ref h11, .ref h12, .ref h13, .ref h14, .int 0, .int 0, .ref h15, .ref h16, .ref h17, .ref h18, .int 0, .ref h19, .ref h20, .int 0, .ref h21, .int 0, .int 0, .ref h22, .ref h23, .int 0, .int 0, .int 0, .int 0, .int 0, .ref h24, .int 0, .ref h25, .ref h26, .int 0, .int 0, .int 0, .ref h1, .ref h27, .ref h28, .ref h29])), (h1, .inl (cint, 6, .inl (fun _ => (-1))))] := hD
  rcases hw with ⟨t_1_0, rfl⟩ | ⟨t_1_0, t_1_1, rfl⟩ | ⟨t_1_0, t_1_1, rfl⟩
  · skip
    refine lv_if_eq (tgt := 15) hx hb dX12_element_6 (by decide) (fun c => absurd c (by decide)) (fun _ => ?_)
    refine lv_ldc2 hx hb hown (hts _ (List.mem_of_getElem? (i := 1) rfl)) dX12_element_9 ?_
    refine lv_goto (tgt := 26) hx hb dX12_element_12 (by decide) ?_
    have hP9 := hP.sub (ws' := []) [] rfl
    have hD9 := hD.sub (ws' := []) [] (by decide) rfl
    have hK9 := hK.sub (tys' := []) [] rfl
    exact W.lret (v := (-9223372036854775808)) hx hb hr (fun t ht hW => ⟨⟨(-9223372036854775808), (), rfl, by first | rfl | ((repeat' split) <;> first | rfl | (exfalso; omega) | (exact Int32.toInt_inj.mp (by show ((-9223372036854775808) : Int) = _; omega))), by rw [ht]; exact hP9, va_K.moved hW.alike hK9, hD9⟩, hS.F ht⟩) hS.2.2 dX12_element_26
  · skip
    refine lv_if_eq (tgt := 15) hx hb dX12_element_6 (by decide) (fun c => absurd c (by decide)) (fun _ => ?_)
    refine lv_ldc2 hx hb hown (hts _ (List.mem_of_getElem? (i := 1) rfl)) dX12_element_9 ?_
    refine lv_goto (tgt := 26) hx hb dX12_element_12 (by decide) ?_
    have hP9 := hP.sub (ws' := []) [] rfl
    have hD9 := hD.sub (ws' := []) [] (by decide) rfl
    have hK9 := hK.sub (tys' := []) [] rfl
    exact W.lret (v := (-9223372036854775808)) hx hb hr (fun t ht hW => ⟨⟨(-9223372036854775808), (), rfl, by first | rfl | ((repeat' split) <;> first | rfl | (exfalso; omega) | (exact Int32.toInt_inj.mp (by show ((-9223372036854775808) : Int) = _; omega))), by rw [ht]; exact hP9, va_K.moved hW.alike hK9, hD9⟩, hS.F ht⟩) hS.2.2 dX12_element_26
  · skip
    refine lv_if_eq (tgt := 15) hx hb dX12_element_6 (by decide) (fun c => absurd c (by decide)) (fun _ => ?_)
    refine lv_ldc2 hx hb hown (hts _ (List.mem_of_getElem? (i := 1) rfl)) dX12_element_9 ?_
    refine lv_goto (tgt := 26) hx hb dX12_element_12 (by decide) ?_
    have hP9 := hP.sub (ws' := []) [] rfl
    have hD9 := hD.sub (ws' := []) [] (by decide) rfl
    have hK9 := hK.sub (tys' := []) [] rfl
    exact W.lret (v := (-9223372036854775808)) hx hb hr (fun t ht hW => ⟨⟨(-9223372036854775808), (), rfl, by first | rfl | ((repeat' split) <;> first | rfl | (exfalso; omega) | (exact Int32.toInt_inj.mp (by show ((-9223372036854775808) : Int) = _; omega))), by rw [ht]; exact hP9, va_K.moved hW.alike hK9, hD9⟩, hS.F ht⟩) hS.2.2 dX12_element_26
set_option maxHeartbeats 4000000 in
set_option maxRecDepth 100000 in
theorem k_X12_shift_0 (l : Launch) (dC : Nat → ClassId) (dI : Nat → Nat → Nat) (h0 h1 h2 h3 h4 h5 h6 h7 h8 h9 h10 h11 h12 h13 h14 h15 h16 h17 h18 h19 h20 h21 h22 h23 h24 h25 h26 h27 h28 h29 : Nat) (cint : ClassId) (sz : Nat) (p0 : Int32) (p1 : Int32) (p2 : Int32) (p3 : Int32) (p4 : Int32) : Met l yX12_shift wsX12_shift ({ frames := 2, cells := 0, slots := 0, locals := 45 }) (va_Pc [.ref h0, .int p0, .int p1, .int p2, .int p3, .int p4] (fun U => U.heap.size = sz ∧ va_P (dC, dI) vwCl [(h0, .inr (12, [.int 0, .ref h2, .ref h3, .ref h4, .ref h5, .ref h6, .int 0, .int 0, .ref h7, .int 0, .int 0, .ref h8, .ref h9, .ref h10, .ref h11, .ref h12, .ref h13, .ref h14, .int 0, .int 0, .ref h15, .ref h16, .ref h17, .ref h18, .int 0, .ref h19, .ref h20, .int 0, .ref h21, .int 0, .int 0, .ref h22, .ref h23, .int 0, .int 0, .int 0, .int 0, .int 0, .ref h24, .int 0, .ref h25, .ref h26, .int 0, .int 0, .int 0, .ref h1, .ref h27, .ref h28, .ref h29])), (h1, .inl (cint, 6, .inl (fun _ => (-1))))] U.heap ∧ va_K (dC, dI) vwCl [(cint, .int)] U ∧ va_D (fun _ => True) [(h0, .inr (12, [.int 0, .ref h2, .ref h3, .ref h4, .ref h5, .ref h6, .int 0, .int 0, .ref h7, .int 0, .int 0, .ref h8, .ref h9, .ref h10, .ref h11, .ref h12, .ref h13, .ref h14, .int 0, .int 0, .ref h15, .ref h16, .ref h17, .ref h18, .int 0, .ref h19, .ref h20, .int 0, .ref h21, .int 0, .int 0, .ref h22, .ref h23, .int 0, .int 0, .int 0, .int 0, .int 0, .ref h24, .int 0, .ref h25, .ref h26, .int 0, .int 0, .int 0, .ref h1, .ref h27, .ref h28, .ref h29])), (h1, .inl (cint, 6, .inl (fun _ => (-1))))])) (va_Qi (fun (r : Int32) (_ : Unit) => r = if 0 ≤ p0.toInt ∧ p0.toInt < 6 ∧ 0 ≤ p2.toInt ∧ p2.toInt < 6 then (-11 : Int32) else -1) (fun (_ : Unit) t => va_P (dC, dI) vwCl [] t.heap ∧ va_K (dC, dI) vwCl [] t ∧ va_D (va_A [(h0, .inr (12, [.int 0, .ref h2, .ref h3, .ref h4, .ref h5, .ref h6, .int 0, .int 0, .ref h7, .int 0, .int 0, .ref h8, .ref h9, .ref h10, .ref h11, .ref h12, .ref h13, .ref h14, .int 0, .int 0, .ref h15, .ref h16, .ref h17, .ref h18, .int 0, .ref h19, .ref h20, .int 0, .ref h21, .int 0, .int 0, .ref h22, .ref h23, .int 0, .int 0, .int 0, .int 0, .int 0, .ref h24, .int 0, .ref h25, .ref h26, .int 0, .int 0, .int 0, .ref h1, .ref h27, .ref h28, .ref h29])), (h1, .inl (cint, 6, .inl (fun _ => (-1))))] sz) []) (va_A [(h0, .inr (12, [.int 0, .ref h2, .ref h3, .ref h4, .ref h5, .ref h6, .int 0, .int 0, .ref h7, .int 0, .int 0, .ref h8, .ref h9, .ref h10, .ref h11, .ref h12, .ref h13, .ref h14, .int 0, .int 0, .ref h15, .ref h16, .ref h17, .ref h18, .int 0, .ref h19, .ref h20, .int 0, .ref h21, .int 0, .int 0, .ref h22, .ref h23, .int 0, .int 0, .int 0, .int 0, .int 0, .ref h24, .int 0, .ref h25, .ref h26, .int 0, .int 0, .int 0, .ref h1, .ref h27, .ref h28, .ref h29])), (h1, .inl (cint, 6, .inl (fun _ => (-1))))] sz)) 0 0 (va_A [(h0, .inr (12, [.int 0, .ref h2, .ref h3, .ref h4, .ref h5, .ref h6, .int 0, .int 0, .ref h7, .int 0, .int 0, .ref h8, .ref h9, .ref h10, .ref h11, .ref h12, .ref h13, .ref h14, .int 0, .int 0, .ref h15, .ref h16, .ref h17, .ref h18, .int 0, .ref h19, .ref h20, .int 0, .ref h21, .int 0, .int 0, .ref h22, .ref h23, .int 0, .int 0, .int 0, .int 0, .int 0, .ref h24, .int 0, .ref h25, .ref h26, .int 0, .int 0, .int 0, .ref h1, .ref h27, .ref h28, .ref h29])), (h1, .inl (cint, 6, .inl (fun _ => (-1))))] sz) := by
  refine Met.ofW (cc := cX12_shift) (maxL := 7) (ret := (some .int)) (by decide) rfl ?_
  intro p e s m args below meth c s₁ B hml hv
  obtain ⟨rfl, hsz, hP, hK, hD0⟩ := hv
  have hx := B.exec
  have hb := B.bytes
  have hr := B.returns
  have hts := atoms_spec (ws := wsX12_shift) B.pre
  have hown : s.vm.findClass RX12 = some m.cls := findClass_of_methodNamed B.named
  have hlocks := B.notSynchronized
  subst hsz
  have hD := hD0.self (sz := s.heap.size)
  generalize hAe : va_A [(h0, .inr (12, [.int 0, .ref h2, .ref h3, .ref h4, .ref h5, .ref h6, .int 0, .int 0, .ref h7, .int 0, .int 0, .ref h8, .ref h9, .ref h10, .ref h11, .ref h12, .ref h13, .ref h14, .int 0, .int 0, .ref h15, .ref h16, .ref h17, .ref h18, .int 0, .ref h19, .ref h20, .int 0, .ref h21, .int 0, .int 0, .ref h22, .ref h23, .int 0, .int 0, .int 0, .int 0, .int 0, .ref h24, .int 0, .ref h25, .ref h26, .int 0, .int 0, .int 0, .ref h1, .ref h27, .ref h28, .ref h29])), (h1, .inl (cint, 6, .inl (fun _ => (-1))))] s.heap.size = A at hD ⊢
  have hA : ∀ q : Nat, s.heap.size ≤ q → A q := fun q h => by rw [← hAe]; exact Or.inr h
  have hS : va_S A s.heap s.heap [] := va_S.rf
  have hP : va_P (dC, dI) vwCl [(h0, .inr (12, [.int 0, .ref h2, .ref h3, .ref h4, .ref h5, .ref h6, .int 0, .int 0, .ref h7, .int 0, .int 0, .ref h8, .ref h9, .ref h10, .ref h11, .ref h12, .ref h13, .ref h14, .int 0, .int 0, .ref h15, .ref h16, .ref h17, .ref h18, .int 0, .ref h19, .ref h20, .int 0, .ref h21, .int 0, .int 0, .ref h22, .ref h23, .int 0, .int 0, .int 0, .int 0, .int 0, .ref h24, .int 0, .ref h25, .ref h26, .int 0, .int 0, .int 0, .ref h1, .ref h27, .ref h28, .ref h29])), (h1, .inl (cint, 6, .inl (fun _ => (-1))))] s.heap := hP
  have hl := lv_entry ([.ref h0, .int p0, .int p1, .int p2, .int p3, .int p4]) (n := 7) (Nat.le_of_ble_eq_true rfl)
  rw [lg_entry_eq]
  generalize (lg_sl ([.ref h0, .int p0, .int p1, .int p2, .int p3, .int p4]) ++ List.replicate (7 - (lg_sl ([.ref h0, .int p0, .int p1, .int p2, .int p3, .int p4])).length) Slot.unset).toArray = ls at hl ⊢
  have hl : lv_has ls 7 [(0, .ref h0), (1, .int p0), (2, .int p1), (3, .int p2), (4, .int p3), (5, .int p4)] := hl
  refine lv_iload_n hx hb dX12_shift_0 rfl (lv_at hl 1 rfl) ?_
  have hPc := hP.sub (ws' := []) [] rfl
  have hDc := hD.sub (ws' := []) [] (by decide) rfl
  have hKc := hK.sub (tys' := []) [] rfl
  have hFc := va_free (wc := []) hD hS hA [] rfl
  refine va_calli (va_runS (As := [.int p0]) (rest := []) ⟨hx, hb, hml, hown, hts⟩ (k_X12_isShelf_0 l dC dI s.heap.size p0) (va_cwS 1 hts gX12_shift_X12_isShelf rfl rfl rfl (by decide +kernel) ⟨Nat.le_of_ble_eq_true rfl, Nat.le_of_ble_eq_true rfl⟩) ⟨fun a U g mk q => by obtain ⟨q0, q1, qP, qK, qD⟩ := q; exact ⟨q0, q1, qP, va_K.moved (u := U) (U := U.calling g mk a) (Vm.Alike.refl U.vm) qK, qD⟩, fun U hU hW => ⟨rfl, by rw [hU], by rw [hU]; exact hPc, va_K.moved hW.alike hKc, hDc.weaken (fun _ _ _ _ => trivial)⟩⟩ rfl rfl hl.1 rfl (lv_room (Nat.le_of_ble_eq_true rfl)) dX12_shift_1 ⟨Nat.le_of_ble_eq_true rfl, Nat.le_of_ble_eq_true rfl⟩) hS (fun q _ h => hFc q h) hFc (fun r_1 u t H1 locs ht hvm hw hB hz1 hk1 hS => ?_)
  obtain ⟨hP1, hK1, hD1⟩ := hB
  rw [ht] at hP1
  have hK1 := va_K.moved hvm.symm hK1
  obtain ⟨hP, hD⟩ := va_join (wr := [(h0, .inr (12, [.int 0, .ref h2, .ref h3, .ref h4, .ref h5, .ref h6, .int 0, .int 0, .ref h7, .int 0, .int 0, .ref h8, .ref h9, .ref h10, .ref h11, .ref h12, .ref h13, .ref h14, .int 0, .int 0, .ref h15, .ref h16, .ref h17, .ref h18, .int 0, .ref h19, .ref h20, .int 0, .ref h21, .int 0, .int 0, .ref h22, .ref h23, .int 0, .int 0, .int 0, .int 0, .int 0, .ref h24, .int 0, .ref h25, .ref h26, .int 0, .int 0, .int 0, .ref h1, .ref h27, .ref h28, .ref h29])), (h1, .inl (cint, 6, .inl (fun _ => (-1))))]) (w1 := []) hP hD [] [0, 1] rfl rfl (by decide) (by decide) hk1 hFc hP1 hD1
  generalize H1 = H at hP hS ⊢
  have hP : va_P (dC, dI) vwCl [(h0, .inr (12, [.int 0, .ref h2, .ref h3, .ref h4, .ref h5, .ref h6, .int 0, .int 0, .ref h7, .int 0, .int 0, .ref h8, .ref h9, .ref h10, .ref h11, .ref h12, .ref h13, .ref h14, .int 0, .int 0, .ref h15, .ref h16, .ref h17, .ref h18, .int 0, .ref h19, .ref h20, .int 0, .ref h21, .int 0, .int 0, .ref h22, .ref h23, .int 0, .int 0, .int 0, .int 0, .int 0, .ref h24, .int 0, .ref h25, .ref h26, .int 0, .int 0, .int 0, .ref h1, .ref h27, .ref h28, .ref h29])), (h1, .inl (cint, 6, .inl (fun _ => (-1))))] H := hP
  have hD : va_D A [(h0, .inr (12, [.int 0, .ref h2, .ref h3, .ref h4, .ref h5, .ref h6, .int 0, .int 0, .ref h7, .int 0, .int 0, .ref h8, .ref h9, .ref h10, .ref h11, .ref h12, .ref h13, .ref h14, .int 0, .int 0, .ref h15, .ref h16, .ref h17, .ref h18, .int 0, .ref h19, .ref h20, .int 0, .ref h21, .int 0, .int 0, .ref h22, .ref h23, .int 0, .int 0, .int 0, .int 0, .int 0, .ref h24, .int 0, .ref h25, .ref h26, .int 0, .int 0, .int 0, .ref h1, .ref h27, .ref h28, .ref h29])), (h1, .inl (cint, 6, .inl (fun _ => (-1))))] := hD
  rcases hw with ⟨t_1_0, rfl⟩ | ⟨t_1_0, t_1_1, rfl⟩ | ⟨t_1_0, t_1_1, rfl⟩
  · skip
    refine lv_if_eq (tgt := 14) hx hb dX12_shift_4 (by decide) (fun _ => ?_) (fun c => absurd c (by decide))
    refine lv_iconst (v := (-1)) hx hb dX12_shift_14 (by decide) ?_
    have hP9 := hP.sub (ws' := []) [] rfl
    have hD9 := hD.sub (ws' := []) [] (by decide) rfl
    have hK9 := hK.sub (tys' := []) [] rfl
    exact W.iret (v := (-1)) hx hb hr (fun t ht hW => ⟨⟨(-1), (), rfl, by first | rfl | ((repeat' split) <;> first | rfl | (exfalso; omega) | (exact Int32.toInt_inj.mp (by show ((-1) : Int) = _; omega))), by rw [ht]; exact hP9, va_K.moved hW.alike hK9, hD9⟩, hS.F ht⟩) hS.2.2 dX12_shift_15
  · skip
    refine lv_if_eq (tgt := 14) hx hb dX12_shift_4 (by decide) (fun _ => ?_) (fun c => absurd c (by decide))
    refine lv_iconst (v := (-1)) hx hb dX12_shift_14 (by decide) ?_
    have hP9 := hP.sub (ws' := []) [] rfl
    have hD9 := hD.sub (ws' := []) [] (by decide) rfl
    have hK9 := hK.sub (tys' := []) [] rfl
    exact W.iret (v := (-1)) hx hb hr (fun t ht hW => ⟨⟨(-1), (), rfl, by first | rfl | ((repeat' split) <;> first | rfl | (exfalso; omega) | (exact Int32.toInt_inj.mp (by show ((-1) : Int) = _; omega))), by rw [ht]; exact hP9, va_K.moved hW.alike hK9, hD9⟩, hS.F ht⟩) hS.2.2 dX12_shift_15
  · skip
    refine lv_if_eq (tgt := 14) hx hb dX12_shift_4 (by decide) (fun c => absurd c (by decide)) (fun _ => ?_)
    refine lv_iload_n hx hb dX12_shift_7 rfl (lv_at hl 3 rfl) ?_
    have hPc := hP.sub (ws' := []) [] rfl
    have hDc := hD.sub (ws' := []) [] (by decide) rfl
    have hKc := hK.sub (tys' := []) [] rfl
    have hFc := va_free (wc := []) hD hS hA [] rfl
    refine va_calli (va_runS (As := [.int p2]) (rest := []) ⟨hx, hb, hml, hown, hts⟩ (k_X12_isShelf_0 l dC dI H.size p2) (va_cwS 1 hts gX12_shift_X12_isShelf rfl rfl rfl (by decide +kernel) ⟨Nat.le_of_ble_eq_true rfl, Nat.le_of_ble_eq_true rfl⟩) ⟨fun a U g mk q => by obtain ⟨q0, q1, qP, qK, qD⟩ := q; exact ⟨q0, q1, qP, va_K.moved (u := U) (U := U.calling g mk a) (Vm.Alike.refl U.vm) qK, qD⟩, fun U hU hW => ⟨rfl, by rw [hU], by rw [hU]; exact hPc, va_K.moved hW.alike hKc, hDc.weaken (fun _ _ _ _ => trivial)⟩⟩ rfl rfl hl.1 rfl (lv_room (Nat.le_of_ble_eq_true rfl)) dX12_shift_8 ⟨Nat.le_of_ble_eq_true rfl, Nat.le_of_ble_eq_true rfl⟩) hS (fun q _ h => hFc q h) hFc (fun r_2 u t H1 locs ht hvm hw hB hz1 hk1 hS => ?_)
    obtain ⟨hP1, hK1, hD1⟩ := hB
    rw [ht] at hP1
    have hK1 := va_K.moved hvm.symm hK1
    obtain ⟨hP, hD⟩ := va_join (wr := [(h0, .inr (12, [.int 0, .ref h2, .ref h3, .ref h4, .ref h5, .ref h6, .int 0, .int 0, .ref h7, .int 0, .int 0, .ref h8, .ref h9, .ref h10, .ref h11, .ref h12, .ref h13, .ref h14, .int 0, .int 0, .ref h15, .ref h16, .ref h17, .ref h18, .int 0, .ref h19, .ref h20, .int 0, .ref h21, .int 0, .int 0, .ref h22, .ref h23, .int 0, .int 0, .int 0, .int 0, .int 0, .ref h24, .int 0, .ref h25, .ref h26, .int 0, .int 0, .int 0, .ref h1, .ref h27, .ref h28, .ref h29])), (h1, .inl (cint, 6, .inl (fun _ => (-1))))]) (w1 := []) hP hD [] [0, 1] rfl rfl (by decide) (by decide) hk1 hFc hP1 hD1
    generalize H1 = H at hP hS ⊢
    have hP : va_P (dC, dI) vwCl [(h0, .inr (12, [.int 0, .ref h2, .ref h3, .ref h4, .ref h5, .ref h6, .int 0, .int 0, .ref h7, .int 0, .int 0, .ref h8, .ref h9, .ref h10, .ref h11, .ref h12, .ref h13, .ref h14, .int 0, .int 0, .ref h15, .ref h16, .ref h17, .ref h18, .int 0, .ref h19, .ref h20, .int 0, .ref h21, .int 0, .int 0, .ref h22, .ref h23, .int 0, .int 0, .int 0, .int 0, .int 0, .ref h24, .int 0, .ref h25, .ref h26, .int 0, .int 0, .int 0, .ref h1, .ref h27, .ref h28, .ref h29])), (h1, .inl (cint, 6, .inl (fun _ => (-1))))] H := hP
    have hD : va_D A [(h0, .inr (12, [.int 0, .ref h2, .ref h3, .ref h4, .ref h5, .ref h6, .int 0, .int 0, .ref h7, .int 0, .int 0, .ref h8, .ref h9, .ref h10, .ref h11, .ref h12, .ref h13, .ref h14, .int 0, .int 0, .ref h15, .ref h16, .ref h17, .ref h18, .int 0, .ref h19, .ref h20, .int 0, .ref h21, .int 0, .int 0, .ref h22, .ref h23, .int 0, .int 0, .int 0, .int 0, .int 0, .ref h24, .int 0, .ref h25, .ref h26, .int 0, .int 0, .int 0, .ref h1, .ref h27, .ref h28, .ref h29])), (h1, .inl (cint, 6, .inl (fun _ => (-1))))] := hD
    rcases hw with ⟨t_2_0, rfl⟩ | ⟨t_2_0, t_2_1, rfl⟩ | ⟨t_2_0, t_2_1, rfl⟩
    · skip
      refine lv_if_ne (tgt := 16) hx hb dX12_shift_11 (by decide) (fun c => absurd c (by decide)) (fun _ => ?_)
      refine lv_iconst (v := (-1)) hx hb dX12_shift_14 (by decide) ?_
      have hP9 := hP.sub (ws' := []) [] rfl
      have hD9 := hD.sub (ws' := []) [] (by decide) rfl
      have hK9 := hK.sub (tys' := []) [] rfl
      exact W.iret (v := (-1)) hx hb hr (fun t ht hW => ⟨⟨(-1), (), rfl, by first | rfl | ((repeat' split) <;> first | rfl | (exfalso; omega) | (exact Int32.toInt_inj.mp (by show ((-1) : Int) = _; omega))), by rw [ht]; exact hP9, va_K.moved hW.alike hK9, hD9⟩, hS.F ht⟩) hS.2.2 dX12_shift_15
    · skip
      refine lv_if_ne (tgt := 16) hx hb dX12_shift_11 (by decide) (fun c => absurd c (by decide)) (fun _ => ?_)
      refine lv_iconst (v := (-1)) hx hb dX12_shift_14 (by decide) ?_
      have hP9 := hP.sub (ws' := []) [] rfl
      have hD9 := hD.sub (ws' := []) [] (by decide) rfl
      have hK9 := hK.sub (tys' := []) [] rfl
      exact W.iret (v := (-1)) hx hb hr (fun t ht hW => ⟨⟨(-1), (), rfl, by first | rfl | ((repeat' split) <;> first | rfl | (exfalso; omega) | (exact Int32.toInt_inj.mp (by show ((-1) : Int) = _; omega))), by rw [ht]; exact hP9, va_K.moved hW.alike hK9, hD9⟩, hS.F ht⟩) hS.2.2 dX12_shift_15
    · skip
      refine lv_if_ne (tgt := 16) hx hb dX12_shift_11 (by decide) (fun _ => ?_) (fun c => absurd c (by decide))
      refine lv_aload_n hx hb dX12_shift_16 rfl (lv_at hl 0 rfl) ?_
      refine va_get (D := (dC, dI)) (ci := 12) (v := .ref h1) (C := RX12) (T := TX12) (N := 49) hx hb hts (fun _ h => List.mem_cons_of_mem _ (List.mem_append_right _ h)) hown hK hP 0 rfl rfl 45 (by decide) (hts (.fieldLink RX12 86 "KinkStreetModel" "shelf" "[I") (List.mem_of_getElem? (i := 1) rfl)) (fun _ h9 => h9) rfl dX12_shift_17 ?_
      refine lv_iload_n hx hb dX12_shift_20 rfl (lv_at hl 1 rfl) ?_
      refine va_iald hx hb hK hP 1 0 rfl rfl (vp_in_iff.mpr ⟨by omega, by omega⟩) dX12_shift_21 ?_
      refine lv_topi (fun y_3 e_3 => ?_)
      obtain rfl : y_3 = (-1) := e_3.trans rfl
      refine lv_if_lt (tgt := 34) hx hb dX12_shift_22 (by decide) (fun _ => ?_) (fun c => absurd c (by decide))
      refine lv_bipush (v := (-11)) hx hb dX12_shift_34 (by decide) ?_
      have hP9 := hP.sub (ws' := []) [] rfl
      have hD9 := hD.sub (ws' := []) [] (by decide) rfl
      have hK9 := hK.sub (tys' := []) [] rfl
      exact W.iret (v := (-11)) hx hb hr (fun t ht hW => ⟨⟨(-11), (), rfl, by first | rfl | ((repeat' split) <;> first | rfl | (exfalso; omega) | (exact Int32.toInt_inj.mp (by show ((-11) : Int) = _; omega))), by rw [ht]; exact hP9, va_K.moved hW.alike hK9, hD9⟩, hS.F ht⟩) hS.2.2 dX12_shift_36
set_option maxHeartbeats 4000000 in
set_option maxRecDepth 100000 in
theorem k_X12_taken_0 (l : Launch) (dC : Nat → ClassId) (dI : Nat → Nat → Nat) (h0 h1 h2 h3 h4 h5 h6 h7 h8 h9 h10 h11 h12 h13 h14 h15 h16 h17 h18 h19 h20 h21 h22 h23 h24 h25 h26 h27 h28 h29 : Nat) (cint : ClassId) (sz : Nat) (p0 : Int32) (p1 : Int32) : Met l yX12_taken wsX12_taken ({ frames := 2, cells := 0, slots := 0, locals := 45 }) (va_Pc [.ref h0, .int p0, .int p1] (fun U => U.heap.size = sz ∧ va_P (dC, dI) vwCl [(h0, .inr (12, [.int 0, .ref h2, .ref h3, .ref h4, .ref h5, .ref h6, .int 0, .int 0, .ref h7, .int 0, .int 0, .ref h8, .ref h9, .ref h10, .ref h11, .ref h12, .ref h13, .ref h14, .int 0, .int 0, .ref h15, .ref h16, .ref h17, .ref h18, .int 0, .ref h19, .ref h20, .int 0, .ref h21, .int 0, .int 0, .ref h22, .ref h23, .int 0, .int 0, .int 0, .int 0, .int 0, .ref h24, .int 0, .ref h25, .ref h26, .int 0, .int 0, .int 0, .ref h1, .ref h27, .ref h28, .ref h29])), (h1, .inl (cint, 6, .inl (fun _ => (-1))))] U.heap ∧ va_K (dC, dI) vwCl [(cint, .int)] U ∧ va_D (fun _ => True) [(h0, .inr (12, [.int 0, .ref h2, .ref h3, .ref h4, .ref h5, .ref h6, .int 0, .int 0, .ref h7, .int 0, .int 0, .ref h8, .ref h9, .ref h10, .ref h11, .ref h12, .ref h13, .ref h14, .int 0, .int 0, .ref h15, .ref h16, .ref h17, .ref h18, .int 0, .ref h19, .ref h20, .int 0, .ref h21, .int 0, .int 0, .ref h22, .ref h23, .int 0, .int 0, .int 0, .int 0, .int 0, .ref h24, .int 0, .ref h25, .ref h26, .int 0, .int 0, .int 0, .ref h1, .ref h27, .ref h28, .ref h29])), (h1, .inl (cint, 6, .inl (fun _ => (-1))))])) (va_Qi (fun (r : Int32) (_ : Unit) => r = if 0 ≤ p0.toInt ∧ p0.toInt < 6 ∧ 0 ≤ p1.toInt ∧ p1.toInt < 8 then (-11 : Int32) else -1) (fun (_ : Unit) t => va_P (dC, dI) vwCl [] t.heap ∧ va_K (dC, dI) vwCl [] t ∧ va_D (va_A [(h0, .inr (12, [.int 0, .ref h2, .ref h3, .ref h4, .ref h5, .ref h6, .int 0, .int 0, .ref h7, .int 0, .int 0, .ref h8, .ref h9, .ref h10, .ref h11, .ref h12, .ref h13, .ref h14, .int 0, .int 0, .ref h15, .ref h16, .ref h17, .ref h18, .int 0, .ref h19, .ref h20, .int 0, .ref h21, .int 0, .int 0, .ref h22, .ref h23, .int 0, .int 0, .int 0, .int 0, .int 0, .ref h24, .int 0, .ref h25, .ref h26, .int 0, .int 0, .int 0, .ref h1, .ref h27, .ref h28, .ref h29])), (h1, .inl (cint, 6, .inl (fun _ => (-1))))] sz) []) (va_A [(h0, .inr (12, [.int 0, .ref h2, .ref h3, .ref h4, .ref h5, .ref h6, .int 0, .int 0, .ref h7, .int 0, .int 0, .ref h8, .ref h9, .ref h10, .ref h11, .ref h12, .ref h13, .ref h14, .int 0, .int 0, .ref h15, .ref h16, .ref h17, .ref h18, .int 0, .ref h19, .ref h20, .int 0, .ref h21, .int 0, .int 0, .ref h22, .ref h23, .int 0, .int 0, .int 0, .int 0, .int 0, .ref h24, .int 0, .ref h25, .ref h26, .int 0, .int 0, .int 0, .ref h1, .ref h27, .ref h28, .ref h29])), (h1, .inl (cint, 6, .inl (fun _ => (-1))))] sz)) 0 0 (va_A [(h0, .inr (12, [.int 0, .ref h2, .ref h3, .ref h4, .ref h5, .ref h6, .int 0, .int 0, .ref h7, .int 0, .int 0, .ref h8, .ref h9, .ref h10, .ref h11, .ref h12, .ref h13, .ref h14, .int 0, .int 0, .ref h15, .ref h16, .ref h17, .ref h18, .int 0, .ref h19, .ref h20, .int 0, .ref h21, .int 0, .int 0, .ref h22, .ref h23, .int 0, .int 0, .int 0, .int 0, .int 0, .ref h24, .int 0, .ref h25, .ref h26, .int 0, .int 0, .int 0, .ref h1, .ref h27, .ref h28, .ref h29])), (h1, .inl (cint, 6, .inl (fun _ => (-1))))] sz) := by
  refine Met.ofW (cc := cX12_taken) (maxL := 4) (ret := (some .int)) (by decide) rfl ?_
  intro p e s m args below meth c s₁ B hml hv
  obtain ⟨rfl, hsz, hP, hK, hD0⟩ := hv
  have hx := B.exec
  have hb := B.bytes
  have hr := B.returns
  have hts := atoms_spec (ws := wsX12_taken) B.pre
  have hown : s.vm.findClass RX12 = some m.cls := findClass_of_methodNamed B.named
  have hlocks := B.notSynchronized
  subst hsz
  have hD := hD0.self (sz := s.heap.size)
  generalize hAe : va_A [(h0, .inr (12, [.int 0, .ref h2, .ref h3, .ref h4, .ref h5, .ref h6, .int 0, .int 0, .ref h7, .int 0, .int 0, .ref h8, .ref h9, .ref h10, .ref h11, .ref h12, .ref h13, .ref h14, .int 0, .int 0, .ref h15, .ref h16, .ref h17, .ref h18, .int 0, .ref h19, .ref h20, .int 0, .ref h21, .int 0, .int 0, .ref h22, .ref h23, .int 0, .int 0, .int 0, .int 0, .int 0, .ref h24, .int 0, .ref h25, .ref h26, .int 0, .int 0, .int 0, .ref h1, .ref h27, .ref h28, .ref h29])), (h1, .inl (cint, 6, .inl (fun _ => (-1))))] s.heap.size = A at hD ⊢
  have hA : ∀ q : Nat, s.heap.size ≤ q → A q := fun q h => by rw [← hAe]; exact Or.inr h
  have hS : va_S A s.heap s.heap [] := va_S.rf
  have hP : va_P (dC, dI) vwCl [(h0, .inr (12, [.int 0, .ref h2, .ref h3, .ref h4, .ref h5, .ref h6, .int 0, .int 0, .ref h7, .int 0, .int 0, .ref h8, .ref h9, .ref h10, .ref h11, .ref h12, .ref h13, .ref h14, .int 0, .int 0, .ref h15, .ref h16, .ref h17, .ref h18, .int 0, .ref h19, .ref h20, .int 0, .ref h21, .int 0, .int 0, .ref h22, .ref h23, .int 0, .int 0, .int 0, .int 0, .int 0, .ref h24, .int 0, .ref h25, .ref h26, .int 0, .int 0, .int 0, .ref h1, .ref h27, .ref h28, .ref h29])), (h1, .inl (cint, 6, .inl (fun _ => (-1))))] s.heap := hP
  have hl := lv_entry ([.ref h0, .int p0, .int p1]) (n := 4) (Nat.le_of_ble_eq_true rfl)
  rw [lg_entry_eq]
  generalize (lg_sl ([.ref h0, .int p0, .int p1]) ++ List.replicate (4 - (lg_sl ([.ref h0, .int p0, .int p1])).length) Slot.unset).toArray = ls at hl ⊢
  have hl : lv_has ls 4 [(0, .ref h0), (1, .int p0), (2, .int p1)] := hl
  refine lv_iload_n hx hb dX12_taken_0 rfl (lv_at hl 1 rfl) ?_
  have hPc := hP.sub (ws' := []) [] rfl
  have hDc := hD.sub (ws' := []) [] (by decide) rfl
  have hKc := hK.sub (tys' := []) [] rfl
  have hFc := va_free (wc := []) hD hS hA [] rfl
  refine va_calli (va_runS (As := [.int p0]) (rest := []) ⟨hx, hb, hml, hown, hts⟩ (k_X12_isShelf_0 l dC dI s.heap.size p0) (va_cwS 1 hts gX12_taken_X12_isShelf rfl rfl rfl (by decide +kernel) ⟨Nat.le_of_ble_eq_true rfl, Nat.le_of_ble_eq_true rfl⟩) ⟨fun a U g mk q => by obtain ⟨q0, q1, qP, qK, qD⟩ := q; exact ⟨q0, q1, qP, va_K.moved (u := U) (U := U.calling g mk a) (Vm.Alike.refl U.vm) qK, qD⟩, fun U hU hW => ⟨rfl, by rw [hU], by rw [hU]; exact hPc, va_K.moved hW.alike hKc, hDc.weaken (fun _ _ _ _ => trivial)⟩⟩ rfl rfl hl.1 rfl (lv_room (Nat.le_of_ble_eq_true rfl)) dX12_taken_1 ⟨Nat.le_of_ble_eq_true rfl, Nat.le_of_ble_eq_true rfl⟩) hS (fun q _ h => hFc q h) hFc (fun r_1 u t H1 locs ht hvm hw hB hz1 hk1 hS => ?_)
  obtain ⟨hP1, hK1, hD1⟩ := hB
  rw [ht] at hP1
  have hK1 := va_K.moved hvm.symm hK1
  obtain ⟨hP, hD⟩ := va_join (wr := [(h0, .inr (12, [.int 0, .ref h2, .ref h3, .ref h4, .ref h5, .ref h6, .int 0, .int 0, .ref h7, .int 0, .int 0, .ref h8, .ref h9, .ref h10, .ref h11, .ref h12, .ref h13, .ref h14, .int 0, .int 0, .ref h15, .ref h16, .ref h17, .ref h18, .int 0, .ref h19, .ref h20, .int 0, .ref h21, .int 0, .int 0, .ref h22, .ref h23, .int 0, .int 0, .int 0, .int 0, .int 0, .ref h24, .int 0, .ref h25, .ref h26, .int 0, .int 0, .int 0, .ref h1, .ref h27, .ref h28, .ref h29])), (h1, .inl (cint, 6, .inl (fun _ => (-1))))]) (w1 := []) hP hD [] [0, 1] rfl rfl (by decide) (by decide) hk1 hFc hP1 hD1
  generalize H1 = H at hP hS ⊢
  have hP : va_P (dC, dI) vwCl [(h0, .inr (12, [.int 0, .ref h2, .ref h3, .ref h4, .ref h5, .ref h6, .int 0, .int 0, .ref h7, .int 0, .int 0, .ref h8, .ref h9, .ref h10, .ref h11, .ref h12, .ref h13, .ref h14, .int 0, .int 0, .ref h15, .ref h16, .ref h17, .ref h18, .int 0, .ref h19, .ref h20, .int 0, .ref h21, .int 0, .int 0, .ref h22, .ref h23, .int 0, .int 0, .int 0, .int 0, .int 0, .ref h24, .int 0, .ref h25, .ref h26, .int 0, .int 0, .int 0, .ref h1, .ref h27, .ref h28, .ref h29])), (h1, .inl (cint, 6, .inl (fun _ => (-1))))] H := hP
  have hD : va_D A [(h0, .inr (12, [.int 0, .ref h2, .ref h3, .ref h4, .ref h5, .ref h6, .int 0, .int 0, .ref h7, .int 0, .int 0, .ref h8, .ref h9, .ref h10, .ref h11, .ref h12, .ref h13, .ref h14, .int 0, .int 0, .ref h15, .ref h16, .ref h17, .ref h18, .int 0, .ref h19, .ref h20, .int 0, .ref h21, .int 0, .int 0, .ref h22, .ref h23, .int 0, .int 0, .int 0, .int 0, .int 0, .ref h24, .int 0, .ref h25, .ref h26, .int 0, .int 0, .int 0, .ref h1, .ref h27, .ref h28, .ref h29])), (h1, .inl (cint, 6, .inl (fun _ => (-1))))] := hD
  rcases hw with ⟨t_1_0, rfl⟩ | ⟨t_1_0, t_1_1, rfl⟩ | ⟨t_1_0, t_1_1, rfl⟩
  · skip
    refine lv_if_eq (tgt := 19) hx hb dX12_taken_4 (by decide) (fun _ => ?_) (fun c => absurd c (by decide))
    refine lv_iconst (v := (-1)) hx hb dX12_taken_19 (by decide) ?_
    have hP9 := hP.sub (ws' := []) [] rfl
    have hD9 := hD.sub (ws' := []) [] (by decide) rfl
    have hK9 := hK.sub (tys' := []) [] rfl
    exact W.iret (v := (-1)) hx hb hr (fun t ht hW => ⟨⟨(-1), (), rfl, by first | rfl | ((repeat' split) <;> first | rfl | (exfalso; omega) | (exact Int32.toInt_inj.mp (by show ((-1) : Int) = _; omega))), by rw [ht]; exact hP9, va_K.moved hW.alike hK9, hD9⟩, hS.F ht⟩) hS.2.2 dX12_taken_20
  · skip
    refine lv_if_eq (tgt := 19) hx hb dX12_taken_4 (by decide) (fun _ => ?_) (fun c => absurd c (by decide))
    refine lv_iconst (v := (-1)) hx hb dX12_taken_19 (by decide) ?_
    have hP9 := hP.sub (ws' := []) [] rfl
    have hD9 := hD.sub (ws' := []) [] (by decide) rfl
    have hK9 := hK.sub (tys' := []) [] rfl
    exact W.iret (v := (-1)) hx hb hr (fun t ht hW => ⟨⟨(-1), (), rfl, by first | rfl | ((repeat' split) <;> first | rfl | (exfalso; omega) | (exact Int32.toInt_inj.mp (by show ((-1) : Int) = _; omega))), by rw [ht]; exact hP9, va_K.moved hW.alike hK9, hD9⟩, hS.F ht⟩) hS.2.2 dX12_taken_20
  · skip
    refine lv_if_eq (tgt := 19) hx hb dX12_taken_4 (by decide) (fun c => absurd c (by decide)) (fun _ => ?_)
    refine lv_iload_n hx hb dX12_taken_7 rfl (lv_at hl 2 rfl) ?_
    refine lv_i2l (v := (p1).toInt64) hx hb dX12_taken_8 (by first | rfl | decide) ?_
    refine lv_lconst (v := 0) hx hb dX12_taken_9 (by decide) ?_
    refine lv_ldc2 hx hb hown (hts _ (List.mem_of_getElem? (i := 1) rfl)) dX12_taken_10 ?_
    have hPc := hP.sub (ws' := []) [] rfl
    have hDc := hD.sub (ws' := []) [] (by decide) rfl
    have hKc := hK.sub (tys' := []) [] rfl
    have hFc := va_free (wc := []) hD hS hA [] rfl
    refine va_calli (va_runS (As := [.long (p1).toInt64, .long 0, .long 7]) (rest := []) ⟨hx, hb, hml, hown, hts⟩ (k_X12_within_1 l dC dI H.size (p1).toInt64 (p1.toInt) (kk_64 _)) (va_cwS 3 hts gX12_taken_X12_within rfl rfl rfl (by decide +kernel) ⟨Nat.le_of_ble_eq_true rfl, Nat.le_of_ble_eq_true rfl⟩) ⟨fun a U g mk q => by obtain ⟨q0, q1, qP, qK, qD⟩ := q; exact ⟨q0, q1, qP, va_K.moved (u := U) (U := U.calling g mk a) (Vm.Alike.refl U.vm) qK, qD⟩, fun U hU hW => ⟨rfl, by rw [hU], by rw [hU]; exact hPc, va_K.moved hW.alike hKc, hDc.weaken (fun _ _ _ _ => trivial)⟩⟩ rfl rfl hl.1 rfl (lv_room (Nat.le_of_ble_eq_true rfl)) dX12_taken_13 ⟨Nat.le_of_ble_eq_true rfl, Nat.le_of_ble_eq_true rfl⟩) hS (fun q _ h => hFc q h) hFc (fun r_2 u t H1 locs ht hvm hw hB hz1 hk1 hS => ?_)
    obtain ⟨hP1, hK1, hD1⟩ := hB
    rw [ht] at hP1
    have hK1 := va_K.moved hvm.symm hK1
    obtain ⟨hP, hD⟩ := va_join (wr := [(h0, .inr (12, [.int 0, .ref h2, .ref h3, .ref h4, .ref h5, .ref h6, .int 0, .int 0, .ref h7, .int 0, .int 0, .ref h8, .ref h9, .ref h10, .ref h11, .ref h12, .ref h13, .ref h14, .int 0, .int 0, .ref h15, .ref h16, .ref h17, .ref h18, .int 0, .ref h19, .ref h20, .int 0, .ref h21, .int 0, .int 0, .ref h22, .ref h23, .int 0, .int 0, .int 0, .int 0, .int 0, .ref h24, .int 0, .ref h25, .ref h26, .int 0, .int 0, .int 0, .ref h1, .ref h27, .ref h28, .ref h29])), (h1, .inl (cint, 6, .inl (fun _ => (-1))))]) (w1 := []) hP hD [] [0, 1] rfl rfl (by decide) (by decide) hk1 hFc hP1 hD1
    generalize H1 = H at hP hS ⊢
    have hP : va_P (dC, dI) vwCl [(h0, .inr (12, [.int 0, .ref h2, .ref h3, .ref h4, .ref h5, .ref h6, .int 0, .int 0, .ref h7, .int 0, .int 0, .ref h8, .ref h9, .ref h10, .ref h11, .ref h12, .ref h13, .ref h14, .int 0, .int 0, .ref h15, .ref h16, .ref h17, .ref h18, .int 0, .ref h19, .ref h20, .int 0, .ref h21, .int 0, .int 0, .ref h22, .ref h23, .int 0, .int 0, .int 0, .int 0, .int 0, .ref h24, .int 0, .ref h25, .ref h26, .int 0, .int 0, .int 0, .ref h1, .ref h27, .ref h28, .ref h29])), (h1, .inl (cint, 6, .inl (fun _ => (-1))))] H := hP
    have hD : va_D A [(h0, .inr (12, [.int 0, .ref h2, .ref h3, .ref h4, .ref h5, .ref h6, .int 0, .int 0, .ref h7, .int 0, .int 0, .ref h8, .ref h9, .ref h10, .ref h11, .ref h12, .ref h13, .ref h14, .int 0, .int 0, .ref h15, .ref h16, .ref h17, .ref h18, .int 0, .ref h19, .ref h20, .int 0, .ref h21, .int 0, .int 0, .ref h22, .ref h23, .int 0, .int 0, .int 0, .int 0, .int 0, .ref h24, .int 0, .ref h25, .ref h26, .int 0, .int 0, .int 0, .ref h1, .ref h27, .ref h28, .ref h29])), (h1, .inl (cint, 6, .inl (fun _ => (-1))))] := hD
    rcases hw with ⟨t_2_0, rfl⟩ | ⟨t_2_0, t_2_1, rfl⟩ | ⟨t_2_0, t_2_1, rfl⟩
    · skip
      refine lv_if_ne (tgt := 21) hx hb dX12_taken_16 (by decide) (fun c => absurd c (by decide)) (fun _ => ?_)
      refine lv_iconst (v := (-1)) hx hb dX12_taken_19 (by decide) ?_
      have hP9 := hP.sub (ws' := []) [] rfl
      have hD9 := hD.sub (ws' := []) [] (by decide) rfl
      have hK9 := hK.sub (tys' := []) [] rfl
      exact W.iret (v := (-1)) hx hb hr (fun t ht hW => ⟨⟨(-1), (), rfl, by first | rfl | ((repeat' split) <;> first | rfl | (exfalso; omega) | (exact Int32.toInt_inj.mp (by show ((-1) : Int) = _; omega))), by rw [ht]; exact hP9, va_K.moved hW.alike hK9, hD9⟩, hS.F ht⟩) hS.2.2 dX12_taken_20
    · skip
      refine lv_if_ne (tgt := 21) hx hb dX12_taken_16 (by decide) (fun c => absurd c (by decide)) (fun _ => ?_)
      refine lv_iconst (v := (-1)) hx hb dX12_taken_19 (by decide) ?_
      have hP9 := hP.sub (ws' := []) [] rfl
      have hD9 := hD.sub (ws' := []) [] (by decide) rfl
      have hK9 := hK.sub (tys' := []) [] rfl
      exact W.iret (v := (-1)) hx hb hr (fun t ht hW => ⟨⟨(-1), (), rfl, by first | rfl | ((repeat' split) <;> first | rfl | (exfalso; omega) | (exact Int32.toInt_inj.mp (by show ((-1) : Int) = _; omega))), by rw [ht]; exact hP9, va_K.moved hW.alike hK9, hD9⟩, hS.F ht⟩) hS.2.2 dX12_taken_20
    · skip
      refine lv_if_ne (tgt := 21) hx hb dX12_taken_16 (by decide) (fun _ => ?_) (fun c => absurd c (by decide))
      refine lv_aload_n hx hb dX12_taken_21 rfl (lv_at hl 0 rfl) ?_
      refine va_get (D := (dC, dI)) (ci := 12) (v := .ref h1) (C := RX12) (T := TX12) (N := 49) hx hb hts (fun _ h => List.mem_cons_of_mem _ (List.mem_append_right _ h)) hown hK hP 0 rfl rfl 45 (by decide) (hts (.fieldLink RX12 86 "KinkStreetModel" "shelf" "[I") (List.mem_of_getElem? (i := 2) rfl)) (fun _ h9 => h9) rfl dX12_taken_22 ?_
      refine lv_iload_n hx hb dX12_taken_25 rfl (lv_at hl 1 rfl) ?_
      refine va_iald hx hb hK hP 1 0 rfl rfl (vp_in_iff.mpr ⟨by omega, by omega⟩) dX12_taken_26 ?_
      refine lv_topi (fun y_3 e_3 => ?_)
      obtain rfl : y_3 = (-1) := e_3.trans rfl
      refine lv_if_ge (tgt := 33) hx hb dX12_taken_27 (by decide) (fun c => absurd c (by decide)) (fun _ => ?_)
      refine lv_bipush (v := (-11)) hx hb dX12_taken_30 (by decide) ?_
      have hP9 := hP.sub (ws' := []) [] rfl
      have hD9 := hD.sub (ws' := []) [] (by decide) rfl
      have hK9 := hK.sub (tys' := []) [] rfl
      exact W.iret (v := (-11)) hx hb hr (fun t ht hW => ⟨⟨(-11), (), rfl, by first | rfl | ((repeat' split) <;> first | rfl | (exfalso; omega) | (exact Int32.toInt_inj.mp (by show ((-11) : Int) = _; omega))), by rw [ht]; exact hP9, va_K.moved hW.alike hK9, hD9⟩, hS.F ht⟩) hS.2.2 dX12_taken_32
set_option maxHeartbeats 4000000 in
set_option maxRecDepth 100000 in
theorem k_X12_count_0 (l : Launch) (dC : Nat → ClassId) (dI : Nat → Nat → Nat) (h0 h1 h2 h3 h4 h5 h6 h7 h8 h9 h10 h11 h12 h13 h14 h15 h16 h17 h18 h19 h20 h21 h22 h23 h24 h25 h26 h27 h28 h29 : Nat) (sz : Nat) (p0 : Int32) : Met l yX12_count wsX12_count ({ frames := 0, cells := 0, slots := 0, locals := 0 }) (va_Pc [.ref h0, .int p0] (fun U => U.heap.size = sz ∧ va_P (dC, dI) vwCl [(h0, .inr (12, [.int 0, .ref h1, .ref h2, .ref h3, .ref h4, .ref h5, .int 0, .int 0, .ref h6, .int 0, .int 0, .ref h7, .ref h8, .ref h9, .ref h10, .ref h11, .ref h12, .ref h13, .int 0, .int 0, .ref h14, .ref h15, .ref h16, .ref h17, .int 0, .ref h18, .ref h19, .int 0, .ref h20, .int 0, .int 0, .ref h21, .ref h22, .int 0, .int 0, .int 0, .int 0, .int 0, .ref h23, .int 0, .ref h24, .ref h25, .int 0, .int 0, .int 0, .ref h26, .ref h27, .ref h28, .ref h29]))] U.heap ∧ va_K (dC, dI) vwCl [] U ∧ va_D (fun _ => True) [(h0, .inr (12, [.int 0, .ref h1, .ref h2, .ref h3, .ref h4, .ref h5, .int 0, .int 0, .ref h6, .int 0, .int 0, .ref h7, .ref h8, .ref h9, .ref h10, .ref h11, .ref h12, .ref h13, .int 0, .int 0, .ref h14, .ref h15, .ref h16, .ref h17, .int 0, .ref h18, .ref h19, .int 0, .ref h20, .int 0, .int 0, .ref h21, .ref h22, .int 0, .int 0, .int 0, .int 0, .int 0, .ref h23, .int 0, .ref h24, .ref h25, .int 0, .int 0, .int 0, .ref h26, .ref h27, .ref h28, .ref h29]))])) (va_Qi (fun (r : Int32) (_ : Unit) => r = if 0 ≤ p0.toInt ∧ p0.toInt ≤ 7 then (0 : Int32) else -1) (fun (_ : Unit) t => va_P (dC, dI) vwCl [] t.heap ∧ va_K (dC, dI) vwCl [] t ∧ va_D (va_A [(h0, .inr (12, [.int 0, .ref h1, .ref h2, .ref h3, .ref h4, .ref h5, .int 0, .int 0, .ref h6, .int 0, .int 0, .ref h7, .ref h8, .ref h9, .ref h10, .ref h11, .ref h12, .ref h13, .int 0, .int 0, .ref h14, .ref h15, .ref h16, .ref h17, .int 0, .ref h18, .ref h19, .int 0, .ref h20, .int 0, .int 0, .ref h21, .ref h22, .int 0, .int 0, .int 0, .int 0, .int 0, .ref h23, .int 0, .ref h24, .ref h25, .int 0, .int 0, .int 0, .ref h26, .ref h27, .ref h28, .ref h29]))] sz) []) (va_A [(h0, .inr (12, [.int 0, .ref h1, .ref h2, .ref h3, .ref h4, .ref h5, .int 0, .int 0, .ref h6, .int 0, .int 0, .ref h7, .ref h8, .ref h9, .ref h10, .ref h11, .ref h12, .ref h13, .int 0, .int 0, .ref h14, .ref h15, .ref h16, .ref h17, .int 0, .ref h18, .ref h19, .int 0, .ref h20, .int 0, .int 0, .ref h21, .ref h22, .int 0, .int 0, .int 0, .int 0, .int 0, .ref h23, .int 0, .ref h24, .ref h25, .int 0, .int 0, .int 0, .ref h26, .ref h27, .ref h28, .ref h29]))] sz)) 0 0 (va_A [(h0, .inr (12, [.int 0, .ref h1, .ref h2, .ref h3, .ref h4, .ref h5, .int 0, .int 0, .ref h6, .int 0, .int 0, .ref h7, .ref h8, .ref h9, .ref h10, .ref h11, .ref h12, .ref h13, .int 0, .int 0, .ref h14, .ref h15, .ref h16, .ref h17, .int 0, .ref h18, .ref h19, .int 0, .ref h20, .int 0, .int 0, .ref h21, .ref h22, .int 0, .int 0, .int 0, .int 0, .int 0, .ref h23, .int 0, .ref h24, .ref h25, .int 0, .int 0, .int 0, .ref h26, .ref h27, .ref h28, .ref h29]))] sz) := by
  refine Met.ofW (cc := cX12_count) (maxL := 2) (ret := (some .int)) (by decide) rfl ?_
  intro p e s m args below meth c s₁ B hml hv
  obtain ⟨rfl, hsz, hP, hK, hD0⟩ := hv
  have hx := B.exec
  have hb := B.bytes
  have hr := B.returns
  have hts := atoms_spec (ws := wsX12_count) B.pre
  have hown : s.vm.findClass RX12 = some m.cls := findClass_of_methodNamed B.named
  have hlocks := B.notSynchronized
  subst hsz
  have hD := hD0.self (sz := s.heap.size)
  generalize hAe : va_A [(h0, .inr (12, [.int 0, .ref h1, .ref h2, .ref h3, .ref h4, .ref h5, .int 0, .int 0, .ref h6, .int 0, .int 0, .ref h7, .ref h8, .ref h9, .ref h10, .ref h11, .ref h12, .ref h13, .int 0, .int 0, .ref h14, .ref h15, .ref h16, .ref h17, .int 0, .ref h18, .ref h19, .int 0, .ref h20, .int 0, .int 0, .ref h21, .ref h22, .int 0, .int 0, .int 0, .int 0, .int 0, .ref h23, .int 0, .ref h24, .ref h25, .int 0, .int 0, .int 0, .ref h26, .ref h27, .ref h28, .ref h29]))] s.heap.size = A at hD ⊢
  have hA : ∀ q : Nat, s.heap.size ≤ q → A q := fun q h => by rw [← hAe]; exact Or.inr h
  have hS : va_S A s.heap s.heap [] := va_S.rf
  have hP : va_P (dC, dI) vwCl [(h0, .inr (12, [.int 0, .ref h1, .ref h2, .ref h3, .ref h4, .ref h5, .int 0, .int 0, .ref h6, .int 0, .int 0, .ref h7, .ref h8, .ref h9, .ref h10, .ref h11, .ref h12, .ref h13, .int 0, .int 0, .ref h14, .ref h15, .ref h16, .ref h17, .int 0, .ref h18, .ref h19, .int 0, .ref h20, .int 0, .int 0, .ref h21, .ref h22, .int 0, .int 0, .int 0, .int 0, .int 0, .ref h23, .int 0, .ref h24, .ref h25, .int 0, .int 0, .int 0, .ref h26, .ref h27, .ref h28, .ref h29]))] s.heap := hP
  have hl := lv_entry ([.ref h0, .int p0]) (n := 2) (Nat.le_of_ble_eq_true rfl)
  rw [lg_entry_eq]
  generalize (lg_sl ([.ref h0, .int p0]) ++ List.replicate (2 - (lg_sl ([.ref h0, .int p0])).length) Slot.unset).toArray = ls at hl ⊢
  have hl : lv_has ls 2 [(0, .ref h0), (1, .int p0)] := hl
  refine lv_iload_n hx hb dX12_count_0 rfl (lv_at hl 1 rfl) ?_
  rcases (show p0 = 0 ∨ p0 = 1 ∨ p0 = 2 ∨ p0 = 3 ∨ p0 = 4 ∨ p0 = 5 ∨ p0 = 6 ∨ p0 = 7 ∨ (p0.toInt < 0 ∨ 7 < p0.toInt) from by simp only [← Int32.toInt_inj]; simp; omega) with e_1 | e_1 | e_1 | e_1 | e_1 | e_1 | e_1 | e_1 | t_1
  · have t_1 : p0.toInt = 0 := by rw [e_1]; rfl
    refine lv_tableIn (tgt := 48) (off := 47) hx hb dX12_count_1 (by omega) (by omega) (by rw [t_1]; rfl) (by decide) ?_
    refine lv_aload_n hx hb dX12_count_48 rfl (lv_at hl 0 rfl) ?_
    refine va_get (D := (dC, dI)) (ci := 12) (v := .int 0) (C := RX12) (T := TX12) (N := 49) hx hb hts (fun _ h => List.mem_cons_of_mem _ (List.mem_append_right _ h)) hown hK hP 0 rfl rfl 0 (by decide) (hts (.fieldLink RX12 106 "KinkStreetModel" "streets" "I") (List.mem_of_getElem? (i := 1) rfl)) (fun _ h9 => h9) rfl dX12_count_49 ?_
    have hP9 := hP.sub (ws' := []) [] rfl
    have hD9 := hD.sub (ws' := []) [] (by decide) rfl
    have hK9 := hK.sub (tys' := []) [] rfl
    exact W.iret (v := 0) hx hb hr (fun t ht hW => ⟨⟨0, (), rfl, by first | rfl | ((repeat' split) <;> first | rfl | (exfalso; omega) | (exact Int32.toInt_inj.mp (by show (0 : Int) = _; omega))), by rw [ht]; exact hP9, va_K.moved hW.alike hK9, hD9⟩, hS.F ht⟩) hS.2.2 dX12_count_52
  · have t_1 : p0.toInt = 1 := by rw [e_1]; rfl
    refine lv_tableIn (tgt := 53) (off := 52) hx hb dX12_count_1 (by omega) (by omega) (by rw [t_1]; rfl) (by decide) ?_
    refine lv_aload_n hx hb dX12_count_53 rfl (lv_at hl 0 rfl) ?_
    refine va_get (D := (dC, dI)) (ci := 12) (v := .int 0) (C := RX12) (T := TX12) (N := 49) hx hb hts (fun _ h => List.mem_cons_of_mem _ (List.mem_append_right _ h)) hown hK hP 0 rfl rfl 19 (by decide) (hts (.fieldLink RX12 229 "KinkStreetModel" "deeds" "I") (List.mem_of_getElem? (i := 2) rfl)) (fun _ h9 => h9) rfl dX12_count_54 ?_
    have hP9 := hP.sub (ws' := []) [] rfl
    have hD9 := hD.sub (ws' := []) [] (by decide) rfl
    have hK9 := hK.sub (tys' := []) [] rfl
    exact W.iret (v := 0) hx hb hr (fun t ht hW => ⟨⟨0, (), rfl, by first | rfl | ((repeat' split) <;> first | rfl | (exfalso; omega) | (exact Int32.toInt_inj.mp (by show (0 : Int) = _; omega))), by rw [ht]; exact hP9, va_K.moved hW.alike hK9, hD9⟩, hS.F ht⟩) hS.2.2 dX12_count_57
  · have t_1 : p0.toInt = 2 := by rw [e_1]; rfl
    refine lv_tableIn (tgt := 58) (off := 57) hx hb dX12_count_1 (by omega) (by omega) (by rw [t_1]; rfl) (by decide) ?_
    refine lv_aload_n hx hb dX12_count_58 rfl (lv_at hl 0 rfl) ?_
    refine va_get (D := (dC, dI)) (ci := 12) (v := .int 0) (C := RX12) (T := TX12) (N := 49) hx hb hts (fun _ h => List.mem_cons_of_mem _ (List.mem_append_right _ h)) hown hK hP 0 rfl rfl 30 (by decide) (hts (.fieldLink RX12 308 "KinkStreetModel" "laws" "I") (List.mem_of_getElem? (i := 3) rfl)) (fun _ h9 => h9) rfl dX12_count_59 ?_
    have hP9 := hP.sub (ws' := []) [] rfl
    have hD9 := hD.sub (ws' := []) [] (by decide) rfl
    have hK9 := hK.sub (tys' := []) [] rfl
    exact W.iret (v := 0) hx hb hr (fun t ht hW => ⟨⟨0, (), rfl, by first | rfl | ((repeat' split) <;> first | rfl | (exfalso; omega) | (exact Int32.toInt_inj.mp (by show (0 : Int) = _; omega))), by rw [ht]; exact hP9, va_K.moved hW.alike hK9, hD9⟩, hS.F ht⟩) hS.2.2 dX12_count_62
  · have t_1 : p0.toInt = 3 := by rw [e_1]; rfl
    refine lv_tableIn (tgt := 63) (off := 62) hx hb dX12_count_1 (by omega) (by omega) (by rw [t_1]; rfl) (by decide) ?_
    refine lv_aload_n hx hb dX12_count_63 rfl (lv_at hl 0 rfl) ?_
    refine va_get (D := (dC, dI)) (ci := 12) (v := .int 0) (C := RX12) (T := TX12) (N := 49) hx hb hts (fun _ h => List.mem_cons_of_mem _ (List.mem_append_right _ h)) hown hK hP 0 rfl rfl 29 (by decide) (hts (.fieldLink RX12 259 "KinkStreetModel" "tapeMany" "I") (List.mem_of_getElem? (i := 4) rfl)) (fun _ h9 => h9) rfl dX12_count_64 ?_
    have hP9 := hP.sub (ws' := []) [] rfl
    have hD9 := hD.sub (ws' := []) [] (by decide) rfl
    have hK9 := hK.sub (tys' := []) [] rfl
    exact W.iret (v := 0) hx hb hr (fun t ht hW => ⟨⟨0, (), rfl, by first | rfl | ((repeat' split) <;> first | rfl | (exfalso; omega) | (exact Int32.toInt_inj.mp (by show (0 : Int) = _; omega))), by rw [ht]; exact hP9, va_K.moved hW.alike hK9, hD9⟩, hS.F ht⟩) hS.2.2 dX12_count_67
  · have t_1 : p0.toInt = 4 := by rw [e_1]; rfl
    refine lv_tableIn (tgt := 68) (off := 67) hx hb dX12_count_1 (by omega) (by omega) (by rw [t_1]; rfl) (by decide) ?_
    refine lv_aload_n hx hb dX12_count_68 rfl (lv_at hl 0 rfl) ?_
    refine va_get (D := (dC, dI)) (ci := 12) (v := .int 0) (C := RX12) (T := TX12) (N := 49) hx hb hts (fun _ h => List.mem_cons_of_mem _ (List.mem_append_right _ h)) hown hK hP 0 rfl rfl 18 (by decide) (hts (.fieldLink RX12 221 "KinkStreetModel" "bendMany" "I") (List.mem_of_getElem? (i := 5) rfl)) (fun _ h9 => h9) rfl dX12_count_69 ?_
    have hP9 := hP.sub (ws' := []) [] rfl
    have hD9 := hD.sub (ws' := []) [] (by decide) rfl
    have hK9 := hK.sub (tys' := []) [] rfl
    exact W.iret (v := 0) hx hb hr (fun t ht hW => ⟨⟨0, (), rfl, by first | rfl | ((repeat' split) <;> first | rfl | (exfalso; omega) | (exact Int32.toInt_inj.mp (by show (0 : Int) = _; omega))), by rw [ht]; exact hP9, va_K.moved hW.alike hK9, hD9⟩, hS.F ht⟩) hS.2.2 dX12_count_72
  · have t_1 : p0.toInt = 5 := by rw [e_1]; rfl
    refine lv_tableIn (tgt := 73) (off := 72) hx hb dX12_count_1 (by omega) (by omega) (by rw [t_1]; rfl) (by decide) ?_
    refine lv_aload_n hx hb dX12_count_73 rfl (lv_at hl 0 rfl) ?_
    refine va_get (D := (dC, dI)) (ci := 12) (v := .int 0) (C := RX12) (T := TX12) (N := 49) hx hb hts (fun _ h => List.mem_cons_of_mem _ (List.mem_append_right _ h)) hown hK hP 0 rfl rfl 7 (by decide) (hts (.fieldLink RX12 99 "KinkStreetModel" "done" "I") (List.mem_of_getElem? (i := 6) rfl)) (fun _ h9 => h9) rfl dX12_count_74 ?_
    have hP9 := hP.sub (ws' := []) [] rfl
    have hD9 := hD.sub (ws' := []) [] (by decide) rfl
    have hK9 := hK.sub (tys' := []) [] rfl
    exact W.iret (v := 0) hx hb hr (fun t ht hW => ⟨⟨0, (), rfl, by first | rfl | ((repeat' split) <;> first | rfl | (exfalso; omega) | (exact Int32.toInt_inj.mp (by show (0 : Int) = _; omega))), by rw [ht]; exact hP9, va_K.moved hW.alike hK9, hD9⟩, hS.F ht⟩) hS.2.2 dX12_count_77
  · have t_1 : p0.toInt = 6 := by rw [e_1]; rfl
    refine lv_tableIn (tgt := 78) (off := 77) hx hb dX12_count_1 (by omega) (by omega) (by rw [t_1]; rfl) (by decide) ?_
    refine lv_aload_n hx hb dX12_count_78 rfl (lv_at hl 0 rfl) ?_
    refine va_get (D := (dC, dI)) (ci := 12) (v := .int 0) (C := RX12) (T := TX12) (N := 49) hx hb hts (fun _ h => List.mem_cons_of_mem _ (List.mem_append_right _ h)) hown hK hP 0 rfl rfl 39 (by decide) (hts (.fieldLink RX12 337 "KinkStreetModel" "bodies" "I") (List.mem_of_getElem? (i := 7) rfl)) (fun _ h9 => h9) rfl dX12_count_79 ?_
    have hP9 := hP.sub (ws' := []) [] rfl
    have hD9 := hD.sub (ws' := []) [] (by decide) rfl
    have hK9 := hK.sub (tys' := []) [] rfl
    exact W.iret (v := 0) hx hb hr (fun t ht hW => ⟨⟨0, (), rfl, by first | rfl | ((repeat' split) <;> first | rfl | (exfalso; omega) | (exact Int32.toInt_inj.mp (by show (0 : Int) = _; omega))), by rw [ht]; exact hP9, va_K.moved hW.alike hK9, hD9⟩, hS.F ht⟩) hS.2.2 dX12_count_82
  · have t_1 : p0.toInt = 7 := by rw [e_1]; rfl
    refine lv_tableIn (tgt := 83) (off := 82) hx hb dX12_count_1 (by omega) (by omega) (by rw [t_1]; rfl) (by decide) ?_
    refine lv_aload_n hx hb dX12_count_83 rfl (lv_at hl 0 rfl) ?_
    refine va_get (D := (dC, dI)) (ci := 12) (v := .int 0) (C := RX12) (T := TX12) (N := 49) hx hb hts (fun _ h => List.mem_cons_of_mem _ (List.mem_append_right _ h)) hown hK hP 0 rfl rfl 42 (by decide) (hts (.fieldLink RX12 340 "KinkStreetModel" "ran" "I") (List.mem_of_getElem? (i := 8) rfl)) (fun _ h9 => h9) rfl dX12_count_84 ?_
    have hP9 := hP.sub (ws' := []) [] rfl
    have hD9 := hD.sub (ws' := []) [] (by decide) rfl
    have hK9 := hK.sub (tys' := []) [] rfl
    exact W.iret (v := 0) hx hb hr (fun t ht hW => ⟨⟨0, (), rfl, by first | rfl | ((repeat' split) <;> first | rfl | (exfalso; omega) | (exact Int32.toInt_inj.mp (by show (0 : Int) = _; omega))), by rw [ht]; exact hP9, va_K.moved hW.alike hK9, hD9⟩, hS.F ht⟩) hS.2.2 dX12_count_87
  · refine lv_tableOut (tgt := 88) hx hb dX12_count_1 t_1 (by decide) ?_
    refine lv_iconst (v := (-1)) hx hb dX12_count_88 (by decide) ?_
    have hP9 := hP.sub (ws' := []) [] rfl
    have hD9 := hD.sub (ws' := []) [] (by decide) rfl
    have hK9 := hK.sub (tys' := []) [] rfl
    exact W.iret (v := (-1)) hx hb hr (fun t ht hW => ⟨⟨(-1), (), rfl, by first | rfl | ((repeat' split) <;> first | rfl | (exfalso; omega) | (exact Int32.toInt_inj.mp (by show ((-1) : Int) = _; omega))), by rw [ht]; exact hP9, va_K.moved hW.alike hK9, hD9⟩, hS.F ht⟩) hS.2.2 dX12_count_89
