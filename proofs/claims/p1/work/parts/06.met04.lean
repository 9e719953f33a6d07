set_option maxHeartbeats 4000000 in
set_option maxRecDepth 100000 in
theorem k_X12_led_0 (l : Launch) (dC : Nat → ClassId) (dI : Nat → Nat → Nat) (h0 h1 h2 h3 h4 h5 h6 h7 h8 h9 h10 h11 h12 h13 h14 h15 h16 h17 h18 h19 h20 h21 h22 h23 h24 h25 h26 h27 h28 h29 : Nat) (sz : Nat) (p0 : Int32) (p1 : Int32) : Met l yX12_led wsX12_led ({ frames := 3, cells := 0, slots := 0, locals := 68 }) (va_Pc [.ref h0, .int p0, .int p1] (fun U => U.heap.size = sz ∧ va_P (dC, dI) vwCl [(h0, .inr (12, [.int 0, .ref h1, .ref h2, .ref h3, .ref h4, .ref h5, .int 0, .int 0, .ref h6, .int 0, .int 0, .ref h7, .ref h8, .ref h9, .ref h10, .ref h11, .ref h12, .ref h13, .int 0, .int 0, .ref h14, .ref h15, .ref h16, .ref h17, .int 0, .ref h18, .ref h19, .int 0, .ref h20, .int 0, .int 0, .ref h21, .ref h22, .int 0, .int 0, .int 0, .int 0, .int 0, .ref h23, .int 0, .ref h24, .ref h25, .int 0, .int 0, .int 0, .ref h26, .ref h27, .ref h28, .ref h29]))] U.heap ∧ va_K (dC, dI) vwCl [] U ∧ va_D (fun _ => True) [(h0, .inr (12, [.int 0, .ref h1, .ref h2, .ref h3, .ref h4, .ref h5, .int 0, .int 0, .ref h6, .int 0, .int 0, .ref h7, .ref h8, .ref h9, .ref h10, .ref h11, .ref h12, .ref h13, .int 0, .int 0, .ref h14, .ref h15, .ref h16, .ref h17, .int 0, .ref h18, .ref h19, .int 0, .ref h20, .int 0, .int 0, .ref h21, .ref h22, .int 0, .int 0, .int 0, .int 0, .int 0, .ref h23, .int 0, .ref h24, .ref h25, .int 0, .int 0, .int 0, .ref h26, .ref h27, .ref h28, .ref h29]))])) (va_Qi (fun (r : Int32) (_ : Unit) => r = -1) (fun (_ : Unit) t => va_P (dC, dI) vwCl [] t.heap ∧ va_K (dC, dI) vwCl [] t ∧ va_D (va_A [(h0, .inr (12, [.int 0, .ref h1, .ref h2, .ref h3, .ref h4, .ref h5, .int 0, .int 0, .ref h6, .int 0, .int 0, .ref h7, .ref h8, .ref h9, .ref h10, .ref h11, .ref h12, .ref h13, .int 0, .int 0, .ref h14, .ref h15, .ref h16, .ref h17, .int 0, .ref h18, .ref h19, .int 0, .ref h20, .int 0, .int 0, .ref h21, .ref h22, .int 0, .int 0, .int 0, .int 0, .int 0, .ref h23, .int 0, .ref h24, .ref h25, .int 0, .int 0, .int 0, .ref h26, .ref h27, .ref h28, .ref h29]))] sz) []) (va_A [(h0, .inr (12, [.int 0, .ref h1, .ref h2, .ref h3, .ref h4, .ref h5, .int 0, .int 0, .ref h6, .int 0, .int 0, .ref h7, .ref h8, .ref h9, .ref h10, .ref h11, .ref h12, .ref h13, .int 0, .int 0, .ref h14, .ref h15, .ref h16, .ref h17, .int 0, .ref h18, .ref h19, .int 0, .ref h20, .int 0, .int 0, .ref h21, .ref h22, .int 0, .int 0, .int 0, .int 0, .int 0, .ref h23, .int 0, .ref h24, .ref h25, .int 0, .int 0, .int 0, .ref h26, .ref h27, .ref h28, .ref h29]))] sz)) 0 0 (va_A [(h0, .inr (12, [.int 0, .ref h1, .ref h2, .ref h3, .ref h4, .ref h5, .int 0, .int 0, .ref h6, .int 0, .int 0, .ref h7, .ref h8, .ref h9, .ref h10, .ref h11, .ref h12, .ref h13, .int 0, .int 0, .ref h14, .ref h15, .ref h16, .ref h17, .int 0, .ref h18, .ref h19, .int 0, .ref h20, .int 0, .int 0, .ref h21, .ref h22, .int 0, .int 0, .int 0, .int 0, .int 0, .ref h23, .int 0, .ref h24, .ref h25, .int 0, .int 0, .int 0, .ref h26, .ref h27, .ref h28, .ref h29]))] sz) := by
  refine Met.ofW (cc := cX12_led) (maxL := 5) (ret := (some .int)) (by decide) rfl ?_
  intro p e s m args below meth c s₁ B hml hv
  obtain ⟨rfl, hsz, hP, hK, hD0⟩ := hv
  have hx := B.exec
  have hb := B.bytes
  have hr := B.returns
  have hts := atoms_spec (ws := wsX12_led) B.pre
  have hown : s.vm.findClass RX12 = some m.cls := findClass_of_methodNamed B.named
  have hlocks := B.notSynchronized
  subst hsz
  have hD := hD0.self (sz := s.heap.size)
  generalize hAe : va_A [(h0, .inr (12, [.int 0, .ref h1, .ref h2, .ref h3, .ref h4, .ref h5, .int 0, .int 0, .ref h6, .int 0, .int 0, .ref h7, .ref h8, .ref h9, .ref h10, .ref h11, .ref h12, .ref h13, .int 0, .int 0, .ref h14, .ref h15, .ref h16, .ref h17, .int 0, .ref h18, .ref h19, .int 0, .ref h20, .int 0, .int 0, .ref h21, .ref h22, .int 0, .int 0, .int 0, .int 0, .int 0, .ref h23, .int 0, .ref h24, .ref h25, .int 0, .int 0, .int 0, .ref h26, .ref h27, .ref h28, .ref h29]))] s.heap.size = A at hD ⊢
  have hA : ∀ q : Nat, s.heap.size ≤ q → A q := fun q h => by rw [← hAe]; exact Or.inr h
  have hS : va_S A s.heap s.heap [] := va_S.rf
  have hP : va_P (dC, dI) vwCl [(h0, .inr (12, [.int 0, .ref h1, .ref h2, .ref h3, .ref h4, .ref h5, .int 0, .int 0, .ref h6, .int 0, .int 0, .ref h7, .ref h8, .ref h9, .ref h10, .ref h11, .ref h12, .ref h13, .int 0, .int 0, .ref h14, .ref h15, .ref h16, .ref h17, .int 0, .ref h18, .ref h19, .int 0, .ref h20, .int 0, .int 0, .ref h21, .ref h22, .int 0, .int 0, .int 0, .int 0, .int 0, .ref h23, .int 0, .ref h24, .ref h25, .int 0, .int 0, .int 0, .ref h26, .ref h27, .ref h28, .ref h29]))] s.heap := hP
  have hl := lv_entry ([.ref h0, .int p0, .int p1]) (n := 5) (Nat.le_of_ble_eq_true rfl)
  rw [lg_entry_eq]
  generalize (lg_sl ([.ref h0, .int p0, .int p1]) ++ List.replicate (5 - (lg_sl ([.ref h0, .int p0, .int p1])).length) Slot.unset).toArray = ls at hl ⊢
  have hl : lv_has ls 5 [(0, .ref h0), (1, .int p0), (2, .int p1)] := hl
  refine lv_iload_n hx hb dX12_led_0 rfl (lv_at hl 1 rfl) ?_
  refine lv_if_lt (tgt := 26) hx hb dX12_led_1 (by decide) (fun c_1 => ?_) (fun c_1 => ?_)
  · have t_1 : p0.toInt < 0 := kk_lt c_1
    refine lv_iconst (v := (-1)) hx hb dX12_led_26 (by decide) ?_
    have hP9 := hP.sub (ws' := []) [] rfl
    have hD9 := hD.sub (ws' := []) [] (by decide) rfl
    have hK9 := hK.sub (tys' := []) [] rfl
    exact W.iret (v := (-1)) hx hb hr (fun t ht hW => ⟨⟨(-1), (), rfl, by first | rfl | ((repeat' split) <;> first | rfl | (exfalso; omega) | (exact Int32.toInt_inj.mp (by show ((-1) : Int) = _; omega))), by rw [ht]; exact hP9, va_K.moved hW.alike hK9, hD9⟩, hS.F ht⟩) hS.2.2 dX12_led_27
  · have t_1 : 0 ≤ p0.toInt := kk_nlt c_1
    refine lv_aload_n hx hb dX12_led_4 rfl (lv_at hl 0 rfl) ?_
    refine lv_iload_n hx hb dX12_led_5 rfl (lv_at hl 1 rfl) ?_
    refine lv_bipush (v := 100) hx hb dX12_led_6 (by decide) ?_
    refine lv_idiv hx hb dX12_led_8 (by decide) ?_
    refine lv_iload_n hx hb dX12_led_9 rfl (lv_at hl 1 rfl) ?_
    refine lv_bipush (v := 100) hx hb dX12_led_10 (by decide) ?_
    refine lv_irem hx hb dX12_led_12 (by decide) ?_
    have hPc := hP.sub (ws' := [(h0, .inr (12, [.int 0, .ref h1, .ref h2, .ref h3, .ref h4, .ref h5, .int 0, .int 0, .ref h6, .int 0, .int 0, .ref h7, .ref h8, .ref h9, .ref h10, .ref h11, .ref h12, .ref h13, .int 0, .int 0, .ref h14, .ref h15, .ref h16, .ref h17, .int 0, .ref h18, .ref h19, .int 0, .ref h20, .int 0, .int 0, .ref h21, .ref h22, .int 0, .int 0, .int 0, .int 0, .int 0, .ref h23, .int 0, .ref h24, .ref h25, .int 0, .int 0, .int 0, .ref h26, .ref h27, .ref h28, .ref h29]))]) [0] rfl
    have hDc := hD.sub (ws' := [(h0, .inr (12, [.int 0, .ref h1, .ref h2, .ref h3, .ref h4, .ref h5, .int 0, .int 0, .ref h6, .int 0, .int 0, .ref h7, .ref h8, .ref h9, .ref h10, .ref h11, .ref h12, .ref h13, .int 0, .int 0, .ref h14, .ref h15, .ref h16, .ref h17, .int 0, .ref h18, .ref h19, .int 0, .ref h20, .int 0, .int 0, .ref h21, .ref h22, .int 0, .int 0, .int 0, .int 0, .int 0, .ref h23, .int 0, .ref h24, .ref h25, .int 0, .int 0, .int 0, .ref h26, .ref h27, .ref h28, .ref h29]))]) [0] (by decide) rfl
    have hKc := hK.sub (tys' := []) [] rfl
    have hFc := va_free (wc := [(h0, .inr (12, [.int 0, .ref h1, .ref h2, .ref h3, .ref h4, .ref h5, .int 0, .int 0, .ref h6, .int 0, .int 0, .ref h7, .ref h8, .ref h9, .ref h10, .ref h11, .ref h12, .ref h13, .int 0, .int 0, .ref h14, .ref h15, .ref h16, .ref h17, .int 0, .ref h18, .ref h19, .int 0, .ref h20, .int 0, .int 0, .ref h21, .ref h22, .int 0, .int 0, .int 0, .int 0, .int 0, .ref h23, .int 0, .ref h24, .ref h25, .int 0, .int 0, .int 0, .ref h26, .ref h27, .ref h28, .ref h29]))]) hD hS hA [0] rfl
    refine va_calli (va_runV (As := [.int (p0 / 100), .int (p0 - p0 / 100 * 100)]) (rest := []) ⟨hx, hb, hml, hown, hts⟩ (k_X12_isPlot_0 l dC dI h0 h1 h2 h3 h4 h5 h6 h7 h8 h9 h10 h11 h12 h13 h14 h15 h16 h17 h18 h19 h20 h21 h22 h23 h24 h25 h26 h27 h28 h29 s.heap.size (p0 / 100) (p0 - p0 / 100 * 100)) (cwV 2 hts gX12_led_X12_isPlot rfl rfl rfl (by decide +kernel) ⟨Nat.le_of_ble_eq_true rfl, Nat.le_of_ble_eq_true rfl⟩) ⟨fun a U g mk q => by obtain ⟨q0, q1, qP, qK, qD⟩ := q; exact ⟨q0, q1, qP, va_K.moved (u := U) (U := U.calling g mk a) (Vm.Alike.refl U.vm) qK, qD⟩, va_recv hKc hPc (ci := 12) (q0 := 0) rfl rfl, fun U hU hW => ⟨rfl, by rw [hU], by rw [hU]; exact hPc, va_K.moved hW.alike hKc, hDc.weaken (fun _ _ _ _ => trivial)⟩⟩ rfl rfl hl.1 rfl (lv_room (Nat.le_of_ble_eq_true rfl)) dX12_led_13 ⟨Nat.le_of_ble_eq_true rfl, Nat.le_of_ble_eq_true rfl⟩) hS (fun q _ h => hFc q h) hFc (fun r_2 u t H1 locs ht hvm hw hB hz1 hk1 hS => ?_)
    obtain ⟨hP1, hK1, hD1⟩ := hB
    rw [ht] at hP1
    have hK1 := va_K.moved hvm.symm hK1
    obtain ⟨hP, hD⟩ := va_join (wr := []) (w1 := [(h0, .inr (12, [.int 0, .ref h1, .ref h2, .ref h3, .ref h4, .ref h5, .int 0, .int 0, .ref h6, .int 0, .int 0, .ref h7, .ref h8, .ref h9, .ref h10, .ref h11, .ref h12, .ref h13, .int 0, .int 0, .ref h14, .ref h15, .ref h16, .ref h17, .int 0, .ref h18, .ref h19, .int 0, .ref h20, .int 0, .int 0, .ref h21, .ref h22, .int 0, .int 0, .int 0, .int 0, .int 0, .ref h23, .int 0, .ref h24, .ref h25, .int 0, .int 0, .int 0, .ref h26, .ref h27, .ref h28, .ref h29]))]) hP hD [0] [] rfl rfl (by decide) (by decide) hk1 hFc hP1 hD1
    generalize H1 = H at hP hS ⊢
    have hP : va_P (dC, dI) vwCl [(h0, .inr (12, [.int 0, .ref h1, .ref h2, .ref h3, .ref h4, .ref h5, .int 0, .int 0, .ref h6, .int 0, .int 0, .ref h7, .ref h8, .ref h9, .ref h10, .ref h11, .ref h12, .ref h13, .int 0, .int 0, .ref h14, .ref h15, .ref h16, .ref h17, .int 0, .ref h18, .ref h19, .int 0, .ref h20, .int 0, .int 0, .ref h21, .ref h22, .int 0, .int 0, .int 0, .int 0, .int 0, .ref h23, .int 0, .ref h24, .ref h25, .int 0, .int 0, .int 0, .ref h26, .ref h27, .ref h28, .ref h29]))] H := hP
    have hD : va_D A [(h0, .inr (12, [.int 0, .ref h1, .ref h2, .ref h3, .ref h4, .ref h5, .int 0, .int 0, .ref h6, .int 0, .int 0, .ref h7, .ref h8, .ref h9, .ref h10, .ref h11, .ref h12, .ref h13, .int 0, .int 0, .ref h14, .ref h15, .ref h16, .ref h17, .int 0, .ref h18, .ref h19, .int 0, .ref h20, .int 0, .int 0, .ref h21, .ref h22, .int 0, .int 0, .int 0, .int 0, .int 0, .ref h23, .int 0, .ref h24, .ref h25, .int 0, .int 0, .int 0, .ref h26, .ref h27, .ref h28, .ref h29]))] := hD
    obtain rfl := hw
    refine lv_if_eq (tgt := 26) hx hb dX12_led_16 (by decide) (fun _ => ?_) (fun c => absurd c (by decide))
    refine lv_iconst (v := (-1)) hx hb dX12_led_26 (by decide) ?_
    have hP9 := hP.sub (ws' := []) [] rfl
    have hD9 := hD.sub (ws' := []) [] (by decide) rfl
    have hK9 := hK.sub (tys' := []) [] rfl
    exact W.iret (v := (-1)) hx hb hr (fun t ht hW => ⟨⟨(-1), (), rfl, by first | rfl | ((repeat' split) <;> first | rfl | (exfalso; have := kk_div (x := p0) (k := 100) (n := 100) rfl (by decide) (by omega); have := kk_rem (x := p0) (k := 100) (n := 100) rfl (by decide) (by omega); omega) | (exact Int32.toInt_inj.mp (by show ((-1) : Int) = _; omega))), by rw [ht]; exact hP9, va_K.moved hW.alike hK9, hD9⟩, hS.F ht⟩) hS.2.2 dX12_led_27
set_option maxHeartbeats 4000000 in
set_option maxRecDepth 100000 in
theorem k_X12_pieces_0 (l : Launch) (dC : Nat → ClassId) (dI : Nat → Nat → Nat) (h0 h1 h2 h3 h4 h5 h6 h7 h8 h9 h10 h11 h12 h13 h14 h15 h16 h17 h18 h19 h20 h21 h22 h23 h24 h25 h26 h27 h28 h29 : Nat) (sz : Nat) (p0 : Int32) (p1 : Int32) (p2 : Int32) : Met l yX12_pieces wsX12_pieces ({ frames := 2, cells := 0, slots := 0, locals := 46 }) (va_Pc [.ref h0, .int p0, .int p1, .int p2] (fun U => U.heap.size = sz ∧ va_P (dC, dI) vwCl [(h0, .inr (12, [.int 0, .ref h1, .ref h2, .ref h3, .ref h4, .ref h5, .int 0, .int 0, .ref h6, .int 0, .int 0, .ref h7, .ref h8, .ref h9, .ref h10, .ref h11, .ref h12, .ref h13, .int 0, .int 0, .ref h14, .ref h15, .ref h16, .ref h17, .int 0, .ref h18, .ref h19, .int 0, .ref h20, .int 0, .int 0, .ref h21, .ref h22, .int 0, .int 0, .int 0, .int 0, .int 0, .ref h23, .int 0, .ref h24, .ref h25, .int 0, .int 0, .int 0, .ref h26, .ref h27, .ref h28, .ref h29]))] U.heap ∧ va_K (dC, dI) vwCl [] U ∧ va_D (fun _ => True) [(h0, .inr (12, [.int 0, .ref h1, .ref h2, .ref h3, .ref h4, .ref h5, .int 0, .int 0, .ref h6, .int 0, .int 0, .ref h7, .ref h8, .ref h9, .ref h10, .ref h11, .ref h12, .ref h13, .int 0, .int 0, .ref h14, .ref h15, .ref h16, .ref h17, .int 0, .ref h18, .ref h19, .int 0, .ref h20, .int 0, .int 0, .ref h21, .ref h22, .int 0, .int 0, .int 0, .int 0, .int 0, .ref h23, .int 0, .ref h24, .ref h25, .int 0, .int 0, .int 0, .ref h26, .ref h27, .ref h28, .ref h29]))])) (va_Qi (fun (r : Int32) (_ : Unit) => r = -1) (fun (_ : Unit) t => va_P (dC, dI) vwCl [] t.heap ∧ va_K (dC, dI) vwCl [] t ∧ va_D (va_A [(h0, .inr (12, [.int 0, .ref h1, .ref h2, .ref h3, .ref h4, .ref h5, .int 0, .int 0, .ref h6, .int 0, .int 0, .ref h7, .ref h8, .ref h9, .ref h10, .ref h11, .ref h12, .ref h13, .int 0, .int 0, .ref h14, .ref h15, .ref h16, .ref h17, .int 0, .ref h18, .ref h19, .int 0, .ref h20, .int 0, .int 0, .ref h21, .ref h22, .int 0, .int 0, .int 0, .int 0, .int 0, .ref h23, .int 0, .ref h24, .ref h25, .int 0, .int 0, .int 0, .ref h26, .ref h27, .ref h28, .ref h29]))] sz) []) (va_A [(h0, .inr (12, [.int 0, .ref h1, .ref h2, .ref h3, .ref h4, .ref h5, .int 0, .int 0, .ref h6, .int 0, .int 0, .ref h7, .ref h8, .ref h9, .ref h10, .ref h11, .ref h12, .ref h13, .int 0, .int 0, .ref h14, .ref h15, .ref h16, .ref h17, .int 0, .ref h18, .ref h19, .int 0, .ref h20, .int 0, .int 0, .ref h21, .ref h22, .int 0, .int 0, .int 0, .int 0, .int 0, .ref h23, .int 0, .ref h24, .ref h25, .int 0, .int 0, .int 0, .ref h26, .ref h27, .ref h28, .ref h29]))] sz)) 0 0 (va_A [(h0, .inr (12, [.int 0, .ref h1, .ref h2, .ref h3, .ref h4, .ref h5, .int 0, .int 0, .ref h6, .int 0, .int 0, .ref h7, .ref h8, .ref h9, .ref h10, .ref h11, .ref h12, .ref h13, .int 0, .int 0, .ref h14, .ref h15, .ref h16, .ref h17, .int 0, .ref h18, .ref h19, .int 0, .ref h20, .int 0, .int 0, .ref h21, .ref h22, .int 0, .int 0, .int 0, .int 0, .int 0, .ref h23, .int 0, .ref h24, .ref h25, .int 0, .int 0, .int 0, .ref h26, .ref h27, .ref h28, .ref h29]))] sz) := by
  refine Met.ofW (cc := cX12_pieces) (maxL := 9) (ret := (some .int)) (by decide) rfl ?_
  intro p e s m args below meth c s₁ B hml hv
  obtain ⟨rfl, hsz, hP, hK, hD0⟩ := hv
  have hx := B.exec
  have hb := B.bytes
  have hr := B.returns
  have hts := atoms_spec (ws := wsX12_pieces) B.pre
  have hown : s.vm.findClass RX12 = some m.cls := findClass_of_methodNamed B.named
  have hlocks := B.notSynchronized
  subst hsz
  have hD := hD0.self (sz := s.heap.size)
  generalize hAe : va_A [(h0, .inr (12, [.int 0, .ref h1, .ref h2, .ref h3, .ref h4, .ref h5, .int 0, .int 0, .ref h6, .int 0, .int 0, .ref h7, .ref h8, .ref h9, .ref h10, .ref h11, .ref h12, .ref h13, .int 0, .int 0, .ref h14, .ref h15, .ref h16, .ref h17, .int 0, .ref h18, .ref h19, .int 0, .ref h20, .int 0, .int 0, .ref h21, .ref h22, .int 0, .int 0, .int 0, .int 0, .int 0, .ref h23, .int 0, .ref h24, .ref h25, .int 0, .int 0, .int 0, .ref h26, .ref h27, .ref h28, .ref h29]))] s.heap.size = A at hD ⊢
  have hA : ∀ q : Nat, s.heap.size ≤ q → A q := fun q h => by rw [← hAe]; exact Or.inr h
  have hS : va_S A s.heap s.heap [] := va_S.rf
  have hP : va_P (dC, dI) vwCl [(h0, .inr (12, [.int 0, .ref h1, .ref h2, .ref h3, .ref h4, .ref h5, .int 0, .int 0, .ref h6, .int 0, .int 0, .ref h7, .ref h8, .ref h9, .ref h10, .ref h11, .ref h12, .ref h13, .int 0, .int 0, .ref h14, .ref h15, .ref h16, .ref h17, .int 0, .ref h18, .ref h19, .int 0, .ref h20, .int 0, .int 0, .ref h21, .ref h22, .int 0, .int 0, .int 0, .int 0, .int 0, .ref h23, .int 0, .ref h24, .ref h25, .int 0, .int 0, .int 0, .ref h26, .ref h27, .ref h28, .ref h29]))] s.heap := hP
  have hl := lv_entry ([.ref h0, .int p0, .int p1, .int p2]) (n := 9) (Nat.le_of_ble_eq_true rfl)
  rw [lg_entry_eq]
  generalize (lg_sl ([.ref h0, .int p0, .int p1, .int p2]) ++ List.replicate (9 - (lg_sl ([.ref h0, .int p0, .int p1, .int p2])).length) Slot.unset).toArray = ls at hl ⊢
  have hl : lv_has ls 9 [(0, .ref h0), (1, .int p0), (2, .int p1), (3, .int p2)] := hl
  refine lv_aload_n hx hb dX12_pieces_0 rfl (lv_at hl 0 rfl) ?_
  refine lv_iload_n hx hb dX12_pieces_1 rfl (lv_at hl 1 rfl) ?_
  have hPc := hP.sub (ws' := [(h0, .inr (12, [.int 0, .ref h1, .ref h2, .ref h3, .ref h4, .ref h5, .int 0, .int 0, .ref h6, .int 0, .int 0, .ref h7, .ref h8, .ref h9, .ref h10, .ref h11, .ref h12, .ref h13, .int 0, .int 0, .ref h14, .ref h15, .ref h16, .ref h17, .int 0, .ref h18, .ref h19, .int 0, .ref h20, .int 0, .int 0, .ref h21, .ref h22, .int 0, .int 0, .int 0, .int 0, .int 0, .ref h23, .int 0, .ref h24, .ref h25, .int 0, .int 0, .int 0, .ref h26, .ref h27, .ref h28, .ref h29]))]) [0] rfl
  have hDc := hD.sub (ws' := [(h0, .inr (12, [.int 0, .ref h1, .ref h2, .ref h3, .ref h4, .ref h5, .int 0, .int 0, .ref h6, .int 0, .int 0, .ref h7, .ref h8, .ref h9, .ref h10, .ref h11, .ref h12, .ref h13, .int 0, .int 0, .ref h14, .ref h15, .ref h16, .ref h17, .int 0, .ref h18, .ref h19, .int 0, .ref h20, .int 0, .int 0, .ref h21, .ref h22, .int 0, .int 0, .int 0, .int 0, .int 0, .ref h23, .int 0, .ref h24, .ref h25, .int 0, .int 0, .int 0, .ref h26, .ref h27, .ref h28, .ref h29]))]) [0] (by decide) rfl
  have hKc := hK.sub (tys' := []) [] rfl
  have hFc := va_free (wc := [(h0, .inr (12, [.int 0, .ref h1, .ref h2, .ref h3, .ref h4, .ref h5, .int 0, .int 0, .ref h6, .int 0, .int 0, .ref h7, .ref h8, .ref h9, .ref h10, .ref h11, .ref h12, .ref h13, .int 0, .int 0, .ref h14, .ref h15, .ref h16, .ref h17, .int 0, .ref h18, .ref h19, .int 0, .ref h20, .int 0, .int 0, .ref h21, .ref h22, .int 0, .int 0, .int 0, .int 0, .int 0, .ref h23, .int 0, .ref h24, .ref h25, .int 0, .int 0, .int 0, .ref h26, .ref h27, .ref h28, .ref h29]))]) hD hS hA [0] rfl
  refine va_calli (va_runV (As := [.int p0]) (rest := []) ⟨hx, hb, hml, hown, hts⟩ (k_X12_isStreet_0 l dC dI h0 h1 h2 h3 h4 h5 h6 h7 h8 h9 h10 h11 h12 h13 h14 h15 h16 h17 h18 h19 h20 h21 h22 h23 h24 h25 h26 h27 h28 h29 s.heap.size p0) (cwV 1 hts gX12_pieces_X12_isStreet rfl rfl rfl (by decide +kernel) ⟨Nat.le_of_ble_eq_true rfl, Nat.le_of_ble_eq_true rfl⟩) ⟨fun a U g mk q => by obtain ⟨q0, q1, qP, qK, qD⟩ := q; exact ⟨q0, q1, qP, va_K.moved (u := U) (U := U.calling g mk a) (Vm.Alike.refl U.vm) qK, qD⟩, va_recv hKc hPc (ci := 12) (q0 := 0) rfl rfl, fun U hU hW => ⟨rfl, by rw [hU], by rw [hU]; exact hPc, va_K.moved hW.alike hKc, hDc.weaken (fun _ _ _ _ => trivial)⟩⟩ rfl rfl hl.1 rfl (lv_room (Nat.le_of_ble_eq_true rfl)) dX12_pieces_2 ⟨Nat.le_of_ble_eq_true rfl, Nat.le_of_ble_eq_true rfl⟩) hS (fun q _ h => hFc q h) hFc (fun r_1 u t H1 locs ht hvm hw hB hz1 hk1 hS => ?_)
  obtain ⟨hP1, hK1, hD1⟩ := hB
  rw [ht] at hP1
  have hK1 := va_K.moved hvm.symm hK1
  obtain ⟨hP, hD⟩ := va_join (wr := []) (w1 := [(h0, .inr (12, [.int 0, .ref h1, .ref h2, .ref h3, .ref h4, .ref h5, .int 0, .int 0, .ref h6, .int 0, .int 0, .ref h7, .ref h8, .ref h9, .ref h10, .ref h11, .ref h12, .ref h13, .int 0, .int 0, .ref h14, .ref h15, .ref h16, .ref h17, .int 0, .ref h18, .ref h19, .int 0, .ref h20, .int 0, .int 0, .ref h21, .ref h22, .int 0, .int 0, .int 0, .int 0, .int 0, .ref h23, .int 0, .ref h24, .ref h25, .int 0, .int 0, .int 0, .ref h26, .ref h27, .ref h28, .ref h29]))]) hP hD [0] [] rfl rfl (by decide) (by decide) hk1 hFc hP1 hD1
  generalize H1 = H at hP hS ⊢
  have hP : va_P (dC, dI) vwCl [(h0, .inr (12, [.int 0, .ref h1, .ref h2, .ref h3, .ref h4, .ref h5, .int 0, .int 0, .ref h6, .int 0, .int 0, .ref h7, .ref h8, .ref h9, .ref h10, .ref h11, .ref h12, .ref h13, .int 0, .int 0, .ref h14, .ref h15, .ref h16, .ref h17, .int 0, .ref h18, .ref h19, .int 0, .ref h20, .int 0, .int 0, .ref h21, .ref h22, .int 0, .int 0, .int 0, .int 0, .int 0, .ref h23, .int 0, .ref h24, .ref h25, .int 0, .int 0, .int 0, .ref h26, .ref h27, .ref h28, .ref h29]))] H := hP
  have hD : va_D A [(h0, .inr (12, [.int 0, .ref h1, .ref h2, .ref h3, .ref h4, .ref h5, .int 0, .int 0, .ref h6, .int 0, .int 0, .ref h7, .ref h8, .ref h9, .ref h10, .ref h11, .ref h12, .ref h13, .int 0, .int 0, .ref h14, .ref h15, .ref h16, .ref h17, .int 0, .ref h18, .ref h19, .int 0, .ref h20, .int 0, .int 0, .ref h21, .ref h22, .int 0, .int 0, .int 0, .int 0, .int 0, .ref h23, .int 0, .ref h24, .ref h25, .int 0, .int 0, .int 0, .ref h26, .ref h27, .ref h28, .ref h29]))] := hD
  obtain rfl := hw
  refine lv_if_eq (tgt := 26) hx hb dX12_pieces_5 (by decide) (fun _ => ?_) (fun c => absurd c (by decide))
  refine lv_iconst (v := (-1)) hx hb dX12_pieces_26 (by decide) ?_
  have hP9 := hP.sub (ws' := []) [] rfl
  have hD9 := hD.sub (ws' := []) [] (by decide) rfl
  have hK9 := hK.sub (tys' := []) [] rfl
  exact W.iret (v := (-1)) hx hb hr (fun t ht hW => ⟨⟨(-1), (), rfl, by first | rfl | ((repeat' split) <;> first | rfl | (exfalso; omega) | (exact Int32.toInt_inj.mp (by show ((-1) : Int) = _; omega))), by rw [ht]; exact hP9, va_K.moved hW.alike hK9, hD9⟩, hS.F ht⟩) hS.2.2 dX12_pieces_27
set_option maxHeartbeats 4000000 in
set_option maxRecDepth 100000 in
theorem k_X12_areTwo_0 (l : Launch) (dC : Nat → ClassId) (dI : Nat → Nat → Nat) (h0 h1 h2 h3 h4 h5 h6 h7 h8 h9 h10 h11 h12 h13 h14 h15 h16 h17 h18 h19 h20 h21 h22 h23 h24 h25 h26 h27 h28 h29 : Nat) (sz : Nat) (p0 : Int32) : Met l yX12_areTwo wsX12_areTwo ({ frames := 2, cells := 0, slots := 0, locals := 46 }) (va_Pc [.ref h0, .int p0] (fun U => U.heap.size = sz ∧ va_P (dC, dI) vwCl [(h0, .inr (12, [.int 0, .ref h1, .ref h2, .ref h3, .ref h4, .ref h5, .int 0, .int 0, .ref h6, .int 0, .int 0, .ref h7, .ref h8, .ref h9, .ref h10, .ref h11, .ref h12, .ref h13, .int 0, .int 0, .ref h14, .ref h15, .ref h16, .ref h17, .int 0, .ref h18, .ref h19, .int 0, .ref h20, .int 0, .int 0, .ref h21, .ref h22, .int 0, .int 0, .int 0, .int 0, .int 0, .ref h23, .int 0, .ref h24, .ref h25, .int 0, .int 0, .int 0, .ref h26, .ref h27, .ref h28, .ref h29]))] U.heap ∧ va_K (dC, dI) vwCl [] U ∧ va_D (fun _ => True) [(h0, .inr (12, [.int 0, .ref h1, .ref h2, .ref h3, .ref h4, .ref h5, .int 0, .int 0, .ref h6, .int 0, .int 0, .ref h7, .ref h8, .ref h9, .ref h10, .ref h11, .ref h12, .ref h13, .int 0, .int 0, .ref h14, .ref h15, .ref h16, .ref h17, .int 0, .ref h18, .ref h19, .int 0, .ref h20, .int 0, .int 0, .ref h21, .ref h22, .int 0, .int 0, .int 0, .int 0, .int 0, .ref h23, .int 0, .ref h24, .ref h25, .int 0, .int 0, .int 0, .ref h26, .ref h27, .ref h28, .ref h29]))])) (va_Qi (fun (r : Int32) (_ : Unit) => r = 0) (fun (_ : Unit) t => va_P (dC, dI) vwCl [(h0, .inr (12, [.int 0, .ref h1, .ref h2, .ref h3, .ref h4, .ref h5, .int 0, .int 0, .ref h6, .int 0, .int 0, .ref h7, .ref h8, .ref h9, .ref h10, .ref h11, .ref h12, .ref h13, .int 0, .int 0, .ref h14, .ref h15, .ref h16, .ref h17, .int 0, .ref h18, .ref h19, .int 0, .ref h20, .int 0, .int 0, .ref h21, .ref h22, .int 0, .int 0, .int 0, .int 0, .int 0, .ref h23, .int 0, .ref h24, .ref h25, .int 0, .int 0, .int 0, .ref h26, .ref h27, .ref h28, .ref h29]))] t.heap ∧ va_K (dC, dI) vwCl [] t ∧ va_D (va_A [(h0, .inr (12, [.int 0, .ref h1, .ref h2, .ref h3, .ref h4, .ref h5, .int 0, .int 0, .ref h6, .int 0, .int 0, .ref h7, .ref h8, .ref h9, .ref h10, .ref h11, .ref h12, .ref h13, .int 0, .int 0, .ref h14, .ref h15, .ref h16, .ref h17, .int 0, .ref h18, .ref h19, .int 0, .ref h20, .int 0, .int 0, .ref h21, .ref h22, .int 0, .int 0, .int 0, .int 0, .int 0, .ref h23, .int 0, .ref h24, .ref h25, .int 0, .int 0, .int 0, .ref h26, .ref h27, .ref h28, .ref h29]))] sz) [(h0, .inr (12, [.int 0, .ref h1, .ref h2, .ref h3, .ref h4, .ref h5, .int 0, .int 0, .ref h6, .int 0, .int 0, .ref h7, .ref h8, .ref h9, .ref h10, .ref h11, .ref h12, .ref h13, .int 0, .int 0, .ref h14, .ref h15, .ref h16, .ref h17, .int 0, .ref h18, .ref h19, .int 0, .ref h20, .int 0, .int 0, .ref h21, .ref h22, .int 0, .int 0, .int 0, .int 0, .int 0, .ref h23, .int 0, .ref h24, .ref h25, .int 0, .int 0, .int 0, .ref h26, .ref h27, .ref h28, .ref h29]))]) (va_A [(h0, .inr (12, [.int 0, .ref h1, .ref h2, .ref h3, .ref h4, .ref h5, .int 0, .int 0, .ref h6, .int 0, .int 0, .ref h7, .ref h8, .ref h9, .ref h10, .ref h11, .ref h12, .ref h13, .int 0, .int 0, .ref h14, .ref h15, .ref h16, .ref h17, .int 0, .ref h18, .ref h19, .int 0, .ref h20, .int 0, .int 0, .ref h21, .ref h22, .int 0, .int 0, .int 0, .int 0, .int 0, .ref h23, .int 0, .ref h24, .ref h25, .int 0, .int 0, .int 0, .ref h26, .ref h27, .ref h28, .ref h29]))] sz)) 0 0 (va_A [(h0, .inr (12, [.int 0, .ref h1, .ref h2, .ref h3, .ref h4, .ref h5, .int 0, .int 0, .ref h6, .int 0, .int 0, .ref h7, .ref h8, .ref h9, .ref h10, .ref h11, .ref h12, .ref h13, .int 0, .int 0, .ref h14, .ref h15, .ref h16, .ref h17, .int 0, .ref h18, .ref h19, .int 0, .ref h20, .int 0, .int 0, .ref h21, .ref h22, .int 0, .int 0, .int 0, .int 0, .int 0, .ref h23, .int 0, .ref h24, .ref h25, .int 0, .int 0, .int 0, .ref h26, .ref h27, .ref h28, .ref h29]))] sz) := by
  refine Met.ofW (cc := cX12_areTwo) (maxL := 2) (ret := (some .boolean)) (by decide) rfl ?_
  intro p e s m args below meth c s₁ B hml hv
  obtain ⟨rfl, hsz, hP, hK, hD0⟩ := hv
  have hx := B.exec
  have hb := B.bytes
  have hr := B.returns
  have hts := atoms_spec (ws := wsX12_areTwo) B.pre
  have hown : s.vm.findClass RX12 = some m.cls := findClass_of_methodNamed B.named
  have hlocks := B.notSynchronized
  subst hsz
  have hD := hD0.self (sz := s.heap.size)
  generalize hAe : va_A [(h0, .inr (12, [.int 0, .ref h1, .ref h2, .ref h3, .ref h4, .ref h5, .int 0, .int 0, .ref h6, .int 0, .int 0, .ref h7, .ref h8, .ref h9, .ref h10, .ref h11, .ref h12, .ref h13, .int 0, .int 0, .ref h14, .ref h15, .ref h16, .ref h17, .int 0, .ref h18, .ref h19, .int 0, .ref h20, .int 0, .int 0, .ref h21, .ref h22, .int 0, .int 0, .int 0, .int 0, .int 0, .ref h23, .int 0, .ref h24, .ref h25, .int 0, .int 0, .int 0, .ref h26, .ref h27, .ref h28, .ref h29]))] s.heap.size = A at hD ⊢
  have hA : ∀ q : Nat, s.heap.size ≤ q → A q := fun q h => by rw [← hAe]; exact Or.inr h
  have hS : va_S A s.heap s.heap [] := va_S.rf
  have hP : va_P (dC, dI) vwCl [(h0, .inr (12, [.int 0, .ref h1, .ref h2, .ref h3, .ref h4, .ref h5, .int 0, .int 0, .ref h6, .int 0, .int 0, .ref h7, .ref h8, .ref h9, .ref h10, .ref h11, .ref h12, .ref h13, .int 0, .int 0, .ref h14, .ref h15, .ref h16, .ref h17, .int 0, .ref h18, .ref h19, .int 0, .ref h20, .int 0, .int 0, .ref h21, .ref h22, .int 0, .int 0, .int 0, .int 0, .int 0, .ref h23, .int 0, .ref h24, .ref h25, .int 0, .int 0, .int 0, .ref h26, .ref h27, .ref h28, .ref h29]))] s.heap := hP
  have hl := lv_entry ([.ref h0, .int p0]) (n := 2) (Nat.le_of_ble_eq_true rfl)
  rw [lg_entry_eq]
  generalize (lg_sl ([.ref h0, .int p0]) ++ List.replicate (2 - (lg_sl ([.ref h0, .int p0])).length) Slot.unset).toArray = ls at hl ⊢
  have hl : lv_has ls 2 [(0, .ref h0), (1, .int p0)] := hl
  refine lv_iload_n hx hb dX12_areTwo_0 rfl (lv_at hl 1 rfl) ?_
  refine lv_if_lt (tgt := 41) hx hb dX12_areTwo_1 (by decide) (fun c_1 => ?_) (fun c_1 => ?_)
  · have t_1 : p0.toInt < 0 := kk_lt c_1
    refine lv_iconst (v := 0) hx hb dX12_areTwo_41 (by decide) ?_
    have hP9 := hP.sub (ws' := [(h0, .inr (12, [.int 0, .ref h1, .ref h2, .ref h3, .ref h4, .ref h5, .int 0, .int 0, .ref h6, .int 0, .int 0, .ref h7, .ref h8, .ref h9, .ref h10, .ref h11, .ref h12, .ref h13, .int 0, .int 0, .ref h14, .ref h15, .ref h16, .ref h17, .int 0, .ref h18, .ref h19, .int 0, .ref h20, .int 0, .int 0, .ref h21, .ref h22, .int 0, .int 0, .int 0, .int 0, .int 0, .ref h23, .int 0, .ref h24, .ref h25, .int 0, .int 0, .int 0, .ref h26, .ref h27, .ref h28, .ref h29]))]) [0] rfl
    have hD9 := hD.sub (ws' := [(h0, .inr (12, [.int 0, .ref h1, .ref h2, .ref h3, .ref h4, .ref h5, .int 0, .int 0, .ref h6, .int 0, .int 0, .ref h7, .ref h8, .ref h9, .ref h10, .ref h11, .ref h12, .ref h13, .int 0, .int 0, .ref h14, .ref h15, .ref h16, .ref h17, .int 0, .ref h18, .ref h19, .int 0, .ref h20, .int 0, .int 0, .ref h21, .ref h22, .int 0, .int 0, .int 0, .int 0, .int 0, .ref h23, .int 0, .ref h24, .ref h25, .int 0, .int 0, .int 0, .ref h26, .ref h27, .ref h28, .ref h29]))]) [0] (by decide) rfl
    have hK9 := hK.sub (tys' := []) [] rfl
    exact W.zret (v := 0) hx hb hr rfl (fun t ht hW => ⟨⟨0, (), rfl, rfl, by rw [ht]; exact hP9, va_K.moved hW.alike hK9, hD9⟩, hS.F ht⟩) hS.2.2 dX12_areTwo_42
  · have t_1 : 0 ≤ p0.toInt := kk_nlt c_1
    refine lv_aload_n hx hb dX12_areTwo_4 rfl (lv_at hl 0 rfl) ?_
    refine lv_iload_n hx hb dX12_areTwo_5 rfl (lv_at hl 1 rfl) ?_
    refine lv_bipush (v := 10) hx hb dX12_areTwo_6 (by decide) ?_
    refine lv_idiv hx hb dX12_areTwo_8 (by decide) ?_
    have hPc := hP.sub (ws' := [(h0, .inr (12, [.int 0, .ref h1, .ref h2, .ref h3, .ref h4, .ref h5, .int 0, .int 0, .ref h6, .int 0, .int 0, .ref h7, .ref h8, .ref h9, .ref h10, .ref h11, .ref h12, .ref h13, .int 0, .int 0, .ref h14, .ref h15, .ref h16, .ref h17, .int 0, .ref h18, .ref h19, .int 0, .ref h20, .int 0, .int 0, .ref h21, .ref h22, .int 0, .int 0, .int 0, .int 0, .int 0, .ref h23, .int 0, .ref h24, .ref h25, .int 0, .int 0, .int 0, .ref h26, .ref h27, .ref h28, .ref h29]))]) [0] rfl
    have hDc := hD.sub (ws' := [(h0, .inr (12, [.int 0, .ref h1, .ref h2, .ref h3, .ref h4, .ref h5, .int 0, .int 0, .ref h6, .int 0, .int 0, .ref h7, .ref h8, .ref h9, .ref h10, .ref h11, .ref h12, .ref h13, .int 0, .int 0, .ref h14, .ref h15, .ref h16, .ref h17, .int 0, .ref h18, .ref h19, .int 0, .ref h20, .int 0, .int 0, .ref h21, .ref h22, .int 0, .int 0, .int 0, .int 0, .int 0, .ref h23, .int 0, .ref h24, .ref h25, .int 0, .int 0, .int 0, .ref h26, .ref h27, .ref h28, .ref h29]))]) [0] (by decide) rfl
    have hKc := hK.sub (tys' := []) [] rfl
    have hFc := va_free (wc := [(h0, .inr (12, [.int 0, .ref h1, .ref h2, .ref h3, .ref h4, .ref h5, .int 0, .int 0, .ref h6, .int 0, .int 0, .ref h7, .ref h8, .ref h9, .ref h10, .ref h11, .ref h12, .ref h13, .int 0, .int 0, .ref h14, .ref h15, .ref h16, .ref h17, .int 0, .ref h18, .ref h19, .int 0, .ref h20, .int 0, .int 0, .ref h21, .ref h22, .int 0, .int 0, .int 0, .int 0, .int 0, .ref h23, .int 0, .ref h24, .ref h25, .int 0, .int 0, .int 0, .ref h26, .ref h27, .ref h28, .ref h29]))]) hD hS hA [0] rfl
    refine va_calli (va_runV (As := [.int (p0 / 10)]) (rest := []) ⟨hx, hb, hml, hown, hts⟩ (k_X12_isStreet_0 l dC dI h0 h1 h2 h3 h4 h5 h6 h7 h8 h9 h10 h11 h12 h13 h14 h15 h16 h17 h18 h19 h20 h21 h22 h23 h24 h25 h26 h27 h28 h29 s.heap.size (p0 / 10)) (cwV 1 hts gX12_areTwo_X12_isStreet rfl rfl rfl (by decide +kernel) ⟨Nat.le_of_ble_eq_true rfl, Nat.le_of_ble_eq_true rfl⟩) ⟨fun a U g mk q => by obtain ⟨q0, q1, qP, qK, qD⟩ := q; exact ⟨q0, q1, qP, va_K.moved (u := U) (U := U.calling g mk a) (Vm.Alike.refl U.vm) qK, qD⟩, va_recv hKc hPc (ci := 12) (q0 := 0) rfl rfl, fun U hU hW => ⟨rfl, by rw [hU], by rw [hU]; exact hPc, va_K.moved hW.alike hKc, hDc.weaken (fun _ _ _ _ => trivial)⟩⟩ rfl rfl hl.1 rfl (lv_room (Nat.le_of_ble_eq_true rfl)) dX12_areTwo_9 ⟨Nat.le_of_ble_eq_true rfl, Nat.le_of_ble_eq_true rfl⟩) hS (fun q _ h => hFc q h) hFc (fun r_2 u t H1 locs ht hvm hw hB hz1 hk1 hS => ?_)
    obtain ⟨hP1, hK1, hD1⟩ := hB
    rw [ht] at hP1
    have hK1 := va_K.moved hvm.symm hK1
    obtain ⟨hP, hD⟩ := va_join (wr := []) (w1 := [(h0, .inr (12, [.int 0, .ref h1, .ref h2, .ref h3, .ref h4, .ref h5, .int 0, .int 0, .ref h6, .int 0, .int 0, .ref h7, .ref h8, .ref h9, .ref h10, .ref h11, .ref h12, .ref h13, .int 0, .int 0, .ref h14, .ref h15, .ref h16, .ref h17, .int 0, .ref h18, .ref h19, .int 0, .ref h20, .int 0, .int 0, .ref h21, .ref h22, .int 0, .int 0, .int 0, .int 0, .int 0, .ref h23, .int 0, .ref h24, .ref h25, .int 0, .int 0, .int 0, .ref h26, .ref h27, .ref h28, .ref h29]))]) hP hD [0] [] rfl rfl (by decide) (by decide) hk1 hFc hP1 hD1
    generalize H1 = H at hP hS ⊢
    have hP : va_P (dC, dI) vwCl [(h0, .inr (12, [.int 0, .ref h1, .ref h2, .ref h3, .ref h4, .ref h5, .int 0, .int 0, .ref h6, .int 0, .int 0, .ref h7, .ref h8, .ref h9, .ref h10, .ref h11, .ref h12, .ref h13, .int 0, .int 0, .ref h14, .ref h15, .ref h16, .ref h17, .int 0, .ref h18, .ref h19, .int 0, .ref h20, .int 0, .int 0, .ref h21, .ref h22, .int 0, .int 0, .int 0, .int 0, .int 0, .ref h23, .int 0, .ref h24, .ref h25, .int 0, .int 0, .int 0, .ref h26, .ref h27, .ref h28, .ref h29]))] H := hP
    have hD : va_D A [(h0, .inr (12, [.int 0, .ref h1, .ref h2, .ref h3, .ref h4, .ref h5, .int 0, .int 0, .ref h6, .int 0, .int 0, .ref h7, .ref h8, .ref h9, .ref h10, .ref h11, .ref h12, .ref h13, .int 0, .int 0, .ref h14, .ref h15, .ref h16, .ref h17, .int 0, .ref h18, .ref h19, .int 0, .ref h20, .int 0, .int 0, .ref h21, .ref h22, .int 0, .int 0, .int 0, .int 0, .int 0, .ref h23, .int 0, .ref h24, .ref h25, .int 0, .int 0, .int 0, .ref h26, .ref h27, .ref h28, .ref h29]))] := hD
    obtain rfl := hw
    refine lv_if_eq (tgt := 41) hx hb dX12_areTwo_12 (by decide) (fun _ => ?_) (fun c => absurd c (by decide))
    refine lv_iconst (v := 0) hx hb dX12_areTwo_41 (by decide) ?_
    have hP9 := hP.sub (ws' := [(h0, .inr (12, [.int 0, .ref h1, .ref h2, .ref h3, .ref h4, .ref h5, .int 0, .int 0, .ref h6, .int 0, .int 0, .ref h7, .ref h8, .ref h9, .ref h10, .ref h11, .ref h12, .ref h13, .int 0, .int 0, .ref h14, .ref h15, .ref h16, .ref h17, .int 0, .ref h18, .ref h19, .int 0, .ref h20, .int 0, .int 0, .ref h21, .ref h22, .int 0, .int 0, .int 0, .int 0, .int 0, .ref h23, .int 0, .ref h24, .ref h25, .int 0, .int 0, .int 0, .ref h26, .ref h27, .ref h28, .ref h29]))]) [0] rfl
    have hD9 := hD.sub (ws' := [(h0, .inr (12, [.int 0, .ref h1, .ref h2, .ref h3, .ref h4, .ref h5, .int 0, .int 0, .ref h6, .int 0, .int 0, .ref h7, .ref h8, .ref h9, .ref h10, .ref h11, .ref h12, .ref h13, .int 0, .int 0, .ref h14, .ref h15, .ref h16, .ref h17, .int 0, .ref h18, .ref h19, .int 0, .ref h20, .int 0, .int 0, .ref h21, .ref h22, .int 0, .int 0, .int 0, .int 0, .int 0, .ref h23, .int 0, .ref h24, .ref h25, .int 0, .int 0, .int 0, .ref h26, .ref h27, .ref h28, .ref h29]))]) [0] (by decide) rfl
    have hK9 := hK.sub (tys' := []) [] rfl
    exact W.zret (v := 0) hx hb hr rfl (fun t ht hW => ⟨⟨0, (), rfl, rfl, by rw [ht]; exact hP9, va_K.moved hW.alike hK9, hD9⟩, hS.F ht⟩) hS.2.2 dX12_areTwo_42
set_option maxHeartbeats 4000000 in
set_option maxRecDepth 100000 in
theorem k_X12_bend_0 (l : Launch) (dC : Nat → ClassId) (dI : Nat → Nat → Nat) (h0 h1 h2 h3 h4 h5 h6 h7 h8 h9 h10 h11 h12 h13 h14 h15 h16 h17 h18 h19 h20 h21 h22 h23 h24 h25 h26 h27 h28 h29 : Nat) (sz : Nat) (p0 : Int32) : Met l yX12_bend wsX12_bend ({ frames := 3, cells := 0, slots := 0, locals := 67 }) (va_Pc [.ref h0, .int p0] (fun U => U.heap.size = sz ∧ va_P (dC, dI) vwCl [(h0, .inr (12, [.int 0, .ref h1, .ref h2, .ref h3, .ref h4, .ref h5, .int 0, .int 0, .ref h6, .int 0, .int 0, .ref h7, .ref h8, .ref h9, .ref h10, .ref h11, .ref h12, .ref h13, .int 0, .int 0, .ref h14, .ref h15, .ref h16, .ref h17, .int 0, .ref h18, .ref h19, .int 0, .ref h20, .int 0, .int 0, .ref h21, .ref h22, .int 0, .int 0, .int 0, .int 0, .int 0, .ref h23, .int 0, .ref h24, .ref h25, .int 0, .int 0, .int 0, .ref h26, .ref h27, .ref h28, .ref h29]))] U.heap ∧ va_K (dC, dI) vwCl [] U ∧ va_D (fun _ => True) [(h0, .inr (12, [.int 0, .ref h1, .ref h2, .ref h3, .ref h4, .ref h5, .int 0, .int 0, .ref h6, .int 0, .int 0, .ref h7, .ref h8, .ref h9, .ref h10, .ref h11, .ref h12, .ref h13, .int 0, .int 0, .ref h14, .ref h15, .ref h16, .ref h17, .int 0, .ref h18, .ref h19, .int 0, .ref h20, .int 0, .int 0, .ref h21, .ref h22, .int 0, .int 0, .int 0, .int 0, .int 0, .ref h23, .int 0, .ref h24, .ref h25, .int 0, .int 0, .int 0, .ref h26, .ref h27, .ref h28, .ref h29]))])) (va_Qi (fun (r : Int32) (_ : Unit) => r = -1) (fun (_ : Unit) t => va_P (dC, dI) vwCl [] t.heap ∧ va_K (dC, dI) vwCl [] t ∧ va_D (va_A [(h0, .inr (12, [.int 0, .ref h1, .ref h2, .ref h3, .ref h4, .ref h5, .int 0, .int 0, .ref h6, .int 0, .int 0, .ref h7, .ref h8, .ref h9, .ref h10, .ref h11, .ref h12, .ref h13, .int 0, .int 0, .ref h14, .ref h15, .ref h16, .ref h17, .int 0, .ref h18, .ref h19, .int 0, .ref h20, .int 0, .int 0, .ref h21, .ref h22, .int 0, .int 0, .int 0, .int 0, .int 0, .ref h23, .int 0, .ref h24, .ref h25, .int 0, .int 0, .int 0, .ref h26, .ref h27, .ref h28, .ref h29]))] sz) []) (va_A [(h0, .inr (12, [.int 0, .ref h1, .ref h2, .ref h3, .ref h4, .ref h5, .int 0, .int 0, .ref h6, .int 0, .int 0, .ref h7, .ref h8, .ref h9, .ref h10, .ref h11, .ref h12, .ref h13, .int 0, .int 0, .ref h14, .ref h15, .ref h16, .ref h17, .int 0, .ref h18, .ref h19, .int 0, .ref h20, .int 0, .int 0, .ref h21, .ref h22, .int 0, .int 0, .int 0, .int 0, .int 0, .ref h23, .int 0, .ref h24, .ref h25, .int 0, .int 0, .int 0, .ref h26, .ref h27, .ref h28, .ref h29]))] sz)) 0 0 (va_A [(h0, .inr (12, [.int 0, .ref h1, .ref h2, .ref h3, .ref h4, .ref h5, .int 0, .int 0, .ref h6, .int 0, .int 0, .ref h7, .ref h8, .ref h9, .ref h10, .ref h11, .ref h12, .ref h13, .int 0, .int 0, .ref h14, .ref h15, .ref h16, .ref h17, .int 0, .ref h18, .ref h19, .int 0, .ref h20, .int 0, .int 0, .ref h21, .ref h22, .int 0, .int 0, .int 0, .int 0, .int 0, .ref h23, .int 0, .ref h24, .ref h25, .int 0, .int 0, .int 0, .ref h26, .ref h27, .ref h28, .ref h29]))] sz) := by
  refine Met.ofW (cc := cX12_bend) (maxL := 2) (ret := (some .int)) (by decide) rfl ?_
  intro p e s m args below meth c s₁ B hml hv
  obtain ⟨rfl, hsz, hP, hK, hD0⟩ := hv
  have hx := B.exec
  have hb := B.bytes
  have hr := B.returns
  have hts := atoms_spec (ws := wsX12_bend) B.pre
  have hown : s.vm.findClass RX12 = some m.cls := findClass_of_methodNamed B.named
  have hlocks := B.notSynchronized
  subst hsz
  have hD := hD0.self (sz := s.heap.size)
  generalize hAe : va_A [(h0, .inr (12, [.int 0, .ref h1, .ref h2, .ref h3, .ref h4, .ref h5, .int 0, .int 0, .ref h6, .int 0, .int 0, .ref h7, .ref h8, .ref h9, .ref h10, .ref h11, .ref h12, .ref h13, .int 0, .int 0, .ref h14, .ref h15, .ref h16, .ref h17, .int 0, .ref h18, .ref h19, .int 0, .ref h20, .int 0, .int 0, .ref h21, .ref h22, .int 0, .int 0, .int 0, .int 0, .int 0, .ref h23, .int 0, .ref h24, .ref h25, .int 0, .int 0, .int 0, .ref h26, .ref h27, .ref h28, .ref h29]))] s.heap.size = A at hD ⊢
  have hA : ∀ q : Nat, s.heap.size ≤ q → A q := fun q h => by rw [← hAe]; exact Or.inr h
  have hS : va_S A s.heap s.heap [] := va_S.rf
  have hP : va_P (dC, dI) vwCl [(h0, .inr (12, [.int 0, .ref h1, .ref h2, .ref h3, .ref h4, .ref h5, .int 0, .int 0, .ref h6, .int 0, .int 0, .ref h7, .ref h8, .ref h9, .ref h10, .ref h11, .ref h12, .ref h13, .int 0, .int 0, .ref h14, .ref h15, .ref h16, .ref h17, .int 0, .ref h18, .ref h19, .int 0, .ref h20, .int 0, .int 0, .ref h21, .ref h22, .int 0, .int 0, .int 0, .int 0, .int 0, .ref h23, .int 0, .ref h24, .ref h25, .int 0, .int 0, .int 0, .ref h26, .ref h27, .ref h28, .ref h29]))] s.heap := hP
  have hl := lv_entry ([.ref h0, .int p0]) (n := 2) (Nat.le_of_ble_eq_true rfl)
  rw [lg_entry_eq]
  generalize (lg_sl ([.ref h0, .int p0]) ++ List.replicate (2 - (lg_sl ([.ref h0, .int p0])).length) Slot.unset).toArray = ls at hl ⊢
  have hl : lv_has ls 2 [(0, .ref h0), (1, .int p0)] := hl
  refine lv_aload_n hx hb dX12_bend_0 rfl (lv_at hl 0 rfl) ?_
  refine lv_iload_n hx hb dX12_bend_1 rfl (lv_at hl 1 rfl) ?_
  have hPc := hP.sub (ws' := [(h0, .inr (12, [.int 0, .ref h1, .ref h2, .ref h3, .ref h4, .ref h5, .int 0, .int 0, .ref h6, .int 0, .int 0, .ref h7, .ref h8, .ref h9, .ref h10, .ref h11, .ref h12, .ref h13, .int 0, .int 0, .ref h14, .ref h15, .ref h16, .ref h17, .int 0, .ref h18, .ref h19, .int 0, .ref h20, .int 0, .int 0, .ref h21, .ref h22, .int 0, .int 0, .int 0, .int 0, .int 0, .ref h23, .int 0, .ref h24, .ref h25, .int 0, .int 0, .int 0, .ref h26, .ref h27, .ref h28, .ref h29]))]) [0] rfl
  have hDc := hD.sub (ws' := [(h0, .inr (12, [.int 0, .ref h1, .ref h2, .ref h3, .ref h4, .ref h5, .int 0, .int 0, .ref h6, .int 0, .int 0, .ref h7, .ref h8, .ref h9, .ref h10, .ref h11, .ref h12, .ref h13, .int 0, .int 0, .ref h14, .ref h15, .ref h16, .ref h17, .int 0, .ref h18, .ref h19, .int 0, .ref h20, .int 0, .int 0, .ref h21, .ref h22, .int 0, .int 0, .int 0, .int 0, .int 0, .ref h23, .int 0, .ref h24, .ref h25, .int 0, .int 0, .int 0, .ref h26, .ref h27, .ref h28, .ref h29]))]) [0] (by decide) rfl
  have hKc := hK.sub (tys' := []) [] rfl
  have hFc := va_free (wc := [(h0, .inr (12, [.int 0, .ref h1, .ref h2, .ref h3, .ref h4, .ref h5, .int 0, .int 0, .ref h6, .int 0, .int 0, .ref h7, .ref h8, .ref h9, .ref h10, .ref h11, .ref h12, .ref h13, .int 0, .int 0, .ref h14, .ref h15, .ref h16, .ref h17, .int 0, .ref h18, .ref h19, .int 0, .ref h20, .int 0, .int 0, .ref h21, .ref h22, .int 0, .int 0, .int 0, .int 0, .int 0, .ref h23, .int 0, .ref h24, .ref h25, .int 0, .int 0, .int 0, .ref h26, .ref h27, .ref h28, .ref h29]))]) hD hS hA [0] rfl
  refine va_calli (va_runV (As := [.int p0]) (rest := []) ⟨hx, hb, hml, hown, hts⟩ (k_X12_areTwo_0 l dC dI h0 h1 h2 h3 h4 h5 h6 h7 h8 h9 h10 h11 h12 h13 h14 h15 h16 h17 h18 h19 h20 h21 h22 h23 h24 h25 h26 h27 h28 h29 s.heap.size p0) (cwV 1 hts gX12_bend_X12_areTwo rfl rfl rfl (by decide +kernel) ⟨Nat.le_of_ble_eq_true rfl, Nat.le_of_ble_eq_true rfl⟩) ⟨fun a U g mk q => by obtain ⟨q0, q1, qP, qK, qD⟩ := q; exact ⟨q0, q1, qP, va_K.moved (u := U) (U := U.calling g mk a) (Vm.Alike.refl U.vm) qK, qD⟩, va_recv hKc hPc (ci := 12) (q0 := 0) rfl rfl, fun U hU hW => ⟨rfl, by rw [hU], by rw [hU]; exact hPc, va_K.moved hW.alike hKc, hDc.weaken (fun _ _ _ _ => trivial)⟩⟩ rfl rfl hl.1 rfl (lv_room (Nat.le_of_ble_eq_true rfl)) dX12_bend_2 ⟨Nat.le_of_ble_eq_true rfl, Nat.le_of_ble_eq_true rfl⟩) hS (fun q _ h => hFc q h) hFc (fun r_1 u t H1 locs ht hvm hw hB hz1 hk1 hS => ?_)
  obtain ⟨hP1, hK1, hD1⟩ := hB
  rw [ht] at hP1
  have hK1 := va_K.moved hvm.symm hK1
  obtain ⟨hP, hD⟩ := va_join (wr := []) (w1 := [(h0, .inr (12, [.int 0, .ref h1, .ref h2, .ref h3, .ref h4, .ref h5, .int 0, .int 0, .ref h6, .int 0, .int 0, .ref h7, .ref h8, .ref h9, .ref h10, .ref h11, .ref h12, .ref h13, .int 0, .int 0, .ref h14, .ref h15, .ref h16, .ref h17, .int 0, .ref h18, .ref h19, .int 0, .ref h20, .int 0, .int 0, .ref h21, .ref h22, .int 0, .int 0, .int 0, .int 0, .int 0, .ref h23, .int 0, .ref h24, .ref h25, .int 0, .int 0, .int 0, .ref h26, .ref h27, .ref h28, .ref h29]))]) hP hD [0] [] rfl rfl (by decide) (by decide) hk1 hFc hP1 hD1
  generalize H1 = H at hP hS ⊢
  have hP : va_P (dC, dI) vwCl [(h0, .inr (12, [.int 0, .ref h1, .ref h2, .ref h3, .ref h4, .ref h5, .int 0, .int 0, .ref h6, .int 0, .int 0, .ref h7, .ref h8, .ref h9, .ref h10, .ref h11, .ref h12, .ref h13, .int 0, .int 0, .ref h14, .ref h15, .ref h16, .ref h17, .int 0, .ref h18, .ref h19, .int 0, .ref h20, .int 0, .int 0, .ref h21, .ref h22, .int 0, .int 0, .int 0, .int 0, .int 0, .ref h23, .int 0, .ref h24, .ref h25, .int 0, .int 0, .int 0, .ref h26, .ref h27, .ref h28, .ref h29]))] H := hP
  have hD : va_D A [(h0, .inr (12, [.int 0, .ref h1, .ref h2, .ref h3, .ref h4, .ref h5, .int 0, .int 0, .ref h6, .int 0, .int 0, .ref h7, .ref h8, .ref h9, .ref h10, .ref h11, .ref h12, .ref h13, .int 0, .int 0, .ref h14, .ref h15, .ref h16, .ref h17, .int 0, .ref h18, .ref h19, .int 0, .ref h20, .int 0, .int 0, .ref h21, .ref h22, .int 0, .int 0, .int 0, .int 0, .int 0, .ref h23, .int 0, .ref h24, .ref h25, .int 0, .int 0, .int 0, .ref h26, .ref h27, .ref h28, .ref h29]))] := hD
  obtain rfl := hw
  refine lv_if_eq (tgt := 28) hx hb dX12_bend_5 (by decide) (fun _ => ?_) (fun c => absurd c (by decide))
  refine lv_iconst (v := (-1)) hx hb dX12_bend_28 (by decide) ?_
  have hP9 := hP.sub (ws' := []) [] rfl
  have hD9 := hD.sub (ws' := []) [] (by decide) rfl
  have hK9 := hK.sub (tys' := []) [] rfl
  exact W.iret (v := (-1)) hx hb hr (fun t ht hW => ⟨⟨(-1), (), rfl, by first | rfl | ((repeat' split) <;> first | rfl | (exfalso; omega) | (exact Int32.toInt_inj.mp (by show ((-1) : Int) = _; omega))), by rw [ht]; exact hP9, va_K.moved hW.alike hK9, hD9⟩, hS.F ht⟩) hS.2.2 dX12_bend_29
set_option maxHeartbeats 4000000 in
set_option maxRecDepth 100000 in
theorem k_X12_order_0 (l : Launch) (dC : Nat → ClassId) (dI : Nat → Nat → Nat) (h0 h1 h2 h3 h4 h5 h6 h7 h8 h9 h10 h11 h12 h13 h14 h15 h16 h17 h18 h19 h20 h21 h22 h23 h24 h25 h26 h27 h28 h29 : Nat) (sz : Nat) (p0 : Int32) : Met l yX12_order wsX12_order ({ frames := 0, cells := 0, slots := 0, locals := 0 }) (va_Pc [.ref h0, .int p0] (fun U => U.heap.size = sz ∧ va_P (dC, dI) vwCl [(h0, .inr (12, [.int 0, .ref h1, .ref h2, .ref h3, .ref h4, .ref h5, .int 0, .int 0, .ref h6, .int 0, .int 0, .ref h7, .ref h8, .ref h9, .ref h10, .ref h11, .ref h12, .ref h13, .int 0, .int 0, .ref h14, .ref h15, .ref h16, .ref h17, .int 0, .ref h18, .ref h19, .int 0, .ref h20, .int 0, .int 0, .ref h21, .ref h22, .int 0, .int 0, .int 0, .int 0, .int 0, .ref h23, .int 0, .ref h24, .ref h25, .int 0, .int 0, .int 0, .ref h26, .ref h27, .ref h28, .ref h29]))] U.heap ∧ va_K (dC, dI) vwCl [] U ∧ va_D (fun _ => True) [(h0, .inr (12, [.int 0, .ref h1, .ref h2, .ref h3, .ref h4, .ref h5, .int 0, .int 0, .ref h6, .int 0, .int 0, .ref h7, .ref h8, .ref h9, .ref h10, .ref h11, .ref h12, .ref h13, .int 0, .int 0, .ref h14, .ref h15, .ref h16, .ref h17, .int 0, .ref h18, .ref h19, .int 0, .ref h20, .int 0, .int 0, .ref h21, .ref h22, .int 0, .int 0, .int 0, .int 0, .int 0, .ref h23, .int 0, .ref h24, .ref h25, .int 0, .int 0, .int 0, .ref h26, .ref h27, .ref h28, .ref h29]))])) (va_Qi (fun (r : Int32) (_ : Unit) => r = if p0.toInt < -1 then (-1 : Int32) else -2) (fun (_ : Unit) t => va_P (dC, dI) vwCl [] t.heap ∧ va_K (dC, dI) vwCl [] t ∧ va_D (va_A [(h0, .inr (12, [.int 0, .ref h1, .ref h2, .ref h3, .ref h4, .ref h5, .int 0, .int 0, .ref h6, .int 0, .int 0, .ref h7, .ref h8, .ref h9, .ref h10, .ref h11, .ref h12, .ref h13, .int 0, .int 0, .ref h14, .ref h15, .ref h16, .ref h17, .int 0, .ref h18, .ref h19, .int 0, .ref h20, .int 0, .int 0, .ref h21, .ref h22, .int 0, .int 0, .int 0, .int 0, .int 0, .ref h23, .int 0, .ref h24, .ref h25, .int 0, .int 0, .int 0, .ref h26, .ref h27, .ref h28, .ref h29]))] sz) []) (va_A [(h0, .inr (12, [.int 0, .ref h1, .ref h2, .ref h3, .ref h4, .ref h5, .int 0, .int 0, .ref h6, .int 0, .int 0, .ref h7, .ref h8, .ref h9, .ref h10, .ref h11, .ref h12, .ref h13, .int 0, .int 0, .ref h14, .ref h15, .ref h16, .ref h17, .int 0, .ref h18, .ref h19, .int 0, .ref h20, .int 0, .int 0, .ref h21, .ref h22, .int 0, .int 0, .int 0, .int 0, .int 0, .ref h23, .int 0, .ref h24, .ref h25, .int 0, .int 0, .int 0, .ref h26, .ref h27, .ref h28, .ref h29]))] sz)) 0 0 (va_A [(h0, .inr (12, [.int 0, .ref h1, .ref h2, .ref h3, .ref h4, .ref h5, .int 0, .int 0, .ref h6, .int 0, .int 0, .ref h7, .ref h8, .ref h9, .ref h10, .ref h11, .ref h12, .ref h13, .int 0, .int 0, .ref h14, .ref h15, .ref h16, .ref h17, .int 0, .ref h18, .ref h19, .int 0, .ref h20, .int 0, .int 0, .ref h21, .ref h22, .int 0, .int 0, .int 0, .int 0, .int 0, .ref h23, .int 0, .ref h24, .ref h25, .int 0, .int 0, .int 0, .ref h26, .ref h27, .ref h28, .ref h29]))] sz) := by
  refine Met.ofW (cc := cX12_order) (maxL := 6) (ret := (some .int)) (by decide) rfl ?_
  intro p e s m args below meth c s₁ B hml hv
  obtain ⟨rfl, hsz, hP, hK, hD0⟩ := hv
  have hx := B.exec
  have hb := B.bytes
  have hr := B.returns
  have hts := atoms_spec (ws := wsX12_order) B.pre
  have hown : s.vm.findClass RX12 = some m.cls := findClass_of_methodNamed B.named
  have hlocks := B.notSynchronized
  subst hsz
  have hD := hD0.self (sz := s.heap.size)
  generalize hAe : va_A [(h0, .inr (12, [.int 0, .ref h1, .ref h2, .ref h3, .ref h4, .ref h5, .int 0, .int 0, .ref h6, .int 0, .int 0, .ref h7, .ref h8, .ref h9, .ref h10, .ref h11, .ref h12, .ref h13, .int 0, .int 0, .ref h14, .ref h15, .ref h16, .ref h17, .int 0, .ref h18, .ref h19, .int 0, .ref h20, .int 0, .int 0, .ref h21, .ref h22, .int 0, .int 0, .int 0, .int 0, .int 0, .ref h23, .int 0, .ref h24, .ref h25, .int 0, .int 0, .int 0, .ref h26, .ref h27, .ref h28, .ref h29]))] s.heap.size = A at hD ⊢
  have hA : ∀ q : Nat, s.heap.size ≤ q → A q := fun q h => by rw [← hAe]; exact Or.inr h
  have hS : va_S A s.heap s.heap [] := va_S.rf
  have hP : va_P (dC, dI) vwCl [(h0, .inr (12, [.int 0, .ref h1, .ref h2, .ref h3, .ref h4, .ref h5, .int 0, .int 0, .ref h6, .int 0, .int 0, .ref h7, .ref h8, .ref h9, .ref h10, .ref h11, .ref h12, .ref h13, .int 0, .int 0, .ref h14, .ref h15, .ref h16, .ref h17, .int 0, .ref h18, .ref h19, .int 0, .ref h20, .int 0, .int 0, .ref h21, .ref h22, .int 0, .int 0, .int 0, .int 0, .int 0, .ref h23, .int 0, .ref h24, .ref h25, .int 0, .int 0, .int 0, .ref h26, .ref h27, .ref h28, .ref h29]))] s.heap := hP
  have hl := lv_entry ([.ref h0, .int p0]) (n := 6) (Nat.le_of_ble_eq_true rfl)
  rw [lg_entry_eq]
  generalize (lg_sl ([.ref h0, .int p0]) ++ List.replicate (6 - (lg_sl ([.ref h0, .int p0])).length) Slot.unset).toArray = ls at hl ⊢
  have hl : lv_has ls 6 [(0, .ref h0), (1, .int p0)] := hl
  refine lv_iload_n hx hb dX12_order_0 rfl (lv_at hl 1 rfl) ?_
  refine lv_iconst (v := (-1)) hx hb dX12_order_1 (by decide) ?_
  refine lv_icmp_ge (tgt := 7) hx hb dX12_order_2 (by decide) (fun c_1 => ?_) (fun c_1 => ?_)
  · have t_1 : (-1) ≤ p0.toInt := kk_le c_1
    refine lv_iconst (v := 0) hx hb dX12_order_7 (by decide) ?_
    refine lv_istore_n (lv' := [(2, .int 0), (0, .ref h0), (1, .int p0)]) hx hb dX12_order_8 rfl hl (by decide) rfl (fun ls hl => ?_)
    refine lv_iconst (v := 0) hx hb dX12_order_9 (by decide) ?_
    refine lv_istore_n (lv' := [(3, .int 0), (2, .int 0), (0, .ref h0), (1, .int p0)]) hx hb dX12_order_10 rfl hl (by decide) rfl (fun ls hl => ?_)
    refine lv_iload_n hx hb dX12_order_11 rfl (lv_at hl 0 rfl) ?_
    refine lv_aload_n hx hb dX12_order_12 rfl (lv_at hl 2 rfl) ?_
    refine va_get (D := (dC, dI)) (ci := 12) (v := .int 0) (C := RX12) (T := TX12) (N := 49) hx hb hts (fun _ h => List.mem_cons_of_mem _ (List.mem_append_right _ h)) hown hK hP 0 rfl rfl 0 (by decide) (hts (.fieldLink RX12 106 "KinkStreetModel" "streets" "I") (List.mem_of_getElem? (i := 1) rfl)) (fun _ h9 => h9) rfl dX12_order_13 ?_
    refine lv_icmp_ge (tgt := 119) hx hb dX12_order_16 (by decide) (fun _ => ?_) (fun c => absurd c (by decide))
    refine lv_bipush (v := (-2)) hx hb dX12_order_119 (by decide) ?_
    have hP9 := hP.sub (ws' := []) [] rfl
    have hD9 := hD.sub (ws' := []) [] (by decide) rfl
    have hK9 := hK.sub (tys' := []) [] rfl
    exact W.iret (v := (-2)) hx hb hr (fun t ht hW => ⟨⟨(-2), (), rfl, by first | rfl | ((repeat' split) <;> first | rfl | (exfalso; omega) | (exact Int32.toInt_inj.mp (by show ((-2) : Int) = _; omega))), by rw [ht]; exact hP9, va_K.moved hW.alike hK9, hD9⟩, hS.F ht⟩) hS.2.2 dX12_order_121
  · have t_1 : p0.toInt < (-1) := kk_nle c_1
    refine lv_iconst (v := (-1)) hx hb dX12_order_5 (by decide) ?_
    have hP9 := hP.sub (ws' := []) [] rfl
    have hD9 := hD.sub (ws' := []) [] (by decide) rfl
    have hK9 := hK.sub (tys' := []) [] rfl
    exact W.iret (v := (-1)) hx hb hr (fun t ht hW => ⟨⟨(-1), (), rfl, by first | rfl | ((repeat' split) <;> first | rfl | (exfalso; omega) | (exact Int32.toInt_inj.mp (by show ((-1) : Int) = _; omega))), by rw [ht]; exact hP9, va_K.moved hW.alike hK9, hD9⟩, hS.F ht⟩) hS.2.2 dX12_order_6
set_option maxHeartbeats 4000000 in
set_option maxRecDepth 100000 in
theorem k_X12_wall_0 (l : Launch) (dC : Nat → ClassId) (dI : Nat → Nat → Nat) (h0 h1 h2 h3 h4 h5 h6 h7 h8 h9 h10 h11 h12 h13 h14 h15 h16 h17 h18 h19 h20 h21 h22 h23 h24 h25 h26 h27 h28 h29 : Nat) (sz : Nat) (p0 : Int32) (p1 : Int32) (p2 : Int32) : Met l yX12_wall wsX12_wall ({ frames := 2, cells := 0, slots := 0, locals := 46 }) (va_Pc [.ref h0, .int p0, .int p1, .int p2] (fun U => U.heap.size = sz ∧ va_P (dC, dI) vwCl [(h0, .inr (12, [.int 0, .ref h1, .ref h2, .ref h3, .ref h4, .ref h5, .int 0, .int 0, .ref h6, .int 0, .int 0, .ref h7, .ref h8, .ref h9, .ref h10, .ref h11, .ref h12, .ref h13, .int 0, .int 0, .ref h14, .ref h15, .ref h16, .ref h17, .int 0, .ref h18, .ref h19, .int 0, .ref h20, .int 0, .int 0, .ref h21, .ref h22, .int 0, .int 0, .int 0, .int 0, .int 0, .ref h23, .int 0, .ref h24, .ref h25, .int 0, .int 0, .int 0, .ref h26, .ref h27, .ref h28, .ref h29]))] U.heap ∧ va_K (dC, dI) vwCl [] U ∧ va_D (fun _ => True) [(h0, .inr (12, [.int 0, .ref h1, .ref h2, .ref h3, .ref h4, .ref h5, .int 0, .int 0, .ref h6, .int 0, .int 0, .ref h7, .ref h8, .ref h9, .ref h10, .ref h11, .ref h12, .ref h13, .int 0, .int 0, .ref h14, .ref h15, .ref h16, .ref h17, .int 0, .ref h18, .ref h19, .int 0, .ref h20, .int 0, .int 0, .ref h21, .ref h22, .int 0, .int 0, .int 0, .int 0, .int 0, .ref h23, .int 0, .ref h24, .ref h25, .int 0, .int 0, .int 0, .ref h26, .ref h27, .ref h28, .ref h29]))])) (va_Qi (fun (r : Int32) (_ : Unit) => r = -1) (fun (_ : Unit) t => va_P (dC, dI) vwCl [] t.heap ∧ va_K (dC, dI) vwCl [] t ∧ va_D (va_A [(h0, .inr (12, [.int 0, .ref h1, .ref h2, .ref h3, .ref h4, .ref h5, .int 0, .int 0, .ref h6, .int 0, .int 0, .ref h7, .ref h8, .ref h9, .ref h10, .ref h11, .ref h12, .ref h13, .int 0, .int 0, .ref h14, .ref h15, .ref h16, .ref h17, .int 0, .ref h18, .ref h19, .int 0, .ref h20, .int 0, .int 0, .ref h21, .ref h22, .int 0, .int 0, .int 0, .int 0, .int 0, .ref h23, .int 0, .ref h24, .ref h25, .int 0, .int 0, .int 0, .ref h26, .ref h27, .ref h28, .ref h29]))] sz) []) (va_A [(h0, .inr (12, [.int 0, .ref h1, .ref h2, .ref h3, .ref h4, .ref h5, .int 0, .int 0, .ref h6, .int 0, .int 0, .ref h7, .ref h8, .ref h9, .ref h10, .ref h11, .ref h12, .ref h13, .int 0, .int 0, .ref h14, .ref h15, .ref h16, .ref h17, .int 0, .ref h18, .ref h19, .int 0, .ref h20, .int 0, .int 0, .ref h21, .ref h22, .int 0, .int 0, .int 0, .int 0, .int 0, .ref h23, .int 0, .ref h24, .ref h25, .int 0, .int 0, .int 0, .ref h26, .ref h27, .ref h28, .ref h29]))] sz)) 0 0 (va_A [(h0, .inr (12, [.int 0, .ref h1, .ref h2, .ref h3, .ref h4, .ref h5, .int 0, .int 0, .ref h6, .int 0, .int 0, .ref h7, .ref h8, .ref h9, .ref h10, .ref h11, .ref h12, .ref h13, .int 0, .int 0, .ref h14, .ref h15, .ref h16, .ref h17, .int 0, .ref h18, .ref h19, .int 0, .ref h20, .int 0, .int 0, .ref h21, .ref h22, .int 0, .int 0, .int 0, .int 0, .int 0, .ref h23, .int 0, .ref h24, .ref h25, .int 0, .int 0, .int 0, .ref h26, .ref h27, .ref h28, .ref h29]))] sz) := by
  refine Met.ofW (cc := cX12_wall) (maxL := 11) (ret := (some .int)) (by decide) rfl ?_
  intro p e s m args below meth c s₁ B hml hv
  obtain ⟨rfl, hsz, hP, hK, hD0⟩ := hv
  have hx := B.exec
  have hb := B.bytes
  have hr := B.returns
  have hts := atoms_spec (ws := wsX12_wall) B.pre
  have hown : s.vm.findClass RX12 = some m.cls := findClass_of_methodNamed B.named
  have hlocks := B.notSynchronized
  subst hsz
  have hD := hD0.self (sz := s.heap.size)
  generalize hAe : va_A [(h0, .inr (12, [.int 0, .ref h1, .ref h2, .ref h3, .ref h4, .ref h5, .int 0, .int 0, .ref h6, .int 0, .int 0, .ref h7, .ref h8, .ref h9, .ref h10, .ref h11, .ref h12, .ref h13, .int 0, .int 0, .ref h14, .ref h15, .ref h16, .ref h17, .int 0, .ref h18, .ref h19, .int 0, .ref h20, .int 0, .int 0, .ref h21, .ref h22, .int 0, .int 0, .int 0, .int 0, .int 0, .ref h23, .int 0, .ref h24, .ref h25, .int 0, .int 0, .int 0, .ref h26, .ref h27, .ref h28, .ref h29]))] s.heap.size = A at hD ⊢
  have hA : ∀ q : Nat, s.heap.size ≤ q → A q := fun q h => by rw [← hAe]; exact Or.inr h
  have hS : va_S A s.heap s.heap [] := va_S.rf
  have hP : va_P (dC, dI) vwCl [(h0, .inr (12, [.int 0, .ref h1, .ref h2, .ref h3, .ref h4, .ref h5, .int 0, .int 0, .ref h6, .int 0, .int 0, .ref h7, .ref h8, .ref h9, .ref h10, .ref h11, .ref h12, .ref h13, .int 0, .int 0, .ref h14, .ref h15, .ref h16, .ref h17, .int 0, .ref h18, .ref h19, .int 0, .ref h20, .int 0, .int 0, .ref h21, .ref h22, .int 0, .int 0, .int 0, .int 0, .int 0, .ref h23, .int 0, .ref h24, .ref h25, .int 0, .int 0, .int 0, .ref h26, .ref h27, .ref h28, .ref h29]))] s.heap := hP
  have hl := lv_entry ([.ref h0, .int p0, .int p1, .int p2]) (n := 11) (Nat.le_of_ble_eq_true rfl)
  rw [lg_entry_eq]
  generalize (lg_sl ([.ref h0, .int p0, .int p1, .int p2]) ++ List.replicate (11 - (lg_sl ([.ref h0, .int p0, .int p1, .int p2])).length) Slot.unset).toArray = ls at hl ⊢
  have hl : lv_has ls 11 [(0, .ref h0), (1, .int p0), (2, .int p1), (3, .int p2)] := hl
  refine lv_aload_n hx hb dX12_wall_0 rfl (lv_at hl 0 rfl) ?_
  refine lv_iload_n hx hb dX12_wall_1 rfl (lv_at hl 1 rfl) ?_
  have hPc := hP.sub (ws' := [(h0, .inr (12, [.int 0, .ref h1, .ref h2, .ref h3, .ref h4, .ref h5, .int 0, .int 0, .ref h6, .int 0, .int 0, .ref h7, .ref h8, .ref h9, .ref h10, .ref h11, .ref h12, .ref h13, .int 0, .int 0, .ref h14, .ref h15, .ref h16, .ref h17, .int 0, .ref h18, .ref h19, .int 0, .ref h20, .int 0, .int 0, .ref h21, .ref h22, .int 0, .int 0, .int 0, .int 0, .int 0, .ref h23, .int 0, .ref h24, .ref h25, .int 0, .int 0, .int 0, .ref h26, .ref h27, .ref h28, .ref h29]))]) [0] rfl
  have hDc := hD.sub (ws' := [(h0, .inr (12, [.int 0, .ref h1, .ref h2, .ref h3, .ref h4, .ref h5, .int 0, .int 0, .ref h6, .int 0, .int 0, .ref h7, .ref h8, .ref h9, .ref h10, .ref h11, .ref h12, .ref h13, .int 0, .int 0, .ref h14, .ref h15, .ref h16, .ref h17, .int 0, .ref h18, .ref h19, .int 0, .ref h20, .int 0, .int 0, .ref h21, .ref h22, .int 0, .int 0, .int 0, .int 0, .int 0, .ref h23, .int 0, .ref h24, .ref h25, .int 0, .int 0, .int 0, .ref h26, .ref h27, .ref h28, .ref h29]))]) [0] (by decide) rfl
  have hKc := hK.sub (tys' := []) [] rfl
  have hFc := va_free (wc := [(h0, .inr (12, [.int 0, .ref h1, .ref h2, .ref h3, .ref h4, .ref h5, .int 0, .int 0, .ref h6, .int 0, .int 0, .ref h7, .ref h8, .ref h9, .ref h10, .ref h11, .ref h12, .ref h13, .int 0, .int 0, .ref h14, .ref h15, .ref h16, .ref h17, .int 0, .ref h18, .ref h19, .int 0, .ref h20, .int 0, .int 0, .ref h21, .ref h22, .int 0, .int 0, .int 0, .int 0, .int 0, .ref h23, .int 0, .ref h24, .ref h25, .int 0, .int 0, .int 0, .ref h26, .ref h27, .ref h28, .ref h29]))]) hD hS hA [0] rfl
  refine va_calli (va_runV (As := [.int p0]) (rest := []) ⟨hx, hb, hml, hown, hts⟩ (k_X12_isStreet_0 l dC dI h0 h1 h2 h3 h4 h5 h6 h7 h8 h9 h10 h11 h12 h13 h14 h15 h16 h17 h18 h19 h20 h21 h22 h23 h24 h25 h26 h27 h28 h29 s.heap.size p0) (cwV 1 hts gX12_wall_X12_isStreet rfl rfl rfl (by decide +kernel) ⟨Nat.le_of_ble_eq_true rfl, Nat.le_of_ble_eq_true rfl⟩) ⟨fun a U g mk q => by obtain ⟨q0, q1, qP, qK, qD⟩ := q; exact ⟨q0, q1, qP, va_K.moved (u := U) (U := U.calling g mk a) (Vm.Alike.refl U.vm) qK, qD⟩, va_recv hKc hPc (ci := 12) (q0 := 0) rfl rfl, fun U hU hW => ⟨rfl, by rw [hU], by rw [hU]; exact hPc, va_K.moved hW.alike hKc, hDc.weaken (fun _ _ _ _ => trivial)⟩⟩ rfl rfl hl.1 rfl (lv_room (Nat.le_of_ble_eq_true rfl)) dX12_wall_2 ⟨Nat.le_of_ble_eq_true rfl, Nat.le_of_ble_eq_true rfl⟩) hS (fun q _ h => hFc q h) hFc (fun r_1 u t H1 locs ht hvm hw hB hz1 hk1 hS => ?_)
  obtain ⟨hP1, hK1, hD1⟩ := hB
  rw [ht] at hP1
  have hK1 := va_K.moved hvm.symm hK1
  obtain ⟨hP, hD⟩ := va_join (wr := []) (w1 := [(h0, .inr (12, [.int 0, .ref h1, .ref h2, .ref h3, .ref h4, .ref h5, .int 0, .int 0, .ref h6, .int 0, .int 0, .ref h7, .ref h8, .ref h9, .ref h10, .ref h11, .ref h12, .ref h13, .int 0, .int 0, .ref h14, .ref h15, .ref h16, .ref h17, .int 0, .ref h18, .ref h19, .int 0, .ref h20, .int 0, .int 0, .ref h21, .ref h22, .int 0, .int 0, .int 0, .int 0, .int 0, .ref h23, .int 0, .ref h24, .ref h25, .int 0, .int 0, .int 0, .ref h26, .ref h27, .ref h28, .ref h29]))]) hP hD [0] [] rfl rfl (by decide) (by decide) hk1 hFc hP1 hD1
  generalize H1 = H at hP hS ⊢
  have hP : va_P (dC, dI) vwCl [(h0, .inr (12, [.int 0, .ref h1, .ref h2, .ref h3, .ref h4, .ref h5, .int 0, .int 0, .ref h6, .int 0, .int 0, .ref h7, .ref h8, .ref h9, .ref h10, .ref h11, .ref h12, .ref h13, .int 0, .int 0, .ref h14, .ref h15, .ref h16, .ref h17, .int 0, .ref h18, .ref h19, .int 0, .ref h20, .int 0, .int 0, .ref h21, .ref h22, .int 0, .int 0, .int 0, .int 0, .int 0, .ref h23, .int 0, .ref h24, .ref h25, .int 0, .int 0, .int 0, .ref h26, .ref h27, .ref h28, .ref h29]))] H := hP
  have hD : va_D A [(h0, .inr (12, [.int 0, .ref h1, .ref h2, .ref h3, .ref h4, .ref h5, .int 0, .int 0, .ref h6, .int 0, .int 0, .ref h7, .ref h8, .ref h9, .ref h10, .ref h11, .ref h12, .ref h13, .int 0, .int 0, .ref h14, .ref h15, .ref h16, .ref h17, .int 0, .ref h18, .ref h19, .int 0, .ref h20, .int 0, .int 0, .ref h21, .ref h22, .int 0, .int 0, .int 0, .int 0, .int 0, .ref h23, .int 0, .ref h24, .ref h25, .int 0, .int 0, .int 0, .ref h26, .ref h27, .ref h28, .ref h29]))] := hD
  obtain rfl := hw
  refine lv_if_eq (tgt := 20) hx hb dX12_wall_5 (by decide) (fun _ => ?_) (fun c => absurd c (by decide))
  refine lv_iconst (v := (-1)) hx hb dX12_wall_20 (by decide) ?_
  have hP9 := hP.sub (ws' := []) [] rfl
  have hD9 := hD.sub (ws' := []) [] (by decide) rfl
  have hK9 := hK.sub (tys' := []) [] rfl
  exact W.iret (v := (-1)) hx hb hr (fun t ht hW => ⟨⟨(-1), (), rfl, by first | rfl | ((repeat' split) <;> first | rfl | (exfalso; omega) | (exact Int32.toInt_inj.mp (by show ((-1) : Int) = _; omega))), by rw [ht]; exact hP9, va_K.moved hW.alike hK9, hD9⟩, hS.F ht⟩) hS.2.2 dX12_wall_21
set_option maxHeartbeats 4000000 in
set_option maxRecDepth 100000 in
theorem k_X12_furrow_0 (l : Launch) (dC : Nat → ClassId) (dI : Nat → Nat → Nat) (h0 h1 h2 h3 h4 h5 h6 h7 h8 h9 h10 h11 h12 h13 h14 h15 h16 h17 h18 h19 h20 h21 h22 h23 h24 h25 h26 h27 h28 h29 : Nat) (sz : Nat) (p0 : Int32) : Met l yX12_furrow wsX12_furrow ({ frames := 2, cells := 0, slots := 0, locals := 46 }) (va_Pc [.ref h0, .int p0] (fun U => U.heap.size = sz ∧ va_P (dC, dI) vwCl [(h0, .inr (12, [.int 0, .ref h1, .ref h2, .ref h3, .ref h4, .ref h5, .int 0, .int 0, .ref h6, .int 0, .int 0, .ref h7, .ref h8, .ref h9, .ref h10, .ref h11, .ref h12, .ref h13, .int 0, .int 0, .ref h14, .ref h15, .ref h16, .ref h17, .int 0, .ref h18, .ref h19, .int 0, .ref h20, .int 0, .int 0, .ref h21, .ref h22, .int 0, .int 0, .int 0, .int 0, .int 0, .ref h23, .int 0, .ref h24, .ref h25, .int 0, .int 0, .int 0, .ref h26, .ref h27, .ref h28, .ref h29]))] U.heap ∧ va_K (dC, dI) vwCl [] U ∧ va_D (fun _ => True) [(h0, .inr (12, [.int 0, .ref h1, .ref h2, .ref h3, .ref h4, .ref h5, .int 0, .int 0, .ref h6, .int 0, .int 0, .ref h7, .ref h8, .ref h9, .ref h10, .ref h11, .ref h12, .ref h13, .int 0, .int 0, .ref h14, .ref h15, .ref h16, .ref h17, .int 0, .ref h18, .ref h19, .int 0, .ref h20, .int 0, .int 0, .ref h21, .ref h22, .int 0, .int 0, .int 0, .int 0, .int 0, .ref h23, .int 0, .ref h24, .ref h25, .int 0, .int 0, .int 0, .ref h26, .ref h27, .ref h28, .ref h29]))])) (va_Qi (fun (r : Int32) (_ : Unit) => r = -1) (fun (_ : Unit) t => va_P (dC, dI) vwCl [] t.heap ∧ va_K (dC, dI) vwCl [] t ∧ va_D (va_A [(h0, .inr (12, [.int 0, .ref h1, .ref h2, .ref h3, .ref h4, .ref h5, .int 0, .int 0, .ref h6, .int 0, .int 0, .ref h7, .ref h8, .ref h9, .ref h10, .ref h11, .ref h12, .ref h13, .int 0, .int 0, .ref h14, .ref h15, .ref h16, .ref h17, .int 0, .ref h18, .ref h19, .int 0, .ref h20, .int 0, .int 0, .ref h21, .ref h22, .int 0, .int 0, .int 0, .int 0, .int 0, .ref h23, .int 0, .ref h24, .ref h25, .int 0, .int 0, .int 0, .ref h26, .ref h27, .ref h28, .ref h29]))] sz) []) (va_A [(h0, .inr (12, [.int 0, .ref h1, .ref h2, .ref h3, .ref h4, .ref h5, .int 0, .int 0, .ref h6, .int 0, .int 0, .ref h7, .ref h8, .ref h9, .ref h10, .ref h11, .ref h12, .ref h13, .int 0, .int 0, .ref h14, .ref h15, .ref h16, .ref h17, .int 0, .ref h18, .ref h19, .int 0, .ref h20, .int 0, .int 0, .ref h21, .ref h22, .int 0, .int 0, .int 0, .int 0, .int 0, .ref h23, .int 0, .ref h24, .ref h25, .int 0, .int 0, .int 0, .ref h26, .ref h27, .ref h28, .ref h29]))] sz)) 0 0 (va_A [(h0, .inr (12, [.int 0, .ref h1, .ref h2, .ref h3, .ref h4, .ref h5, .int 0, .int 0, .ref h6, .int 0, .int 0, .ref h7, .ref h8, .ref h9, .ref h10, .ref h11, .ref h12, .ref h13, .int 0, .int 0, .ref h14, .ref h15, .ref h16, .ref h17, .int 0, .ref h18, .ref h19, .int 0, .ref h20, .int 0, .int 0, .ref h21, .ref h22, .int 0, .int 0, .int 0, .int 0, .int 0, .ref h23, .int 0, .ref h24, .ref h25, .int 0, .int 0, .int 0, .ref h26, .ref h27, .ref h28, .ref h29]))] sz) := by
  refine Met.ofW (cc := cX12_furrow) (maxL := 6) (ret := (some .int)) (by decide) rfl ?_
  intro p e s m args below meth c s₁ B hml hv
  obtain ⟨rfl, hsz, hP, hK, hD0⟩ := hv
  have hx := B.exec
  have hb := B.bytes
  have hr := B.returns
  have hts := atoms_spec (ws := wsX12_furrow) B.pre
  have hown : s.vm.findClass RX12 = some m.cls := findClass_of_methodNamed B.named
  have hlocks := B.notSynchronized
  subst hsz
  have hD := hD0.self (sz := s.heap.size)
  generalize hAe : va_A [(h0, .inr (12, [.int 0, .ref h1, .ref h2, .ref h3, .ref h4, .ref h5, .int 0, .int 0, .ref h6, .int 0, .int 0, .ref h7, .ref h8, .ref h9, .ref h10, .ref h11, .ref h12, .ref h13, .int 0, .int 0, .ref h14, .ref h15, .ref h16, .ref h17, .int 0, .ref h18, .ref h19, .int 0, .ref h20, .int 0, .int 0, .ref h21, .ref h22, .int 0, .int 0, .int 0, .int 0, .int 0, .ref h23, .int 0, .ref h24, .ref h25, .int 0, .int 0, .int 0, .ref h26, .ref h27, .ref h28, .ref h29]))] s.heap.size = A at hD ⊢
  have hA : ∀ q : Nat, s.heap.size ≤ q → A q := fun q h => by rw [← hAe]; exact Or.inr h
  have hS : va_S A s.heap s.heap [] := va_S.rf
  have hP : va_P (dC, dI) vwCl [(h0, .inr (12, [.int 0, .ref h1, .ref h2, .ref h3, .ref h4, .ref h5, .int 0, .int 0, .ref h6, .int 0, .int 0, .ref h7, .ref h8, .ref h9, .ref h10, .ref h11, .ref h12, .ref h13, .int 0, .int 0, .ref h14, .ref h15, .ref h16, .ref h17, .int 0, .ref h18, .ref h19, .int 0, .ref h20, .int 0, .int 0, .ref h21, .ref h22, .int 0, .int 0, .int 0, .int 0, .int 0, .ref h23, .int 0, .ref h24, .ref h25, .int 0, .int 0, .int 0, .ref h26, .ref h27, .ref h28, .ref h29]))] s.heap := hP
  have hl := lv_entry ([.ref h0, .int p0]) (n := 6) (Nat.le_of_ble_eq_true rfl)
  rw [lg_entry_eq]
  generalize (lg_sl ([.ref h0, .int p0]) ++ List.replicate (6 - (lg_sl ([.ref h0, .int p0])).length) Slot.unset).toArray = ls at hl ⊢
  have hl : lv_has ls 6 [(0, .ref h0), (1, .int p0)] := hl
  refine lv_aload_n hx hb dX12_furrow_0 rfl (lv_at hl 0 rfl) ?_
  refine lv_iload_n hx hb dX12_furrow_1 rfl (lv_at hl 1 rfl) ?_
  have hPc := hP.sub (ws' := [(h0, .inr (12, [.int 0, .ref h1, .ref h2, .ref h3, .ref h4, .ref h5, .int 0, .int 0, .ref h6, .int 0, .int 0, .ref h7, .ref h8, .ref h9, .ref h10, .ref h11, .ref h12, .ref h13, .int 0, .int 0, .ref h14, .ref h15, .ref h16, .ref h17, .int 0, .ref h18, .ref h19, .int 0, .ref h20, .int 0, .int 0, .ref h21, .ref h22, .int 0, .int 0, .int 0, .int 0, .int 0, .ref h23, .int 0, .ref h24, .ref h25, .int 0, .int 0, .int 0, .ref h26, .ref h27, .ref h28, .ref h29]))]) [0] rfl
  have hDc := hD.sub (ws' := [(h0, .inr (12, [.int 0, .ref h1, .ref h2, .ref h3, .ref h4, .ref h5, .int 0, .int 0, .ref h6, .int 0, .int 0, .ref h7, .ref h8, .ref h9, .ref h10, .ref h11, .ref h12, .ref h13, .int 0, .int 0, .ref h14, .ref h15, .ref h16, .ref h17, .int 0, .ref h18, .ref h19, .int 0, .ref h20, .int 0, .int 0, .ref h21, .ref h22, .int 0, .int 0, .int 0, .int 0, .int 0, .ref h23, .int 0, .ref h24, .ref h25, .int 0, .int 0, .int 0, .ref h26, .ref h27, .ref h28, .ref h29]))]) [0] (by decide) rfl
  have hKc := hK.sub (tys' := []) [] rfl
  have hFc := va_free (wc := [(h0, .inr (12, [.int 0, .ref h1, .ref h2, .ref h3, .ref h4, .ref h5, .int 0, .int 0, .ref h6, .int 0, .int 0, .ref h7, .ref h8, .ref h9, .ref h10, .ref h11, .ref h12, .ref h13, .int 0, .int 0, .ref h14, .ref h15, .ref h16, .ref h17, .int 0, .ref h18, .ref h19, .int 0, .ref h20, .int 0, .int 0, .ref h21, .ref h22, .int 0, .int 0, .int 0, .int 0, .int 0, .ref h23, .int 0, .ref h24, .ref h25, .int 0, .int 0, .int 0, .ref h26, .ref h27, .ref h28, .ref h29]))]) hD hS hA [0] rfl
  refine va_calli (va_runV (As := [.int p0]) (rest := []) ⟨hx, hb, hml, hown, hts⟩ (k_X12_isStreet_0 l dC dI h0 h1 h2 h3 h4 h5 h6 h7 h8 h9 h10 h11 h12 h13 h14 h15 h16 h17 h18 h19 h20 h21 h22 h23 h24 h25 h26 h27 h28 h29 s.heap.size p0) (cwV 1 hts gX12_furrow_X12_isStreet rfl rfl rfl (by decide +kernel) ⟨Nat.le_of_ble_eq_true rfl, Nat.le_of_ble_eq_true rfl⟩) ⟨fun a U g mk q => by obtain ⟨q0, q1, qP, qK, qD⟩ := q; exact ⟨q0, q1, qP, va_K.moved (u := U) (U := U.calling g mk a) (Vm.Alike.refl U.vm) qK, qD⟩, va_recv hKc hPc (ci := 12) (q0 := 0) rfl rfl, fun U hU hW => ⟨rfl, by rw [hU], by rw [hU]; exact hPc, va_K.moved hW.alike hKc, hDc.weaken (fun _ _ _ _ => trivial)⟩⟩ rfl rfl hl.1 rfl (lv_room (Nat.le_of_ble_eq_true rfl)) dX12_furrow_2 ⟨Nat.le_of_ble_eq_true rfl, Nat.le_of_ble_eq_true rfl⟩) hS (fun q _ h => hFc q h) hFc (fun r_1 u t H1 locs ht hvm hw hB hz1 hk1 hS => ?_)
  obtain ⟨hP1, hK1, hD1⟩ := hB
  rw [ht] at hP1
  have hK1 := va_K.moved hvm.symm hK1
  obtain ⟨hP, hD⟩ := va_join (wr := []) (w1 := [(h0, .inr (12, [.int 0, .ref h1, .ref h2, .ref h3, .ref h4, .ref h5, .int 0, .int 0, .ref h6, .int 0, .int 0, .ref h7, .ref h8, .ref h9, .ref h10, .ref h11, .ref h12, .ref h13, .int 0, .int 0, .ref h14, .ref h15, .ref h16, .ref h17, .int 0, .ref h18, .ref h19, .int 0, .ref h20, .int 0, .int 0, .ref h21, .ref h22, .int 0, .int 0, .int 0, .int 0, .int 0, .ref h23, .int 0, .ref h24, .ref h25, .int 0, .int 0, .int 0, .ref h26, .ref h27, .ref h28, .ref h29]))]) hP hD [0] [] rfl rfl (by decide) (by decide) hk1 hFc hP1 hD1
  generalize H1 = H at hP hS ⊢
  have hP : va_P (dC, dI) vwCl [(h0, .inr (12, [.int 0, .ref h1, .ref h2, .ref h3, .ref h4, .ref h5, .int 0, .int 0, .ref h6, .int 0, .int 0, .ref h7, .ref h8, .ref h9, .ref h10, .ref h11, .ref h12, .ref h13, .int 0, .int 0, .ref h14, .ref h15, .ref h16, .ref h17, .int 0, .ref h18, .ref h19, .int 0, .ref h20, .int 0, .int 0, .ref h21, .ref h22, .int 0, .int 0, .int 0, .int 0, .int 0, .ref h23, .int 0, .ref h24, .ref h25, .int 0, .int 0, .int 0, .ref h26, .ref h27, .ref h28, .ref h29]))] H := hP
  have hD : va_D A [(h0, .inr (12, [.int 0, .ref h1, .ref h2, .ref h3, .ref h4, .ref h5, .int 0, .int 0, .ref h6, .int 0, .int 0, .ref h7, .ref h8, .ref h9, .ref h10, .ref h11, .ref h12, .ref h13, .int 0, .int 0, .ref h14, .ref h15, .ref h16, .ref h17, .int 0, .ref h18, .ref h19, .int 0, .ref h20, .int 0, .int 0, .ref h21, .ref h22, .int 0, .int 0, .int 0, .int 0, .int 0, .ref h23, .int 0, .ref h24, .ref h25, .int 0, .int 0, .int 0, .ref h26, .ref h27, .ref h28, .ref h29]))] := hD
  obtain rfl := hw
  refine lv_if_ne (tgt := 10) hx hb dX12_furrow_5 (by decide) (fun c => absurd c (by decide)) (fun _ => ?_)
  refine lv_iconst (v := (-1)) hx hb dX12_furrow_8 (by decide) ?_
  have hP9 := hP.sub (ws' := []) [] rfl
  have hD9 := hD.sub (ws' := []) [] (by decide) rfl
  have hK9 := hK.sub (tys' := []) [] rfl
  exact W.iret (v := (-1)) hx hb hr (fun t ht hW => ⟨⟨(-1), (), rfl, by first | rfl | ((repeat' split) <;> first | rfl | (exfalso; omega) | (exact Int32.toInt_inj.mp (by show ((-1) : Int) = _; omega))), by rw [ht]; exact hP9, va_K.moved hW.alike hK9, hD9⟩, hS.F ht⟩) hS.2.2 dX12_furrow_9
set_option maxHeartbeats 4000000 in
set_option maxRecDepth 100000 in
theorem k_X12_market_0 (l : Launch) (dC : Nat → ClassId) (dI : Nat → Nat → Nat) (h0 h1 h2 h3 h4 h5 h6 h7 h8 h9 h10 h11 h12 h13 h14 h15 h16 h17 h18 h19 h20 h21 h22 h23 h24 h25 h26 h27 h28 h29 : Nat) (sz : Nat) (p0 : Int32) (p1 : Int32) : Met l yX12_market wsX12_market ({ frames := 3, cells := 0, slots := 0, locals := 69 }) (va_Pc [.ref h0, .int p0, .int p1] (fun U => U.heap.size = sz ∧ va_P (dC, dI) vwCl [(h0, .inr (12, [.int 0, .ref h1, .ref h2, .ref h3, .ref h4, .ref h5, .int 0, .int 0, .ref h6, .int 0, .int 0, .ref h7, .ref h8, .ref h9, .ref h10, .ref h11, .ref h12, .ref h13, .int 0, .int 0, .ref h14, .ref h15, .ref h16, .ref h17, .int 0, .ref h18, .ref h19, .int 0, .ref h20, .int 0, .int 0, .ref h21, .ref h22, .int 0, .int 0, .int 0, .int 0, .int 0, .ref h23, .int 0, .ref h24, .ref h25, .int 0, .int 0, .int 0, .ref h26, .ref h27, .ref h28, .ref h29]))] U.heap ∧ va_K (dC, dI) vwCl [] U ∧ va_D (fun _ => True) [(h0, .inr (12, [.int 0, .ref h1, .ref h2, .ref h3, .ref h4, .ref h5, .int 0, .int 0, .ref h6, .int 0, .int 0, .ref h7, .ref h8, .ref h9, .ref h10, .ref h11, .ref h12, .ref h13, .int 0, .int 0, .ref h14, .ref h15, .ref h16, .ref h17, .int 0, .ref h18, .ref h19, .int 0, .ref h20, .int 0, .int 0, .ref h21, .ref h22, .int 0, .int 0, .int 0, .int 0, .int 0, .ref h23, .int 0, .ref h24, .ref h25, .int 0, .int 0, .int 0, .ref h26, .ref h27, .ref h28, .ref h29]))])) (va_Qi (fun (r : Int32) (_ : Unit) => r = -1) (fun (_ : Unit) t => va_P (dC, dI) vwCl [] t.heap ∧ va_K (dC, dI) vwCl [] t ∧ va_D (va_A [(h0, .inr (12, [.int 0, .ref h1, .ref h2, .ref h3, .ref h4, .ref h5, .int 0, .int 0, .ref h6, .int 0, .int 0, .ref h7, .ref h8, .ref h9, .ref h10, .ref h11, .ref h12, .ref h13, .int 0, .int 0, .ref h14, .ref h15, .ref h16, .ref h17, .int 0, .ref h18, .ref h19, .int 0, .ref h20, .int 0, .int 0, .ref h21, .ref h22, .int 0, .int 0, .int 0, .int 0, .int 0, .ref h23, .int 0, .ref h24, .ref h25, .int 0, .int 0, .int 0, .ref h26, .ref h27, .ref h28, .ref h29]))] sz) []) (va_A [(h0, .inr (12, [.int 0, .ref h1, .ref h2, .ref h3, .ref h4, .ref h5, .int 0, .int 0, .ref h6, .int 0, .int 0, .ref h7, .ref h8, .ref h9, .ref h10, .ref h11, .ref h12, .ref h13, .int 0, .int 0, .ref h14, .ref h15, .ref h16, .ref h17, .int 0, .ref h18, .ref h19, .int 0, .ref h20, .int 0, .int 0, .ref h21, .ref h22, .int 0, .int 0, .int 0, .int 0, .int 0, .ref h23, .int 0, .ref h24, .ref h25, .int 0, .int 0, .int 0, .ref h26, .ref h27, .ref h28, .ref h29]))] sz)) 0 0 (va_A [(h0, .inr (12, [.int 0, .ref h1, .ref h2, .ref h3, .ref h4, .ref h5, .int 0, .int 0, .ref h6, .int 0, .int 0, .ref h7, .ref h8, .ref h9, .ref h10, .ref h11, .ref h12, .ref h13, .int 0, .int 0, .ref h14, .ref h15, .ref h16, .ref h17, .int 0, .ref h18, .ref h19, .int 0, .ref h20, .int 0, .int 0, .ref h21, .ref h22, .int 0, .int 0, .int 0, .int 0, .int 0, .ref h23, .int 0, .ref h24, .ref h25, .int 0, .int 0, .int 0, .ref h26, .ref h27, .ref h28, .ref h29]))] sz) := by
  refine Met.ofW (cc := cX12_market) (maxL := 3) (ret := (some .int)) (by decide) rfl ?_
  intro p e s m args below meth c s₁ B hml hv
  obtain ⟨rfl, hsz, hP, hK, hD0⟩ := hv
  have hx := B.exec
  have hb := B.bytes
  have hr := B.returns
  have hts := atoms_spec (ws := wsX12_market) B.pre
  have hown : s.vm.findClass RX12 = some m.cls := findClass_of_methodNamed B.named
  have hlocks := B.notSynchronized
  subst hsz
  have hD := hD0.self (sz := s.heap.size)
  generalize hAe : va_A [(h0, .inr (12, [.int 0, .ref h1, .ref h2, .ref h3, .ref h4, .ref h5, .int 0, .int 0, .ref h6, .int 0, .int 0, .ref h7, .ref h8, .ref h9, .ref h10, .ref h11, .ref h12, .ref h13, .int 0, .int 0, .ref h14, .ref h15, .ref h16, .ref h17, .int 0, .ref h18, .ref h19, .int 0, .ref h20, .int 0, .int 0, .ref h21, .ref h22, .int 0, .int 0, .int 0, .int 0, .int 0, .ref h23, .int 0, .ref h24, .ref h25, .int 0, .int 0, .int 0, .ref h26, .ref h27, .ref h28, .ref h29]))] s.heap.size = A at hD ⊢
  have hA : ∀ q : Nat, s.heap.size ≤ q → A q := fun q h => by rw [← hAe]; exact Or.inr h
  have hS : va_S A s.heap s.heap [] := va_S.rf
  have hP : va_P (dC, dI) vwCl [(h0, .inr (12, [.int 0, .ref h1, .ref h2, .ref h3, .ref h4, .ref h5, .int 0, .int 0, .ref h6, .int 0, .int 0, .ref h7, .ref h8, .ref h9, .ref h10, .ref h11, .ref h12, .ref h13, .int 0, .int 0, .ref h14, .ref h15, .ref h16, .ref h17, .int 0, .ref h18, .ref h19, .int 0, .ref h20, .int 0, .int 0, .ref h21, .ref h22, .int 0, .int 0, .int 0, .int 0, .int 0, .ref h23, .int 0, .ref h24, .ref h25, .int 0, .int 0, .int 0, .ref h26, .ref h27, .ref h28, .ref h29]))] s.heap := hP
  have hl := lv_entry ([.ref h0, .int p0, .int p1]) (n := 3) (Nat.le_of_ble_eq_true rfl)
  rw [lg_entry_eq]
  generalize (lg_sl ([.ref h0, .int p0, .int p1]) ++ List.replicate (3 - (lg_sl ([.ref h0, .int p0, .int p1])).length) Slot.unset).toArray = ls at hl ⊢
  have hl : lv_has ls 3 [(0, .ref h0), (1, .int p0), (2, .int p1)] := hl
  refine lv_aload_n hx hb dX12_market_0 rfl (lv_at hl 0 rfl) ?_
  refine lv_iload_n hx hb dX12_market_1 rfl (lv_at hl 1 rfl) ?_
  refine lv_iload_n hx hb dX12_market_2 rfl (lv_at hl 2 rfl) ?_
  have hPc := hP.sub (ws' := [(h0, .inr (12, [.int 0, .ref h1, .ref h2, .ref h3, .ref h4, .ref h5, .int 0, .int 0, .ref h6, .int 0, .int 0, .ref h7, .ref h8, .ref h9, .ref h10, .ref h11, .ref h12, .ref h13, .int 0, .int 0, .ref h14, .ref h15, .ref h16, .ref h17, .int 0, .ref h18, .ref h19, .int 0, .ref h20, .int 0, .int 0, .ref h21, .ref h22, .int 0, .int 0, .int 0, .int 0, .int 0, .ref h23, .int 0, .ref h24, .ref h25, .int 0, .int 0, .int 0, .ref h26, .ref h27, .ref h28, .ref h29]))]) [0] rfl
  have hDc := hD.sub (ws' := [(h0, .inr (12, [.int 0, .ref h1, .ref h2, .ref h3, .ref h4, .ref h5, .int 0, .int 0, .ref h6, .int 0, .int 0, .ref h7, .ref h8, .ref h9, .ref h10, .ref h11, .ref h12, .ref h13, .int 0, .int 0, .ref h14, .ref h15, .ref h16, .ref h17, .int 0, .ref h18, .ref h19, .int 0, .ref h20, .int 0, .int 0, .ref h21, .ref h22, .int 0, .int 0, .int 0, .int 0, .int 0, .ref h23, .int 0, .ref h24, .ref h25, .int 0, .int 0, .int 0, .ref h26, .ref h27, .ref h28, .ref h29]))]) [0] (by decide) rfl
  have hKc := hK.sub (tys' := []) [] rfl
  have hFc := va_free (wc := [(h0, .inr (12, [.int 0, .ref h1, .ref h2, .ref h3, .ref h4, .ref h5, .int 0, .int 0, .ref h6, .int 0, .int 0, .ref h7, .ref h8, .ref h9, .ref h10, .ref h11, .ref h12, .ref h13, .int 0, .int 0, .ref h14, .ref h15, .ref h16, .ref h17, .int 0, .ref h18, .ref h19, .int 0, .ref h20, .int 0, .int 0, .ref h21, .ref h22, .int 0, .int 0, .int 0, .int 0, .int 0, .ref h23, .int 0, .ref h24, .ref h25, .int 0, .int 0, .int 0, .ref h26, .ref h27, .ref h28, .ref h29]))]) hD hS hA [0] rfl
  refine va_calli (va_runV (As := [.int p0, .int p1]) (rest := []) ⟨hx, hb, hml, hown, hts⟩ (k_X12_looks_0 l dC dI h0 h1 h2 h3 h4 h5 h6 h7 h8 h9 h10 h11 h12 h13 h14 h15 h16 h17 h18 h19 h20 h21 h22 h23 h24 h25 h26 h27 h28 h29 s.heap.size p0 p1) (cwV 2 hts gX12_market_X12_looks rfl rfl rfl (by decide +kernel) ⟨Nat.le_of_ble_eq_true rfl, Nat.le_of_ble_eq_true rfl⟩) ⟨fun a U g mk q => by obtain ⟨q0, q1, qP, qK, qD⟩ := q; exact ⟨q0, q1, qP, va_K.moved (u := U) (U := U.calling g mk a) (Vm.Alike.refl U.vm) qK, qD⟩, va_recv hKc hPc (ci := 12) (q0 := 0) rfl rfl, fun U hU hW => ⟨rfl, by rw [hU], by rw [hU]; exact hPc, va_K.moved hW.alike hKc, hDc.weaken (fun _ _ _ _ => trivial)⟩⟩ rfl rfl hl.1 rfl (lv_room (Nat.le_of_ble_eq_true rfl)) dX12_market_3 ⟨Nat.le_of_ble_eq_true rfl, Nat.le_of_ble_eq_true rfl⟩) hS (fun q _ h => hFc q h) hFc (fun r_1 u t H1 locs ht hvm hw hB hz1 hk1 hS => ?_)
  obtain ⟨hP1, hK1, hD1⟩ := hB
  rw [ht] at hP1
  have hK1 := va_K.moved hvm.symm hK1
  obtain ⟨hP, hD⟩ := va_join (wr := []) (w1 := [(h0, .inr (12, [.int 0, .ref h1, .ref h2, .ref h3, .ref h4, .ref h5, .int 0, .int 0, .ref h6, .int 0, .int 0, .ref h7, .ref h8, .ref h9, .ref h10, .ref h11, .ref h12, .ref h13, .int 0, .int 0, .ref h14, .ref h15, .ref h16, .ref h17, .int 0, .ref h18, .ref h19, .int 0, .ref h20, .int 0, .int 0, .ref h21, .ref h22, .int 0, .int 0, .int 0, .int 0, .int 0, .ref h23, .int 0, .ref h24, .ref h25, .int 0, .int 0, .int 0, .ref h26, .ref h27, .ref h28, .ref h29]))]) hP hD [0] [] rfl rfl (by decide) (by decide) hk1 hFc hP1 hD1
  generalize H1 = H at hP hS ⊢
  have hP : va_P (dC, dI) vwCl [(h0, .inr (12, [.int 0, .ref h1, .ref h2, .ref h3, .ref h4, .ref h5, .int 0, .int 0, .ref h6, .int 0, .int 0, .ref h7, .ref h8, .ref h9, .ref h10, .ref h11, .ref h12, .ref h13, .int 0, .int 0, .ref h14, .ref h15, .ref h16, .ref h17, .int 0, .ref h18, .ref h19, .int 0, .ref h20, .int 0, .int 0, .ref h21, .ref h22, .int 0, .int 0, .int 0, .int 0, .int 0, .ref h23, .int 0, .ref h24, .ref h25, .int 0, .int 0, .int 0, .ref h26, .ref h27, .ref h28, .ref h29]))] H := hP
  have hD : va_D A [(h0, .inr (12, [.int 0, .ref h1, .ref h2, .ref h3, .ref h4, .ref h5, .int 0, .int 0, .ref h6, .int 0, .int 0, .ref h7, .ref h8, .ref h9, .ref h10, .ref h11, .ref h12, .ref h13, .int 0, .int 0, .ref h14, .ref h15, .ref h16, .ref h17, .int 0, .ref h18, .ref h19, .int 0, .ref h20, .int 0, .int 0, .ref h21, .ref h22, .int 0, .int 0, .int 0, .int 0, .int 0, .ref h23, .int 0, .ref h24, .ref h25, .int 0, .int 0, .int 0, .ref h26, .ref h27, .ref h28, .ref h29]))] := hD
  obtain rfl := hw
  refine lv_if_ne (tgt := 11) hx hb dX12_market_6 (by decide) (fun c => absurd c (by decide)) (fun _ => ?_)
  refine lv_iconst (v := (-1)) hx hb dX12_market_9 (by decide) ?_
  have hP9 := hP.sub (ws' := []) [] rfl
  have hD9 := hD.sub (ws' := []) [] (by decide) rfl
  have hK9 := hK.sub (tys' := []) [] rfl
  exact W.iret (v := (-1)) hx hb hr (fun t ht hW => ⟨⟨(-1), (), rfl, by first | rfl | ((repeat' split) <;> first | rfl | (exfalso; omega) | (exact Int32.toInt_inj.mp (by show ((-1) : Int) = _; omega))), by rw [ht]; exact hP9, va_K.moved hW.alike hK9, hD9⟩, hS.F ht⟩) hS.2.2 dX12_market_10
set_option maxHeartbeats 4000000 in
set_option maxRecDepth 100000 in
theorem k_X12_within_1 (l : Launch) (dC : Nat → ClassId) (dI : Nat → Nat → Nat) (sz : Nat) (v0 : Int64) (xv0 : Int) (exv0 : v0.toInt = xv0) : Met l yX12_within wsX12_within ({ frames := 0, cells := 0, slots := 0, locals := 0 }) (va_Pc [.long v0, .long 0, .long 7] (fun U => U.heap.size = sz ∧ va_P (dC, dI) vwCl [] U.heap ∧ va_K (dC, dI) vwCl [] U ∧ va_D (fun _ => True) [])) (va_Qi (fun (r : Int32) (_ : Unit) => (xv0 < 0 ∧ r = 0) ∨ (0 ≤ xv0 ∧ 7 < xv0 ∧ r = 0) ∨ (0 ≤ xv0 ∧ xv0 ≤ 7 ∧ r = 1)) (fun (_ : Unit) t => va_P (dC, dI) vwCl [] t.heap ∧ va_K (dC, dI) vwCl [] t ∧ va_D (va_A [] sz) []) (va_A [] sz)) 0 0 (va_A [] sz) := by
  refine Met.ofW (cc := cX12_within) (maxL := 6) (ret := (some .boolean)) (by decide) rfl ?_
  intro p e s m args below meth c s₁ B hml hv
  obtain ⟨rfl, hsz, hP, hK, hD0⟩ := hv
  have hx := B.exec
  have hb := B.bytes
  have hr := B.returns
  have hts := atoms_spec (ws := wsX12_within) B.pre
  have hown : s.vm.findClass RX12 = some m.cls := findClass_of_methodNamed B.named
  have hlocks := B.notSynchronized
  subst hsz
  have hD := hD0.self (sz := s.heap.size)
  generalize hAe : va_A [] s.heap.size = A at hD ⊢
  have hA : ∀ q : Nat, s.heap.size ≤ q → A q := fun q h => by rw [← hAe]; exact Or.inr h
  have hS : va_S A s.heap s.heap [] := va_S.rf
  have hP : va_P (dC, dI) vwCl [] s.heap := hP
  have hl := lv_entry ([.long v0, .long 0, .long 7]) (n := 6) (Nat.le_of_ble_eq_true rfl)
  rw [lg_entry_eq]
  generalize (lg_sl ([.long v0, .long 0, .long 7]) ++ List.replicate (6 - (lg_sl ([.long v0, .long 0, .long 7])).length) Slot.unset).toArray = ls at hl ⊢
  have hl : lv_has ls 6 [(0, .long v0), (2, .long 0), (4, .long 7)] := hl
  refine lv_lload_n hx hb dX12_within_0 rfl (lv_at hl 0 rfl) ?_
  refine lv_lload_n hx hb dX12_within_1 rfl (lv_at hl 1 rfl) ?_
  refine W.lcmp hx hb dX12_within_2 ?_
  refine lv_if_lt (tgt := 17) hx hb dX12_within_3 (by decide) (fun c_1 => ?_) (fun c_1 => ?_)
  · have t_1 : xv0 < 0 := by have h := kk_Lt c_1; have e1 : (0 : Int64).toInt = 0 := (by decide); omega
    refine lv_iconst (v := 0) hx hb dX12_within_17 (by decide) ?_
    have hP9 := hP.sub (ws' := []) [] rfl
    have hD9 := hD.sub (ws' := []) [] (by decide) rfl
    have hK9 := hK.sub (tys' := []) [] rfl
    exact W.zret (v := 0) hx hb hr rfl (fun t ht hW => ⟨⟨0, (), rfl, Or.inl ⟨by first | assumption | omega, rfl⟩, by rw [ht]; exact hP9, va_K.moved hW.alike hK9, hD9⟩, hS.F ht⟩) hS.2.2 dX12_within_18
  · have t_1 : 0 ≤ xv0 := by have h := kk_nLt c_1; have e1 : (0 : Int64).toInt = 0 := (by decide); omega
    refine lv_lload_n hx hb dX12_within_6 rfl (lv_at hl 0 rfl) ?_
    refine lv_lload hx hb dX12_within_7 (lv_at hl 2 rfl) ?_
    refine W.lcmp hx hb dX12_within_9 ?_
    refine lv_if_gt (tgt := 17) hx hb dX12_within_10 (by decide) (fun c_2 => ?_) (fun c_2 => ?_)
    · have t_2 : 7 < xv0 := by have h := kk_Gt c_2; have e1 : (7 : Int64).toInt = 7 := (by decide); omega
      refine lv_iconst (v := 0) hx hb dX12_within_17 (by decide) ?_
      have hP9 := hP.sub (ws' := []) [] rfl
      have hD9 := hD.sub (ws' := []) [] (by decide) rfl
      have hK9 := hK.sub (tys' := []) [] rfl
      exact W.zret (v := 0) hx hb hr rfl (fun t ht hW => ⟨⟨0, (), rfl, Or.inr (Or.inl ⟨by first | assumption | omega, by first | assumption | omega, rfl⟩), by rw [ht]; exact hP9, va_K.moved hW.alike hK9, hD9⟩, hS.F ht⟩) hS.2.2 dX12_within_18
    · have t_2 : xv0 ≤ 7 := by have h := kk_nGt c_2; have e1 : (7 : Int64).toInt = 7 := (by decide); omega
      refine lv_iconst (v := 1) hx hb dX12_within_13 (by decide) ?_
      refine lv_goto (tgt := 18) hx hb dX12_within_14 (by decide) ?_
      have hP9 := hP.sub (ws' := []) [] rfl
      have hD9 := hD.sub (ws' := []) [] (by decide) rfl
      have hK9 := hK.sub (tys' := []) [] rfl
      exact W.zret (v := 1) hx hb hr rfl (fun t ht hW => ⟨⟨1, (), rfl, Or.inr (Or.inr (⟨by first | assumption | omega, by first | assumption | omega, rfl⟩)), by rw [ht]; exact hP9, va_K.moved hW.alike hK9, hD9⟩, hS.F ht⟩) hS.2.2 dX12_within_18
set_option maxHeartbeats 4000000 in
set_option maxRecDepth 100000 in
theorem k_X12_isName_0 (l : Launch) (dC : Nat → ClassId) (dI : Nat → Nat → Nat) (sz : Nat) (p0 : Int32) : Met l yX12_isName wsX12_isName ({ frames := 1, cells := 0, slots := 0, locals := 25 }) (va_Pc [.int p0] (fun U => U.heap.size = sz ∧ va_P (dC, dI) vwCl [] U.heap ∧ va_K (dC, dI) vwCl [] U ∧ va_D (fun _ => True) [])) (va_Qi (fun (r : Int32) (_ : Unit) => (p0.toInt < 0 ∧ r = 0) ∨ (0 ≤ p0.toInt ∧ 7 < p0.toInt ∧ r = 0) ∨ (0 ≤ p0.toInt ∧ p0.toInt ≤ 7 ∧ r = 1)) (fun (_ : Unit) t => va_P (dC, dI) vwCl [] t.heap ∧ va_K (dC, dI) vwCl [] t ∧ va_D (va_A [] sz) []) (va_A [] sz)) 0 0 (va_A [] sz) := by
  refine Met.ofW (cc := cX12_isName) (maxL := 1) (ret := (some .boolean)) (by decide) rfl ?_
  intro p e s m args below meth c s₁ B hml hv
  obtain ⟨rfl, hsz, hP, hK, hD0⟩ := hv
  have hx := B.exec
  have hb := B.bytes
  have hr := B.returns
  have hts := atoms_spec (ws := wsX12_isName) B.pre
  have hown : s.vm.findClass RX12 = some m.cls := findClass_of_methodNamed B.named
  have hlocks := B.notSynchronized
  subst hsz
  have hD := hD0.self (sz := s.heap.size)
  generalize hAe : va_A [] s.heap.size = A at hD ⊢
  have hA : ∀ q : Nat, s.heap.size ≤ q → A q := fun q h => by rw [← hAe]; exact Or.inr h
  have hS : va_S A s.heap s.heap [] := va_S.rf
  have hP : va_P (dC, dI) vwCl [] s.heap := hP
  have hl := lv_entry ([.int p0]) (n := 1) (Nat.le_of_ble_eq_true rfl)
  rw [lg_entry_eq]
  generalize (lg_sl ([.int p0]) ++ List.replicate (1 - (lg_sl ([.int p0])).length) Slot.unset).toArray = ls at hl ⊢
  have hl : lv_has ls 1 [(0, .int p0)] := hl
  refine lv_iload_n hx hb dX12_isName_0 rfl (lv_at hl 0 rfl) ?_
  refine lv_i2l (v := (p0).toInt64) hx hb dX12_isName_1 (by first | rfl | decide) ?_
  refine lv_lconst (v := 0) hx hb dX12_isName_2 (by decide) ?_
  refine lv_ldc2 hx hb hown (hts _ (List.mem_of_getElem? (i := 1) rfl)) dX12_isName_3 ?_
  have hPc := hP.sub (ws' := []) [] rfl
  have hDc := hD.sub (ws' := []) [] (by decide) rfl
  have hKc := hK.sub (tys' := []) [] rfl
  have hFc := va_free (wc := []) hD hS hA [] rfl
  refine va_calli (va_runS (As := [.long (p0).toInt64, .long 0, .long 7]) (rest := []) ⟨hx, hb, hml, hown, hts⟩ (k_X12_within_1 l dC dI s.heap.size (p0).toInt64 (p0.toInt) (kk_64 _)) (va_cwS 3 hts gX12_isName_X12_within rfl rfl rfl (by decide +kernel) ⟨Nat.le_of_ble_eq_true rfl, Nat.le_of_ble_eq_true rfl⟩) ⟨fun a U g mk q => by obtain ⟨q0, q1, qP, qK, qD⟩ := q; exact ⟨q0, q1, qP, va_K.moved (u := U) (U := U.calling g mk a) (Vm.Alike.refl U.vm) qK, qD⟩, fun U hU hW => ⟨rfl, by rw [hU], by rw [hU]; exact hPc, va_K.moved hW.alike hKc, hDc.weaken (fun _ _ _ _ => trivial)⟩⟩ rfl rfl hl.1 rfl (lv_room (Nat.le_of_ble_eq_true rfl)) dX12_isName_6 ⟨Nat.le_of_ble_eq_true rfl, Nat.le_of_ble_eq_true rfl⟩) hS (fun q _ h => hFc q h) hFc (fun r_1 u t H1 locs ht hvm hw hB hz1 hk1 hS => ?_)
  obtain ⟨hP1, hK1, hD1⟩ := hB
  rw [ht] at hP1
  have hK1 := va_K.moved hvm.symm hK1
  obtain ⟨hP, hD⟩ := va_join (wr := []) (w1 := []) hP hD [] [] rfl rfl (by decide) (by decide) hk1 hFc hP1 hD1
  generalize H1 = H at hP hS ⊢
  have hP : va_P (dC, dI) vwCl [] H := hP
  have hD : va_D A [] := hD
  rcases hw with ⟨t_1_0, rfl⟩ | ⟨t_1_0, t_1_1, rfl⟩ | ⟨t_1_0, t_1_1, rfl⟩
  · skip
    have hP9 := hP.sub (ws' := []) [] rfl
    have hD9 := hD.sub (ws' := []) [] (by decide) rfl
    have hK9 := hK.sub (tys' := []) [] rfl
    exact W.zret (v := 0) hx hb hr rfl (fun t ht hW => ⟨⟨0, (), rfl, Or.inl ⟨by first | assumption | omega, rfl⟩, by rw [ht]; exact hP9, va_K.moved hW.alike hK9, hD9⟩, hS.F ht⟩) hS.2.2 dX12_isName_9
  · skip
    have hP9 := hP.sub (ws' := []) [] rfl
    have hD9 := hD.sub (ws' := []) [] (by decide) rfl
    have hK9 := hK.sub (tys' := []) [] rfl
    exact W.zret (v := 0) hx hb hr rfl (fun t ht hW => ⟨⟨0, (), rfl, Or.inr (Or.inl ⟨by first | assumption | omega, by first | assumption | omega, rfl⟩), by rw [ht]; exact hP9, va_K.moved hW.alike hK9, hD9⟩, hS.F ht⟩) hS.2.2 dX12_isName_9
  · skip
    have hP9 := hP.sub (ws' := []) [] rfl
    have hD9 := hD.sub (ws' := []) [] (by decide) rfl
    have hK9 := hK.sub (tys' := []) [] rfl
    exact W.zret (v := 1) hx hb hr rfl (fun t ht hW => ⟨⟨1, (), rfl, Or.inr (Or.inr (⟨by first | assumption | omega, by first | assumption | omega, rfl⟩)), by rw [ht]; exact hP9, va_K.moved hW.alike hK9, hD9⟩, hS.F ht⟩) hS.2.2 dX12_isName_9
set_option maxHeartbeats 4000000 in
set_option maxRecDepth 100000 in
theorem k_X12_within_2 (l : Launch) (dC : Nat → ClassId) (dI : Nat → Nat → Nat) (sz : Nat) (v0 : Int64) (xv0 : Int) (exv0 : v0.toInt = xv0) : Met l yX12_within wsX12_within ({ frames := 0, cells := 0, slots := 0, locals := 0 }) (va_Pc [.long v0, .long 0, .long 999] (fun U => U.heap.size = sz ∧ va_P (dC, dI) vwCl [] U.heap ∧ va_K (dC, dI) vwCl [] U ∧ va_D (fun _ => True) [])) (va_Qi (fun (r : Int32) (_ : Unit) => (xv0 < 0 ∧ r = 0) ∨ (0 ≤ xv0 ∧ 999 < xv0 ∧ r = 0) ∨ (0 ≤ xv0 ∧ xv0 ≤ 999 ∧ r = 1)) (fun (_ : Unit) t => va_P (dC, dI) vwCl [] t.heap ∧ va_K (dC, dI) vwCl [] t ∧ va_D (va_A [] sz) []) (va_A [] sz)) 0 0 (va_A [] sz) := by
  refine Met.ofW (cc := cX12_within) (maxL := 6) (ret := (some .boolean)) (by decide) rfl ?_
  intro p e s m args below meth c s₁ B hml hv
  obtain ⟨rfl, hsz, hP, hK, hD0⟩ := hv
  have hx := B.exec
  have hb := B.bytes
  have hr := B.returns
  have hts := atoms_spec (ws := wsX12_within) B.pre
  have hown : s.vm.findClass RX12 = some m.cls := findClass_of_methodNamed B.named
  have hlocks := B.notSynchronized
  subst hsz
  have hD := hD0.self (sz := s.heap.size)
  generalize hAe : va_A [] s.heap.size = A at hD ⊢
  have hA : ∀ q : Nat, s.heap.size ≤ q → A q := fun q h => by rw [← hAe]; exact Or.inr h
  have hS : va_S A s.heap s.heap [] := va_S.rf
  have hP : va_P (dC, dI) vwCl [] s.heap := hP
  have hl := lv_entry ([.long v0, .long 0, .long 999]) (n := 6) (Nat.le_of_ble_eq_true rfl)
  rw [lg_entry_eq]
  generalize (lg_sl ([.long v0, .long 0, .long 999]) ++ List.replicate (6 - (lg_sl ([.long v0, .long 0, .long 999])).length) Slot.unset).toArray = ls at hl ⊢
  have hl : lv_has ls 6 [(0, .long v0), (2, .long 0), (4, .long 999)] := hl
  refine lv_lload_n hx hb dX12_within_0 rfl (lv_at hl 0 rfl) ?_
  refine lv_lload_n hx hb dX12_within_1 rfl (lv_at hl 1 rfl) ?_
  refine W.lcmp hx hb dX12_within_2 ?_
  refine lv_if_lt (tgt := 17) hx hb dX12_within_3 (by decide) (fun c_1 => ?_) (fun c_1 => ?_)
  · have t_1 : xv0 < 0 := by have h := kk_Lt c_1; have e1 : (0 : Int64).toInt = 0 := (by decide); omega
    refine lv_iconst (v := 0) hx hb dX12_within_17 (by decide) ?_
    have hP9 := hP.sub (ws' := []) [] rfl
    have hD9 := hD.sub (ws' := []) [] (by decide) rfl
    have hK9 := hK.sub (tys' := []) [] rfl
    exact W.zret (v := 0) hx hb hr rfl (fun t ht hW => ⟨⟨0, (), rfl, Or.inl ⟨by first | assumption | omega, rfl⟩, by rw [ht]; exact hP9, va_K.moved hW.alike hK9, hD9⟩, hS.F ht⟩) hS.2.2 dX12_within_18
  · have t_1 : 0 ≤ xv0 := by have h := kk_nLt c_1; have e1 : (0 : Int64).toInt = 0 := (by decide); omega
    refine lv_lload_n hx hb dX12_within_6 rfl (lv_at hl 0 rfl) ?_
    refine lv_lload hx hb dX12_within_7 (lv_at hl 2 rfl) ?_
    refine W.lcmp hx hb dX12_within_9 ?_
    refine lv_if_gt (tgt := 17) hx hb dX12_within_10 (by decide) (fun c_2 => ?_) (fun c_2 => ?_)
    · have t_2 : 999 < xv0 := by have h := kk_Gt c_2; have e1 : (999 : Int64).toInt = 999 := (by decide); omega
      refine lv_iconst (v := 0) hx hb dX12_within_17 (by decide) ?_
      have hP9 := hP.sub (ws' := []) [] rfl
      have hD9 := hD.sub (ws' := []) [] (by decide) rfl
      have hK9 := hK.sub (tys' := []) [] rfl
      exact W.zret (v := 0) hx hb hr rfl (fun t ht hW => ⟨⟨0, (), rfl, Or.inr (Or.inl ⟨by first | assumption | omega, by first | assumption | omega, rfl⟩), by rw [ht]; exact hP9, va_K.moved hW.alike hK9, hD9⟩, hS.F ht⟩) hS.2.2 dX12_within_18
    · have t_2 : xv0 ≤ 999 := by have h := kk_nGt c_2; have e1 : (999 : Int64).toInt = 999 := (by decide); omega
      refine lv_iconst (v := 1) hx hb dX12_within_13 (by decide) ?_
      refine lv_goto (tgt := 18) hx hb dX12_within_14 (by decide) ?_
      have hP9 := hP.sub (ws' := []) [] rfl
      have hD9 := hD.sub (ws' := []) [] (by decide) rfl
      have hK9 := hK.sub (tys' := []) [] rfl
      exact W.zret (v := 1) hx hb hr rfl (fun t ht hW => ⟨⟨1, (), rfl, Or.inr (Or.inr (⟨by first | assumption | omega, by first | assumption | omega, rfl⟩)), by rw [ht]; exact hP9, va_K.moved hW.alike hK9, hD9⟩, hS.F ht⟩) hS.2.2 dX12_within_18
set_option maxHeartbeats 4000000 in
set_option maxRecDepth 100000 in
theorem k_X12_told_0 (l : Launch) (dC : Nat → ClassId) (dI : Nat → Nat → Nat) (h0 h1 h2 h3 h4 h5 h6 h7 h8 h9 h10 h11 h12 h13 h14 h15 h16 h17 h18 h19 h20 h21 h22 h23 h24 h25 h26 h27 h28 h29 : Nat) (cint : ClassId) (sz : Nat) (p0 : Int32) (p1 : Int32) (p2 : Int32) : Met l yX12_told wsX12_told ({ frames := 0, cells := 0, slots := 0, locals := 0 }) (va_Pc [.ref h0, .int p0, .int p1, .int p2] (fun U => U.heap.size = sz ∧ va_P (dC, dI) vwCl [(h0, .inr (12, [.int 0, .ref h4, .ref h5, .ref h6, .ref h7, .ref h8, .int 0, .int 0, .ref h9, .int 0, .int 0, .ref h10, .ref h11, .ref h12, .ref h13, .ref h14, .ref h15, .ref h16, .int 0, .int 0, .ref h1, .ref h2, .ref h3, .ref h17, .int 0, .ref h18, .ref h19, .int 0, .ref h20, .int 0, .int 0, .ref h21, .ref h22, .int 0, .int 0, .int 0, .int 0, .int 0, .ref h23, .int 0, .ref h24, .ref h25, .int 0, .int 0, .int 0, .ref h26, .ref h27, .ref h28, .ref h29])), (h1, .inl (cint, 10, .inl (fun _ => 0))), (h2, .inl (cint, 10, .inl (fun _ => 0))), (h3, .inl (cint, 10, .inl (fun _ => 0)))] U.heap ∧ va_K (dC, dI) vwCl [(cint, .int)] U ∧ va_D (fun _ => True) [(h0, .inr (12, [.int 0, .ref h4, .ref h5, .ref h6, .ref h7, .ref h8, .int 0, .int 0, .ref h9, .int 0, .int 0, .ref h10, .ref h11, .ref h12, .ref h13, .ref h14, .ref h15, .ref h16, .int 0, .int 0, .ref h1, .ref h2, .ref h3, .ref h17, .int 0, .ref h18, .ref h19, .int 0, .ref h20, .int 0, .int 0, .ref h21, .ref h22, .int 0, .int 0, .int 0, .int 0, .int 0, .ref h23, .int 0, .ref h24, .ref h25, .int 0, .int 0, .int 0, .ref h26, .ref h27, .ref h28, .ref h29])), (h1, .inl (cint, 10, .inl (fun _ => 0))), (h2, .inl (cint, 10, .inl (fun _ => 0))), (h3, .inl (cint, 10, .inl (fun _ => 0)))])) (va_Qi (fun (r : Int32) (_ : Unit) => r = 1) (fun (_ : Unit) t => va_P (dC, dI) vwCl [] t.heap ∧ va_K (dC, dI) vwCl [] t ∧ va_D (va_A [(h0, .inr (12, [.int 0, .ref h4, .ref h5, .ref h6, .ref h7, .ref h8, .int 0, .int 0, .ref h9, .int 0, .int 0, .ref h10, .ref h11, .ref h12, .ref h13, .ref h14, .ref h15, .ref h16, .int 0, .int 0, .ref h1, .ref h2, .ref h3, .ref h17, .int 0, .ref h18, .ref h19, .int 0, .ref h20, .int 0, .int 0, .ref h21, .ref h22, .int 0, .int 0, .int 0, .int 0, .int 0, .ref h23, .int 0, .ref h24, .ref h25, .int 0, .int 0, .int 0, .ref h26, .ref h27, .ref h28, .ref h29])), (h1, .inl (cint, 10, .inl (fun _ => 0))), (h2, .inl (cint, 10, .inl (fun _ => 0))), (h3, .inl (cint, 10, .inl (fun _ => 0)))] sz) []) (va_A [(h0, .inr (12, [.int 0, .ref h4, .ref h5, .ref h6, .ref h7, .ref h8, .int 0, .int 0, .ref h9, .int 0, .int 0, .ref h10, .ref h11, .ref h12, .ref h13, .ref h14, .ref h15, .ref h16, .int 0, .int 0, .ref h1, .ref h2, .ref h3, .ref h17, .int 0, .ref h18, .ref h19, .int 0, .ref h20, .int 0, .int 0, .ref h21, .ref h22, .int 0, .int 0, .int 0, .int 0, .int 0, .ref h23, .int 0, .ref h24, .ref h25, .int 0, .int 0, .int 0, .ref h26, .ref h27, .ref h28, .ref h29])), (h1, .inl (cint, 10, .inl (fun _ => 0))), (h2, .inl (cint, 10, .inl (fun _ => 0))), (h3, .inl (cint, 10, .inl (fun _ => 0)))] sz)) 0 0 (va_A [(h0, .inr (12, [.int 0, .ref h4, .ref h5, .ref h6, .ref h7, .ref h8, .int 0, .int 0, .ref h9, .int 0, .int 0, .ref h10, .ref h11, .ref h12, .ref h13, .ref h14, .ref h15, .ref h16, .int 0, .int 0, .ref h1, .ref h2, .ref h3, .ref h17, .int 0, .ref h18, .ref h19, .int 0, .ref h20, .int 0, .int 0, .ref h21, .ref h22, .int 0, .int 0, .int 0, .int 0, .int 0, .ref h23, .int 0, .ref h24, .ref h25, .int 0, .int 0, .int 0, .ref h26, .ref h27, .ref h28, .ref h29])), (h1, .inl (cint, 10, .inl (fun _ => 0))), (h2, .inl (cint, 10, .inl (fun _ => 0))), (h3, .inl (cint, 10, .inl (fun _ => 0)))] sz) := by
  refine Met.ofW (cc := cX12_told) (maxL := 4) (ret := (some .int)) (by decide) rfl ?_
  intro p e s m args below meth c s₁ B hml hv
  obtain ⟨rfl, hsz, hP, hK, hD0⟩ := hv
  have hx := B.exec
  have hb := B.bytes
  have hr := B.returns
  have hts := atoms_spec (ws := wsX12_told) B.pre
  have hown : s.vm.findClass RX12 = some m.cls := findClass_of_methodNamed B.named
  have hlocks := B.notSynchronized
  subst hsz
  have hD := hD0.self (sz := s.heap.size)
  generalize hAe : va_A [(h0, .inr (12, [.int 0, .ref h4, .ref h5, .ref h6, .ref h7, .ref h8, .int 0, .int 0, .ref h9, .int 0, .int 0, .ref h10, .ref h11, .ref h12, .ref h13, .ref h14, .ref h15, .ref h16, .int 0, .int 0, .ref h1, .ref h2, .ref h3, .ref h17, .int 0, .ref h18, .ref h19, .int 0, .ref h20, .int 0, .int 0, .ref h21, .ref h22, .int 0, .int 0, .int 0, .int 0, .int 0, .ref h23, .int 0, .ref h24, .ref h25, .int 0, .int 0, .int 0, .ref h26, .ref h27, .ref h28, .ref h29])), (h1, .inl (cint, 10, .inl (fun _ => 0))), (h2, .inl (cint, 10, .inl (fun _ => 0))), (h3, .inl (cint, 10, .inl (fun _ => 0)))] s.heap.size = A at hD ⊢
  have hA : ∀ q : Nat, s.heap.size ≤ q → A q := fun q h => by rw [← hAe]; exact Or.inr h
  have hS : va_S A s.heap s.heap [] := va_S.rf
  have hP : va_P (dC, dI) vwCl [(h0, .inr (12, [.int 0, .ref h4, .ref h5, .ref h6, .ref h7, .ref h8, .int 0, .int 0, .ref h9, .int 0, .int 0, .ref h10, .ref h11, .ref h12, .ref h13, .ref h14, .ref h15, .ref h16, .int 0, .int 0, .ref h1, .ref h2, .ref h3, .ref h17, .int 0, .ref h18, .ref h19, .int 0, .ref h20, .int 0, .int 0, .ref h21, .ref h22, .int 0, .int 0, .int 0, .int 0, .int 0, .ref h23, .int 0, .ref h24, .ref h25, .int 0, .int 0, .int 0, .ref h26, .ref h27, .ref h28, .ref h29])), (h1, .inl (cint, 10, .inl (fun _ => 0))), (h2, .inl (cint, 10, .inl (fun _ => 0))), (h3, .inl (cint, 10, .inl (fun _ => 0)))] s.heap := hP
  have hl := lv_entry ([.ref h0, .int p0, .int p1, .int p2]) (n := 4) (Nat.le_of_ble_eq_true rfl)
  rw [lg_entry_eq]
  generalize (lg_sl ([.ref h0, .int p0, .int p1, .int p2]) ++ List.replicate (4 - (lg_sl ([.ref h0, .int p0, .int p1, .int p2])).length) Slot.unset).toArray = ls at hl ⊢
  have hl : lv_has ls 4 [(0, .ref h0), (1, .int p0), (2, .int p1), (3, .int p2)] := hl
  refine lv_aload_n hx hb dX12_told_0 rfl (lv_at hl 0 rfl) ?_
  refine va_get (D := (dC, dI)) (ci := 12) (v := .int 0) (C := RX12) (T := TX12) (N := 49) hx hb hts (fun _ h => List.mem_cons_of_mem _ (List.mem_append_right _ h)) hown hK hP 0 rfl rfl 19 (by decide) (hts (.fieldLink RX12 229 "KinkStreetModel" "deeds" "I") (List.mem_of_getElem? (i := 1) rfl)) (fun _ h9 => h9) rfl dX12_told_1 ?_
  refine lv_bipush (v := 10) hx hb dX12_told_4 (by decide) ?_
  refine lv_icmp_ne (tgt := 12) hx hb dX12_told_6 (by decide) (fun _ => ?_) (fun c => absurd c (by decide))
  refine lv_aload_n hx hb dX12_told_12 rfl (lv_at hl 0 rfl) ?_
  refine va_get (D := (dC, dI)) (ci := 12) (v := .ref h1) (C := RX12) (T := TX12) (N := 49) hx hb hts (fun _ h => List.mem_cons_of_mem _ (List.mem_append_right _ h)) hown hK hP 0 rfl rfl 20 (by decide) (hts (.fieldLink RX12 50 "KinkStreetModel" "deedName" "[I") (List.mem_of_getElem? (i := 2) rfl)) (fun _ h9 => h9) rfl dX12_told_13 ?_
  refine lv_aload_n hx hb dX12_told_16 rfl (lv_at hl 0 rfl) ?_
  refine va_get (D := (dC, dI)) (ci := 12) (v := .int 0) (C := RX12) (T := TX12) (N := 49) hx hb hts (fun _ h => List.mem_cons_of_mem _ (List.mem_append_right _ h)) hown hK hP 0 rfl rfl 19 (by decide) (hts (.fieldLink RX12 229 "KinkStreetModel" "deeds" "I") (List.mem_of_getElem? (i := 1) rfl)) (fun _ h9 => h9) rfl dX12_told_17 ?_
  refine lv_iload_n hx hb dX12_told_20 rfl (lv_at hl 1 rfl) ?_
  refine va_iast hx hb hK hP hD hS 1 0 rfl rfl (by unfold vp_in; decide) dX12_told_21 (fun H locs hP hD hS => ?_)
  have hP : va_P (dC, dI) vwCl [(h0, .inr (12, [.int 0, .ref h4, .ref h5, .ref h6, .ref h7, .ref h8, .int 0, .int 0, .ref h9, .int 0, .int 0, .ref h10, .ref h11, .ref h12, .ref h13, .ref h14, .ref h15, .ref h16, .int 0, .int 0, .ref h1, .ref h2, .ref h3, .ref h17, .int 0, .ref h18, .ref h19, .int 0, .ref h20, .int 0, .int 0, .ref h21, .ref h22, .int 0, .int 0, .int 0, .int 0, .int 0, .ref h23, .int 0, .ref h24, .ref h25, .int 0, .int 0, .int 0, .ref h26, .ref h27, .ref h28, .ref h29])), (h1, .inl (cint, 10, .inl (upd (fun _ => 0) (0 : Int32).toNatClampNeg p0))), (h2, .inl (cint, 10, .inl (fun _ => 0))), (h3, .inl (cint, 10, .inl (fun _ => 0)))] H := hP
  have hD : va_D A [(h0, .inr (12, [.int 0, .ref h4, .ref h5, .ref h6, .ref h7, .ref h8, .int 0, .int 0, .ref h9, .int 0, .int 0, .ref h10, .ref h11, .ref h12, .ref h13, .ref h14, .ref h15, .ref h16, .int 0, .int 0, .ref h1, .ref h2, .ref h3, .ref h17, .int 0, .ref h18, .ref h19, .int 0, .ref h20, .int 0, .int 0, .ref h21, .ref h22, .int 0, .int 0, .int 0, .int 0, .int 0, .ref h23, .int 0, .ref h24, .ref h25, .int 0, .int 0, .int 0, .ref h26, .ref h27, .ref h28, .ref h29])), (h1, .inl (cint, 10, .inl (upd (fun _ => 0) (0 : Int32).toNatClampNeg p0))), (h2, .inl (cint, 10, .inl (fun _ => 0))), (h3, .inl (cint, 10, .inl (fun _ => 0)))] := hD
  refine lv_aload_n hx hb dX12_told_22 rfl (lv_at hl 0 rfl) ?_
  refine va_get (D := (dC, dI)) (ci := 12) (v := .ref h2) (C := RX12) (T := TX12) (N := 49) hx hb hts (fun _ h => List.mem_cons_of_mem _ (List.mem_append_right _ h)) hown hK hP 0 rfl rfl 21 (by decide) (hts (.fieldLink RX12 53 "KinkStreetModel" "deedFrom" "[I") (List.mem_of_getElem? (i := 3) rfl)) (fun _ h9 => h9) rfl dX12_told_23 ?_
  refine lv_aload_n hx hb dX12_told_26 rfl (lv_at hl 0 rfl) ?_
  refine va_get (D := (dC, dI)) (ci := 12) (v := .int 0) (C := RX12) (T := TX12) (N := 49) hx hb hts (fun _ h => List.mem_cons_of_mem _ (List.mem_append_right _ h)) hown hK hP 0 rfl rfl 19 (by decide) (hts (.fieldLink RX12 229 "KinkStreetModel" "deeds" "I") (List.mem_of_getElem? (i := 1) rfl)) (fun _ h9 => h9) rfl dX12_told_27 ?_
  refine lv_iload_n hx hb dX12_told_30 rfl (lv_at hl 2 rfl) ?_
  refine va_iast hx hb hK hP hD hS 2 0 rfl rfl (by unfold vp_in; decide) dX12_told_31 (fun H locs hP hD hS => ?_)
  have hP : va_P (dC, dI) vwCl [(h0, .inr (12, [.int 0, .ref h4, .ref h5, .ref h6, .ref h7, .ref h8, .int 0, .int 0, .ref h9, .int 0, .int 0, .ref h10, .ref h11, .ref h12, .ref h13, .ref h14, .ref h15, .ref h16, .int 0, .int 0, .ref h1, .ref h2, .ref h3, .ref h17, .int 0, .ref h18, .ref h19, .int 0, .ref h20, .int 0, .int 0, .ref h21, .ref h22, .int 0, .int 0, .int 0, .int 0, .int 0, .ref h23, .int 0, .ref h24, .ref h25, .int 0, .int 0, .int 0, .ref h26, .ref h27, .ref h28, .ref h29])), (h1, .inl (cint, 10, .inl (upd (fun _ => 0) (0 : Int32).toNatClampNeg p0))), (h2, .inl (cint, 10, .inl (upd (fun _ => 0) (0 : Int32).toNatClampNeg p1))), (h3, .inl (cint, 10, .inl (fun _ => 0)))] H := hP
  have hD : va_D A [(h0, .inr (12, [.int 0, .ref h4, .ref h5, .ref h6, .ref h7, .ref h8, .int 0, .int 0, .ref h9, .int 0, .int 0, .ref h10, .ref h11, .ref h12, .ref h13, .ref h14, .ref h15, .ref h16, .int 0, .int 0, .ref h1, .ref h2, .ref h3, .ref h17, .int 0, .ref h18, .ref h19, .int 0, .ref h20, .int 0, .int 0, .ref h21, .ref h22, .int 0, .int 0, .int 0, .int 0, .int 0, .ref h23, .int 0, .ref h24, .ref h25, .int 0, .int 0, .int 0, .ref h26, .ref h27, .ref h28, .ref h29])), (h1, .inl (cint, 10, .inl (upd (fun _ => 0) (0 : Int32).toNatClampNeg p0))), (h2, .inl (cint, 10, .inl (upd (fun _ => 0) (0 : Int32).toNatClampNeg p1))), (h3, .inl (cint, 10, .inl (fun _ => 0)))] := hD
  refine lv_aload_n hx hb dX12_told_32 rfl (lv_at hl 0 rfl) ?_
  refine va_get (D := (dC, dI)) (ci := 12) (v := .ref h3) (C := RX12) (T := TX12) (N := 49) hx hb hts (fun _ h => List.mem_cons_of_mem _ (List.mem_append_right _ h)) hown hK hP 0 rfl rfl 22 (by decide) (hts (.fieldLink RX12 56 "KinkStreetModel" "deedBy" "[I") (List.mem_of_getElem? (i := 4) rfl)) (fun _ h9 => h9) rfl dX12_told_33 ?_
  refine lv_aload_n hx hb dX12_told_36 rfl (lv_at hl 0 rfl) ?_
  refine va_get (D := (dC, dI)) (ci := 12) (v := .int 0) (C := RX12) (T := TX12) (N := 49) hx hb hts (fun _ h => List.mem_cons_of_mem _ (List.mem_append_right _ h)) hown hK hP 0 rfl rfl 19 (by decide) (hts (.fieldLink RX12 229 "KinkStreetModel" "deeds" "I") (List.mem_of_getElem? (i := 1) rfl)) (fun _ h9 => h9) rfl dX12_told_37 ?_
  refine lv_iload_n hx hb dX12_told_40 rfl (lv_at hl 3 rfl) ?_
  refine va_iast hx hb hK hP hD hS 3 0 rfl rfl (by unfold vp_in; decide) dX12_told_41 (fun H locs hP hD hS => ?_)
  have hP : va_P (dC, dI) vwCl [(h0, .inr (12, [.int 0, .ref h4, .ref h5, .ref h6, .ref h7, .ref h8, .int 0, .int 0, .ref h9, .int 0, .int 0, .ref h10, .ref h11, .ref h12, .ref h13, .ref h14, .ref h15, .ref h16, .int 0, .int 0, .ref h1, .ref h2, .ref h3, .ref h17, .int 0, .ref h18, .ref h19, .int 0, .ref h20, .int 0, .int 0, .ref h21, .ref h22, .int 0, .int 0, .int 0, .int 0, .int 0, .ref h23, .int 0, .ref h24, .ref h25, .int 0, .int 0, .int 0, .ref h26, .ref h27, .ref h28, .ref h29])), (h1, .inl (cint, 10, .inl (upd (fun _ => 0) (0 : Int32).toNatClampNeg p0))), (h2, .inl (cint, 10, .inl (upd (fun _ => 0) (0 : Int32).toNatClampNeg p1))), (h3, .inl (cint, 10, .inl (upd (fun _ => 0) (0 : Int32).toNatClampNeg p2)))] H := hP
  have hD : va_D A [(h0, .inr (12, [.int 0, .ref h4, .ref h5, .ref h6, .ref h7, .ref h8, .int 0, .int 0, .ref h9, .int 0, .int 0, .ref h10, .ref h11, .ref h12, .ref h13, .ref h14, .ref h15, .ref h16, .int 0, .int 0, .ref h1, .ref h2, .ref h3, .ref h17, .int 0, .ref h18, .ref h19, .int 0, .ref h20, .int 0, .int 0, .ref h21, .ref h22, .int 0, .int 0, .int 0, .int 0, .int 0, .ref h23, .int 0, .ref h24, .ref h25, .int 0, .int 0, .int 0, .ref h26, .ref h27, .ref h28, .ref h29])), (h1, .inl (cint, 10, .inl (upd (fun _ => 0) (0 : Int32).toNatClampNeg p0))), (h2, .inl (cint, 10, .inl (upd (fun _ => 0) (0 : Int32).toNatClampNeg p1))), (h3, .inl (cint, 10, .inl (upd (fun _ => 0) (0 : Int32).toNatClampNeg p2)))] := hD
  refine lv_aload_n hx hb dX12_told_42 rfl (lv_at hl 0 rfl) ?_
  refine lv_dup hx hb dX12_told_43 rfl ?_
  refine va_get (D := (dC, dI)) (ci := 12) (v := .int 0) (C := RX12) (T := TX12) (N := 49) hx hb hts (fun _ h => List.mem_cons_of_mem _ (List.mem_append_right _ h)) hown hK hP 0 rfl rfl 19 (by decide) (hts (.fieldLink RX12 229 "KinkStreetModel" "deeds" "I") (List.mem_of_getElem? (i := 1) rfl)) (fun _ h9 => h9) rfl dX12_told_44 ?_
  refine lv_iconst (v := 1) hx hb dX12_told_47 (by decide) ?_
  refine lv_iadd hx hb dX12_told_48 ?_
  refine lv_topi (fun y_1 e_1 => ?_)
  obtain rfl : y_1 = 1 := e_1.trans (by decide)
  refine va_put (D := (dC, dI)) (ci := 12) (v := .int 1) (ty := .int) (C := RX12) (T := TX12) (N := 49) hx hb hts (fun _ h => List.mem_cons_of_mem _ (List.mem_append_right _ h)) tyX12 tyX12_ok nmX12 hown hK hP hD hS 0 rfl rfl 19 (by decide) (hts (.fieldLink RX12 229 "KinkStreetModel" "deeds" "I") (List.mem_of_getElem? (i := 1) rfl)) (fun _ h9 => h9) rfl (by decide +kernel) rfl rfl (Nat.le_of_ble_eq_true rfl) dX12_told_49 (fun H locs hP hD hS => ?_)
  have hP : va_P (dC, dI) vwCl [(h0, .inr (12, [.int 0, .ref h4, .ref h5, .ref h6, .ref h7, .ref h8, .int 0, .int 0, .ref h9, .int 0, .int 0, .ref h10, .ref h11, .ref h12, .ref h13, .ref h14, .ref h15, .ref h16, .int 0, .int 1, .ref h1, .ref h2, .ref h3, .ref h17, .int 0, .ref h18, .ref h19, .int 0, .ref h20, .int 0, .int 0, .ref h21, .ref h22, .int 0, .int 0, .int 0, .int 0, .int 0, .ref h23, .int 0, .ref h24, .ref h25, .int 0, .int 0, .int 0, .ref h26, .ref h27, .ref h28, .ref h29])), (h1, .inl (cint, 10, .inl (upd (fun _ => 0) (0 : Int32).toNatClampNeg p0))), (h2, .inl (cint, 10, .inl (upd (fun _ => 0) (0 : Int32).toNatClampNeg p1))), (h3, .inl (cint, 10, .inl (upd (fun _ => 0) (0 : Int32).toNatClampNeg p2)))] H := hP
  have hD : va_D A [(h0, .inr (12, [.int 0, .ref h4, .ref h5, .ref h6, .ref h7, .ref h8, .int 0, .int 0, .ref h9, .int 0, .int 0, .ref h10, .ref h11, .ref h12, .ref h13, .ref h14, .ref h15, .ref h16, .int 0, .int 1, .ref h1, .ref h2, .ref h3, .ref h17, .int 0, .ref h18, .ref h19, .int 0, .ref h20, .int 0, .int 0, .ref h21, .ref h22, .int 0, .int 0, .int 0, .int 0, .int 0, .ref h23, .int 0, .ref h24, .ref h25, .int 0, .int 0, .int 0, .ref h26, .ref h27, .ref h28, .ref h29])), (h1, .inl (cint, 10, .inl (upd (fun _ => 0) (0 : Int32).toNatClampNeg p0))), (h2, .inl (cint, 10, .inl (upd (fun _ => 0) (0 : Int32).toNatClampNeg p1))), (h3, .inl (cint, 10, .inl (upd (fun _ => 0) (0 : Int32).toNatClampNeg p2)))] := hD
  refine lv_aload_n hx hb dX12_told_52 rfl (lv_at hl 0 rfl) ?_
  refine va_get (D := (dC, dI)) (ci := 12) (v := .int 1) (C := RX12) (T := TX12) (N := 49) hx hb hts (fun _ h => List.mem_cons_of_mem _ (List.mem_append_right _ h)) hown hK hP 0 rfl rfl 19 (by decide) (hts (.fieldLink RX12 229 "KinkStreetModel" "deeds" "I") (List.mem_of_getElem? (i := 1) rfl)) (fun _ h9 => h9) rfl dX12_told_53 ?_
  have hP9 := hP.sub (ws' := []) [] rfl
  have hD9 := hD.sub (ws' := []) [] (by decide) rfl
  have hK9 := hK.sub (tys' := []) [] rfl
  exact W.iret (v := 1) hx hb hr (fun t ht hW => ⟨⟨1, (), rfl, rfl, by rw [ht]; exact hP9, va_K.moved hW.alike hK9, hD9⟩, hS.F ht⟩) hS.2.2 dX12_told_56
set_option maxHeartbeats 4000000 in
set_option maxRecDepth 100000 in
theorem k_X12_deed_0 (l : Launch) (dC : Nat → ClassId) (dI : Nat → Nat → Nat) (h0 h1 h2 h3 h4 h5 h6 h7 h8 h9 h10 h11 h12 h13 h14 h15 h16 h17 h18 h19 h20 h21 h22 h23 h24 h25 h26 h27 h28 h29 : Nat) (cint : ClassId) (sz : Nat) (p0 : Int32) (p1 : Int32) : Met l yX12_deed wsX12_deed ({ frames := 2, cells := 0, slots := 0, locals := 45 }) (va_Pc [.ref h0, .int p0, .int p1] (fun U => U.heap.size = sz ∧ va_P (dC, dI) vwCl [(h0, .inr (12, [.int 0, .ref h4, .ref h5, .ref h6, .ref h7, .ref h8, .int 0, .int 0, .ref h9, .int 0, .int 0, .ref h10, .ref h11, .ref h12, .ref h13, .ref h14, .ref h15, .ref h16, .int 0, .int 0, .ref h1, .ref h2, .ref h3, .ref h17, .int 0, .ref h18, .ref h19, .int 0, .ref h20, .int 0, .int 0, .ref h21, .ref h22, .int 0, .int 0, .int 0, .int 0, .int 0, .ref h23, .int 0, .ref h24, .ref h25, .int 0, .int 0, .int 0, .ref h26, .ref h27, .ref h28, .ref h29])), (h1, .inl (cint, 10, .inl (fun _ => 0))), (h2, .inl (cint, 10, .inl (fun _ => 0))), (h3, .inl (cint, 10, .inl (fun _ => 0)))] U.heap ∧ va_K (dC, dI) vwCl [(cint, .int)] U ∧ va_D (fun _ => True) [(h0, .inr (12, [.int 0, .ref h4, .ref h5, .ref h6, .ref h7, .ref h8, .int 0, .int 0, .ref h9, .int 0, .int 0, .ref h10, .ref h11, .ref h12, .ref h13, .ref h14, .ref h15, .ref h16, .int 0, .int 0, .ref h1, .ref h2, .ref h3, .ref h17, .int 0, .ref h18, .ref h19, .int 0, .ref h20, .int 0, .int 0, .ref h21, .ref h22, .int 0, .int 0, .int 0, .int 0, .int 0, .ref h23, .int 0, .ref h24, .ref h25, .int 0, .int 0, .int 0, .ref h26, .ref h27, .ref h28, .ref h29])), (h1, .inl (cint, 10, .inl (fun _ => 0))), (h2, .inl (cint, 10, .inl (fun _ => 0))), (h3, .inl (cint, 10, .inl (fun _ => 0)))])) (va_Qi (fun (r : Int32) (_ : Unit) => r = if 0 ≤ p0.toInt ∧ 0 ≤ (p0 / 10).toInt ∧ (p0 / 10).toInt < 8 ∧ 0 ≤ (p0 - p0 / 10 * 10).toInt ∧ (p0 - p0 / 10 * 10).toInt < 8 ∧ (p0 / 10).toInt ≠ (p0 - p0 / 10 * 10).toInt ∧ 0 ≤ p1.toInt ∧ p1.toInt ≤ 999 then (1 : Int32) else -1) (fun (_ : Unit) t => va_P (dC, dI) vwCl [] t.heap ∧ va_K (dC, dI) vwCl [] t ∧ va_D (va_A [(h0, .inr (12, [.int 0, .ref h4, .ref h5, .ref h6, .ref h7, .ref h8, .int 0, .int 0, .ref h9, .int 0, .int 0, .ref h10, .ref h11, .ref h12, .ref h13, .ref h14, .ref h15, .ref h16, .int 0, .int 0, .ref h1, .ref h2, .ref h3, .ref h17, .int 0, .ref h18, .ref h19, .int 0, .ref h20, .int 0, .int 0, .ref h21, .ref h22, .int 0, .int 0, .int 0, .int 0, .int 0, .ref h23, .int 0, .ref h24, .ref h25, .int 0, .int 0, .int 0, .ref h26, .ref h27, .ref h28, .ref h29])), (h1, .inl (cint, 10, .inl (fun _ => 0))), (h2, .inl (cint, 10, .inl (fun _ => 0))), (h3, .inl (cint, 10, .inl (fun _ => 0)))] sz) []) (va_A [(h0, .inr (12, [.int 0, .ref h4, .ref h5, .ref h6, .ref h7, .ref h8, .int 0, .int 0, .ref h9, .int 0, .int 0, .ref h10, .ref h11, .ref h12, .ref h13, .ref h14, .ref h15, .ref h16, .int 0, .int 0, .ref h1, .ref h2, .ref h3, .ref h17, .int 0, .ref h18, .ref h19, .int 0, .ref h20, .int 0, .int 0, .ref h21, .ref h22, .int 0, .int 0, .int 0, .int 0, .int 0, .ref h23, .int 0, .ref h24, .ref h25, .int 0, .int 0, .int 0, .ref h26, .ref h27, .ref h28, .ref h29])), (h1, .inl (cint, 10, .inl (fun _ => 0))), (h2, .inl (cint, 10, .inl (fun _ => 0))), (h3, .inl (cint, 10, .inl (fun _ => 0)))] sz)) 0 0 (va_A [(h0, .inr (12, [.int 0, .ref h4, .ref h5, .ref h6, .ref h7, .ref h8, .int 0, .int 0, .ref h9, .int 0, .int 0, .ref h10, .ref h11, .ref h12, .ref h13, .ref h14, .ref h15, .ref h16, .int 0, .int 0, .ref h1, .ref h2, .ref h3, .ref h17, .int 0, .ref h18, .ref h19, .int 0, .ref h20, .int 0, .int 0, .ref h21, .ref h22, .int 0, .int 0, .int 0, .int 0, .int 0, .ref h23, .int 0, .ref h24, .ref h25, .int 0, .int 0, .int 0, .ref h26, .ref h27, .ref h28, .ref h29])), (h1, .inl (cint, 10, .inl (fun _ => 0))), (h2, .inl (cint, 10, .inl (fun _ => 0))), (h3, .inl (cint, 10, .inl (fun _ => 0)))] sz) := by
  refine Met.ofW (cc := cX12_deed) (maxL := 3) (ret := (some .int)) (by decide) rfl ?_
  intro p e s m args below meth c s₁ B hml hv
  obtain ⟨rfl, hsz, hP, hK, hD0⟩ := hv
  have hx := B.exec
  have hb := B.bytes
  have hr := B.returns
  have hts := atoms_spec (ws := wsX12_deed) B.pre
  have hown : s.vm.findClass RX12 = some m.cls := findClass_of_methodNamed B.named
  have hlocks := B.notSynchronized
  subst hsz
  have hD := hD0.self (sz := s.heap.size)
  generalize hAe : va_A [(h0, .inr (12, [.int 0, .ref h4, .ref h5, .ref h6, .ref h7, .ref h8, .int 0, .int 0, .ref h9, .int 0, .int 0, .ref h10, .ref h11, .ref h12, .ref h13, .ref h14, .ref h15, .ref h16, .int 0, .int 0, .ref h1, .ref h2, .ref h3, .ref h17, .int 0, .ref h18, .ref h19, .int 0, .ref h20, .int 0, .int 0, .ref h21, .ref h22, .int 0, .int 0, .int 0, .int 0, .int 0, .ref h23, .int 0, .ref h24, .ref h25, .int 0, .int 0, .int 0, .ref h26, .ref h27, .ref h28, .ref h29])), (h1, .inl (cint, 10, .inl (fun _ => 0))), (h2, .inl (cint, 10, .inl (fun _ => 0))), (h3, .inl (cint, 10, .inl (fun _ => 0)))] s.heap.size = A at hD ⊢
  have hA : ∀ q : Nat, s.heap.size ≤ q → A q := fun q h => by rw [← hAe]; exact Or.inr h
  have hS : va_S A s.heap s.heap [] := va_S.rf
  have hP : va_P (dC, dI) vwCl [(h0, .inr (12, [.int 0, .ref h4, .ref h5, .ref h6, .ref h7, .ref h8, .int 0, .int 0, .ref h9, .int 0, .int 0, .ref h10, .ref h11, .ref h12, .ref h13, .ref h14, .ref h15, .ref h16, .int 0, .int 0, .ref h1, .ref h2, .ref h3, .ref h17, .int 0, .ref h18, .ref h19, .int 0, .ref h20, .int 0, .int 0, .ref h21, .ref h22, .int 0, .int 0, .int 0, .int 0, .int 0, .ref h23, .int 0, .ref h24, .ref h25, .int 0, .int 0, .int 0, .ref h26, .ref h27, .ref h28, .ref h29])), (h1, .inl (cint, 10, .inl (fun _ => 0))), (h2, .inl (cint, 10, .inl (fun _ => 0))), (h3, .inl (cint, 10, .inl (fun _ => 0)))] s.heap := hP
  have hl := lv_entry ([.ref h0, .int p0, .int p1]) (n := 3) (Nat.le_of_ble_eq_true rfl)
  rw [lg_entry_eq]
  generalize (lg_sl ([.ref h0, .int p0, .int p1]) ++ List.replicate (3 - (lg_sl ([.ref h0, .int p0, .int p1])).length) Slot.unset).toArray = ls at hl ⊢
  have hl : lv_has ls 3 [(0, .ref h0), (1, .int p0), (2, .int p1)] := hl
  refine lv_iload_n hx hb dX12_deed_0 rfl (lv_at hl 1 rfl) ?_
  refine lv_if_lt (tgt := 63) hx hb dX12_deed_1 (by decide) (fun c_1 => ?_) (fun c_1 => ?_)
  · have t_1 : p0.toInt < 0 := kk_lt c_1
    refine lv_iconst (v := (-1)) hx hb dX12_deed_63 (by decide) ?_
    have hP9 := hP.sub (ws' := []) [] rfl
    have hD9 := hD.sub (ws' := []) [] (by decide) rfl
    have hK9 := hK.sub (tys' := []) [] rfl
    exact W.iret (v := (-1)) hx hb hr (fun t ht hW => ⟨⟨(-1), (), rfl, by first | rfl | ((repeat' split) <;> first | rfl | (exfalso; omega) | (exact Int32.toInt_inj.mp (by show ((-1) : Int) = _; omega))), by rw [ht]; exact hP9, va_K.moved hW.alike hK9, hD9⟩, hS.F ht⟩) hS.2.2 dX12_deed_64
  · have t_1 : 0 ≤ p0.toInt := kk_nlt c_1
    refine lv_iload_n hx hb dX12_deed_4 rfl (lv_at hl 1 rfl) ?_
    refine lv_bipush (v := 10) hx hb dX12_deed_5 (by decide) ?_
    refine lv_idiv hx hb dX12_deed_7 (by decide) ?_
    have hPc := hP.sub (ws' := []) [] rfl
    have hDc := hD.sub (ws' := []) [] (by decide) rfl
    have hKc := hK.sub (tys' := []) [] rfl
    have hFc := va_free (wc := []) hD hS hA [] rfl
    refine va_calli (va_runS (As := [.int (p0 / 10)]) (rest := []) ⟨hx, hb, hml, hown, hts⟩ (k_X12_isName_0 l dC dI s.heap.size (p0 / 10)) (va_cwS 1 hts gX12_deed_X12_isName rfl rfl rfl (by decide +kernel) ⟨Nat.le_of_ble_eq_true rfl, Nat.le_of_ble_eq_true rfl⟩) ⟨fun a U g mk q => by obtain ⟨q0, q1, qP, qK, qD⟩ := q; exact ⟨q0, q1, qP, va_K.moved (u := U) (U := U.calling g mk a) (Vm.Alike.refl U.vm) qK, qD⟩, fun U hU hW => ⟨rfl, by rw [hU], by rw [hU]; exact hPc, va_K.moved hW.alike hKc, hDc.weaken (fun _ _ _ _ => trivial)⟩⟩ rfl rfl hl.1 rfl (lv_room (Nat.le_of_ble_eq_true rfl)) dX12_deed_8 ⟨Nat.le_of_ble_eq_true rfl, Nat.le_of_ble_eq_true rfl⟩) hS (fun q _ h => hFc q h) hFc (fun r_2 u t H1 locs ht hvm hw hB hz1 hk1 hS => ?_)
    obtain ⟨hP1, hK1, hD1⟩ := hB
    rw [ht] at hP1
    have hK1 := va_K.moved hvm.symm hK1
    obtain ⟨hP, hD⟩ := va_join (wr := [(h0, .inr (12, [.int 0, .ref h4, .ref h5, .ref h6, .ref h7, .ref h8, .int 0, .int 0, .ref h9, .int 0, .int 0, .ref h10, .ref h11, .ref h12, .ref h13, .ref h14, .ref h15, .ref h16, .int 0, .int 0, .ref h1, .ref h2, .ref h3, .ref h17, .int 0, .ref h18, .ref h19, .int 0, .ref h20, .int 0, .int 0, .ref h21, .ref h22, .int 0, .int 0, .int 0, .int 0, .int 0, .ref h23, .int 0, .ref h24, .ref h25, .int 0, .int 0, .int 0, .ref h26, .ref h27, .ref h28, .ref h29])), (h1, .inl (cint, 10, .inl (fun _ => 0))), (h2, .inl (cint, 10, .inl (fun _ => 0))), (h3, .inl (cint, 10, .inl (fun _ => 0)))]) (w1 := []) hP hD [] [0, 1, 2, 3] rfl rfl (by decide) (by decide) hk1 hFc hP1 hD1
    generalize H1 = H at hP hS ⊢
    have hP : va_P (dC, dI) vwCl [(h0, .inr (12, [.int 0, .ref h4, .ref h5, .ref h6, .ref h7, .ref h8, .int 0, .int 0, .ref h9, .int 0, .int 0, .ref h10, .ref h11, .ref h12, .ref h13, .ref h14, .ref h15, .ref h16, .int 0, .int 0, .ref h1, .ref h2, .ref h3, .ref h17, .int 0, .ref h18, .ref h19, .int 0, .ref h20, .int 0, .int 0, .ref h21, .ref h22, .int 0, .int 0, .int 0, .int 0, .int 0, .ref h23, .int 0, .ref h24, .ref h25, .int 0, .int 0, .int 0, .ref h26, .ref h27, .ref h28, .ref h29])), (h1, .inl (cint, 10, .inl (fun _ => 0))), (h2, .inl (cint, 10, .inl (fun _ => 0))), (h3, .inl (cint, 10, .inl (fun _ => 0)))] H := hP
    have hD : va_D A [(h0, .inr (12, [.int 0, .ref h4, .ref h5, .ref h6, .ref h7, .ref h8, .int 0, .int 0, .ref h9, .int 0, .int 0, .ref h10, .ref h11, .ref h12, .ref h13, .ref h14, .ref h15, .ref h16, .int 0, .int 0, .ref h1, .ref h2, .ref h3, .ref h17, .int 0, .ref h18, .ref h19, .int 0, .ref h20, .int 0, .int 0, .ref h21, .ref h22, .int 0, .int 0, .int 0, .int 0, .int 0, .ref h23, .int 0, .ref h24, .ref h25, .int 0, .int 0, .int 0, .ref h26, .ref h27, .ref h28, .ref h29])), (h1, .inl (cint, 10, .inl (fun _ => 0))), (h2, .inl (cint, 10, .inl (fun _ => 0))), (h3, .inl (cint, 10, .inl (fun _ => 0)))] := hD
    rcases hw with ⟨t_2_0, rfl⟩ | ⟨t_2_0, t_2_1, rfl⟩ | ⟨t_2_0, t_2_1, rfl⟩
    · exfalso; have := kk_div (x := p0) (k := 10) (n := 10) rfl (by decide) (by omega); omega
    · skip
      refine lv_if_eq (tgt := 63) hx hb dX12_deed_11 (by decide) (fun _ => ?_) (fun c => absurd c (by decide))
      refine lv_iconst (v := (-1)) hx hb dX12_deed_63 (by decide) ?_
      have hP9 := hP.sub (ws' := []) [] rfl
      have hD9 := hD.sub (ws' := []) [] (by decide) rfl
      have hK9 := hK.sub (tys' := []) [] rfl
      exact W.iret (v := (-1)) hx hb hr (fun t ht hW => ⟨⟨(-1), (), rfl, by first | rfl | ((repeat' split) <;> first | rfl | (exfalso; have := kk_div (x := p0) (k := 10) (n := 10) rfl (by decide) (by omega); omega) | (exact Int32.toInt_inj.mp (by show ((-1) : Int) = _; omega))), by rw [ht]; exact hP9, va_K.moved hW.alike hK9, hD9⟩, hS.F ht⟩) hS.2.2 dX12_deed_64
    · skip
      refine lv_if_eq (tgt := 63) hx hb dX12_deed_11 (by decide) (fun c => absurd c (by decide)) (fun _ => ?_)
      refine lv_iload_n hx hb dX12_deed_14 rfl (lv_at hl 1 rfl) ?_
      refine lv_bipush (v := 10) hx hb dX12_deed_15 (by decide) ?_
      refine lv_irem hx hb dX12_deed_17 (by decide) ?_
      have hPc := hP.sub (ws' := []) [] rfl
      have hDc := hD.sub (ws' := []) [] (by decide) rfl
      have hKc := hK.sub (tys' := []) [] rfl
      have hFc := va_free (wc := []) hD hS hA [] rfl
      refine va_calli (va_runS (As := [.int (p0 - p0 / 10 * 10)]) (rest := []) ⟨hx, hb, hml, hown, hts⟩ (k_X12_isName_0 l dC dI H.size (p0 - p0 / 10 * 10)) (va_cwS 1 hts gX12_deed_X12_isName rfl rfl rfl (by decide +kernel) ⟨Nat.le_of_ble_eq_true rfl, Nat.le_of_ble_eq_true rfl⟩) ⟨fun a U g mk q => by obtain ⟨q0, q1, qP, qK, qD⟩ := q; exact ⟨q0, q1, qP, va_K.moved (u := U) (U := U.calling g mk a) (Vm.Alike.refl U.vm) qK, qD⟩, fun U hU hW => ⟨rfl, by rw [hU], by rw [hU]; exact hPc, va_K.moved hW.alike hKc, hDc.weaken (fun _ _ _ _ => trivial)⟩⟩ rfl rfl hl.1 rfl (lv_room (Nat.le_of_ble_eq_true rfl)) dX12_deed_18 ⟨Nat.le_of_ble_eq_true rfl, Nat.le_of_ble_eq_true rfl⟩) hS (fun q _ h => hFc q h) hFc (fun r_3 u t H1 locs ht hvm hw hB hz1 hk1 hS => ?_)
      obtain ⟨hP1, hK1, hD1⟩ := hB
      rw [ht] at hP1
      have hK1 := va_K.moved hvm.symm hK1
      obtain ⟨hP, hD⟩ := va_join (wr := [(h0, .inr (12, [.int 0, .ref h4, .ref h5, .ref h6, .ref h7, .ref h8, .int 0, .int 0, .ref h9, .int 0, .int 0, .ref h10, .ref h11, .ref h12, .ref h13, .ref h14, .ref h15, .ref h16, .int 0, .int 0, .ref h1, .ref h2, .ref h3, .ref h17, .int 0, .ref h18, .ref h19, .int 0, .ref h20, .int 0, .int 0, .ref h21, .ref h22, .int 0, .int 0, .int 0, .int 0, .int 0, .ref h23, .int 0, .ref h24, .ref h25, .int 0, .int 0, .int 0, .ref h26, .ref h27, .ref h28, .ref h29])), (h1, .inl (cint, 10, .inl (fun _ => 0))), (h2, .inl (cint, 10, .inl (fun _ => 0))), (h3, .inl (cint, 10, .inl (fun _ => 0)))]) (w1 := []) hP hD [] [0, 1, 2, 3] rfl rfl (by decide) (by decide) hk1 hFc hP1 hD1
      generalize H1 = H at hP hS ⊢
      have hP : va_P (dC, dI) vwCl [(h0, .inr (12, [.int 0, .ref h4, .ref h5, .ref h6, .ref h7, .ref h8, .int 0, .int 0, .ref h9, .int 0, .int 0, .ref h10, .ref h11, .ref h12, .ref h13, .ref h14, .ref h15, .ref h16, .int 0, .int 0, .ref h1, .ref h2, .ref h3, .ref h17, .int 0, .ref h18, .ref h19, .int 0, .ref h20, .int 0, .int 0, .ref h21, .ref h22, .int 0, .int 0, .int 0, .int 0, .int 0, .ref h23, .int 0, .ref h24, .ref h25, .int 0, .int 0, .int 0, .ref h26, .ref h27, .ref h28, .ref h29])), (h1, .inl (cint, 10, .inl (fun _ => 0))), (h2, .inl (cint, 10, .inl (fun _ => 0))), (h3, .inl (cint, 10, .inl (fun _ => 0)))] H := hP
      have hD : va_D A [(h0, .inr (12, [.int 0, .ref h4, .ref h5, .ref h6, .ref h7, .ref h8, .int 0, .int 0, .ref h9, .int 0, .int 0, .ref h10, .ref h11, .ref h12, .ref h13, .ref h14, .ref h15, .ref h16, .int 0, .int 0, .ref h1, .ref h2, .ref h3, .ref h17, .int 0, .ref h18, .ref h19, .int 0, .ref h20, .int 0, .int 0, .ref h21, .ref h22, .int 0, .int 0, .int 0, .int 0, .int 0, .ref h23, .int 0, .ref h24, .ref h25, .int 0, .int 0, .int 0, .ref h26, .ref h27, .ref h28, .ref h29])), (h1, .inl (cint, 10, .inl (fun _ => 0))), (h2, .inl (cint, 10, .inl (fun _ => 0))), (h3, .inl (cint, 10, .inl (fun _ => 0)))] := hD
      rcases hw with ⟨t_3_0, rfl⟩ | ⟨t_3_0, t_3_1, rfl⟩ | ⟨t_3_0, t_3_1, rfl⟩
      · exfalso; have := kk_div (x := p0) (k := 10) (n := 10) rfl (by decide) (by omega); have := kk_rem (x := p0) (k := 10) (n := 10) rfl (by decide) (by omega); omega
      · skip
        refine lv_if_eq (tgt := 63) hx hb dX12_deed_21 (by decide) (fun _ => ?_) (fun c => absurd c (by decide))
        refine lv_iconst (v := (-1)) hx hb dX12_deed_63 (by decide) ?_
        have hP9 := hP.sub (ws' := []) [] rfl
        have hD9 := hD.sub (ws' := []) [] (by decide) rfl
        have hK9 := hK.sub (tys' := []) [] rfl
        exact W.iret (v := (-1)) hx hb hr (fun t ht hW => ⟨⟨(-1), (), rfl, by first | rfl | ((repeat' split) <;> first | rfl | (exfalso; have := kk_div (x := p0) (k := 10) (n := 10) rfl (by decide) (by omega); have := kk_rem (x := p0) (k := 10) (n := 10) rfl (by decide) (by omega); omega) | (exact Int32.toInt_inj.mp (by show ((-1) : Int) = _; omega))), by rw [ht]; exact hP9, va_K.moved hW.alike hK9, hD9⟩, hS.F ht⟩) hS.2.2 dX12_deed_64
      · skip
        refine lv_if_eq (tgt := 63) hx hb dX12_deed_21 (by decide) (fun c => absurd c (by decide)) (fun _ => ?_)
        refine lv_iload_n hx hb dX12_deed_24 rfl (lv_at hl 1 rfl) ?_
        refine lv_bipush (v := 10) hx hb dX12_deed_25 (by decide) ?_
        refine lv_idiv hx hb dX12_deed_27 (by decide) ?_
        refine lv_iload_n hx hb dX12_deed_28 rfl (lv_at hl 1 rfl) ?_
        refine lv_bipush (v := 10) hx hb dX12_deed_29 (by decide) ?_
        refine lv_irem hx hb dX12_deed_31 (by decide) ?_
        refine lv_icmp_eq (tgt := 63) hx hb dX12_deed_32 (by decide) (fun c_4 => ?_) (fun c_4 => ?_)
        · have t_4 : (p0 / 10).toInt = (p0 - p0 / 10 * 10).toInt := kk_eq c_4
          refine lv_iconst (v := (-1)) hx hb dX12_deed_63 (by decide) ?_
          have hP9 := hP.sub (ws' := []) [] rfl
          have hD9 := hD.sub (ws' := []) [] (by decide) rfl
          have hK9 := hK.sub (tys' := []) [] rfl
          exact W.iret (v := (-1)) hx hb hr (fun t ht hW => ⟨⟨(-1), (), rfl, by first | rfl | ((repeat' split) <;> first | rfl | (exfalso; have := kk_div (x := p0) (k := 10) (n := 10) rfl (by decide) (by omega); have := kk_rem (x := p0) (k := 10) (n := 10) rfl (by decide) (by omega); omega) | (exact Int32.toInt_inj.mp (by show ((-1) : Int) = _; omega))), by rw [ht]; exact hP9, va_K.moved hW.alike hK9, hD9⟩, hS.F ht⟩) hS.2.2 dX12_deed_64
        · have t_4 : (p0 / 10).toInt ≠ (p0 - p0 / 10 * 10).toInt := kk_ne c_4
          refine lv_iload_n hx hb dX12_deed_35 rfl (lv_at hl 2 rfl) ?_
          refine lv_i2l (v := (p1).toInt64) hx hb dX12_deed_36 (by first | rfl | decide) ?_
          refine lv_lconst (v := 0) hx hb dX12_deed_37 (by decide) ?_
          refine lv_ldc2 hx hb hown (hts _ (List.mem_of_getElem? (i := 1) rfl)) dX12_deed_38 ?_
          have hPc := hP.sub (ws' := []) [] rfl
          have hDc := hD.sub (ws' := []) [] (by decide) rfl
          have hKc := hK.sub (tys' := []) [] rfl
          have hFc := va_free (wc := []) hD hS hA [] rfl
          refine va_calli (va_runS (As := [.long (p1).toInt64, .long 0, .long 999]) (rest := []) ⟨hx, hb, hml, hown, hts⟩ (k_X12_within_2 l dC dI H.size (p1).toInt64 (p1.toInt) (kk_64 _)) (va_cwS 3 hts gX12_deed_X12_within rfl rfl rfl (by decide +kernel) ⟨Nat.le_of_ble_eq_true rfl, Nat.le_of_ble_eq_true rfl⟩) ⟨fun a U g mk q => by obtain ⟨q0, q1, qP, qK, qD⟩ := q; exact ⟨q0, q1, qP, va_K.moved (u := U) (U := U.calling g mk a) (Vm.Alike.refl U.vm) qK, qD⟩, fun U hU hW => ⟨rfl, by rw [hU], by rw [hU]; exact hPc, va_K.moved hW.alike hKc, hDc.weaken (fun _ _ _ _ => trivial)⟩⟩ rfl rfl hl.1 rfl (lv_room (Nat.le_of_ble_eq_true rfl)) dX12_deed_41 ⟨Nat.le_of_ble_eq_true rfl, Nat.le_of_ble_eq_true rfl⟩) hS (fun q _ h => hFc q h) hFc (fun r_5 u t H1 locs ht hvm hw hB hz1 hk1 hS => ?_)
          obtain ⟨hP1, hK1, hD1⟩ := hB
          rw [ht] at hP1
          have hK1 := va_K.moved hvm.symm hK1
          obtain ⟨hP, hD⟩ := va_join (wr := [(h0, .inr (12, [.int 0, .ref h4, .ref h5, .ref h6, .ref h7, .ref h8, .int 0, .int 0, .ref h9, .int 0, .int 0, .ref h10, .ref h11, .ref h12, .ref h13, .ref h14, .ref h15, .ref h16, .int 0, .int 0, .ref h1, .ref h2, .ref h3, .ref h17, .int 0, .ref h18, .ref h19, .int 0, .ref h20, .int 0, .int 0, .ref h21, .ref h22, .int 0, .int 0, .int 0, .int 0, .int 0, .ref h23, .int 0, .ref h24, .ref h25, .int 0, .int 0, .int 0, .ref h26, .ref h27, .ref h28, .ref h29])), (h1, .inl (cint, 10, .inl (fun _ => 0))), (h2, .inl (cint, 10, .inl (fun _ => 0))), (h3, .inl (cint, 10, .inl (fun _ => 0)))]) (w1 := []) hP hD [] [0, 1, 2, 3] rfl rfl (by decide) (by decide) hk1 hFc hP1 hD1
          generalize H1 = H at hP hS ⊢
          have hP : va_P (dC, dI) vwCl [(h0, .inr (12, [.int 0, .ref h4, .ref h5, .ref h6, .ref h7, .ref h8, .int 0, .int 0, .ref h9, .int 0, .int 0, .ref h10, .ref h11, .ref h12, .ref h13, .ref h14, .ref h15, .ref h16, .int 0, .int 0, .ref h1, .ref h2, .ref h3, .ref h17, .int 0, .ref h18, .ref h19, .int 0, .ref h20, .int 0, .int 0, .ref h21, .ref h22, .int 0, .int 0, .int 0, .int 0, .int 0, .ref h23, .int 0, .ref h24, .ref h25, .int 0, .int 0, .int 0, .ref h26, .ref h27, .ref h28, .ref h29])), (h1, .inl (cint, 10, .inl (fun _ => 0))), (h2, .inl (cint, 10, .inl (fun _ => 0))), (h3, .inl (cint, 10, .inl (fun _ => 0)))] H := hP
          have hD : va_D A [(h0, .inr (12, [.int 0, .ref h4, .ref h5, .ref h6, .ref h7, .ref h8, .int 0, .int 0, .ref h9, .int 0, .int 0, .ref h10, .ref h11, .ref h12, .ref h13, .ref h14, .ref h15, .ref h16, .int 0, .int 0, .ref h1, .ref h2, .ref h3, .ref h17, .int 0, .ref h18, .ref h19, .int 0, .ref h20, .int 0, .int 0, .ref h21, .ref h22, .int 0, .int 0, .int 0, .int 0, .int 0, .ref h23, .int 0, .ref h24, .ref h25, .int 0, .int 0, .int 0, .ref h26, .ref h27, .ref h28, .ref h29])), (h1, .inl (cint, 10, .inl (fun _ => 0))), (h2, .inl (cint, 10, .inl (fun _ => 0))), (h3, .inl (cint, 10, .inl (fun _ => 0)))] := hD
          rcases hw with ⟨t_5_0, rfl⟩ | ⟨t_5_0, t_5_1, rfl⟩ | ⟨t_5_0, t_5_1, rfl⟩
          · skip
            refine lv_if_eq (tgt := 63) hx hb dX12_deed_44 (by decide) (fun _ => ?_) (fun c => absurd c (by decide))
            refine lv_iconst (v := (-1)) hx hb dX12_deed_63 (by decide) ?_
            have hP9 := hP.sub (ws' := []) [] rfl
            have hD9 := hD.sub (ws' := []) [] (by decide) rfl
            have hK9 := hK.sub (tys' := []) [] rfl
            exact W.iret (v := (-1)) hx hb hr (fun t ht hW => ⟨⟨(-1), (), rfl, by first | rfl | ((repeat' split) <;> first | rfl | (exfalso; have := kk_div (x := p0) (k := 10) (n := 10) rfl (by decide) (by omega); have := kk_rem (x := p0) (k := 10) (n := 10) rfl (by decide) (by omega); omega) | (exact Int32.toInt_inj.mp (by show ((-1) : Int) = _; omega))), by rw [ht]; exact hP9, va_K.moved hW.alike hK9, hD9⟩, hS.F ht⟩) hS.2.2 dX12_deed_64
          · skip
            refine lv_if_eq (tgt := 63) hx hb dX12_deed_44 (by decide) (fun _ => ?_) (fun c => absurd c (by decide))
            refine lv_iconst (v := (-1)) hx hb dX12_deed_63 (by decide) ?_
            have hP9 := hP.sub (ws' := []) [] rfl
            have hD9 := hD.sub (ws' := []) [] (by decide) rfl
            have hK9 := hK.sub (tys' := []) [] rfl
            exact W.iret (v := (-1)) hx hb hr (fun t ht hW => ⟨⟨(-1), (), rfl, by first | rfl | ((repeat' split) <;> first | rfl | (exfalso; have := kk_div (x := p0) (k := 10) (n := 10) rfl (by decide) (by omega); have := kk_rem (x := p0) (k := 10) (n := 10) rfl (by decide) (by omega); omega) | (exact Int32.toInt_inj.mp (by show ((-1) : Int) = _; omega))), by rw [ht]; exact hP9, va_K.moved hW.alike hK9, hD9⟩, hS.F ht⟩) hS.2.2 dX12_deed_64
          · skip
            refine lv_if_eq (tgt := 63) hx hb dX12_deed_44 (by decide) (fun c => absurd c (by decide)) (fun _ => ?_)
            refine lv_aload_n hx hb dX12_deed_47 rfl (lv_at hl 0 rfl) ?_
            refine lv_iload_n hx hb dX12_deed_48 rfl (lv_at hl 1 rfl) ?_
            refine lv_bipush (v := 10) hx hb dX12_deed_49 (by decide) ?_
            refine lv_idiv hx hb dX12_deed_51 (by decide) ?_
            refine lv_iload_n hx hb dX12_deed_52 rfl (lv_at hl 1 rfl) ?_
            refine lv_bipush (v := 10) hx hb dX12_deed_53 (by decide) ?_
            refine lv_irem hx hb dX12_deed_55 (by decide) ?_
            refine lv_iload_n hx hb dX12_deed_56 rfl (lv_at hl 2 rfl) ?_
            have hPc := hP.sub (ws' := [(h0, .inr (12, [.int 0, .ref h4, .ref h5, .ref h6, .ref h7, .ref h8, .int 0, .int 0, .ref h9, .int 0, .int 0, .ref h10, .ref h11, .ref h12, .ref h13, .ref h14, .ref h15, .ref h16, .int 0, .int 0, .ref h1, .ref h2, .ref h3, .ref h17, .int 0, .ref h18, .ref h19, .int 0, .ref h20, .int 0, .int 0, .ref h21, .ref h22, .int 0, .int 0, .int 0, .int 0, .int 0, .ref h23, .int 0, .ref h24, .ref h25, .int 0, .int 0, .int 0, .ref h26, .ref h27, .ref h28, .ref h29])), (h1, .inl (cint, 10, .inl (fun _ => 0))), (h2, .inl (cint, 10, .inl (fun _ => 0))), (h3, .inl (cint, 10, .inl (fun _ => 0)))]) [0, 1, 2, 3] rfl
            have hDc := hD.sub (ws' := [(h0, .inr (12, [.int 0, .ref h4, .ref h5, .ref h6, .ref h7, .ref h8, .int 0, .int 0, .ref h9, .int 0, .int 0, .ref h10, .ref h11, .ref h12, .ref h13, .ref h14, .ref h15, .ref h16, .int 0, .int 0, .ref h1, .ref h2, .ref h3, .ref h17, .int 0, .ref h18, .ref h19, .int 0, .ref h20, .int 0, .int 0, .ref h21, .ref h22, .int 0, .int 0, .int 0, .int 0, .int 0, .ref h23, .int 0, .ref h24, .ref h25, .int 0, .int 0, .int 0, .ref h26, .ref h27, .ref h28, .ref h29])), (h1, .inl (cint, 10, .inl (fun _ => 0))), (h2, .inl (cint, 10, .inl (fun _ => 0))), (h3, .inl (cint, 10, .inl (fun _ => 0)))]) [0, 1, 2, 3] (by decide) rfl
            have hKc := hK.sub (tys' := [(cint, .int)]) [0] rfl
            have hFc := va_free (wc := [(h0, .inr (12, [.int 0, .ref h4, .ref h5, .ref h6, .ref h7, .ref h8, .int 0, .int 0, .ref h9, .int 0, .int 0, .ref h10, .ref h11, .ref h12, .ref h13, .ref h14, .ref h15, .ref h16, .int 0, .int 0, .ref h1, .ref h2, .ref h3, .ref h17, .int 0, .ref h18, .ref h19, .int 0, .ref h20, .int 0, .int 0, .ref h21, .ref h22, .int 0, .int 0, .int 0, .int 0, .int 0, .ref h23, .int 0, .ref h24, .ref h25, .int 0, .int 0, .int 0, .ref h26, .ref h27, .ref h28, .ref h29])), (h1, .inl (cint, 10, .inl (fun _ => 0))), (h2, .inl (cint, 10, .inl (fun _ => 0))), (h3, .inl (cint, 10, .inl (fun _ => 0)))]) hD hS hA [0, 1, 2, 3] rfl
            refine va_calli (va_runV (As := [.int (p0 / 10), .int (p0 - p0 / 10 * 10), .int p1]) (rest := []) ⟨hx, hb, hml, hown, hts⟩ (k_X12_told_0 l dC dI h0 h1 h2 h3 h4 h5 h6 h7 h8 h9 h10 h11 h12 h13 h14 h15 h16 h17 h18 h19 h20 h21 h22 h23 h24 h25 h26 h27 h28 h29 cint H.size (p0 / 10) (p0 - p0 / 10 * 10) p1) (cwV 3 hts gX12_deed_X12_told rfl rfl rfl (by decide +kernel) ⟨Nat.le_of_ble_eq_true rfl, Nat.le_of_ble_eq_true rfl⟩) ⟨fun a U g mk q => by obtain ⟨q0, q1, qP, qK, qD⟩ := q; exact ⟨q0, q1, qP, va_K.moved (u := U) (U := U.calling g mk a) (Vm.Alike.refl U.vm) qK, qD⟩, va_recv hKc hPc (ci := 12) (q0 := 0) rfl rfl, fun U hU hW => ⟨rfl, by rw [hU], by rw [hU]; exact hPc, va_K.moved hW.alike hKc, hDc.weaken (fun _ _ _ _ => trivial)⟩⟩ rfl rfl hl.1 rfl (lv_room (Nat.le_of_ble_eq_true rfl)) dX12_deed_57 ⟨Nat.le_of_ble_eq_true rfl, Nat.le_of_ble_eq_true rfl⟩) hS (fun q _ h => hFc q h) hFc (fun r_6 u t H1 locs ht hvm hw hB hz1 hk1 hS => ?_)
            obtain ⟨hP1, hK1, hD1⟩ := hB
            rw [ht] at hP1
            have hK1 := va_K.moved hvm.symm hK1
            obtain ⟨hP, hD⟩ := va_join (wr := []) (w1 := []) hP hD [0, 1, 2, 3] [] rfl rfl (by decide) (by decide) hk1 hFc hP1 hD1
            generalize H1 = H at hP hS ⊢
            have hP : va_P (dC, dI) vwCl [] H := hP
            have hD : va_D A [] := hD
            obtain rfl := hw
            refine lv_goto (tgt := 64) hx hb dX12_deed_60 (by decide) ?_
            have hP9 := hP.sub (ws' := []) [] rfl
            have hD9 := hD.sub (ws' := []) [] (by decide) rfl
            have hK9 := hK.sub (tys' := []) [] rfl
            exact W.iret (v := 1) hx hb hr (fun t ht hW => ⟨⟨1, (), rfl, by first | rfl | ((repeat' split) <;> first | rfl | (exfalso; have := kk_div (x := p0) (k := 10) (n := 10) rfl (by decide) (by omega); have := kk_rem (x := p0) (k := 10) (n := 10) rfl (by decide) (by omega); omega) | (exact Int32.toInt_inj.mp (by show (1 : Int) = _; omega))), by rw [ht]; exact hP9, va_K.moved hW.alike hK9, hD9⟩, hS.F ht⟩) hS.2.2 dX12_deed_64
set_option maxHeartbeats 4000000 in
set_option maxRecDepth 100000 in
theorem k_X12_within_3 (l : Launch) (dC : Nat → ClassId) (dI : Nat → Nat → Nat) (sz : Nat) (v0 : Int64) (xv0 : Int) (exv0 : v0.toInt = xv0) : Met l yX12_within wsX12_within ({ frames := 0, cells := 0, slots := 0, locals := 0 }) (va_Pc [.long v0, .long 0, .long 39] (fun U => U.heap.size = sz ∧ va_P (dC, dI) vwCl [] U.heap ∧ va_K (dC, dI) vwCl [] U ∧ va_D (fun _ => True) [])) (va_Qi (fun (r : Int32) (_ : Unit) => (xv0 < 0 ∧ r = 0) ∨ (0 ≤ xv0 ∧ 39 < xv0 ∧ r = 0) ∨ (0 ≤ xv0 ∧ xv0 ≤ 39 ∧ r = 1)) (fun (_ : Unit) t => va_P (dC, dI) vwCl [] t.heap ∧ va_K (dC, dI) vwCl [] t ∧ va_D (va_A [] sz) []) (va_A [] sz)) 0 0 (va_A [] sz) := by
  refine Met.ofW (cc := cX12_within) (maxL := 6) (ret := (some .boolean)) (by decide) rfl ?_
  intro p e s m args below meth c s₁ B hml hv
  obtain ⟨rfl, hsz, hP, hK, hD0⟩ := hv
  have hx := B.exec
  have hb := B.bytes
  have hr := B.returns
  have hts := atoms_spec (ws := wsX12_within) B.pre
  have hown : s.vm.findClass RX12 = some m.cls := findClass_of_methodNamed B.named
  have hlocks := B.notSynchronized
  subst hsz
  have hD := hD0.self (sz := s.heap.size)
  generalize hAe : va_A [] s.heap.size = A at hD ⊢
  have hA : ∀ q : Nat, s.heap.size ≤ q → A q := fun q h => by rw [← hAe]; exact Or.inr h
  have hS : va_S A s.heap s.heap [] := va_S.rf
  have hP : va_P (dC, dI) vwCl [] s.heap := hP
  have hl := lv_entry ([.long v0, .long 0, .long 39]) (n := 6) (Nat.le_of_ble_eq_true rfl)
  rw [lg_entry_eq]
  generalize (lg_sl ([.long v0, .long 0, .long 39]) ++ List.replicate (6 - (lg_sl ([.long v0, .long 0, .long 39])).length) Slot.unset).toArray = ls at hl ⊢
  have hl : lv_has ls 6 [(0, .long v0), (2, .long 0), (4, .long 39)] := hl
  refine lv_lload_n hx hb dX12_within_0 rfl (lv_at hl 0 rfl) ?_
  refine lv_lload_n hx hb dX12_within_1 rfl (lv_at hl 1 rfl) ?_
  refine W.lcmp hx hb dX12_within_2 ?_
  refine lv_if_lt (tgt := 17) hx hb dX12_within_3 (by decide) (fun c_1 => ?_) (fun c_1 => ?_)
  · have t_1 : xv0 < 0 := by have h := kk_Lt c_1; have e1 : (0 : Int64).toInt = 0 := (by decide); omega
    refine lv_iconst (v := 0) hx hb dX12_within_17 (by decide) ?_
    have hP9 := hP.sub (ws' := []) [] rfl
    have hD9 := hD.sub (ws' := []) [] (by decide) rfl
    have hK9 := hK.sub (tys' := []) [] rfl
    exact W.zret (v := 0) hx hb hr rfl (fun t ht hW => ⟨⟨0, (), rfl, Or.inl ⟨by first | assumption | omega, rfl⟩, by rw [ht]; exact hP9, va_K.moved hW.alike hK9, hD9⟩, hS.F ht⟩) hS.2.2 dX12_within_18
  · have t_1 : 0 ≤ xv0 := by have h := kk_nLt c_1; have e1 : (0 : Int64).toInt = 0 := (by decide); omega
    refine lv_lload_n hx hb dX12_within_6 rfl (lv_at hl 0 rfl) ?_
    refine lv_lload hx hb dX12_within_7 (lv_at hl 2 rfl) ?_
    refine W.lcmp hx hb dX12_within_9 ?_
    refine lv_if_gt (tgt := 17) hx hb dX12_within_10 (by decide) (fun c_2 => ?_) (fun c_2 => ?_)
    · have t_2 : 39 < xv0 := by have h := kk_Gt c_2; have e1 : (39 : Int64).toInt = 39 := (by decide); omega
      refine lv_iconst (v := 0) hx hb dX12_within_17 (by decide) ?_
      have hP9 := hP.sub (ws' := []) [] rfl
      have hD9 := hD.sub (ws' := []) [] (by decide) rfl
      have hK9 := hK.sub (tys' := []) [] rfl
      exact W.zret (v := 0) hx hb hr rfl (fun t ht hW => ⟨⟨0, (), rfl, Or.inr (Or.inl ⟨by first | assumption | omega, by first | assumption | omega, rfl⟩), by rw [ht]; exact hP9, va_K.moved hW.alike hK9, hD9⟩, hS.F ht⟩) hS.2.2 dX12_within_18
    · have t_2 : xv0 ≤ 39 := by have h := kk_nGt c_2; have e1 : (39 : Int64).toInt = 39 := (by decide); omega
      refine lv_iconst (v := 1) hx hb dX12_within_13 (by decide) ?_
      refine lv_goto (tgt := 18) hx hb dX12_within_14 (by decide) ?_
      have hP9 := hP.sub (ws' := []) [] rfl
      have hD9 := hD.sub (ws' := []) [] (by decide) rfl
      have hK9 := hK.sub (tys' := []) [] rfl
      exact W.zret (v := 1) hx hb hr rfl (fun t ht hW => ⟨⟨1, (), rfl, Or.inr (Or.inr (⟨by first | assumption | omega, by first | assumption | omega, rfl⟩)), by rw [ht]; exact hP9, va_K.moved hW.alike hK9, hD9⟩, hS.F ht⟩) hS.2.2 dX12_within_18
set_option maxHeartbeats 4000000 in
set_option maxRecDepth 100000 in
theorem k_X12_told_1 (l : Launch) (dC : Nat → ClassId) (dI : Nat → Nat → Nat) (h0 h1 h2 h3 h4 h5 h6 h7 h8 h9 h10 h11 h12 h13 h14 h15 h16 h17 h18 h19 h20 h21 h22 h23 h24 h25 h26 h27 h28 h29 : Nat) (cint : ClassId) (sz : Nat) (p0 : Int32) (p2 : Int32) : Met l yX12_told wsX12_told ({ frames := 0, cells := 0, slots := 0, locals := 0 }) (va_Pc [.ref h0, .int p0, .int (-1), .int p2] (fun U => U.heap.size = sz ∧ va_P (dC, dI) vwCl [(h0, .inr (12, [.int 0, .ref h4, .ref h5, .ref h6, .ref h7, .ref h8, .int 0, .int 0, .ref h9, .int 0, .int 0, .ref h10, .ref h11, .ref h12, .ref h13, .ref h14, .ref h15, .ref h16, .int 0, .int 0, .ref h1, .ref h2, .ref h3, .ref h17, .int 0, .ref h18, .ref h19, .int 0, .ref h20, .int 0, .int 0, .ref h21, .ref h22, .int 0, .int 0, .int 0, .int 0, .int 0, .ref h23, .int 0, .ref h24, .ref h25, .int 0, .int 0, .int 0, .ref h26, .ref h27, .ref h28, .ref h29])), (h1, .inl (cint, 10, .inl (fun _ => 0))), (h2, .inl (cint, 10, .inl (fun _ => 0))), (h3, .inl (cint, 10, .inl (fun _ => 0)))] U.heap ∧ va_K (dC, dI) vwCl [(cint, .int)] U ∧ va_D (fun _ => True) [(h0, .inr (12, [.int 0, .ref h4, .ref h5, .ref h6, .ref h7, .ref h8, .int 0, .int 0, .ref h9, .int 0, .int 0, .ref h10, .ref h11, .ref h12, .ref h13, .ref h14, .ref h15, .ref h16, .int 0, .int 0, .ref h1, .ref h2, .ref h3, .ref h17, .int 0, .ref h18, .ref h19, .int 0, .ref h20, .int 0, .int 0, .ref h21, .ref h22, .int 0, .int 0, .int 0, .int 0, .int 0, .ref h23, .int 0, .ref h24, .ref h25, .int 0, .int 0, .int 0, .ref h26, .ref h27, .ref h28, .ref h29])), (h1, .inl (cint, 10, .inl (fun _ => 0))), (h2, .inl (cint, 10, .inl (fun _ => 0))), (h3, .inl (cint, 10, .inl (fun _ => 0)))])) (va_Qi (fun (r : Int32) (_ : Unit) => r = 1) (fun (_ : Unit) t => va_P (dC, dI) vwCl [] t.heap ∧ va_K (dC, dI) vwCl [] t ∧ va_D (va_A [(h0, .inr (12, [.int 0, .ref h4, .ref h5, .ref h6, .ref h7, .ref h8, .int 0, .int 0, .ref h9, .int 0, .int 0, .ref h10, .ref h11, .ref h12, .ref h13, .ref h14, .ref h15, .ref h16, .int 0, .int 0, .ref h1, .ref h2, .ref h3, .ref h17, .int 0, .ref h18, .ref h19, .int 0, .ref h20, .int 0, .int 0, .ref h21, .ref h22, .int 0, .int 0, .int 0, .int 0, .int 0, .ref h23, .int 0, .ref h24, .ref h25, .int 0, .int 0, .int 0, .ref h26, .ref h27, .ref h28, .ref h29])), (h1, .inl (cint, 10, .inl (fun _ => 0))), (h2, .inl (cint, 10, .inl (fun _ => 0))), (h3, .inl (cint, 10, .inl (fun _ => 0)))] sz) []) (va_A [(h0, .inr (12, [.int 0, .ref h4, .ref h5, .ref h6, .ref h7, .ref h8, .int 0, .int 0, .ref h9, .int 0, .int 0, .ref h10, .ref h11, .ref h12, .ref h13, .ref h14, .ref h15, .ref h16, .int 0, .int 0, .ref h1, .ref h2, .ref h3, .ref h17, .int 0, .ref h18, .ref h19, .int 0, .ref h20, .int 0, .int 0, .ref h21, .ref h22, .int 0, .int 0, .int 0, .int 0, .int 0, .ref h23, .int 0, .ref h24, .ref h25, .int 0, .int 0, .int 0, .ref h26, .ref h27, .ref h28, .ref h29])), (h1, .inl (cint, 10, .inl (fun _ => 0))), (h2, .inl (cint, 10, .inl (fun _ => 0))), (h3, .inl (cint, 10, .inl (fun _ => 0)))] sz)) 0 0 (va_A [(h0, .inr (12, [.int 0, .ref h4, .ref h5, .ref h6, .ref h7, .ref h8, .int 0, .int 0, .ref h9, .int 0, .int 0, .ref h10, .ref h11, .ref h12, .ref h13, .ref h14, .ref h15, .ref h16, .int 0, .int 0, .ref h1, .ref h2, .ref h3, .ref h17, .int 0, .ref h18, .ref h19, .int 0, .ref h20, .int 0, .int 0, .ref h21, .ref h22, .int 0, .int 0, .int 0, .int 0, .int 0, .ref h23, .int 0, .ref h24, .ref h25, .int 0, .int 0, .int 0, .ref h26, .ref h27, .ref h28, .ref h29])), (h1, .inl (cint, 10, .inl (fun _ => 0))), (h2, .inl (cint, 10, .inl (fun _ => 0))), (h3, .inl (cint, 10, .inl (fun _ => 0)))] sz) := by
  refine Met.ofW (cc := cX12_told) (maxL := 4) (ret := (some .int)) (by decide) rfl ?_
  intro p e s m args below meth c s₁ B hml hv
  obtain ⟨rfl, hsz, hP, hK, hD0⟩ := hv
  have hx := B.exec
  have hb := B.bytes
  have hr := B.returns
  have hts := atoms_spec (ws := wsX12_told) B.pre
  have hown : s.vm.findClass RX12 = some m.cls := findClass_of_methodNamed B.named
  have hlocks := B.notSynchronized
  subst hsz
  have hD := hD0.self (sz := s.heap.size)
  generalize hAe : va_A [(h0, .inr (12, [.int 0, .ref h4, .ref h5, .ref h6, .ref h7, .ref h8, .int 0, .int 0, .ref h9, .int 0, .int 0, .ref h10, .ref h11, .ref h12, .ref h13, .ref h14, .ref h15, .ref h16, .int 0, .int 0, .ref h1, .ref h2, .ref h3, .ref h17, .int 0, .ref h18, .ref h19, .int 0, .ref h20, .int 0, .int 0, .ref h21, .ref h22, .int 0, .int 0, .int 0, .int 0, .int 0, .ref h23, .int 0, .ref h24, .ref h25, .int 0, .int 0, .int 0, .ref h26, .ref h27, .ref h28, .ref h29])), (h1, .inl (cint, 10, .inl (fun _ => 0))), (h2, .inl (cint, 10, .inl (fun _ => 0))), (h3, .inl (cint, 10, .inl (fun _ => 0)))] s.heap.size = A at hD ⊢
  have hA : ∀ q : Nat, s.heap.size ≤ q → A q := fun q h => by rw [← hAe]; exact Or.inr h
  have hS : va_S A s.heap s.heap [] := va_S.rf
  have hP : va_P (dC, dI) vwCl [(h0, .inr (12, [.int 0, .ref h4, .ref h5, .ref h6, .ref h7, .ref h8, .int 0, .int 0, .ref h9, .int 0, .int 0, .ref h10, .ref h11, .ref h12, .ref h13, .ref h14, .ref h15, .ref h16, .int 0, .int 0, .ref h1, .ref h2, .ref h3, .ref h17, .int 0, .ref h18, .ref h19, .int 0, .ref h20, .int 0, .int 0, .ref h21, .ref h22, .int 0, .int 0, .int 0, .int 0, .int 0, .ref h23, .int 0, .ref h24, .ref h25, .int 0, .int 0, .int 0, .ref h26, .ref h27, .ref h28, .ref h29])), (h1, .inl (cint, 10, .inl (fun _ => 0))), (h2, .inl (cint, 10, .inl (fun _ => 0))), (h3, .inl (cint, 10, .inl (fun _ => 0)))] s.heap := hP
  have hl := lv_entry ([.ref h0, .int p0, .int (-1), .int p2]) (n := 4) (Nat.le_of_ble_eq_true rfl)
  rw [lg_entry_eq]
  generalize (lg_sl ([.ref h0, .int p0, .int (-1), .int p2]) ++ List.replicate (4 - (lg_sl ([.ref h0, .int p0, .int (-1), .int p2])).length) Slot.unset).toArray = ls at hl ⊢
  have hl : lv_has ls 4 [(0, .ref h0), (1, .int p0), (2, .int (-1)), (3, .int p2)] := hl
  refine lv_aload_n hx hb dX12_told_0 rfl (lv_at hl 0 rfl) ?_
  refine va_get (D := (dC, dI)) (ci := 12) (v := .int 0) (C := RX12) (T := TX12) (N := 49) hx hb hts (fun _ h => List.mem_cons_of_mem _ (List.mem_append_right _ h)) hown hK hP 0 rfl rfl 19 (by decide) (hts (.fieldLink RX12 229 "KinkStreetModel" "deeds" "I") (List.mem_of_getElem? (i := 1) rfl)) (fun _ h9 => h9) rfl dX12_told_1 ?_
  refine lv_bipush (v := 10) hx hb dX12_told_4 (by decide) ?_
  refine lv_icmp_ne (tgt := 12) hx hb dX12_told_6 (by decide) (fun _ => ?_) (fun c => absurd c (by decide))
  refine lv_aload_n hx hb dX12_told_12 rfl (lv_at hl 0 rfl) ?_
  refine va_get (D := (dC, dI)) (ci := 12) (v := .ref h1) (C := RX12) (T := TX12) (N := 49) hx hb hts (fun _ h => List.mem_cons_of_mem _ (List.mem_append_right _ h)) hown hK hP 0 rfl rfl 20 (by decide) (hts (.fieldLink RX12 50 "KinkStreetModel" "deedName" "[I") (List.mem_of_getElem? (i := 2) rfl)) (fun _ h9 => h9) rfl dX12_told_13 ?_
  refine lv_aload_n hx hb dX12_told_16 rfl (lv_at hl 0 rfl) ?_
  refine va_get (D := (dC, dI)) (ci := 12) (v := .int 0) (C := RX12) (T := TX12) (N := 49) hx hb hts (fun _ h => List.mem_cons_of_mem _ (List.mem_append_right _ h)) hown hK hP 0 rfl rfl 19 (by decide) (hts (.fieldLink RX12 229 "KinkStreetModel" "deeds" "I") (List.mem_of_getElem? (i := 1) rfl)) (fun _ h9 => h9) rfl dX12_told_17 ?_
  refine lv_iload_n hx hb dX12_told_20 rfl (lv_at hl 1 rfl) ?_
  refine va_iast hx hb hK hP hD hS 1 0 rfl rfl (by unfold vp_in; decide) dX12_told_21 (fun H locs hP hD hS => ?_)
  have hP : va_P (dC, dI) vwCl [(h0, .inr (12, [.int 0, .ref h4, .ref h5, .ref h6, .ref h7, .ref h8, .int 0, .int 0, .ref h9, .int 0, .int 0, .ref h10, .ref h11, .ref h12, .ref h13, .ref h14, .ref h15, .ref h16, .int 0, .int 0, .ref h1, .ref h2, .ref h3, .ref h17, .int 0, .ref h18, .ref h19, .int 0, .ref h20, .int 0, .int 0, .ref h21, .ref h22, .int 0, .int 0, .int 0, .int 0, .int 0, .ref h23, .int 0, .ref h24, .ref h25, .int 0, .int 0, .int 0, .ref h26, .ref h27, .ref h28, .ref h29])), (h1, .inl (cint, 10, .inl (upd (fun _ => 0) (0 : Int32).toNatClampNeg p0))), (h2, .inl (cint, 10, .inl (fun _ => 0))), (h3, .inl (cint, 10, .inl (fun _ => 0)))] H := hP
  have hD : va_D A [(h0, .inr (12, [.int 0, .ref h4, .ref h5, .ref h6, .ref h7, .ref h8, .int 0, .int 0, .ref h9, .int 0, .int 0, .ref h10, .ref h11, .ref h12, .ref h13, .ref h14, .ref h15, .ref h16, .int 0, .int 0, .ref h1, .ref h2, .ref h3, .ref h17, .int 0, .ref h18, .ref h19, .int 0, .ref h20, .int 0, .int 0, .ref h21, .ref h22, .int 0, .int 0, .int 0, .int 0, .int 0, .ref h23, .int 0, .ref h24, .ref h25, .int 0, .int 0, .int 0, .ref h26, .ref h27, .ref h28, .ref h29])), (h1, .inl (cint, 10, .inl (upd (fun _ => 0) (0 : Int32).toNatClampNeg p0))), (h2, .inl (cint, 10, .inl (fun _ => 0))), (h3, .inl (cint, 10, .inl (fun _ => 0)))] := hD
  refine lv_aload_n hx hb dX12_told_22 rfl (lv_at hl 0 rfl) ?_
  refine va_get (D := (dC, dI)) (ci := 12) (v := .ref h2) (C := RX12) (T := TX12) (N := 49) hx hb hts (fun _ h => List.mem_cons_of_mem _ (List.mem_append_right _ h)) hown hK hP 0 rfl rfl 21 (by decide) (hts (.fieldLink RX12 53 "KinkStreetModel" "deedFrom" "[I") (List.mem_of_getElem? (i := 3) rfl)) (fun _ h9 => h9) rfl dX12_told_23 ?_
  refine lv_aload_n hx hb dX12_told_26 rfl (lv_at hl 0 rfl) ?_
  refine va_get (D := (dC, dI)) (ci := 12) (v := .int 0) (C := RX12) (T := TX12) (N := 49) hx hb hts (fun _ h => List.mem_cons_of_mem _ (List.mem_append_right _ h)) hown hK hP 0 rfl rfl 19 (by decide) (hts (.fieldLink RX12 229 "KinkStreetModel" "deeds" "I") (List.mem_of_getElem? (i := 1) rfl)) (fun _ h9 => h9) rfl dX12_told_27 ?_
  refine lv_iload_n hx hb dX12_told_30 rfl (lv_at hl 2 rfl) ?_
  refine va_iast hx hb hK hP hD hS 2 0 rfl rfl (by unfold vp_in; decide) dX12_told_31 (fun H locs hP hD hS => ?_)
  have hP : va_P (dC, dI) vwCl [(h0, .inr (12, [.int 0, .ref h4, .ref h5, .ref h6, .ref h7, .ref h8, .int 0, .int 0, .ref h9, .int 0, .int 0, .ref h10, .ref h11, .ref h12, .ref h13, .ref h14, .ref h15, .ref h16, .int 0, .int 0, .ref h1, .ref h2, .ref h3, .ref h17, .int 0, .ref h18, .ref h19, .int 0, .ref h20, .int 0, .int 0, .ref h21, .ref h22, .int 0, .int 0, .int 0, .int 0, .int 0, .ref h23, .int 0, .ref h24, .ref h25, .int 0, .int 0, .int 0, .ref h26, .ref h27, .ref h28, .ref h29])), (h1, .inl (cint, 10, .inl (upd (fun _ => 0) (0 : Int32).toNatClampNeg p0))), (h2, .inl (cint, 10, .inl (upd (fun _ => 0) (0 : Int32).toNatClampNeg (-1)))), (h3, .inl (cint, 10, .inl (fun _ => 0)))] H := hP
  have hD : va_D A [(h0, .inr (12, [.int 0, .ref h4, .ref h5, .ref h6, .ref h7, .ref h8, .int 0, .int 0, .ref h9, .int 0, .int 0, .ref h10, .ref h11, .ref h12, .ref h13, .ref h14, .ref h15, .ref h16, .int 0, .int 0, .ref h1, .ref h2, .ref h3, .ref h17, .int 0, .ref h18, .ref h19, .int 0, .ref h20, .int 0, .int 0, .ref h21, .ref h22, .int 0, .int 0, .int 0, .int 0, .int 0, .ref h23, .int 0, .ref h24, .ref h25, .int 0, .int 0, .int 0, .ref h26, .ref h27, .ref h28, .ref h29])), (h1, .inl (cint, 10, .inl (upd (fun _ => 0) (0 : Int32).toNatClampNeg p0))), (h2, .inl (cint, 10, .inl (upd (fun _ => 0) (0 : Int32).toNatClampNeg (-1)))), (h3, .inl (cint, 10, .inl (fun _ => 0)))] := hD
  refine lv_aload_n hx hb dX12_told_32 rfl (lv_at hl 0 rfl) ?_
  refine va_get (D := (dC, dI)) (ci := 12) (v := .ref h3) (C := RX12) (T := TX12) (N := 49) hx hb hts (fun _ h => List.mem_cons_of_mem _ (List.mem_append_right _ h)) hown hK hP 0 rfl rfl 22 (by decide) (hts (.fieldLink RX12 56 "KinkStreetModel" "deedBy" "[I") (List.mem_of_getElem? (i := 4) rfl)) (fun _ h9 => h9) rfl dX12_told_33 ?_
  refine lv_aload_n hx hb dX12_told_36 rfl (lv_at hl 0 rfl) ?_
  refine va_get (D := (dC, dI)) (ci := 12) (v := .int 0) (C := RX12) (T := TX12) (N := 49) hx hb hts (fun _ h => List.mem_cons_of_mem _ (List.mem_append_right _ h)) hown hK hP 0 rfl rfl 19 (by decide) (hts (.fieldLink RX12 229 "KinkStreetModel" "deeds" "I") (List.mem_of_getElem? (i := 1) rfl)) (fun _ h9 => h9) rfl dX12_told_37 ?_
  refine lv_iload_n hx hb dX12_told_40 rfl (lv_at hl 3 rfl) ?_
  refine va_iast hx hb hK hP hD hS 3 0 rfl rfl (by unfold vp_in; decide) dX12_told_41 (fun H locs hP hD hS => ?_)
  have hP : va_P (dC, dI) vwCl [(h0, .inr (12, [.int 0, .ref h4, .ref h5, .ref h6, .ref h7, .ref h8, .int 0, .int 0, .ref h9, .int 0, .int 0, .ref h10, .ref h11, .ref h12, .ref h13, .ref h14, .ref h15, .ref h16, .int 0, .int 0, .ref h1, .ref h2, .ref h3, .ref h17, .int 0, .ref h18, .ref h19, .int 0, .ref h20, .int 0, .int 0, .ref h21, .ref h22, .int 0, .int 0, .int 0, .int 0, .int 0, .ref h23, .int 0, .ref h24, .ref h25, .int 0, .int 0, .int 0, .ref h26, .ref h27, .ref h28, .ref h29])), (h1, .inl (cint, 10, .inl (upd (fun _ => 0) (0 : Int32).toNatClampNeg p0))), (h2, .inl (cint, 10, .inl (upd (fun _ => 0) (0 : Int32).toNatClampNeg (-1)))), (h3, .inl (cint, 10, .inl (upd (fun _ => 0) (0 : Int32).toNatClampNeg p2)))] H := hP
  have hD : va_D A [(h0, .inr (12, [.int 0, .ref h4, .ref h5, .ref h6, .ref h7, .ref h8, .int 0, .int 0, .ref h9, .int 0, .int 0, .ref h10, .ref h11, .ref h12, .ref h13, .ref h14, .ref h15, .ref h16, .int 0, .int 0, .ref h1, .ref h2, .ref h3, .ref h17, .int 0, .ref h18, .ref h19, .int 0, .ref h20, .int 0, .int 0, .ref h21, .ref h22, .int 0, .int 0, .int 0, .int 0, .int 0, .ref h23, .int 0, .ref h24, .ref h25, .int 0, .int 0, .int 0, .ref h26, .ref h27, .ref h28, .ref h29])), (h1, .inl (cint, 10, .inl (upd (fun _ => 0) (0 : Int32).toNatClampNeg p0))), (h2, .inl (cint, 10, .inl (upd (fun _ => 0) (0 : Int32).toNatClampNeg (-1)))), (h3, .inl (cint, 10, .inl (upd (fun _ => 0) (0 : Int32).toNatClampNeg p2)))] := hD
  refine lv_aload_n hx hb dX12_told_42 rfl (lv_at hl 0 rfl) ?_
  refine lv_dup hx hb dX12_told_43 rfl ?_
  refine va_get (D := (dC, dI)) (ci := 12) (v := .int 0) (C := RX12) (T := TX12) (N := 49) hx hb hts (fun _ h => List.mem_cons_of_mem _ (List.mem_append_right _ h)) hown hK hP 0 rfl rfl 19 (by decide) (hts (.fieldLink RX12 229 "KinkStreetModel" "deeds" "I") (List.mem_of_getElem? (i := 1) rfl)) (fun _ h9 => h9) rfl dX12_told_44 ?_
  refine lv_iconst (v := 1) hx hb dX12_told_47 (by decide) ?_
  refine lv_iadd hx hb dX12_told_48 ?_
  refine lv_topi (fun y_1 e_1 => ?_)
  obtain rfl : y_1 = 1 := e_1.trans (by decide)
  refine va_put (D := (dC, dI)) (ci := 12) (v := .int 1) (ty := .int) (C := RX12) (T := TX12) (N := 49) hx hb hts (fun _ h => List.mem_cons_of_mem _ (List.mem_append_right _ h)) tyX12 tyX12_ok nmX12 hown hK hP hD hS 0 rfl rfl 19 (by decide) (hts (.fieldLink RX12 229 "KinkStreetModel" "deeds" "I") (List.mem_of_getElem? (i := 1) rfl)) (fun _ h9 => h9) rfl (by decide +kernel) rfl rfl (Nat.le_of_ble_eq_true rfl) dX12_told_49 (fun H locs hP hD hS => ?_)
  have hP : va_P (dC, dI) vwCl [(h0, .inr (12, [.int 0, .ref h4, .ref h5, .ref h6, .ref h7, .ref h8, .int 0, .int 0, .ref h9, .int 0, .int 0, .ref h10, .ref h11, .ref h12, .ref h13, .ref h14, .ref h15, .ref h16, .int 0, .int 1, .ref h1, .ref h2, .ref h3, .ref h17, .int 0, .ref h18, .ref h19, .int 0, .ref h20, .int 0, .int 0, .ref h21, .ref h22, .int 0, .int 0, .int 0, .int 0, .int 0, .ref h23, .int 0, .ref h24, .ref h25, .int 0, .int 0, .int 0, .ref h26, .ref h27, .ref h28, .ref h29])), (h1, .inl (cint, 10, .inl (upd (fun _ => 0) (0 : Int32).toNatClampNeg p0))), (h2, .inl (cint, 10, .inl (upd (fun _ => 0) (0 : Int32).toNatClampNeg (-1)))), (h3, .inl (cint, 10, .inl (upd (fun _ => 0) (0 : Int32).toNatClampNeg p2)))] H := hP
  have hD : va_D A [(h0, .inr (12, [.int 0, .ref h4, .ref h5, .ref h6, .ref h7, .ref h8, .int 0, .int 0, .ref h9, .int 0, .int 0, .ref h10, .ref h11, .ref h12, .ref h13, .ref h14, .ref h15, .ref h16, .int 0, .int 1, .ref h1, .ref h2, .ref h3, .ref h17, .int 0, .ref h18, .ref h19, .int 0, .ref h20, .int 0, .int 0, .ref h21, .ref h22, .int 0, .int 0, .int 0, .int 0, .int 0, .ref h23, .int 0, .ref h24, .ref h25, .int 0, .int 0, .int 0, .ref h26, .ref h27, .ref h28, .ref h29])), (h1, .inl (cint, 10, .inl (upd (fun _ => 0) (0 : Int32).toNatClampNeg p0))), (h2, .inl (cint, 10, .inl (upd (fun _ => 0) (0 : Int32).toNatClampNeg (-1)))), (h3, .inl (cint, 10, .inl (upd (fun _ => 0) (0 : Int32).toNatClampNeg p2)))] := hD
  refine lv_aload_n hx hb dX12_told_52 rfl (lv_at hl 0 rfl) ?_
  refine va_get (D := (dC, dI)) (ci := 12) (v := .int 1) (C := RX12) (T := TX12) (N := 49) hx hb hts (fun _ h => List.mem_cons_of_mem _ (List.mem_append_right _ h)) hown hK hP 0 rfl rfl 19 (by decide) (hts (.fieldLink RX12 229 "KinkStreetModel" "deeds" "I") (List.mem_of_getElem? (i := 1) rfl)) (fun _ h9 => h9) rfl dX12_told_53 ?_
  have hP9 := hP.sub (ws' := []) [] rfl
  have hD9 := hD.sub (ws' := []) [] (by decide) rfl
  have hK9 := hK.sub (tys' := []) [] rfl
  exact W.iret (v := 1) hx hb hr (fun t ht hW => ⟨⟨1, (), rfl, rfl, by rw [ht]; exact hP9, va_K.moved hW.alike hK9, hD9⟩, hS.F ht⟩) hS.2.2 dX12_told_56
set_option maxHeartbeats 4000000 in
set_option maxRecDepth 100000 in
theorem k_X12_stands_0 (l : Launch) (dC : Nat → ClassId) (dI : Nat → Nat → Nat) (h0 h1 h2 h3 h4 h5 h6 h7 h8 h9 h10 h11 h12 h13 h14 h15 h16 h17 h18 h19 h20 h21 h22 h23 h24 h25 h26 h27 h28 h29 : Nat) (cint : ClassId) (sz : Nat) (p0 : Int32) (p1 : Int32) : Met l yX12_stands wsX12_stands ({ frames := 2, cells := 0, slots := 0, locals := 45 }) (va_Pc [.ref h0, .int p0, .int p1] (fun U => U.heap.size = sz ∧ va_P (dC, dI) vwCl [(h0, .inr (12, [.int 0, .ref h4, .ref h5, .ref h6, .ref h7, .ref h8, .int 0, .int 0, .ref h9, .int 0, .int 0, .ref h10, .ref h11, .ref h12, .ref h13, .ref h14, .ref h15, .ref h16, .int 0, .int 0, .ref h1, .ref h2, .ref h3, .ref h17, .int 0, .ref h18, .ref h19, .int 0, .ref h20, .int 0, .int 0, .ref h21, .ref h22, .int 0, .int 0, .int 0, .int 0, .int 0, .ref h23, .int 0, .ref h24, .ref h25, .int 0, .int 0, .int 0, .ref h26, .ref h27, .ref h28, .ref h29])), (h1, .inl (cint, 10, .inl (fun _ => 0))), (h2, .inl (cint, 10, .inl (fun _ => 0))), (h3, .inl (cint, 10, .inl (fun _ => 0)))] U.heap ∧ va_K (dC, dI) vwCl [(cint, .int)] U ∧ va_D (fun _ => True) [(h0, .inr (12, [.int 0, .ref h4, .ref h5, .ref h6, .ref h7, .ref h8, .int 0, .int 0, .ref h9, .int 0, .int 0, .ref h10, .ref h11, .ref h12, .ref h13, .ref h14, .ref h15, .ref h16, .int 0, .int 0, .ref h1, .ref h2, .ref h3, .ref h17, .int 0, .ref h18, .ref h19, .int 0, .ref h20, .int 0, .int 0, .ref h21, .ref h22, .int 0, .int 0, .int 0, .int 0, .int 0, .ref h23, .int 0, .ref h24, .ref h25, .int 0, .int 0, .int 0, .ref h26, .ref h27, .ref h28, .ref h29])), (h1, .inl (cint, 10, .inl (fun _ => 0))), (h2, .inl (cint, 10, .inl (fun _ => 0))), (h3, .inl (cint, 10, .inl (fun _ => 0)))])) (va_Qi (fun (r : Int32) (_ : Unit) => r = if 0 ≤ p0.toInt ∧ p0.toInt < 8 ∧ 0 ≤ p1.toInt ∧ p1.toInt < 40 then (1 : Int32) else -1) (fun (_ : Unit) t => va_P (dC, dI) vwCl [] t.heap ∧ va_K (dC, dI) vwCl [] t ∧ va_D (va_A [(h0, .inr (12, [.int 0, .ref h4, .ref h5, .ref h6, .ref h7, .ref h8, .int 0, .int 0, .ref h9, .int 0, .int 0, .ref h10, .ref h11, .ref h12, .ref h13, .ref h14, .ref h15, .ref h16, .int 0, .int 0, .ref h1, .ref h2, .ref h3, .ref h17, .int 0, .ref h18, .ref h19, .int 0, .ref h20, .int 0, .int 0, .ref h21, .ref h22, .int 0, .int 0, .int 0, .int 0, .int 0, .ref h23, .int 0, .ref h24, .ref h25, .int 0, .int 0, .int 0, .ref h26, .ref h27, .ref h28, .ref h29])), (h1, .inl (cint, 10, .inl (fun _ => 0))), (h2, .inl (cint, 10, .inl (fun _ => 0))), (h3, .inl (cint, 10, .inl (fun _ => 0)))] sz) []) (va_A [(h0, .inr (12, [.int 0, .ref h4, .ref h5, .ref h6, .ref h7, .ref h8, .int 0, .int 0, .ref h9, .int 0, .int 0, .ref h10, .ref h11, .ref h12, .ref h13, .ref h14, .ref h15, .ref h16, .int 0, .int 0, .ref h1, .ref h2, .ref h3, .ref h17, .int 0, .ref h18, .ref h19, .int 0, .ref h20, .int 0, .int 0, .ref h21, .ref h22, .int 0, .int 0, .int 0, .int 0, .int 0, .ref h23, .int 0, .ref h24, .ref h25, .int 0, .int 0, .int 0, .ref h26, .ref h27, .ref h28, .ref h29])), (h1, .inl (cint, 10, .inl (fun _ => 0))), (h2, .inl (cint, 10, .inl (fun _ => 0))), (h3, .inl (cint, 10, .inl (fun _ => 0)))] sz)) 0 0 (va_A [(h0, .inr (12, [.int 0, .ref h4, .ref h5, .ref h6, .ref h7, .ref h8, .int 0, .int 0, .ref h9, .int 0, .int 0, .ref h10, .ref h11, .ref h12, .ref h13, .ref h14, .ref h15, .ref h16, .int 0, .int 0, .ref h1, .ref h2, .ref h3, .ref h17, .int 0, .ref h18, .ref h19, .int 0, .ref h20, .int 0, .int 0, .ref h21, .ref h22, .int 0, .int 0, .int 0, .int 0, .int 0, .ref h23, .int 0, .ref h24, .ref h25, .int 0, .int 0, .int 0, .ref h26, .ref h27, .ref h28, .ref h29])), (h1, .inl (cint, 10, .inl (fun _ => 0))), (h2, .inl (cint, 10, .inl (fun _ => 0))), (h3, .inl (cint, 10, .inl (fun _ => 0)))] sz) := by
  refine Met.ofW (cc := cX12_stands) (maxL := 3) (ret := (some .int)) (by decide) rfl ?_
  intro p e s m args below meth c s₁ B hml hv
  obtain ⟨rfl, hsz, hP, hK, hD0⟩ := hv
  have hx := B.exec
  have hb := B.bytes
  have hr := B.returns
  have hts := atoms_spec (ws := wsX12_stands) B.pre
  have hown : s.vm.findClass RX12 = some m.cls := findClass_of_methodNamed B.named
  have hlocks := B.notSynchronized
  subst hsz
  have hD := hD0.self (sz := s.heap.size)
  generalize hAe : va_A [(h0, .inr (12, [.int 0, .ref h4, .ref h5, .ref h6, .ref h7, .ref h8, .int 0, .int 0, .ref h9, .int 0, .int 0, .ref h10, .ref h11, .ref h12, .ref h13, .ref h14, .ref h15, .ref h16, .int 0, .int 0, .ref h1, .ref h2, .ref h3, .ref h17, .int 0, .ref h18, .ref h19, .int 0, .ref h20, .int 0, .int 0, .ref h21, .ref h22, .int 0, .int 0, .int 0, .int 0, .int 0, .ref h23, .int 0, .ref h24, .ref h25, .int 0, .int 0, .int 0, .ref h26, .ref h27, .ref h28, .ref h29])), (h1, .inl (cint, 10, .inl (fun _ => 0))), (h2, .inl (cint, 10, .inl (fun _ => 0))), (h3, .inl (cint, 10, .inl (fun _ => 0)))] s.heap.size = A at hD ⊢
  have hA : ∀ q : Nat, s.heap.size ≤ q → A q := fun q h => by rw [← hAe]; exact Or.inr h
  have hS : va_S A s.heap s.heap [] := va_S.rf
  have hP : va_P (dC, dI) vwCl [(h0, .inr (12, [.int 0, .ref h4, .ref h5, .ref h6, .ref h7, .ref h8, .int 0, .int 0, .ref h9, .int 0, .int 0, .ref h10, .ref h11, .ref h12, .ref h13, .ref h14, .ref h15, .ref h16, .int 0, .int 0, .ref h1, .ref h2, .ref h3, .ref h17, .int 0, .ref h18, .ref h19, .int 0, .ref h20, .int 0, .int 0, .ref h21, .ref h22, .int 0, .int 0, .int 0, .int 0, .int 0, .ref h23, .int 0, .ref h24, .ref h25, .int 0, .int 0, .int 0, .ref h26, .ref h27, .ref h28, .ref h29])), (h1, .inl (cint, 10, .inl (fun _ => 0))), (h2, .inl (cint, 10, .inl (fun _ => 0))), (h3, .inl (cint, 10, .inl (fun _ => 0)))] s.heap := hP
  have hl := lv_entry ([.ref h0, .int p0, .int p1]) (n := 3) (Nat.le_of_ble_eq_true rfl)
  rw [lg_entry_eq]
  generalize (lg_sl ([.ref h0, .int p0, .int p1]) ++ List.replicate (3 - (lg_sl ([.ref h0, .int p0, .int p1])).length) Slot.unset).toArray = ls at hl ⊢
  have hl : lv_has ls 3 [(0, .ref h0), (1, .int p0), (2, .int p1)] := hl
  refine lv_iload_n hx hb dX12_stands_0 rfl (lv_at hl 1 rfl) ?_
  have hPc := hP.sub (ws' := []) [] rfl
  have hDc := hD.sub (ws' := []) [] (by decide) rfl
  have hKc := hK.sub (tys' := []) [] rfl
  have hFc := va_free (wc := []) hD hS hA [] rfl
  refine va_calli (va_runS (As := [.int p0]) (rest := []) ⟨hx, hb, hml, hown, hts⟩ (k_X12_isName_0 l dC dI s.heap.size p0) (va_cwS 1 hts gX12_stands_X12_isName rfl rfl rfl (by decide +kernel) ⟨Nat.le_of_ble_eq_true rfl, Nat.le_of_ble_eq_true rfl⟩) ⟨fun a U g mk q => by obtain ⟨q0, q1, qP, qK, qD⟩ := q; exact ⟨q0, q1, qP, va_K.moved (u := U) (U := U.calling g mk a) (Vm.Alike.refl U.vm) qK, qD⟩, fun U hU hW => ⟨rfl, by rw [hU], by rw [hU]; exact hPc, va_K.moved hW.alike hKc, hDc.weaken (fun _ _ _ _ => trivial)⟩⟩ rfl rfl hl.1 rfl (lv_room (Nat.le_of_ble_eq_true rfl)) dX12_stands_1 ⟨Nat.le_of_ble_eq_true rfl, Nat.le_of_ble_eq_true rfl⟩) hS (fun q _ h => hFc q h) hFc (fun r_1 u t H1 locs ht hvm hw hB hz1 hk1 hS => ?_)
  obtain ⟨hP1, hK1, hD1⟩ := hB
  rw [ht] at hP1
  have hK1 := va_K.moved hvm.symm hK1
  obtain ⟨hP, hD⟩ := va_join (wr := [(h0, .inr (12, [.int 0, .ref h4, .ref h5, .ref h6, .ref h7, .ref h8, .int 0, .int 0, .ref h9, .int 0, .int 0, .ref h10, .ref h11, .ref h12, .ref h13, .ref h14, .ref h15, .ref h16, .int 0, .int 0, .ref h1, .ref h2, .ref h3, .ref h17, .int 0, .ref h18, .ref h19, .int 0, .ref h20, .int 0, .int 0, .ref h21, .ref h22, .int 0, .int 0, .int 0, .int 0, .int 0, .ref h23, .int 0, .ref h24, .ref h25, .int 0, .int 0, .int 0, .ref h26, .ref h27, .ref h28, .ref h29])), (h1, .inl (cint, 10, .inl (fun _ => 0))), (h2, .inl (cint, 10, .inl (fun _ => 0))), (h3, .inl (cint, 10, .inl (fun _ => 0)))]) (w1 := []) hP hD [] [0, 1, 2, 3] rfl rfl (by decide) (by decide) hk1 hFc hP1 hD1
  generalize H1 = H at hP hS ⊢
  have hP : va_P (dC, dI) vwCl [(h0, .inr (12, [.int 0, .ref h4, .ref h5, .ref h6, .ref h7, .ref h8, .int 0, .int 0, .ref h9, .int 0, .int 0, .ref h10, .ref h11, .ref h12, .ref h13, .ref h14, .ref h15, .ref h16, .int 0, .int 0, .ref h1, .ref h2, .ref h3, .ref h17, .int 0, .ref h18, .ref h19, .int 0, .ref h20, .int 0, .int 0, .ref h21, .ref h22, .int 0, .int 0, .int 0, .int 0, .int 0, .ref h23, .int 0, .ref h24, .ref h25, .int 0, .int 0, .int 0, .ref h26, .ref h27, .ref h28, .ref h29])), (h1, .inl (cint, 10, .inl (fun _ => 0))), (h2, .inl (cint, 10, .inl (fun _ => 0))), (h3, .inl (cint, 10, .inl (fun _ => 0)))] H := hP
  have hD : va_D A [(h0, .inr (12, [.int 0, .ref h4, .ref h5, .ref h6, .ref h7, .ref h8, .int 0, .int 0, .ref h9, .int 0, .int 0, .ref h10, .ref h11, .ref h12, .ref h13, .ref h14, .ref h15, .ref h16, .int 0, .int 0, .ref h1, .ref h2, .ref h3, .ref h17, .int 0, .ref h18, .ref h19, .int 0, .ref h20, .int 0, .int 0, .ref h21, .ref h22, .int 0, .int 0, .int 0, .int 0, .int 0, .ref h23, .int 0, .ref h24, .ref h25, .int 0, .int 0, .int 0, .ref h26, .ref h27, .ref h28, .ref h29])), (h1, .inl (cint, 10, .inl (fun _ => 0))), (h2, .inl (cint, 10, .inl (fun _ => 0))), (h3, .inl (cint, 10, .inl (fun _ => 0)))] := hD
  rcases hw with ⟨t_1_0, rfl⟩ | ⟨t_1_0, t_1_1, rfl⟩ | ⟨t_1_0, t_1_1, rfl⟩
  · skip
    refine lv_if_eq (tgt := 29) hx hb dX12_stands_4 (by decide) (fun _ => ?_) (fun c => absurd c (by decide))
    refine lv_iconst (v := (-1)) hx hb dX12_stands_29 (by decide) ?_
    have hP9 := hP.sub (ws' := []) [] rfl
    have hD9 := hD.sub (ws' := []) [] (by decide) rfl
    have hK9 := hK.sub (tys' := []) [] rfl
    exact W.iret (v := (-1)) hx hb hr (fun t ht hW => ⟨⟨(-1), (), rfl, by first | rfl | ((repeat' split) <;> first | rfl | (exfalso; omega) | (exact Int32.toInt_inj.mp (by show ((-1) : Int) = _; omega))), by rw [ht]; exact hP9, va_K.moved hW.alike hK9, hD9⟩, hS.F ht⟩) hS.2.2 dX12_stands_30
  · skip
    refine lv_if_eq (tgt := 29) hx hb dX12_stands_4 (by decide) (fun _ => ?_) (fun c => absurd c (by decide))
    refine lv_iconst (v := (-1)) hx hb dX12_stands_29 (by decide) ?_
    have hP9 := hP.sub (ws' := []) [] rfl
    have hD9 := hD.sub (ws' := []) [] (by decide) rfl
    have hK9 := hK.sub (tys' := []) [] rfl
    exact W.iret (v := (-1)) hx hb hr (fun t ht hW => ⟨⟨(-1), (), rfl, by first | rfl | ((repeat' split) <;> first | rfl | (exfalso; omega) | (exact Int32.toInt_inj.mp (by show ((-1) : Int) = _; omega))), by rw [ht]; exact hP9, va_K.moved hW.alike hK9, hD9⟩, hS.F ht⟩) hS.2.2 dX12_stands_30
  · skip
    refine lv_if_eq (tgt := 29) hx hb dX12_stands_4 (by decide) (fun c => absurd c (by decide)) (fun _ => ?_)
    refine lv_iload_n hx hb dX12_stands_7 rfl (lv_at hl 2 rfl) ?_
    refine lv_i2l (v := (p1).toInt64) hx hb dX12_stands_8 (by first | rfl | decide) ?_
    refine lv_lconst (v := 0) hx hb dX12_stands_9 (by decide) ?_
    refine lv_ldc2 hx hb hown (hts _ (List.mem_of_getElem? (i := 1) rfl)) dX12_stands_10 ?_
    have hPc := hP.sub (ws' := []) [] rfl
    have hDc := hD.sub (ws' := []) [] (by decide) rfl
    have hKc := hK.sub (tys' := []) [] rfl
    have hFc := va_free (wc := []) hD hS hA [] rfl
    refine va_calli (va_runS (As := [.long (p1).toInt64, .long 0, .long 39]) (rest := []) ⟨hx, hb, hml, hown, hts⟩ (k_X12_within_3 l dC dI H.size (p1).toInt64 (p1.toInt) (kk_64 _)) (va_cwS 3 hts gX12_stands_X12_within rfl rfl rfl (by decide +kernel) ⟨Nat.le_of_ble_eq_true rfl, Nat.le_of_ble_eq_true rfl⟩) ⟨fun a U g mk q => by obtain ⟨q0, q1, qP, qK, qD⟩ := q; exact ⟨q0, q1, qP, va_K.moved (u := U) (U := U.calling g mk a) (Vm.Alike.refl U.vm) qK, qD⟩, fun U hU hW => ⟨rfl, by rw [hU], by rw [hU]; exact hPc, va_K.moved hW.alike hKc, hDc.weaken (fun _ _ _ _ => trivial)⟩⟩ rfl rfl hl.1 rfl (lv_room (Nat.le_of_ble_eq_true rfl)) dX12_stands_13 ⟨Nat.le_of_ble_eq_true rfl, Nat.le_of_ble_eq_true rfl⟩) hS (fun q _ h => hFc q h) hFc (fun r_2 u t H1 locs ht hvm hw hB hz1 hk1 hS => ?_)
    obtain ⟨hP1, hK1, hD1⟩ := hB
    rw [ht] at hP1
    have hK1 := va_K.moved hvm.symm hK1
    obtain ⟨hP, hD⟩ := va_join (wr := [(h0, .inr (12, [.int 0, .ref h4, .ref h5, .ref h6, .ref h7, .ref h8, .int 0, .int 0, .ref h9, .int 0, .int 0, .ref h10, .ref h11, .ref h12, .ref h13, .ref h14, .ref h15, .ref h16, .int 0, .int 0, .ref h1, .ref h2, .ref h3, .ref h17, .int 0, .ref h18, .ref h19, .int 0, .ref h20, .int 0, .int 0, .ref h21, .ref h22, .int 0, .int 0, .int 0, .int 0, .int 0, .ref h23, .int 0, .ref h24, .ref h25, .int 0, .int 0, .int 0, .ref h26, .ref h27, .ref h28, .ref h29])), (h1, .inl (cint, 10, .inl (fun _ => 0))), (h2, .inl (cint, 10, .inl (fun _ => 0))), (h3, .inl (cint, 10, .inl (fun _ => 0)))]) (w1 := []) hP hD [] [0, 1, 2, 3] rfl rfl (by decide) (by decide) hk1 hFc hP1 hD1
    generalize H1 = H at hP hS ⊢
    have hP : va_P (dC, dI) vwCl [(h0, .inr (12, [.int 0, .ref h4, .ref h5, .ref h6, .ref h7, .ref h8, .int 0, .int 0, .ref h9, .int 0, .int 0, .ref h10, .ref h11, .ref h12, .ref h13, .ref h14, .ref h15, .ref h16, .int 0, .int 0, .ref h1, .ref h2, .ref h3, .ref h17, .int 0, .ref h18, .ref h19, .int 0, .ref h20, .int 0, .int 0, .ref h21, .ref h22, .int 0, .int 0, .int 0, .int 0, .int 0, .ref h23, .int 0, .ref h24, .ref h25, .int 0, .int 0, .int 0, .ref h26, .ref h27, .ref h28, .ref h29])), (h1, .inl (cint, 10, .inl (fun _ => 0))), (h2, .inl (cint, 10, .inl (fun _ => 0))), (h3, .inl (cint, 10, .inl (fun _ => 0)))] H := hP
    have hD : va_D A [(h0, .inr (12, [.int 0, .ref h4, .ref h5, .ref h6, .ref h7, .ref h8, .int 0, .int 0, .ref h9, .int 0, .int 0, .ref h10, .ref h11, .ref h12, .ref h13, .ref h14, .ref h15, .ref h16, .int 0, .int 0, .ref h1, .ref h2, .ref h3, .ref h17, .int 0, .ref h18, .ref h19, .int 0, .ref h20, .int 0, .int 0, .ref h21, .ref h22, .int 0, .int 0, .int 0, .int 0, .int 0, .ref h23, .int 0, .ref h24, .ref h25, .int 0, .int 0, .int 0, .ref h26, .ref h27, .ref h28, .ref h29])), (h1, .inl (cint, 10, .inl (fun _ => 0))), (h2, .inl (cint, 10, .inl (fun _ => 0))), (h3, .inl (cint, 10, .inl (fun _ => 0)))] := hD
    rcases hw with ⟨t_2_0, rfl⟩ | ⟨t_2_0, t_2_1, rfl⟩ | ⟨t_2_0, t_2_1, rfl⟩
    · skip
      refine lv_if_eq (tgt := 29) hx hb dX12_stands_16 (by decide) (fun _ => ?_) (fun c => absurd c (by decide))
      refine lv_iconst (v := (-1)) hx hb dX12_stands_29 (by decide) ?_
      have hP9 := hP.sub (ws' := []) [] rfl
      have hD9 := hD.sub (ws' := []) [] (by decide) rfl
      have hK9 := hK.sub (tys' := []) [] rfl
      exact W.iret (v := (-1)) hx hb hr (fun t ht hW => ⟨⟨(-1), (), rfl, by first | rfl | ((repeat' split) <;> first | rfl | (exfalso; omega) | (exact Int32.toInt_inj.mp (by show ((-1) : Int) = _; omega))), by rw [ht]; exact hP9, va_K.moved hW.alike hK9, hD9⟩, hS.F ht⟩) hS.2.2 dX12_stands_30
    · skip
      refine lv_if_eq (tgt := 29) hx hb dX12_stands_16 (by decide) (fun _ => ?_) (fun c => absurd c (by decide))
      refine lv_iconst (v := (-1)) hx hb dX12_stands_29 (by decide) ?_
      have hP9 := hP.sub (ws' := []) [] rfl
      have hD9 := hD.sub (ws' := []) [] (by decide) rfl
      have hK9 := hK.sub (tys' := []) [] rfl
      exact W.iret (v := (-1)) hx hb hr (fun t ht hW => ⟨⟨(-1), (), rfl, by first | rfl | ((repeat' split) <;> first | rfl | (exfalso; omega) | (exact Int32.toInt_inj.mp (by show ((-1) : Int) = _; omega))), by rw [ht]; exact hP9, va_K.moved hW.alike hK9, hD9⟩, hS.F ht⟩) hS.2.2 dX12_stands_30
    · skip
      refine lv_if_eq (tgt := 29) hx hb dX12_stands_16 (by decide) (fun c => absurd c (by decide)) (fun _ => ?_)
      refine lv_aload_n hx hb dX12_stands_19 rfl (lv_at hl 0 rfl) ?_
      refine lv_iload_n hx hb dX12_stands_20 rfl (lv_at hl 1 rfl) ?_
      refine lv_iconst (v := (-1)) hx hb dX12_stands_21 (by decide) ?_
      refine lv_iload_n hx hb dX12_stands_22 rfl (lv_at hl 2 rfl) ?_
      have hPc := hP.sub (ws' := [(h0, .inr (12, [.int 0, .ref h4, .ref h5, .ref h6, .ref h7, .ref h8, .int 0, .int 0, .ref h9, .int 0, .int 0, .ref h10, .ref h11, .ref h12, .ref h13, .ref h14, .ref h15, .ref h16, .int 0, .int 0, .ref h1, .ref h2, .ref h3, .ref h17, .int 0, .ref h18, .ref h19, .int 0, .ref h20, .int 0, .int 0, .ref h21, .ref h22, .int 0, .int 0, .int 0, .int 0, .int 0, .ref h23, .int 0, .ref h24, .ref h25, .int 0, .int 0, .int 0, .ref h26, .ref h27, .ref h28, .ref h29])), (h1, .inl (cint, 10, .inl (fun _ => 0))), (h2, .inl (cint, 10, .inl (fun _ => 0))), (h3, .inl (cint, 10, .inl (fun _ => 0)))]) [0, 1, 2, 3] rfl
      have hDc := hD.sub (ws' := [(h0, .inr (12, [.int 0, .ref h4, .ref h5, .ref h6, .ref h7, .ref h8, .int 0, .int 0, .ref h9, .int 0, .int 0, .ref h10, .ref h11, .ref h12, .ref h13, .ref h14, .ref h15, .ref h16, .int 0, .int 0, .ref h1, .ref h2, .ref h3, .ref h17, .int 0, .ref h18, .ref h19, .int 0, .ref h20, .int 0, .int 0, .ref h21, .ref h22, .int 0, .int 0, .int 0, .int 0, .int 0, .ref h23, .int 0, .ref h24, .ref h25, .int 0, .int 0, .int 0, .ref h26, .ref h27, .ref h28, .ref h29])), (h1, .inl (cint, 10, .inl (fun _ => 0))), (h2, .inl (cint, 10, .inl (fun _ => 0))), (h3, .inl (cint, 10, .inl (fun _ => 0)))]) [0, 1, 2, 3] (by decide) rfl
      have hKc := hK.sub (tys' := [(cint, .int)]) [0] rfl
      have hFc := va_free (wc := [(h0, .inr (12, [.int 0, .ref h4, .ref h5, .ref h6, .ref h7, .ref h8, .int 0, .int 0, .ref h9, .int 0, .int 0, .ref h10, .ref h11, .ref h12, .ref h13, .ref h14, .ref h15, .ref h16, .int 0, .int 0, .ref h1, .ref h2, .ref h3, .ref h17, .int 0, .ref h18, .ref h19, .int 0, .ref h20, .int 0, .int 0, .ref h21, .ref h22, .int 0, .int 0, .int 0, .int 0, .int 0, .ref h23, .int 0, .ref h24, .ref h25, .int 0, .int 0, .int 0, .ref h26, .ref h27, .ref h28, .ref h29])), (h1, .inl (cint, 10, .inl (fun _ => 0))), (h2, .inl (cint, 10, .inl (fun _ => 0))), (h3, .inl (cint, 10, .inl (fun _ => 0)))]) hD hS hA [0, 1, 2, 3] rfl
      refine va_calli (va_runV (As := [.int p0, .int (-1), .int p1]) (rest := []) ⟨hx, hb, hml, hown, hts⟩ (k_X12_told_1 l dC dI h0 h1 h2 h3 h4 h5 h6 h7 h8 h9 h10 h11 h12 h13 h14 h15 h16 h17 h18 h19 h20 h21 h22 h23 h24 h25 h26 h27 h28 h29 cint H.size p0 p1) (cwV 3 hts gX12_stands_X12_told rfl rfl rfl (by decide +kernel) ⟨Nat.le_of_ble_eq_true rfl, Nat.le_of_ble_eq_true rfl⟩) ⟨fun a U g mk q => by obtain ⟨q0, q1, qP, qK, qD⟩ := q; exact ⟨q0, q1, qP, va_K.moved (u := U) (U := U.calling g mk a) (Vm.Alike.refl U.vm) qK, qD⟩, va_recv hKc hPc (ci := 12) (q0 := 0) rfl rfl, fun U hU hW => ⟨rfl, by rw [hU], by rw [hU]; exact hPc, va_K.moved hW.alike hKc, hDc.weaken (fun _ _ _ _ => trivial)⟩⟩ rfl rfl hl.1 rfl (lv_room (Nat.le_of_ble_eq_true rfl)) dX12_stands_23 ⟨Nat.le_of_ble_eq_true rfl, Nat.le_of_ble_eq_true rfl⟩) hS (fun q _ h => hFc q h) hFc (fun r_3 u t H1 locs ht hvm hw hB hz1 hk1 hS => ?_)
      obtain ⟨hP1, hK1, hD1⟩ := hB
      rw [ht] at hP1
      have hK1 := va_K.moved hvm.symm hK1
      obtain ⟨hP, hD⟩ := va_join (wr := []) (w1 := []) hP hD [0, 1, 2, 3] [] rfl rfl (by decide) (by decide) hk1 hFc hP1 hD1
      generalize H1 = H at hP hS ⊢
      have hP : va_P (dC, dI) vwCl [] H := hP
      have hD : va_D A [] := hD
      obtain rfl := hw
      refine lv_goto (tgt := 30) hx hb dX12_stands_26 (by decide) ?_
      have hP9 := hP.sub (ws' := []) [] rfl
      have hD9 := hD.sub (ws' := []) [] (by decide) rfl
      have hK9 := hK.sub (tys' := []) [] rfl
      exact W.iret (v := 1) hx hb hr (fun t ht hW => ⟨⟨1, (), rfl, by first | rfl | ((repeat' split) <;> first | rfl | (exfalso; omega) | (exact Int32.toInt_inj.mp (by show (1 : Int) = _; omega))), by rw [ht]; exact hP9, va_K.moved hW.alike hK9, hD9⟩, hS.F ht⟩) hS.2.2 dX12_stands_30
set_option maxHeartbeats 4000000 in
set_option maxRecDepth 100000 in
theorem k_X12_burn_0 (l : Launch) (dC : Nat → ClassId) (dI : Nat → Nat → Nat) (h0 h1 h2 h3 h4 h5 h6 h7 h8 h9 h10 h11 h12 h13 h14 h15 h16 h17 h18 h19 h20 h21 h22 h23 h24 h25 h26 h27 h28 h29 : Nat) (sz : Nat)  : Met l yX12_burn wsX12_burn ({ frames := 0, cells := 0, slots := 0, locals := 0 }) (va_Pc [.ref h0] (fun U => U.heap.size = sz ∧ va_P (dC, dI) vwCl [(h0, .inr (12, [.int 0, .ref h1, .ref h2, .ref h3, .ref h4, .ref h5, .int 0, .int 0, .ref h6, .int 0, .int 0, .ref h7, .ref h8, .ref h9, .ref h10, .ref h11, .ref h12, .ref h13, .int 0, .int 0, .ref h14, .ref h15, .ref h16, .ref h17, .int 0, .ref h18, .ref h19, .int 0, .ref h20, .int 0, .int 0, .ref h21, .ref h22, .int 0, .int 0, .int 0, .int 0, .int 0, .ref h23, .int 0, .ref h24, .ref h25, .int 0, .int 0, .int 0, .ref h26, .ref h27, .ref h28, .ref h29]))] U.heap ∧ va_K (dC, dI) vwCl [] U ∧ va_D (fun _ => True) [(h0, .inr (12, [.int 0, .ref h1, .ref h2, .ref h3, .ref h4, .ref h5, .int 0, .int 0, .ref h6, .int 0, .int 0, .ref h7, .ref h8, .ref h9, .ref h10, .ref h11, .ref h12, .ref h13, .int 0, .int 0, .ref h14, .ref h15, .ref h16, .ref h17, .int 0, .ref h18, .ref h19, .int 0, .ref h20, .int 0, .int 0, .ref h21, .ref h22, .int 0, .int 0, .int 0, .int 0, .int 0, .ref h23, .int 0, .ref h24, .ref h25, .int 0, .int 0, .int 0, .ref h26, .ref h27, .ref h28, .ref h29]))])) (va_Qi (fun (r : Int32) (_ : Unit) => r = 0) (fun (_ : Unit) t => va_P (dC, dI) vwCl [] t.heap ∧ va_K (dC, dI) vwCl [] t ∧ va_D (va_A [(h0, .inr (12, [.int 0, .ref h1, .ref h2, .ref h3, .ref h4, .ref h5, .int 0, .int 0, .ref h6, .int 0, .int 0, .ref h7, .ref h8, .ref h9, .ref h10, .ref h11, .ref h12, .ref h13, .int 0, .int 0, .ref h14, .ref h15, .ref h16, .ref h17, .int 0, .ref h18, .ref h19, .int 0, .ref h20, .int 0, .int 0, .ref h21, .ref h22, .int 0, .int 0, .int 0, .int 0, .int 0, .ref h23, .int 0, .ref h24, .ref h25, .int 0, .int 0, .int 0, .ref h26, .ref h27, .ref h28, .ref h29]))] sz) []) (va_A [(h0, .inr (12, [.int 0, .ref h1, .ref h2, .ref h3, .ref h4, .ref h5, .int 0, .int 0, .ref h6, .int 0, .int 0, .ref h7, .ref h8, .ref h9, .ref h10, .ref h11, .ref h12, .ref h13, .int 0, .int 0, .ref h14, .ref h15, .ref h16, .ref h17, .int 0, .ref h18, .ref h19, .int 0, .ref h20, .int 0, .int 0, .ref h21, .ref h22, .int 0, .int 0, .int 0, .int 0, .int 0, .ref h23, .int 0, .ref h24, .ref h25, .int 0, .int 0, .int 0, .ref h26, .ref h27, .ref h28, .ref h29]))] sz)) 0 0 (va_A [(h0, .inr (12, [.int 0, .ref h1, .ref h2, .ref h3, .ref h4, .ref h5, .int 0, .int 0, .ref h6, .int 0, .int 0, .ref h7, .ref h8, .ref h9, .ref h10, .ref h11, .ref h12, .ref h13, .int 0, .int 0, .ref h14, .ref h15, .ref h16, .ref h17, .int 0, .ref h18, .ref h19, .int 0, .ref h20, .int 0, .int 0, .ref h21, .ref h22, .int 0, .int 0, .int 0, .int 0, .int 0, .ref h23, .int 0, .ref h24, .ref h25, .int 0, .int 0, .int 0, .ref h26, .ref h27, .ref h28, .ref h29]))] sz) := by
  refine Met.ofW (cc := cX12_burn) (maxL := 2) (ret := (some .int)) (by decide) rfl ?_
  intro p e s m args below meth c s₁ B hml hv
  obtain ⟨rfl, hsz, hP, hK, hD0⟩ := hv
  have hx := B.exec
  have hb := B.bytes
  have hr := B.returns
  have hts := atoms_spec (ws := wsX12_burn) B.pre
  have hown : s.vm.findClass RX12 = some m.cls := findClass_of_methodNamed B.named
  have hlocks := B.notSynchronized
  subst hsz
  have hD := hD0.self (sz := s.heap.size)
  generalize hAe : va_A [(h0, .inr (12, [.int 0, .ref h1, .ref h2, .ref h3, .ref h4, .ref h5, .int 0, .int 0, .ref h6, .int 0, .int 0, .ref h7, .ref h8, .ref h9, .ref h10, .ref h11, .ref h12, .ref h13, .int 0, .int 0, .ref h14, .ref h15, .ref h16, .ref h17, .int 0, .ref h18, .ref h19, .int 0, .ref h20, .int 0, .int 0, .ref h21, .ref h22, .int 0, .int 0, .int 0, .int 0, .int 0, .ref h23, .int 0, .ref h24, .ref h25, .int 0, .int 0, .int 0, .ref h26, .ref h27, .ref h28, .ref h29]))] s.heap.size = A at hD ⊢
  have hA : ∀ q : Nat, s.heap.size ≤ q → A q := fun q h => by rw [← hAe]; exact Or.inr h
  have hS : va_S A s.heap s.heap [] := va_S.rf
  have hP : va_P (dC, dI) vwCl [(h0, .inr (12, [.int 0, .ref h1, .ref h2, .ref h3, .ref h4, .ref h5, .int 0, .int 0, .ref h6, .int 0, .int 0, .ref h7, .ref h8, .ref h9, .ref h10, .ref h11, .ref h12, .ref h13, .int 0, .int 0, .ref h14, .ref h15, .ref h16, .ref h17, .int 0, .ref h18, .ref h19, .int 0, .ref h20, .int 0, .int 0, .ref h21, .ref h22, .int 0, .int 0, .int 0, .int 0, .int 0, .ref h23, .int 0, .ref h24, .ref h25, .int 0, .int 0, .int 0, .ref h26, .ref h27, .ref h28, .ref h29]))] s.heap := hP
  have hl := lv_entry ([.ref h0]) (n := 2) (Nat.le_of_ble_eq_true rfl)
  rw [lg_entry_eq]
  generalize (lg_sl ([.ref h0]) ++ List.replicate (2 - (lg_sl ([.ref h0])).length) Slot.unset).toArray = ls at hl ⊢
  have hl : lv_has ls 2 [(0, .ref h0)] := hl
  refine lv_aload_n hx hb dX12_burn_0 rfl (lv_at hl 0 rfl) ?_
  refine va_get (D := (dC, dI)) (ci := 12) (v := .int 0) (C := RX12) (T := TX12) (N := 49) hx hb hts (fun _ h => List.mem_cons_of_mem _ (List.mem_append_right _ h)) hown hK hP 0 rfl rfl 19 (by decide) (hts (.fieldLink RX12 229 "KinkStreetModel" "deeds" "I") (List.mem_of_getElem? (i := 1) rfl)) (fun _ h9 => h9) rfl dX12_burn_1 ?_
  refine lv_istore_n (lv' := [(1, .int 0), (0, .ref h0)]) hx hb dX12_burn_4 rfl hl (by decide) rfl (fun ls hl => ?_)
  refine lv_aload_n hx hb dX12_burn_5 rfl (lv_at hl 1 rfl) ?_
  refine lv_iconst (v := 0) hx hb dX12_burn_6 (by decide) ?_
  refine va_put (D := (dC, dI)) (ci := 12) (v := .int 0) (ty := .int) (C := RX12) (T := TX12) (N := 49) hx hb hts (fun _ h => List.mem_cons_of_mem _ (List.mem_append_right _ h)) tyX12 tyX12_ok nmX12 hown hK hP hD hS 0 rfl rfl 19 (by decide) (hts (.fieldLink RX12 229 "KinkStreetModel" "deeds" "I") (List.mem_of_getElem? (i := 1) rfl)) (fun _ h9 => h9) rfl (by decide +kernel) rfl rfl (Nat.le_of_ble_eq_true rfl) dX12_burn_7 (fun H locs hP hD hS => ?_)
  have hP : va_P (dC, dI) vwCl [(h0, .inr (12, [.int 0, .ref h1, .ref h2, .ref h3, .ref h4, .ref h5, .int 0, .int 0, .ref h6, .int 0, .int 0, .ref h7, .ref h8, .ref h9, .ref h10, .ref h11, .ref h12, .ref h13, .int 0, .int 0, .ref h14, .ref h15, .ref h16, .ref h17, .int 0, .ref h18, .ref h19, .int 0, .ref h20, .int 0, .int 0, .ref h21, .ref h22, .int 0, .int 0, .int 0, .int 0, .int 0, .ref h23, .int 0, .ref h24, .ref h25, .int 0, .int 0, .int 0, .ref h26, .ref h27, .ref h28, .ref h29]))] H := hP
  have hD : va_D A [(h0, .inr (12, [.int 0, .ref h1, .ref h2, .ref h3, .ref h4, .ref h5, .int 0, .int 0, .ref h6, .int 0, .int 0, .ref h7, .ref h8, .ref h9, .ref h10, .ref h11, .ref h12, .ref h13, .int 0, .int 0, .ref h14, .ref h15, .ref h16, .ref h17, .int 0, .ref h18, .ref h19, .int 0, .ref h20, .int 0, .int 0, .ref h21, .ref h22, .int 0, .int 0, .int 0, .int 0, .int 0, .ref h23, .int 0, .ref h24, .ref h25, .int 0, .int 0, .int 0, .ref h26, .ref h27, .ref h28, .ref h29]))] := hD
  refine lv_iload_n hx hb dX12_burn_10 rfl (lv_at hl 0 rfl) ?_
  have hP9 := hP.sub (ws' := []) [] rfl
  have hD9 := hD.sub (ws' := []) [] (by decide) rfl
  have hK9 := hK.sub (tys' := []) [] rfl
  exact W.iret (v := 0) hx hb hr (fun t ht hW => ⟨⟨0, (), rfl, by first | rfl | ((repeat' split) <;> first | rfl | (exfalso; omega) | (exact Int32.toInt_inj.mp (by show (0 : Int) = _; omega))), by rw [ht]; exact hP9, va_K.moved hW.alike hK9, hD9⟩, hS.F ht⟩) hS.2.2 dX12_burn_11
set_option maxHeartbeats 4000000 in
set_option maxRecDepth 100000 in
theorem k_X12_all_0 (l : Launch) (dC : Nat → ClassId) (dI : Nat → Nat → Nat) (h0 h1 h2 h3 h4 h5 h6 h7 h8 h9 h10 h11 h12 h13 h14 h15 h16 h17 h18 h19 h20 h21 h22 h23 h24 h25 h26 h27 h28 h29 : Nat) (sz : Nat) (p0 : Int32) (p1 : Int32) (p2 : Int32) : Met l yX12_all wsX12_all ({ frames := 2, cells := 0, slots := 0, locals := 46 }) (va_Pc [.ref h0, .int p0, .int p1, .int p2] (fun U => U.heap.size = sz ∧ va_P (dC, dI) vwCl [(h0, .inr (12, [.int 0, .ref h1, .ref h2, .ref h3, .ref h4, .ref h5, .int 0, .int 0, .ref h6, .int 0, .int 0, .ref h7, .ref h8, .ref h9, .ref h10, .ref h11, .ref h12, .ref h13, .int 0, .int 0, .ref h14, .ref h15, .ref h16, .ref h17, .int 0, .ref h18, .ref h19, .int 0, .ref h20, .int 0, .int 0, .ref h21, .ref h22, .int 0, .int 0, .int 0, .int 0, .int 0, .ref h23, .int 0, .ref h24, .ref h25, .int 0, .int 0, .int 0, .ref h26, .ref h27, .ref h28, .ref h29]))] U.heap ∧ va_K (dC, dI) vwCl [] U ∧ va_D (fun _ => True) [(h0, .inr (12, [.int 0, .ref h1, .ref h2, .ref h3, .ref h4, .ref h5, .int 0, .int 0, .ref h6, .int 0, .int 0, .ref h7, .ref h8, .ref h9, .ref h10, .ref h11, .ref h12, .ref h13, .int 0, .int 0, .ref h14, .ref h15, .ref h16, .ref h17, .int 0, .ref h18, .ref h19, .int 0, .ref h20, .int 0, .int 0, .ref h21, .ref h22, .int 0, .int 0, .int 0, .int 0, .int 0, .ref h23, .int 0, .ref h24, .ref h25, .int 0, .int 0, .int 0, .ref h26, .ref h27, .ref h28, .ref h29]))])) (va_Qi (fun (r : Int32) (_ : Unit) => r = -1) (fun (_ : Unit) t => va_P (dC, dI) vwCl [] t.heap ∧ va_K (dC, dI) vwCl [] t ∧ va_D (va_A [(h0, .inr (12, [.int 0, .ref h1, .ref h2, .ref h3, .ref h4, .ref h5, .int 0, .int 0, .ref h6, .int 0, .int 0, .ref h7, .ref h8, .ref h9, .ref h10, .ref h11, .ref h12, .ref h13, .int 0, .int 0, .ref h14, .ref h15, .ref h16, .ref h17, .int 0, .ref h18, .ref h19, .int 0, .ref h20, .int 0, .int 0, .ref h21, .ref h22, .int 0, .int 0, .int 0, .int 0, .int 0, .ref h23, .int 0, .ref h24, .ref h25, .int 0, .int 0, .int 0, .ref h26, .ref h27, .ref h28, .ref h29]))] sz) []) (va_A [(h0, .inr (12, [.int 0, .ref h1, .ref h2, .ref h3, .ref h4, .ref h5, .int 0, .int 0, .ref h6, .int 0, .int 0, .ref h7, .ref h8, .ref h9, .ref h10, .ref h11, .ref h12, .ref h13, .int 0, .int 0, .ref h14, .ref h15, .ref h16, .ref h17, .int 0, .ref h18, .ref h19, .int 0, .ref h20, .int 0, .int 0, .ref h21, .ref h22, .int 0, .int 0, .int 0, .int 0, .int 0, .ref h23, .int 0, .ref h24, .ref h25, .int 0, .int 0, .int 0, .ref h26, .ref h27, .ref h28, .ref h29]))] sz)) 0 0 (va_A [(h0, .inr (12, [.int 0, .ref h1, .ref h2, .ref h3, .ref h4, .ref h5, .int 0, .int 0, .ref h6, .int 0, .int 0, .ref h7, .ref h8, .ref h9, .ref h10, .ref h11, .ref h12, .ref h13, .int 0, .int 0, .ref h14, .ref h15, .ref h16, .ref h17, .int 0, .ref h18, .ref h19, .int 0, .ref h20, .int 0, .int 0, .ref h21, .ref h22, .int 0, .int 0, .int 0, .int 0, .int 0, .ref h23, .int 0, .ref h24, .ref h25, .int 0, .int 0, .int 0, .ref h26, .ref h27, .ref h28, .ref h29]))] sz) := by
  refine Met.ofW (cc := cX12_all) (maxL := 6) (ret := (some .int)) (by decide) rfl ?_
  intro p e s m args below meth c s₁ B hml hv
  obtain ⟨rfl, hsz, hP, hK, hD0⟩ := hv
  have hx := B.exec
  have hb := B.bytes
  have hr := B.returns
  have hts := atoms_spec (ws := wsX12_all) B.pre
  have hown : s.vm.findClass RX12 = some m.cls := findClass_of_methodNamed B.named
  have hlocks := B.notSynchronized
  subst hsz
  have hD := hD0.self (sz := s.heap.size)
  generalize hAe : va_A [(h0, .inr (12, [.int 0, .ref h1, .ref h2, .ref h3, .ref h4, .ref h5, .int 0, .int 0, .ref h6, .int 0, .int 0, .ref h7, .ref h8, .ref h9, .ref h10, .ref h11, .ref h12, .ref h13, .int 0, .int 0, .ref h14, .ref h15, .ref h16, .ref h17, .int 0, .ref h18, .ref h19, .int 0, .ref h20, .int 0, .int 0, .ref h21, .ref h22, .int 0, .int 0, .int 0, .int 0, .int 0, .ref h23, .int 0, .ref h24, .ref h25, .int 0, .int 0, .int 0, .ref h26, .ref h27, .ref h28, .ref h29]))] s.heap.size = A at hD ⊢
  have hA : ∀ q : Nat, s.heap.size ≤ q → A q := fun q h => by rw [← hAe]; exact Or.inr h
  have hS : va_S A s.heap s.heap [] := va_S.rf
  have hP : va_P (dC, dI) vwCl [(h0, .inr (12, [.int 0, .ref h1, .ref h2, .ref h3, .ref h4, .ref h5, .int 0, .int 0, .ref h6, .int 0, .int 0, .ref h7, .ref h8, .ref h9, .ref h10, .ref h11, .ref h12, .ref h13, .int 0, .int 0, .ref h14, .ref h15, .ref h16, .ref h17, .int 0, .ref h18, .ref h19, .int 0, .ref h20, .int 0, .int 0, .ref h21, .ref h22, .int 0, .int 0, .int 0, .int 0, .int 0, .ref h23, .int 0, .ref h24, .ref h25, .int 0, .int 0, .int 0, .ref h26, .ref h27, .ref h28, .ref h29]))] s.heap := hP
  have hl := lv_entry ([.ref h0, .int p0, .int p1, .int p2]) (n := 6) (Nat.le_of_ble_eq_true rfl)
  rw [lg_entry_eq]
  generalize (lg_sl ([.ref h0, .int p0, .int p1, .int p2]) ++ List.replicate (6 - (lg_sl ([.ref h0, .int p0, .int p1, .int p2])).length) Slot.unset).toArray = ls at hl ⊢
  have hl : lv_has ls 6 [(0, .ref h0), (1, .int p0), (2, .int p1), (3, .int p2)] := hl
  refine lv_aload_n hx hb dX12_all_0 rfl (lv_at hl 0 rfl) ?_
  refine lv_iload_n hx hb dX12_all_1 rfl (lv_at hl 1 rfl) ?_
  have hPc := hP.sub (ws' := [(h0, .inr (12, [.int 0, .ref h1, .ref h2, .ref h3, .ref h4, .ref h5, .int 0, .int 0, .ref h6, .int 0, .int 0, .ref h7, .ref h8, .ref h9, .ref h10, .ref h11, .ref h12, .ref h13, .int 0, .int 0, .ref h14, .ref h15, .ref h16, .ref h17, .int 0, .ref h18, .ref h19, .int 0, .ref h20, .int 0, .int 0, .ref h21, .ref h22, .int 0, .int 0, .int 0, .int 0, .int 0, .ref h23, .int 0, .ref h24, .ref h25, .int 0, .int 0, .int 0, .ref h26, .ref h27, .ref h28, .ref h29]))]) [0] rfl
  have hDc := hD.sub (ws' := [(h0, .inr (12, [.int 0, .ref h1, .ref h2, .ref h3, .ref h4, .ref h5, .int 0, .int 0, .ref h6, .int 0, .int 0, .ref h7, .ref h8, .ref h9, .ref h10, .ref h11, .ref h12, .ref h13, .int 0, .int 0, .ref h14, .ref h15, .ref h16, .ref h17, .int 0, .ref h18, .ref h19, .int 0, .ref h20, .int 0, .int 0, .ref h21, .ref h22, .int 0, .int 0, .int 0, .int 0, .int 0, .ref h23, .int 0, .ref h24, .ref h25, .int 0, .int 0, .int 0, .ref h26, .ref h27, .ref h28, .ref h29]))]) [0] (by decide) rfl
  have hKc := hK.sub (tys' := []) [] rfl
  have hFc := va_free (wc := [(h0, .inr (12, [.int 0, .ref h1, .ref h2, .ref h3, .ref h4, .ref h5, .int 0, .int 0, .ref h6, .int 0, .int 0, .ref h7, .ref h8, .ref h9, .ref h10, .ref h11, .ref h12, .ref h13, .int 0, .int 0, .ref h14, .ref h15, .ref h16, .ref h17, .int 0, .ref h18, .ref h19, .int 0, .ref h20, .int 0, .int 0, .ref h21, .ref h22, .int 0, .int 0, .int 0, .int 0, .int 0, .ref h23, .int 0, .ref h24, .ref h25, .int 0, .int 0, .int 0, .ref h26, .ref h27, .ref h28, .ref h29]))]) hD hS hA [0] rfl
  refine va_calli (va_runV (As := [.int p0]) (rest := []) ⟨hx, hb, hml, hown, hts⟩ (k_X12_isStreet_0 l dC dI h0 h1 h2 h3 h4 h5 h6 h7 h8 h9 h10 h11 h12 h13 h14 h15 h16 h17 h18 h19 h20 h21 h22 h23 h24 h25 h26 h27 h28 h29 s.heap.size p0) (cwV 1 hts gX12_all_X12_isStreet rfl rfl rfl (by decide +kernel) ⟨Nat.le_of_ble_eq_true rfl, Nat.le_of_ble_eq_true rfl⟩) ⟨fun a U g mk q => by obtain ⟨q0, q1, qP, qK, qD⟩ := q; exact ⟨q0, q1, qP, va_K.moved (u := U) (U := U.calling g mk a) (Vm.Alike.refl U.vm) qK, qD⟩, va_recv hKc hPc (ci := 12) (q0 := 0) rfl rfl, fun U hU hW => ⟨rfl, by rw [hU], by rw [hU]; exact hPc, va_K.moved hW.alike hKc, hDc.weaken (fun _ _ _ _ => trivial)⟩⟩ rfl rfl hl.1 rfl (lv_room (Nat.le_of_ble_eq_true rfl)) dX12_all_2 ⟨Nat.le_of_ble_eq_true rfl, Nat.le_of_ble_eq_true rfl⟩) hS (fun q _ h => hFc q h) hFc (fun r_1 u t H1 locs ht hvm hw hB hz1 hk1 hS => ?_)
  obtain ⟨hP1, hK1, hD1⟩ := hB
  rw [ht] at hP1
  have hK1 := va_K.moved hvm.symm hK1
  obtain ⟨hP, hD⟩ := va_join (wr := []) (w1 := [(h0, .inr (12, [.int 0, .ref h1, .ref h2, .ref h3, .ref h4, .ref h5, .int 0, .int 0, .ref h6, .int 0, .int 0, .ref h7, .ref h8, .ref h9, .ref h10, .ref h11, .ref h12, .ref h13, .int 0, .int 0, .ref h14, .ref h15, .ref h16, .ref h17, .int 0, .ref h18, .ref h19, .int 0, .ref h20, .int 0, .int 0, .ref h21, .ref h22, .int 0, .int 0, .int 0, .int 0, .int 0, .ref h23, .int 0, .ref h24, .ref h25, .int 0, .int 0, .int 0, .ref h26, .ref h27, .ref h28, .ref h29]))]) hP hD [0] [] rfl rfl (by decide) (by decide) hk1 hFc hP1 hD1
  generalize H1 = H at hP hS ⊢
  have hP : va_P (dC, dI) vwCl [(h0, .inr (12, [.int 0, .ref h1, .ref h2, .ref h3, .ref h4, .ref h5, .int 0, .int 0, .ref h6, .int 0, .int 0, .ref h7, .ref h8, .ref h9, .ref h10, .ref h11, .ref h12, .ref h13, .int 0, .int 0, .ref h14, .ref h15, .ref h16, .ref h17, .int 0, .ref h18, .ref h19, .int 0, .ref h20, .int 0, .int 0, .ref h21, .ref h22, .int 0, .int 0, .int 0, .int 0, .int 0, .ref h23, .int 0, .ref h24, .ref h25, .int 0, .int 0, .int 0, .ref h26, .ref h27, .ref h28, .ref h29]))] H := hP
  have hD : va_D A [(h0, .inr (12, [.int 0, .ref h1, .ref h2, .ref h3, .ref h4, .ref h5, .int 0, .int 0, .ref h6, .int 0, .int 0, .ref h7, .ref h8, .ref h9, .ref h10, .ref h11, .ref h12, .ref h13, .int 0, .int 0, .ref h14, .ref h15, .ref h16, .ref h17, .int 0, .ref h18, .ref h19, .int 0, .ref h20, .int 0, .int 0, .ref h21, .ref h22, .int 0, .int 0, .int 0, .int 0, .int 0, .ref h23, .int 0, .ref h24, .ref h25, .int 0, .int 0, .int 0, .ref h26, .ref h27, .ref h28, .ref h29]))] := hD
  obtain rfl := hw
  refine lv_if_eq (tgt := 32) hx hb dX12_all_5 (by decide) (fun _ => ?_) (fun c => absurd c (by decide))
  refine lv_iconst (v := (-1)) hx hb dX12_all_32 (by decide) ?_
  have hP9 := hP.sub (ws' := []) [] rfl
  have hD9 := hD.sub (ws' := []) [] (by decide) rfl
  have hK9 := hK.sub (tys' := []) [] rfl
  exact W.iret (v := (-1)) hx hb hr (fun t ht hW => ⟨⟨(-1), (), rfl, by first | rfl | ((repeat' split) <;> first | rfl | (exfalso; omega) | (exact Int32.toInt_inj.mp (by show ((-1) : Int) = _; omega))), by rw [ht]; exact hP9, va_K.moved hW.alike hK9, hD9⟩, hS.F ht⟩) hS.2.2 dX12_all_33
set_option maxHeartbeats 4000000 in
set_option maxRecDepth 100000 in
theorem k_X12_within_4 (l : Launch) (dC : Nat → ClassId) (dI : Nat → Nat → Nat) (sz : Nat) (v0 : Int64) (xv0 : Int) (exv0 : v0.toInt = xv0) : Met l yX12_within wsX12_within ({ frames := 0, cells := 0, slots := 0, locals := 0 }) (va_Pc [.long v0, .long 1, .long 4] (fun U => U.heap.size = sz ∧ va_P (dC, dI) vwCl [] U.heap ∧ va_K (dC, dI) vwCl [] U ∧ va_D (fun _ => True) [])) (va_Qi (fun (r : Int32) (_ : Unit) => (xv0 < 1 ∧ r = 0) ∨ (1 ≤ xv0 ∧ 4 < xv0 ∧ r = 0) ∨ (1 ≤ xv0 ∧ xv0 ≤ 4 ∧ r = 1)) (fun (_ : Unit) t => va_P (dC, dI) vwCl [] t.heap ∧ va_K (dC, dI) vwCl [] t ∧ va_D (va_A [] sz) []) (va_A [] sz)) 0 0 (va_A [] sz) := by
  refine Met.ofW (cc := cX12_within) (maxL := 6) (ret := (some .boolean)) (by decide) rfl ?_
  intro p e s m args below meth c s₁ B hml hv
  obtain ⟨rfl, hsz, hP, hK, hD0⟩ := hv
  have hx := B.exec
  have hb := B.bytes
  have hr := B.returns
  have hts := atoms_spec (ws := wsX12_within) B.pre
  have hown : s.vm.findClass RX12 = some m.cls := findClass_of_methodNamed B.named
  have hlocks := B.notSynchronized
  subst hsz
  have hD := hD0.self (sz := s.heap.size)
  generalize hAe : va_A [] s.heap.size = A at hD ⊢
  have hA : ∀ q : Nat, s.heap.size ≤ q → A q := fun q h => by rw [← hAe]; exact Or.inr h
  have hS : va_S A s.heap s.heap [] := va_S.rf
  have hP : va_P (dC, dI) vwCl [] s.heap := hP
  have hl := lv_entry ([.long v0, .long 1, .long 4]) (n := 6) (Nat.le_of_ble_eq_true rfl)
  rw [lg_entry_eq]
  generalize (lg_sl ([.long v0, .long 1, .long 4]) ++ List.replicate (6 - (lg_sl ([.long v0, .long 1, .long 4])).length) Slot.unset).toArray = ls at hl ⊢
  have hl : lv_has ls 6 [(0, .long v0), (2, .long 1), (4, .long 4)] := hl
  refine lv_lload_n hx hb dX12_within_0 rfl (lv_at hl 0 rfl) ?_
  refine lv_lload_n hx hb dX12_within_1 rfl (lv_at hl 1 rfl) ?_
  refine W.lcmp hx hb dX12_within_2 ?_
  refine lv_if_lt (tgt := 17) hx hb dX12_within_3 (by decide) (fun c_1 => ?_) (fun c_1 => ?_)
  · have t_1 : xv0 < 1 := by have h := kk_Lt c_1; have e1 : (1 : Int64).toInt = 1 := (by decide); omega
    refine lv_iconst (v := 0) hx hb dX12_within_17 (by decide) ?_
    have hP9 := hP.sub (ws' := []) [] rfl
    have hD9 := hD.sub (ws' := []) [] (by decide) rfl
    have hK9 := hK.sub (tys' := []) [] rfl
    exact W.zret (v := 0) hx hb hr rfl (fun t ht hW => ⟨⟨0, (), rfl, Or.inl ⟨by first | assumption | omega, rfl⟩, by rw [ht]; exact hP9, va_K.moved hW.alike hK9, hD9⟩, hS.F ht⟩) hS.2.2 dX12_within_18
  · have t_1 : 1 ≤ xv0 := by have h := kk_nLt c_1; have e1 : (1 : Int64).toInt = 1 := (by decide); omega
    refine lv_lload_n hx hb dX12_within_6 rfl (lv_at hl 0 rfl) ?_
    refine lv_lload hx hb dX12_within_7 (lv_at hl 2 rfl) ?_
    refine W.lcmp hx hb dX12_within_9 ?_
    refine lv_if_gt (tgt := 17) hx hb dX12_within_10 (by decide) (fun c_2 => ?_) (fun c_2 => ?_)
    · have t_2 : 4 < xv0 := by have h := kk_Gt c_2; have e1 : (4 : Int64).toInt = 4 := (by decide); omega
      refine lv_iconst (v := 0) hx hb dX12_within_17 (by decide) ?_
      have hP9 := hP.sub (ws' := []) [] rfl
      have hD9 := hD.sub (ws' := []) [] (by decide) rfl
      have hK9 := hK.sub (tys' := []) [] rfl
      exact W.zret (v := 0) hx hb hr rfl (fun t ht hW => ⟨⟨0, (), rfl, Or.inr (Or.inl ⟨by first | assumption | omega, by first | assumption | omega, rfl⟩), by rw [ht]; exact hP9, va_K.moved hW.alike hK9, hD9⟩, hS.F ht⟩) hS.2.2 dX12_within_18
    · have t_2 : xv0 ≤ 4 := by have h := kk_nGt c_2; have e1 : (4 : Int64).toInt = 4 := (by decide); omega
      refine lv_iconst (v := 1) hx hb dX12_within_13 (by decide) ?_
      refine lv_goto (tgt := 18) hx hb dX12_within_14 (by decide) ?_
      have hP9 := hP.sub (ws' := []) [] rfl
      have hD9 := hD.sub (ws' := []) [] (by decide) rfl
      have hK9 := hK.sub (tys' := []) [] rfl
      exact W.zret (v := 1) hx hb hr rfl (fun t ht hW => ⟨⟨1, (), rfl, Or.inr (Or.inr (⟨by first | assumption | omega, by first | assumption | omega, rfl⟩)), by rw [ht]; exact hP9, va_K.moved hW.alike hK9, hD9⟩, hS.F ht⟩) hS.2.2 dX12_within_18
set_option maxHeartbeats 4000000 in
set_option maxRecDepth 100000 in
theorem k_X12_feed_0 (l : Launch) (dC : Nat → ClassId) (dI : Nat → Nat → Nat) (h0 h1 h2 h3 h4 h5 h6 h7 h8 h9 h10 h11 h12 h13 h14 h15 h16 h17 h18 h19 h20 h21 h22 h23 h24 h25 h26 h27 h28 h29 : Nat) (cint : ClassId) (sz : Nat) (p0 : Int32) (p1 : Int32) : Met l yX12_feed wsX12_feed ({ frames := 1, cells := 0, slots := 0, locals := 25 }) (va_Pc [.ref h0, .int p0, .int p1] (fun U => U.heap.size = sz ∧ va_P (dC, dI) vwCl [(h0, .inr (12, [.int 0, .ref h2, .ref h3, .ref h4, .ref h5, .ref h6, .int 0, .int 0, .ref h7, .int 0, .int 0, .ref h8, .ref h9, .ref h10, .ref h11, .ref h12, .ref h13, .ref h14, .int 0, .int 0, .ref h15, .ref h16, .ref h17, .ref h18, .int 0, .ref h19, .ref h20, .int 0, .ref h1, .int 0, .int 0, .ref h21, .ref h22, .int 0, .int 0, .int 0, .int 0, .int 0, .ref h23, .int 0, .ref h24, .ref h25, .int 0, .int 0, .int 0, .ref h26, .ref h27, .ref h28, .ref h29])), (h1, .inl (cint, 120, .inl (fun _ => 0)))] U.heap ∧ va_K (dC, dI) vwCl [(cint, .int)] U ∧ va_D (fun _ => True) [(h0, .inr (12, [.int 0, .ref h2, .ref h3, .ref h4, .ref h5, .ref h6, .int 0, .int 0, .ref h7, .int 0, .int 0, .ref h8, .ref h9, .ref h10, .ref h11, .ref h12, .ref h13, .ref h14, .int 0, .int 0, .ref h15, .ref h16, .ref h17, .ref h18, .int 0, .ref h19, .ref h20, .int 0, .ref h1, .int 0, .int 0, .ref h21, .ref h22, .int 0, .int 0, .int 0, .int 0, .int 0, .ref h23, .int 0, .ref h24, .ref h25, .int 0, .int 0, .int 0, .ref h26, .ref h27, .ref h28, .ref h29])), (h1, .inl (cint, 120, .inl (fun _ => 0)))])) (va_Qi (fun (r : Int32) (_ : Unit) => r = if 1 ≤ p0.toInt ∧ p0.toInt ≤ 4 then p0 else -1) (fun (_ : Unit) t => va_P (dC, dI) vwCl [] t.heap ∧ va_K (dC, dI) vwCl [] t ∧ va_D (va_A [(h0, .inr (12, [.int 0, .ref h2, .ref h3, .ref h4, .ref h5, .ref h6, .int 0, .int 0, .ref h7, .int 0, .int 0, .ref h8, .ref h9, .ref h10, .ref h11, .ref h12, .ref h13, .ref h14, .int 0, .int 0, .ref h15, .ref h16, .ref h17, .ref h18, .int 0, .ref h19, .ref h20, .int 0, .ref h1, .int 0, .int 0, .ref h21, .ref h22, .int 0, .int 0, .int 0, .int 0, .int 0, .ref h23, .int 0, .ref h24, .ref h25, .int 0, .int 0, .int 0, .ref h26, .ref h27, .ref h28, .ref h29])), (h1, .inl (cint, 120, .inl (fun _ => 0)))] sz) []) (va_A [(h0, .inr (12, [.int 0, .ref h2, .ref h3, .ref h4, .ref h5, .ref h6, .int 0, .int 0, .ref h7, .int 0, .int 0, .ref h8, .ref h9, .ref h10, .ref h11, .ref h12, .ref h13, .ref h14, .int 0, .int 0, .ref h15, .ref h16, .ref h17, .ref h18, .int 0, .ref h19, .ref h20, .int 0, .ref h1, .int 0, .int 0, .ref h21, .ref h22, .int 0, .int 0, .int 0, .int 0, .int 0, .ref h23, .int 0, .ref h24, .ref h25, .int 0, .int 0, .int 0, .ref h26, .ref h27, .ref h28, .ref h29])), (h1, .inl (cint, 120, .inl (fun _ => 0)))] sz)) 0 0 (va_A [(h0, .inr (12, [.int 0, .ref h2, .ref h3, .ref h4, .ref h5, .ref h6, .int 0, .int 0, .ref h7, .int 0, .int 0, .ref h8, .ref h9, .ref h10, .ref h11, .ref h12, .ref h13, .ref h14, .int 0, .int 0, .ref h15, .ref h16, .ref h17, .ref h18, .int 0, .ref h19, .ref h20, .int 0, .ref h1, .int 0, .int 0, .ref h21, .ref h22, .int 0, .int 0, .int 0, .int 0, .int 0, .ref h23, .int 0, .ref h24, .ref h25, .int 0, .int 0, .int 0, .ref h26, .ref h27, .ref h28, .ref h29])), (h1, .inl (cint, 120, .inl (fun _ => 0)))] sz) := by
  refine Met.ofW (cc := cX12_feed) (maxL := 4) (ret := (some .int)) (by decide) rfl ?_
  intro p e s m args below meth c s₁ B hml hv
  obtain ⟨rfl, hsz, hP, hK, hD0⟩ := hv
  have hx := B.exec
  have hb := B.bytes
  have hr := B.returns
  have hts := atoms_spec (ws := wsX12_feed) B.pre
  have hown : s.vm.findClass RX12 = some m.cls := findClass_of_methodNamed B.named
  have hlocks := B.notSynchronized
  subst hsz
  have hD := hD0.self (sz := s.heap.size)
  generalize hAe : va_A [(h0, .inr (12, [.int 0, .ref h2, .ref h3, .ref h4, .ref h5, .ref h6, .int 0, .int 0, .ref h7, .int 0, .int 0, .ref h8, .ref h9, .ref h10, .ref h11, .ref h12, .ref h13, .ref h14, .int 0, .int 0, .ref h15, .ref h16, .ref h17, .ref h18, .int 0, .ref h19, .ref h20, .int 0, .ref h1, .int 0, .int 0, .ref h21, .ref h22, .int 0, .int 0, .int 0, .int 0, .int 0, .ref h23, .int 0, .ref h24, .ref h25, .int 0, .int 0, .int 0, .ref h26, .ref h27, .ref h28, .ref h29])), (h1, .inl (cint, 120, .inl (fun _ => 0)))] s.heap.size = A at hD ⊢
  have hA : ∀ q : Nat, s.heap.size ≤ q → A q := fun q h => by rw [← hAe]; exact Or.inr h
  have hS : va_S A s.heap s.heap [] := va_S.rf
  have hP : va_P (dC, dI) vwCl [(h0, .inr (12, [.int 0, .ref h2, .ref h3, .ref h4, .ref h5, .ref h6, .int 0, .int 0, .ref h7, .int 0, .int 0, .ref h8, .ref h9, .ref h10, .ref h11, .ref h12, .ref h13, .ref h14, .int 0, .int 0, .ref h15, .ref h16, .ref h17, .ref h18, .int 0, .ref h19, .ref h20, .int 0, .ref h1, .int 0, .int 0, .ref h21, .ref h22, .int 0, .int 0, .int 0, .int 0, .int 0, .ref h23, .int 0, .ref h24, .ref h25, .int 0, .int 0, .int 0, .ref h26, .ref h27, .ref h28, .ref h29])), (h1, .inl (cint, 120, .inl (fun _ => 0)))] s.heap := hP
  have hl := lv_entry ([.ref h0, .int p0, .int p1]) (n := 4) (Nat.le_of_ble_eq_true rfl)
  rw [lg_entry_eq]
  generalize (lg_sl ([.ref h0, .int p0, .int p1]) ++ List.replicate (4 - (lg_sl ([.ref h0, .int p0, .int p1])).length) Slot.unset).toArray = ls at hl ⊢
  have hl : lv_has ls 4 [(0, .ref h0), (1, .int p0), (2, .int p1)] := hl
  refine lv_iload_n hx hb dX12_feed_0 rfl (lv_at hl 1 rfl) ?_
  refine lv_i2l (v := (p0).toInt64) hx hb dX12_feed_1 (by first | rfl | decide) ?_
  refine lv_lconst (v := 1) hx hb dX12_feed_2 (by decide) ?_
  refine lv_ldc2 hx hb hown (hts _ (List.mem_of_getElem? (i := 1) rfl)) dX12_feed_3 ?_
  have hPc := hP.sub (ws' := []) [] rfl
  have hDc := hD.sub (ws' := []) [] (by decide) rfl
  have hKc := hK.sub (tys' := []) [] rfl
  have hFc := va_free (wc := []) hD hS hA [] rfl
  refine va_calli (va_runS (As := [.long (p0).toInt64, .long 1, .long 4]) (rest := []) ⟨hx, hb, hml, hown, hts⟩ (k_X12_within_4 l dC dI s.heap.size (p0).toInt64 (p0.toInt) (kk_64 _)) (va_cwS 3 hts gX12_feed_X12_within rfl rfl rfl (by decide +kernel) ⟨Nat.le_of_ble_eq_true rfl, Nat.le_of_ble_eq_true rfl⟩) ⟨fun a U g mk q => by obtain ⟨q0, q1, qP, qK, qD⟩ := q; exact ⟨q0, q1, qP, va_K.moved (u := U) (U := U.calling g mk a) (Vm.Alike.refl U.vm) qK, qD⟩, fun U hU hW => ⟨rfl, by rw [hU], by rw [hU]; exact hPc, va_K.moved hW.alike hKc, hDc.weaken (fun _ _ _ _ => trivial)⟩⟩ rfl rfl hl.1 rfl (lv_room (Nat.le_of_ble_eq_true rfl)) dX12_feed_6 ⟨Nat.le_of_ble_eq_true rfl, Nat.le_of_ble_eq_true rfl⟩) hS (fun q _ h => hFc q h) hFc (fun r_1 u t H1 locs ht hvm hw hB hz1 hk1 hS => ?_)
  obtain ⟨hP1, hK1, hD1⟩ := hB
  rw [ht] at hP1
  have hK1 := va_K.moved hvm.symm hK1
  obtain ⟨hP, hD⟩ := va_join (wr := [(h0, .inr (12, [.int 0, .ref h2, .ref h3, .ref h4, .ref h5, .ref h6, .int 0, .int 0, .ref h7, .int 0, .int 0, .ref h8, .ref h9, .ref h10, .ref h11, .ref h12, .ref h13, .ref h14, .int 0, .int 0, .ref h15, .ref h16, .ref h17, .ref h18, .int 0, .ref h19, .ref h20, .int 0, .ref h1, .int 0, .int 0, .ref h21, .ref h22, .int 0, .int 0, .int 0, .int 0, .int 0, .ref h23, .int 0, .ref h24, .ref h25, .int 0, .int 0, .int 0, .ref h26, .ref h27, .ref h28, .ref h29])), (h1, .inl (cint, 120, .inl (fun _ => 0)))]) (w1 := []) hP hD [] [0, 1] rfl rfl (by decide) (by decide) hk1 hFc hP1 hD1
  generalize H1 = H at hP hS ⊢
  have hP : va_P (dC, dI) vwCl [(h0, .inr (12, [.int 0, .ref h2, .ref h3, .ref h4, .ref h5, .ref h6, .int 0, .int 0, .ref h7, .int 0, .int 0, .ref h8, .ref h9, .ref h10, .ref h11, .ref h12, .ref h13, .ref h14, .int 0, .int 0, .ref h15, .ref h16, .ref h17, .ref h18, .int 0, .ref h19, .ref h20, .int 0, .ref h1, .int 0, .int 0, .ref h21, .ref h22, .int 0, .int 0, .int 0, .int 0, .int 0, .ref h23, .int 0, .ref h24, .ref h25, .int 0, .int 0, .int 0, .ref h26, .ref h27, .ref h28, .ref h29])), (h1, .inl (cint, 120, .inl (fun _ => 0)))] H := hP
  have hD : va_D A [(h0, .inr (12, [.int 0, .ref h2, .ref h3, .ref h4, .ref h5, .ref h6, .int 0, .int 0, .ref h7, .int 0, .int 0, .ref h8, .ref h9, .ref h10, .ref h11, .ref h12, .ref h13, .ref h14, .int 0, .int 0, .ref h15, .ref h16, .ref h17, .ref h18, .int 0, .ref h19, .ref h20, .int 0, .ref h1, .int 0, .int 0, .ref h21, .ref h22, .int 0, .int 0, .int 0, .int 0, .int 0, .ref h23, .int 0, .ref h24, .ref h25, .int 0, .int 0, .int 0, .ref h26, .ref h27, .ref h28, .ref h29])), (h1, .inl (cint, 120, .inl (fun _ => 0)))] := hD
  rcases hw with ⟨t_1_0, rfl⟩ | ⟨t_1_0, t_1_1, rfl⟩ | ⟨t_1_0, t_1_1, rfl⟩
  · skip
    refine lv_if_ne (tgt := 14) hx hb dX12_feed_9 (by decide) (fun c => absurd c (by decide)) (fun _ => ?_)
    refine lv_iconst (v := (-1)) hx hb dX12_feed_12 (by decide) ?_
    have hP9 := hP.sub (ws' := []) [] rfl
    have hD9 := hD.sub (ws' := []) [] (by decide) rfl
    have hK9 := hK.sub (tys' := []) [] rfl
    exact W.iret (v := (-1)) hx hb hr (fun t ht hW => ⟨⟨(-1), (), rfl, by first | rfl | ((repeat' split) <;> first | rfl | (exfalso; omega) | (exact Int32.toInt_inj.mp (by show ((-1) : Int) = _; omega))), by rw [ht]; exact hP9, va_K.moved hW.alike hK9, hD9⟩, hS.F ht⟩) hS.2.2 dX12_feed_13
  · skip
    refine lv_if_ne (tgt := 14) hx hb dX12_feed_9 (by decide) (fun c => absurd c (by decide)) (fun _ => ?_)
    refine lv_iconst (v := (-1)) hx hb dX12_feed_12 (by decide) ?_
    have hP9 := hP.sub (ws' := []) [] rfl
    have hD9 := hD.sub (ws' := []) [] (by decide) rfl
    have hK9 := hK.sub (tys' := []) [] rfl
    exact W.iret (v := (-1)) hx hb hr (fun t ht hW => ⟨⟨(-1), (), rfl, by first | rfl | ((repeat' split) <;> first | rfl | (exfalso; omega) | (exact Int32.toInt_inj.mp (by show ((-1) : Int) = _; omega))), by rw [ht]; exact hP9, va_K.moved hW.alike hK9, hD9⟩, hS.F ht⟩) hS.2.2 dX12_feed_13
  · skip
    refine lv_if_ne (tgt := 14) hx hb dX12_feed_9 (by decide) (fun _ => ?_) (fun c => absurd c (by decide))
    refine lv_aload_n hx hb dX12_feed_14 rfl (lv_at hl 0 rfl) ?_
    refine va_get (D := (dC, dI)) (ci := 12) (v := .int 0) (C := RX12) (T := TX12) (N := 49) hx hb hts (fun _ h => List.mem_cons_of_mem _ (List.mem_append_right _ h)) hown hK hP 0 rfl rfl 29 (by decide) (hts (.fieldLink RX12 259 "KinkStreetModel" "tapeMany" "I") (List.mem_of_getElem? (i := 2) rfl)) (fun _ h9 => h9) rfl dX12_feed_15 ?_
    refine lv_iload_n hx hb dX12_feed_18 rfl (lv_at hl 1 rfl) ?_
    refine lv_iadd hx hb dX12_feed_19 ?_
    refine lv_bipush (v := 120) hx hb dX12_feed_20 (by decide) ?_
    refine lv_icmp_le (tgt := 28) hx hb dX12_feed_22 (by decide) (fun c_2 => ?_) (fun c_2 => ?_)
    · have t_2 : (0 + p0).toInt ≤ 120 := kk_le c_2
      refine lv_iconst (v := 0) hx hb dX12_feed_28 (by decide) ?_
      refine lv_istore_n (lv' := [(3, .int 0), (0, .ref h0), (1, .int p0), (2, .int p1)]) hx hb dX12_feed_29 rfl hl (by decide) rfl (fun ls hl => ?_)
      refine lv_iload_n hx hb dX12_feed_30 rfl (lv_at hl 0 rfl) ?_
      refine lv_iload_n hx hb dX12_feed_31 rfl (lv_at hl 2 rfl) ?_
      refine lv_icmp_ge (tgt := 70) hx hb dX12_feed_32 (by decide) (fun c_3 => ?_) (fun c_3 => ?_)
      · have t_3 : p0.toInt ≤ 0 := kk_le c_3
        exfalso; have := kk_add2 (x := 0) (y := p0) (a := 0) (b := p0.toInt) rfl rfl (by omega) (by omega); omega
      · have t_3 : 0 < p0.toInt := kk_nle c_3
        refine lv_aload_n hx hb dX12_feed_35 rfl (lv_at hl 1 rfl) ?_
        refine va_get (D := (dC, dI)) (ci := 12) (v := .ref h1) (C := RX12) (T := TX12) (N := 49) hx hb hts (fun _ h => List.mem_cons_of_mem _ (List.mem_append_right _ h)) hown hK hP 0 rfl rfl 28 (by decide) (hts (.fieldLink RX12 68 "KinkStreetModel" "tape" "[I") (List.mem_of_getElem? (i := 3) rfl)) (fun _ h9 => h9) rfl dX12_feed_36 ?_
        refine lv_aload_n hx hb dX12_feed_39 rfl (lv_at hl 1 rfl) ?_
        refine va_get (D := (dC, dI)) (ci := 12) (v := .int 0) (C := RX12) (T := TX12) (N := 49) hx hb hts (fun _ h => List.mem_cons_of_mem _ (List.mem_append_right _ h)) hown hK hP 0 rfl rfl 29 (by decide) (hts (.fieldLink RX12 259 "KinkStreetModel" "tapeMany" "I") (List.mem_of_getElem? (i := 2) rfl)) (fun _ h9 => h9) rfl dX12_feed_40 ?_
        refine lv_iload_n hx hb dX12_feed_43 rfl (lv_at hl 3 rfl) ?_
        refine lv_bipush (v := 8) hx hb dX12_feed_44 (by decide) ?_
        refine lv_iload_n hx hb dX12_feed_46 rfl (lv_at hl 0 rfl) ?_
        refine lv_imul hx hb dX12_feed_47 ?_
        refine lv_topi (fun y_4 e_4 => ?_)
        obtain rfl : y_4 = 0 := e_4.trans (by decide)
        refine lv_ishr hx hb dX12_feed_48 ?_
        refine lv_topi (fun y_5 _ => ?_)
        refine lv_sipush (v := 255) hx hb dX12_feed_49 (by decide) ?_
        refine lv_iand hx hb dX12_feed_52 ?_
        refine va_iast hx hb hK hP hD hS 1 0 rfl rfl (by unfold vp_in; decide) dX12_feed_53 (fun H locs hP hD hS => ?_)
        have hP : va_P (dC, dI) vwCl [(h0, .inr (12, [.int 0, .ref h2, .ref h3, .ref h4, .ref h5, .ref h6, .int 0, .int 0, .ref h7, .int 0, .int 0, .ref h8, .ref h9, .ref h10, .ref h11, .ref h12, .ref h13, .ref h14, .int 0, .int 0, .ref h15, .ref h16, .ref h17, .ref h18, .int 0, .ref h19, .ref h20, .int 0, .ref h1, .int 0, .int 0, .ref h21, .ref h22, .int 0, .int 0, .int 0, .int 0, .int 0, .ref h23, .int 0, .ref h24, .ref h25, .int 0, .int 0, .int 0, .ref h26, .ref h27, .ref h28, .ref h29])), (h1, .inl (cint, 120, .inl (upd (fun _ => 0) (0 : Int32).toNatClampNeg (y_5 &&& 255))))] H := hP
        have hD : va_D A [(h0, .inr (12, [.int 0, .ref h2, .ref h3, .ref h4, .ref h5, .ref h6, .int 0, .int 0, .ref h7, .int 0, .int 0, .ref h8, .ref h9, .ref h10, .ref h11, .ref h12, .ref h13, .ref h14, .int 0, .int 0, .ref h15, .ref h16, .ref h17, .ref h18, .int 0, .ref h19, .ref h20, .int 0, .ref h1, .int 0, .int 0, .ref h21, .ref h22, .int 0, .int 0, .int 0, .int 0, .int 0, .ref h23, .int 0, .ref h24, .ref h25, .int 0, .int 0, .int 0, .ref h26, .ref h27, .ref h28, .ref h29])), (h1, .inl (cint, 120, .inl (upd (fun _ => 0) (0 : Int32).toNatClampNeg (y_5 &&& 255))))] := hD
        refine lv_aload_n hx hb dX12_feed_54 rfl (lv_at hl 1 rfl) ?_
        refine lv_dup hx hb dX12_feed_55 rfl ?_
        refine va_get (D := (dC, dI)) (ci := 12) (v := .int 0) (C := RX12) (T := TX12) (N := 49) hx hb hts (fun _ h => List.mem_cons_of_mem _ (List.mem_append_right _ h)) hown hK hP 0 rfl rfl 29 (by decide) (hts (.fieldLink RX12 259 "KinkStreetModel" "tapeMany" "I") (List.mem_of_getElem? (i := 2) rfl)) (fun _ h9 => h9) rfl dX12_feed_56 ?_
        refine lv_iconst (v := 1) hx hb dX12_feed_59 (by decide) ?_
        refine lv_iadd hx hb dX12_feed_60 ?_
        refine lv_topi (fun y_6 e_6 => ?_)
        obtain rfl : y_6 = 1 := e_6.trans (by decide)
        refine va_put (D := (dC, dI)) (ci := 12) (v := .int 1) (ty := .int) (C := RX12) (T := TX12) (N := 49) hx hb hts (fun _ h => List.mem_cons_of_mem _ (List.mem_append_right _ h)) tyX12 tyX12_ok nmX12 hown hK hP hD hS 0 rfl rfl 29 (by decide) (hts (.fieldLink RX12 259 "KinkStreetModel" "tapeMany" "I") (List.mem_of_getElem? (i := 2) rfl)) (fun _ h9 => h9) rfl (by decide +kernel) rfl rfl (Nat.le_of_ble_eq_true rfl) dX12_feed_61 (fun H locs hP hD hS => ?_)
        have hP : va_P (dC, dI) vwCl [(h0, .inr (12, [.int 0, .ref h2, .ref h3, .ref h4, .ref h5, .ref h6, .int 0, .int 0, .ref h7, .int 0, .int 0, .ref h8, .ref h9, .ref h10, .ref h11, .ref h12, .ref h13, .ref h14, .int 0, .int 0, .ref h15, .ref h16, .ref h17, .ref h18, .int 0, .ref h19, .ref h20, .int 0, .ref h1, .int 1, .int 0, .ref h21, .ref h22, .int 0, .int 0, .int 0, .int 0, .int 0, .ref h23, .int 0, .ref h24, .ref h25, .int 0, .int 0, .int 0, .ref h26, .ref h27, .ref h28, .ref h29])), (h1, .inl (cint, 120, .inl (upd (fun _ => 0) (0 : Int32).toNatClampNeg (y_5 &&& 255))))] H := hP
        have hD : va_D A [(h0, .inr (12, [.int 0, .ref h2, .ref h3, .ref h4, .ref h5, .ref h6, .int 0, .int 0, .ref h7, .int 0, .int 0, .ref h8, .ref h9, .ref h10, .ref h11, .ref h12, .ref h13, .ref h14, .int 0, .int 0, .ref h15, .ref h16, .ref h17, .ref h18, .int 0, .ref h19, .ref h20, .int 0, .ref h1, .int 1, .int 0, .ref h21, .ref h22, .int 0, .int 0, .int 0, .int 0, .int 0, .ref h23, .int 0, .ref h24, .ref h25, .int 0, .int 0, .int 0, .ref h26, .ref h27, .ref h28, .ref h29])), (h1, .inl (cint, 120, .inl (upd (fun _ => 0) (0 : Int32).toNatClampNeg (y_5 &&& 255))))] := hD
        refine lv_iinc (v := 1) (lv' := [(3, .int 1), (0, .ref h0), (1, .int p0), (2, .int p1)]) hx hb dX12_feed_64 hl (k := 0) rfl (by first | rfl | decide) (by decide) rfl (fun ls hl => ?_)
        refine lv_goto (tgt := 30) hx hb dX12_feed_67 (by decide) ?_
        refine lv_iload_n hx hb dX12_feed_30 rfl (lv_at hl 0 rfl) ?_
        refine lv_iload_n hx hb dX12_feed_31 rfl (lv_at hl 2 rfl) ?_
        refine lv_icmp_ge (tgt := 70) hx hb dX12_feed_32 (by decide) (fun c_7 => ?_) (fun c_7 => ?_)
        · have t_7 : p0.toInt ≤ 1 := kk_le c_7
          refine lv_aload_n hx hb dX12_feed_70 rfl (lv_at hl 1 rfl) ?_
          refine va_get (D := (dC, dI)) (ci := 12) (v := .int 1) (C := RX12) (T := TX12) (N := 49) hx hb hts (fun _ h => List.mem_cons_of_mem _ (List.mem_append_right _ h)) hown hK hP 0 rfl rfl 29 (by decide) (hts (.fieldLink RX12 259 "KinkStreetModel" "tapeMany" "I") (List.mem_of_getElem? (i := 2) rfl)) (fun _ h9 => h9) rfl dX12_feed_71 ?_
          have hP9 := hP.sub (ws' := []) [] rfl
          have hD9 := hD.sub (ws' := []) [] (by decide) rfl
          have hK9 := hK.sub (tys' := []) [] rfl
          exact W.iret (v := 1) hx hb hr (fun t ht hW => ⟨⟨1, (), rfl, by first | rfl | ((repeat' split) <;> first | rfl | (exfalso; have := kk_add2 (x := 0) (y := p0) (a := 0) (b := p0.toInt) rfl rfl (by omega) (by omega); omega) | (exact Int32.toInt_inj.mp (by show (1 : Int) = _; omega))), by rw [ht]; exact hP9, va_K.moved hW.alike hK9, hD9⟩, hS.F ht⟩) hS.2.2 dX12_feed_74
        · have t_7 : 1 < p0.toInt := kk_nle c_7
          refine lv_aload_n hx hb dX12_feed_35 rfl (lv_at hl 1 rfl) ?_
          refine va_get (D := (dC, dI)) (ci := 12) (v := .ref h1) (C := RX12) (T := TX12) (N := 49) hx hb hts (fun _ h => List.mem_cons_of_mem _ (List.mem_append_right _ h)) hown hK hP 0 rfl rfl 28 (by decide) (hts (.fieldLink RX12 68 "KinkStreetModel" "tape" "[I") (List.mem_of_getElem? (i := 3) rfl)) (fun _ h9 => h9) rfl dX12_feed_36 ?_
          refine lv_aload_n hx hb dX12_feed_39 rfl (lv_at hl 1 rfl) ?_
          refine va_get (D := (dC, dI)) (ci := 12) (v := .int 1) (C := RX12) (T := TX12) (N := 49) hx hb hts (fun _ h => List.mem_cons_of_mem _ (List.mem_append_right _ h)) hown hK hP 0 rfl rfl 29 (by decide) (hts (.fieldLink RX12 259 "KinkStreetModel" "tapeMany" "I") (List.mem_of_getElem? (i := 2) rfl)) (fun _ h9 => h9) rfl dX12_feed_40 ?_
          refine lv_iload_n hx hb dX12_feed_43 rfl (lv_at hl 3 rfl) ?_
          refine lv_bipush (v := 8) hx hb dX12_feed_44 (by decide) ?_
          refine lv_iload_n hx hb dX12_feed_46 rfl (lv_at hl 0 rfl) ?_
          refine lv_imul hx hb dX12_feed_47 ?_
          refine lv_topi (fun y_8 e_8 => ?_)
          obtain rfl : y_8 = 8 := e_8.trans (by decide)
          refine lv_ishr hx hb dX12_feed_48 ?_
          refine lv_topi (fun y_9 _ => ?_)
          refine lv_sipush (v := 255) hx hb dX12_feed_49 (by decide) ?_
          refine lv_iand hx hb dX12_feed_52 ?_
          refine va_iast hx hb hK hP hD hS 1 0 rfl rfl (by unfold vp_in; decide) dX12_feed_53 (fun H locs hP hD hS => ?_)
          have hP : va_P (dC, dI) vwCl [(h0, .inr (12, [.int 0, .ref h2, .ref h3, .ref h4, .ref h5, .ref h6, .int 0, .int 0, .ref h7, .int 0, .int 0, .ref h8, .ref h9, .ref h10, .ref h11, .ref h12, .ref h13, .ref h14, .int 0, .int 0, .ref h15, .ref h16, .ref h17, .ref h18, .int 0, .ref h19, .ref h20, .int 0, .ref h1, .int 1, .int 0, .ref h21, .ref h22, .int 0, .int 0, .int 0, .int 0, .int 0, .ref h23, .int 0, .ref h24, .ref h25, .int 0, .int 0, .int 0, .ref h26, .ref h27, .ref h28, .ref h29])), (h1, .inl (cint, 120, .inl (upd (upd (fun _ => 0) (0 : Int32).toNatClampNeg (y_5 &&& 255)) (1 : Int32).toNatClampNeg (y_9 &&& 255))))] H := hP
          have hD : va_D A [(h0, .inr (12, [.int 0, .ref h2, .ref h3, .ref h4, .ref h5, .ref h6, .int 0, .int 0, .ref h7, .int 0, .int 0, .ref h8, .ref h9, .ref h10, .ref h11, .ref h12, .ref h13, .ref h14, .int 0, .int 0, .ref h15, .ref h16, .ref h17, .ref h18, .int 0, .ref h19, .ref h20, .int 0, .ref h1, .int 1, .int 0, .ref h21, .ref h22, .int 0, .int 0, .int 0, .int 0, .int 0, .ref h23, .int 0, .ref h24, .ref h25, .int 0, .int 0, .int 0, .ref h26, .ref h27, .ref h28, .ref h29])), (h1, .inl (cint, 120, .inl (upd (upd (fun _ => 0) (0 : Int32).toNatClampNeg (y_5 &&& 255)) (1 : Int32).toNatClampNeg (y_9 &&& 255))))] := hD
          refine lv_aload_n hx hb dX12_feed_54 rfl (lv_at hl 1 rfl) ?_
          refine lv_dup hx hb dX12_feed_55 rfl ?_
          refine va_get (D := (dC, dI)) (ci := 12) (v := .int 1) (C := RX12) (T := TX12) (N := 49) hx hb hts (fun _ h => List.mem_cons_of_mem _ (List.mem_append_right _ h)) hown hK hP 0 rfl rfl 29 (by decide) (hts (.fieldLink RX12 259 "KinkStreetModel" "tapeMany" "I") (List.mem_of_getElem? (i := 2) rfl)) (fun _ h9 => h9) rfl dX12_feed_56 ?_
          refine lv_iconst (v := 1) hx hb dX12_feed_59 (by decide) ?_
          refine lv_iadd hx hb dX12_feed_60 ?_
          refine lv_topi (fun y_10 e_10 => ?_)
          obtain rfl : y_10 = 2 := e_10.trans (by decide)
          refine va_put (D := (dC, dI)) (ci := 12) (v := .int 2) (ty := .int) (C := RX12) (T := TX12) (N := 49) hx hb hts (fun _ h => List.mem_cons_of_mem _ (List.mem_append_right _ h)) tyX12 tyX12_ok nmX12 hown hK hP hD hS 0 rfl rfl 29 (by decide) (hts (.fieldLink RX12 259 "KinkStreetModel" "tapeMany" "I") (List.mem_of_getElem? (i := 2) rfl)) (fun _ h9 => h9) rfl (by decide +kernel) rfl rfl (Nat.le_of_ble_eq_true rfl) dX12_feed_61 (fun H locs hP hD hS => ?_)
          have hP : va_P (dC, dI) vwCl [(h0, .inr (12, [.int 0, .ref h2, .ref h3, .ref h4, .ref h5, .ref h6, .int 0, .int 0, .ref h7, .int 0, .int 0, .ref h8, .ref h9, .ref h10, .ref h11, .ref h12, .ref h13, .ref h14, .int 0, .int 0, .ref h15, .ref h16, .ref h17, .ref h18, .int 0, .ref h19, .ref h20, .int 0, .ref h1, .int 2, .int 0, .ref h21, .ref h22, .int 0, .int 0, .int 0, .int 0, .int 0, .ref h23, .int 0, .ref h24, .ref h25, .int 0, .int 0, .int 0, .ref h26, .ref h27, .ref h28, .ref h29])), (h1, .inl (cint, 120, .inl (upd (upd (fun _ => 0) (0 : Int32).toNatClampNeg (y_5 &&& 255)) (1 : Int32).toNatClampNeg (y_9 &&& 255))))] H := hP
          have hD : va_D A [(h0, .inr (12, [.int 0, .ref h2, .ref h3, .ref h4, .ref h5, .ref h6, .int 0, .int 0, .ref h7, .int 0, .int 0, .ref h8, .ref h9, .ref h10, .ref h11, .ref h12, .ref h13, .ref h14, .int 0, .int 0, .ref h15, .ref h16, .ref h17, .ref h18, .int 0, .ref h19, .ref h20, .int 0, .ref h1, .int 2, .int 0, .ref h21, .ref h22, .int 0, .int 0, .int 0, .int 0, .int 0, .ref h23, .int 0, .ref h24, .ref h25, .int 0, .int 0, .int 0, .ref h26, .ref h27, .ref h28, .ref h29])), (h1, .inl (cint, 120, .inl (upd (upd (fun _ => 0) (0 : Int32).toNatClampNeg (y_5 &&& 255)) (1 : Int32).toNatClampNeg (y_9 &&& 255))))] := hD
          refine lv_iinc (v := 2) (lv' := [(3, .int 2), (0, .ref h0), (1, .int p0), (2, .int p1)]) hx hb dX12_feed_64 hl (k := 0) rfl (by first | rfl | decide) (by decide) rfl (fun ls hl => ?_)
          refine lv_goto (tgt := 30) hx hb dX12_feed_67 (by decide) ?_
          refine lv_iload_n hx hb dX12_feed_30 rfl (lv_at hl 0 rfl) ?_
          refine lv_iload_n hx hb dX12_feed_31 rfl (lv_at hl 2 rfl) ?_
          refine lv_icmp_ge (tgt := 70) hx hb dX12_feed_32 (by decide) (fun c_11 => ?_) (fun c_11 => ?_)
          · have t_11 : p0.toInt ≤ 2 := kk_le c_11
            refine lv_aload_n hx hb dX12_feed_70 rfl (lv_at hl 1 rfl) ?_
            refine va_get (D := (dC, dI)) (ci := 12) (v := .int 2) (C := RX12) (T := TX12) (N := 49) hx hb hts (fun _ h => List.mem_cons_of_mem _ (List.mem_append_right _ h)) hown hK hP 0 rfl rfl 29 (by decide) (hts (.fieldLink RX12 259 "KinkStreetModel" "tapeMany" "I") (List.mem_of_getElem? (i := 2) rfl)) (fun _ h9 => h9) rfl dX12_feed_71 ?_
            have hP9 := hP.sub (ws' := []) [] rfl
            have hD9 := hD.sub (ws' := []) [] (by decide) rfl
            have hK9 := hK.sub (tys' := []) [] rfl
            exact W.iret (v := 2) hx hb hr (fun t ht hW => ⟨⟨2, (), rfl, by first | rfl | ((repeat' split) <;> first | rfl | (exfalso; have := kk_add2 (x := 0) (y := p0) (a := 0) (b := p0.toInt) rfl rfl (by omega) (by omega); omega) | (exact Int32.toInt_inj.mp (by show (2 : Int) = _; omega))), by rw [ht]; exact hP9, va_K.moved hW.alike hK9, hD9⟩, hS.F ht⟩) hS.2.2 dX12_feed_74
          · have t_11 : 2 < p0.toInt := kk_nle c_11
            refine lv_aload_n hx hb dX12_feed_35 rfl (lv_at hl 1 rfl) ?_
            refine va_get (D := (dC, dI)) (ci := 12) (v := .ref h1) (C := RX12) (T := TX12) (N := 49) hx hb hts (fun _ h => List.mem_cons_of_mem _ (List.mem_append_right _ h)) hown hK hP 0 rfl rfl 28 (by decide) (hts (.fieldLink RX12 68 "KinkStreetModel" "tape" "[I") (List.mem_of_getElem? (i := 3) rfl)) (fun _ h9 => h9) rfl dX12_feed_36 ?_
            refine lv_aload_n hx hb dX12_feed_39 rfl (lv_at hl 1 rfl) ?_
            refine va_get (D := (dC, dI)) (ci := 12) (v := .int 2) (C := RX12) (T := TX12) (N := 49) hx hb hts (fun _ h => List.mem_cons_of_mem _ (List.mem_append_right _ h)) hown hK hP 0 rfl rfl 29 (by decide) (hts (.fieldLink RX12 259 "KinkStreetModel" "tapeMany" "I") (List.mem_of_getElem? (i := 2) rfl)) (fun _ h9 => h9) rfl dX12_feed_40 ?_
            refine lv_iload_n hx hb dX12_feed_43 rfl (lv_at hl 3 rfl) ?_
            refine lv_bipush (v := 8) hx hb dX12_feed_44 (by decide) ?_
            refine lv_iload_n hx hb dX12_feed_46 rfl (lv_at hl 0 rfl) ?_
            refine lv_imul hx hb dX12_feed_47 ?_
            refine lv_topi (fun y_12 e_12 => ?_)
            obtain rfl : y_12 = 16 := e_12.trans (by decide)
            refine lv_ishr hx hb dX12_feed_48 ?_
            refine lv_topi (fun y_13 _ => ?_)
            refine lv_sipush (v := 255) hx hb dX12_feed_49 (by decide) ?_
            refine lv_iand hx hb dX12_feed_52 ?_
            refine va_iast hx hb hK hP hD hS 1 0 rfl rfl (by unfold vp_in; decide) dX12_feed_53 (fun H locs hP hD hS => ?_)
            have hP : va_P (dC, dI) vwCl [(h0, .inr (12, [.int 0, .ref h2, .ref h3, .ref h4, .ref h5, .ref h6, .int 0, .int 0, .ref h7, .int 0, .int 0, .ref h8, .ref h9, .ref h10, .ref h11, .ref h12, .ref h13, .ref h14, .int 0, .int 0, .ref h15, .ref h16, .ref h17, .ref h18, .int 0, .ref h19, .ref h20, .int 0, .ref h1, .int 2, .int 0, .ref h21, .ref h22, .int 0, .int 0, .int 0, .int 0, .int 0, .ref h23, .int 0, .ref h24, .ref h25, .int 0, .int 0, .int 0, .ref h26, .ref h27, .ref h28, .ref h29])), (h1, .inl (cint, 120, .inl (upd (upd (upd (fun _ => 0) (0 : Int32).toNatClampNeg (y_5 &&& 255)) (1 : Int32).toNatClampNeg (y_9 &&& 255)) (2 : Int32).toNatClampNeg (y_13 &&& 255))))] H := hP
            have hD : va_D A [(h0, .inr (12, [.int 0, .ref h2, .ref h3, .ref h4, .ref h5, .ref h6, .int 0, .int 0, .ref h7, .int 0, .int 0, .ref h8, .ref h9, .ref h10, .ref h11, .ref h12, .ref h13, .ref h14, .int 0, .int 0, .ref h15, .ref h16, .ref h17, .ref h18, .int 0, .ref h19, .ref h20, .int 0, .ref h1, .int 2, .int 0, .ref h21, .ref h22, .int 0, .int 0, .int 0, .int 0, .int 0, .ref h23, .int 0, .ref h24, .ref h25, .int 0, .int 0, .int 0, .ref h26, .ref h27, .ref h28, .ref h29])), (h1, .inl (cint, 120, .inl (upd (upd (upd (fun _ => 0) (0 : Int32).toNatClampNeg (y_5 &&& 255)) (1 : Int32).toNatClampNeg (y_9 &&& 255)) (2 : Int32).toNatClampNeg (y_13 &&& 255))))] := hD
            refine lv_aload_n hx hb dX12_feed_54 rfl (lv_at hl 1 rfl) ?_
            refine lv_dup hx hb dX12_feed_55 rfl ?_
            refine va_get (D := (dC, dI)) (ci := 12) (v := .int 2) (C := RX12) (T := TX12) (N := 49) hx hb hts (fun _ h => List.mem_cons_of_mem _ (List.mem_append_right _ h)) hown hK hP 0 rfl rfl 29 (by decide) (hts (.fieldLink RX12 259 "KinkStreetModel" "tapeMany" "I") (List.mem_of_getElem? (i := 2) rfl)) (fun _ h9 => h9) rfl dX12_feed_56 ?_
            refine lv_iconst (v := 1) hx hb dX12_feed_59 (by decide) ?_
            refine lv_iadd hx hb dX12_feed_60 ?_
            refine lv_topi (fun y_14 e_14 => ?_)
            obtain rfl : y_14 = 3 := e_14.trans (by decide)
            refine va_put (D := (dC, dI)) (ci := 12) (v := .int 3) (ty := .int) (C := RX12) (T := TX12) (N := 49) hx hb hts (fun _ h => List.mem_cons_of_mem _ (List.mem_append_right _ h)) tyX12 tyX12_ok nmX12 hown hK hP hD hS 0 rfl rfl 29 (by decide) (hts (.fieldLink RX12 259 "KinkStreetModel" "tapeMany" "I") (List.mem_of_getElem? (i := 2) rfl)) (fun _ h9 => h9) rfl (by decide +kernel) rfl rfl (Nat.le_of_ble_eq_true rfl) dX12_feed_61 (fun H locs hP hD hS => ?_)
            have hP : va_P (dC, dI) vwCl [(h0, .inr (12, [.int 0, .ref h2, .ref h3, .ref h4, .ref h5, .ref h6, .int 0, .int 0, .ref h7, .int 0, .int 0, .ref h8, .ref h9, .ref h10, .ref h11, .ref h12, .ref h13, .ref h14, .int 0, .int 0, .ref h15, .ref h16, .ref h17, .ref h18, .int 0, .ref h19, .ref h20, .int 0, .ref h1, .int 3, .int 0, .ref h21, .ref h22, .int 0, .int 0, .int 0, .int 0, .int 0, .ref h23, .int 0, .ref h24, .ref h25, .int 0, .int 0, .int 0, .ref h26, .ref h27, .ref h28, .ref h29])), (h1, .inl (cint, 120, .inl (upd (upd (upd (fun _ => 0) (0 : Int32).toNatClampNeg (y_5 &&& 255)) (1 : Int32).toNatClampNeg (y_9 &&& 255)) (2 : Int32).toNatClampNeg (y_13 &&& 255))))] H := hP
            have hD : va_D A [(h0, .inr (12, [.int 0, .ref h2, .ref h3, .ref h4, .ref h5, .ref h6, .int 0, .int 0, .ref h7, .int 0, .int 0, .ref h8, .ref h9, .ref h10, .ref h11, .ref h12, .ref h13, .ref h14, .int 0, .int 0, .ref h15, .ref h16, .ref h17, .ref h18, .int 0, .ref h19, .ref h20, .int 0, .ref h1, .int 3, .int 0, .ref h21, .ref h22, .int 0, .int 0, .int 0, .int 0, .int 0, .ref h23, .int 0, .ref h24, .ref h25, .int 0, .int 0, .int 0, .ref h26, .ref h27, .ref h28, .ref h29])), (h1, .inl (cint, 120, .inl (upd (upd (upd (fun _ => 0) (0 : Int32).toNatClampNeg (y_5 &&& 255)) (1 : Int32).toNatClampNeg (y_9 &&& 255)) (2 : Int32).toNatClampNeg (y_13 &&& 255))))] := hD
            refine lv_iinc (v := 3) (lv' := [(3, .int 3), (0, .ref h0), (1, .int p0), (2, .int p1)]) hx hb dX12_feed_64 hl (k := 0) rfl (by first | rfl | decide) (by decide) rfl (fun ls hl => ?_)
            refine lv_goto (tgt := 30) hx hb dX12_feed_67 (by decide) ?_
            refine lv_iload_n hx hb dX12_feed_30 rfl (lv_at hl 0 rfl) ?_
            refine lv_iload_n hx hb dX12_feed_31 rfl (lv_at hl 2 rfl) ?_
            refine lv_icmp_ge (tgt := 70) hx hb dX12_feed_32 (by decide) (fun c_15 => ?_) (fun c_15 => ?_)
            · have t_15 : p0.toInt ≤ 3 := kk_le c_15
              refine lv_aload_n hx hb dX12_feed_70 rfl (lv_at hl 1 rfl) ?_
              refine va_get (D := (dC, dI)) (ci := 12) (v := .int 3) (C := RX12) (T := TX12) (N := 49) hx hb hts (fun _ h => List.mem_cons_of_mem _ (List.mem_append_right _ h)) hown hK hP 0 rfl rfl 29 (by decide) (hts (.fieldLink RX12 259 "KinkStreetModel" "tapeMany" "I") (List.mem_of_getElem? (i := 2) rfl)) (fun _ h9 => h9) rfl dX12_feed_71 ?_
              have hP9 := hP.sub (ws' := []) [] rfl
              have hD9 := hD.sub (ws' := []) [] (by decide) rfl
              have hK9 := hK.sub (tys' := []) [] rfl
              exact W.iret (v := 3) hx hb hr (fun t ht hW => ⟨⟨3, (), rfl, by first | rfl | ((repeat' split) <;> first | rfl | (exfalso; have := kk_add2 (x := 0) (y := p0) (a := 0) (b := p0.toInt) rfl rfl (by omega) (by omega); omega) | (exact Int32.toInt_inj.mp (by show (3 : Int) = _; omega))), by rw [ht]; exact hP9, va_K.moved hW.alike hK9, hD9⟩, hS.F ht⟩) hS.2.2 dX12_feed_74
            · have t_15 : 3 < p0.toInt := kk_nle c_15
              refine lv_aload_n hx hb dX12_feed_35 rfl (lv_at hl 1 rfl) ?_
              refine va_get (D := (dC, dI)) (ci := 12) (v := .ref h1) (C := RX12) (T := TX12) (N := 49) hx hb hts (fun _ h => List.mem_cons_of_mem _ (List.mem_append_right _ h)) hown hK hP 0 rfl rfl 28 (by decide) (hts (.fieldLink RX12 68 "KinkStreetModel" "tape" "[I") (List.mem_of_getElem? (i := 3) rfl)) (fun _ h9 => h9) rfl dX12_feed_36 ?_
              refine lv_aload_n hx hb dX12_feed_39 rfl (lv_at hl 1 rfl) ?_
              refine va_get (D := (dC, dI)) (ci := 12) (v := .int 3) (C := RX12) (T := TX12) (N := 49) hx hb hts (fun _ h => List.mem_cons_of_mem _ (List.mem_append_right _ h)) hown hK hP 0 rfl rfl 29 (by decide) (hts (.fieldLink RX12 259 "KinkStreetModel" "tapeMany" "I") (List.mem_of_getElem? (i := 2) rfl)) (fun _ h9 => h9) rfl dX12_feed_40 ?_
              refine lv_iload_n hx hb dX12_feed_43 rfl (lv_at hl 3 rfl) ?_
              refine lv_bipush (v := 8) hx hb dX12_feed_44 (by decide) ?_
              refine lv_iload_n hx hb dX12_feed_46 rfl (lv_at hl 0 rfl) ?_
              refine lv_imul hx hb dX12_feed_47 ?_
              refine lv_topi (fun y_16 e_16 => ?_)
              obtain rfl : y_16 = 24 := e_16.trans (by decide)
              refine lv_ishr hx hb dX12_feed_48 ?_
              refine lv_topi (fun y_17 _ => ?_)
              refine lv_sipush (v := 255) hx hb dX12_feed_49 (by decide) ?_
              refine lv_iand hx hb dX12_feed_52 ?_
              refine va_iast hx hb hK hP hD hS 1 0 rfl rfl (by unfold vp_in; decide) dX12_feed_53 (fun H locs hP hD hS => ?_)
              have hP : va_P (dC, dI) vwCl [(h0, .inr (12, [.int 0, .ref h2, .ref h3, .ref h4, .ref h5, .ref h6, .int 0, .int 0, .ref h7, .int 0, .int 0, .ref h8, .ref h9, .ref h10, .ref h11, .ref h12, .ref h13, .ref h14, .int 0, .int 0, .ref h15, .ref h16, .ref h17, .ref h18, .int 0, .ref h19, .ref h20, .int 0, .ref h1, .int 3, .int 0, .ref h21, .ref h22, .int 0, .int 0, .int 0, .int 0, .int 0, .ref h23, .int 0, .ref h24, .ref h25, .int 0, .int 0, .int 0, .ref h26, .ref h27, .ref h28, .ref h29])), (h1, .inl (cint, 120, .inl (upd (upd (upd (upd (fun _ => 0) (0 : Int32).toNatClampNeg (y_5 &&& 255)) (1 : Int32).toNatClampNeg (y_9 &&& 255)) (2 : Int32).toNatClampNeg (y_13 &&& 255)) (3 : Int32).toNatClampNeg (y_17 &&& 255))))] H := hP
              have hD : va_D A [(h0, .inr (12, [.int 0, .ref h2, .ref h3, .ref h4, .ref h5, .ref h6, .int 0, .int 0, .ref h7, .int 0, .int 0, .ref h8, .ref h9, .ref h10, .ref h11, .ref h12, .ref h13, .ref h14, .int 0, .int 0, .ref h15, .ref h16, .ref h17, .ref h18, .int 0, .ref h19, .ref h20, .int 0, .ref h1, .int 3, .int 0, .ref h21, .ref h22, .int 0, .int 0, .int 0, .int 0, .int 0, .ref h23, .int 0, .ref h24, .ref h25, .int 0, .int 0, .int 0, .ref h26, .ref h27, .ref h28, .ref h29])), (h1, .inl (cint, 120, .inl (upd (upd (upd (upd (fun _ => 0) (0 : Int32).toNatClampNeg (y_5 &&& 255)) (1 : Int32).toNatClampNeg (y_9 &&& 255)) (2 : Int32).toNatClampNeg (y_13 &&& 255)) (3 : Int32).toNatClampNeg (y_17 &&& 255))))] := hD
              refine lv_aload_n hx hb dX12_feed_54 rfl (lv_at hl 1 rfl) ?_
              refine lv_dup hx hb dX12_feed_55 rfl ?_
              refine va_get (D := (dC, dI)) (ci := 12) (v := .int 3) (C := RX12) (T := TX12) (N := 49) hx hb hts (fun _ h => List.mem_cons_of_mem _ (List.mem_append_right _ h)) hown hK hP 0 rfl rfl 29 (by decide) (hts (.fieldLink RX12 259 "KinkStreetModel" "tapeMany" "I") (List.mem_of_getElem? (i := 2) rfl)) (fun _ h9 => h9) rfl dX12_feed_56 ?_
              refine lv_iconst (v := 1) hx hb dX12_feed_59 (by decide) ?_
              refine lv_iadd hx hb dX12_feed_60 ?_
              refine lv_topi (fun y_18 e_18 => ?_)
              obtain rfl : y_18 = 4 := e_18.trans (by decide)
              refine va_put (D := (dC, dI)) (ci := 12) (v := .int 4) (ty := .int) (C := RX12) (T := TX12) (N := 49) hx hb hts (fun _ h => List.mem_cons_of_mem _ (List.mem_append_right _ h)) tyX12 tyX12_ok nmX12 hown hK hP hD hS 0 rfl rfl 29 (by decide) (hts (.fieldLink RX12 259 "KinkStreetModel" "tapeMany" "I") (List.mem_of_getElem? (i := 2) rfl)) (fun _ h9 => h9) rfl (by decide +kernel) rfl rfl (Nat.le_of_ble_eq_true rfl) dX12_feed_61 (fun H locs hP hD hS => ?_)
              have hP : va_P (dC, dI) vwCl [(h0, .inr (12, [.int 0, .ref h2, .ref h3, .ref h4, .ref h5, .ref h6, .int 0, .int 0, .ref h7, .int 0, .int 0, .ref h8, .ref h9, .ref h10, .ref h11, .ref h12, .ref h13, .ref h14, .int 0, .int 0, .ref h15, .ref h16, .ref h17, .ref h18, .int 0, .ref h19, .ref h20, .int 0, .ref h1, .int 4, .int 0, .ref h21, .ref h22, .int 0, .int 0, .int 0, .int 0, .int 0, .ref h23, .int 0, .ref h24, .ref h25, .int 0, .int 0, .int 0, .ref h26, .ref h27, .ref h28, .ref h29])), (h1, .inl (cint, 120, .inl (upd (upd (upd (upd (fun _ => 0) (0 : Int32).toNatClampNeg (y_5 &&& 255)) (1 : Int32).toNatClampNeg (y_9 &&& 255)) (2 : Int32).toNatClampNeg (y_13 &&& 255)) (3 : Int32).toNatClampNeg (y_17 &&& 255))))] H := hP
              have hD : va_D A [(h0, .inr (12, [.int 0, .ref h2, .ref h3, .ref h4, .ref h5, .ref h6, .int 0, .int 0, .ref h7, .int 0, .int 0, .ref h8, .ref h9, .ref h10, .ref h11, .ref h12, .ref h13, .ref h14, .int 0, .int 0, .ref h15, .ref h16, .ref h17, .ref h18, .int 0, .ref h19, .ref h20, .int 0, .ref h1, .int 4, .int 0, .ref h21, .ref h22, .int 0, .int 0, .int 0, .int 0, .int 0, .ref h23, .int 0, .ref h24, .ref h25, .int 0, .int 0, .int 0, .ref h26, .ref h27, .ref h28, .ref h29])), (h1, .inl (cint, 120, .inl (upd (upd (upd (upd (fun _ => 0) (0 : Int32).toNatClampNeg (y_5 &&& 255)) (1 : Int32).toNatClampNeg (y_9 &&& 255)) (2 : Int32).toNatClampNeg (y_13 &&& 255)) (3 : Int32).toNatClampNeg (y_17 &&& 255))))] := hD
              refine lv_iinc (v := 4) (lv' := [(3, .int 4), (0, .ref h0), (1, .int p0), (2, .int p1)]) hx hb dX12_feed_64 hl (k := 0) rfl (by first | rfl | decide) (by decide) rfl (fun ls hl => ?_)
              refine lv_goto (tgt := 30) hx hb dX12_feed_67 (by decide) ?_
              refine lv_iload_n hx hb dX12_feed_30 rfl (lv_at hl 0 rfl) ?_
              refine lv_iload_n hx hb dX12_feed_31 rfl (lv_at hl 2 rfl) ?_
              refine lv_icmp_ge (tgt := 70) hx hb dX12_feed_32 (by decide) (fun c_19 => ?_) (fun c_19 => ?_)
              · have t_19 : p0.toInt ≤ 4 := kk_le c_19
                refine lv_aload_n hx hb dX12_feed_70 rfl (lv_at hl 1 rfl) ?_
                refine va_get (D := (dC, dI)) (ci := 12) (v := .int 4) (C := RX12) (T := TX12) (N := 49) hx hb hts (fun _ h => List.mem_cons_of_mem _ (List.mem_append_right _ h)) hown hK hP 0 rfl rfl 29 (by decide) (hts (.fieldLink RX12 259 "KinkStreetModel" "tapeMany" "I") (List.mem_of_getElem? (i := 2) rfl)) (fun _ h9 => h9) rfl dX12_feed_71 ?_
                have hP9 := hP.sub (ws' := []) [] rfl
                have hD9 := hD.sub (ws' := []) [] (by decide) rfl
                have hK9 := hK.sub (tys' := []) [] rfl
                exact W.iret (v := 4) hx hb hr (fun t ht hW => ⟨⟨4, (), rfl, by first | rfl | ((repeat' split) <;> first | rfl | (exfalso; have := kk_add2 (x := 0) (y := p0) (a := 0) (b := p0.toInt) rfl rfl (by omega) (by omega); omega) | (exact Int32.toInt_inj.mp (by show (4 : Int) = _; omega))), by rw [ht]; exact hP9, va_K.moved hW.alike hK9, hD9⟩, hS.F ht⟩) hS.2.2 dX12_feed_74
              · have t_19 : 4 < p0.toInt := kk_nle c_19
                exfalso; have := kk_add2 (x := 0) (y := p0) (a := 0) (b := p0.toInt) rfl rfl (by omega) (by omega); omega
    · have t_2 : 120 < (0 + p0).toInt := kk_nle c_2
      exfalso; have := kk_add2 (x := 0) (y := p0) (a := 0) (b := p0.toInt) rfl rfl (by omega) (by omega); omega
set_option maxHeartbeats 4000000 in
set_option maxRecDepth 100000 in
theorem k_X12_byteAt_0 (l : Launch) (dC : Nat → ClassId) (dI : Nat → Nat → Nat) (h0 h1 h2 h3 h4 h5 h6 h7 h8 h9 h10 h11 h12 h13 h14 h15 h16 h17 h18 h19 h20 h21 h22 h23 h24 h25 h26 h27 h28 h29 : Nat) (sz : Nat)  : Met l yX12_byteAt wsX12_byteAt ({ frames := 0, cells := 0, slots := 0, locals := 0 }) (va_Pc [.ref h0] (fun U => U.heap.size = sz ∧ va_P (dC, dI) vwCl [(h0, .inr (12, [.int 0, .ref h1, .ref h2, .ref h3, .ref h4, .ref h5, .int 0, .int 0, .ref h6, .int 0, .int 0, .ref h7, .ref h8, .ref h9, .ref h10, .ref h11, .ref h12, .ref h13, .int 0, .int 0, .ref h14, .ref h15, .ref h16, .ref h17, .int 0, .ref h18, .ref h19, .int 0, .ref h20, .int 0, .int 0, .ref h21, .ref h22, .int (-1), .int 0, .int 0, .int (-1), .int 0, .ref h23, .int 0, .ref h24, .ref h25, .int 0, .int 0, .int 0, .ref h26, .ref h27, .ref h28, .ref h29]))] U.heap ∧ va_K (dC, dI) vwCl [] U ∧ va_D (fun _ => True) [(h0, .inr (12, [.int 0, .ref h1, .ref h2, .ref h3, .ref h4, .ref h5, .int 0, .int 0, .ref h6, .int 0, .int 0, .ref h7, .ref h8, .ref h9, .ref h10, .ref h11, .ref h12, .ref h13, .int 0, .int 0, .ref h14, .ref h15, .ref h16, .ref h17, .int 0, .ref h18, .ref h19, .int 0, .ref h20, .int 0, .int 0, .ref h21, .ref h22, .int (-1), .int 0, .int 0, .int (-1), .int 0, .ref h23, .int 0, .ref h24, .ref h25, .int 0, .int 0, .int 0, .ref h26, .ref h27, .ref h28, .ref h29]))])) (va_Qi (fun (r : Int32) (_ : Unit) => r = 0) (fun (_ : Unit) t => va_P (dC, dI) vwCl [(h0, .inr (12, [.int 0, .ref h1, .ref h2, .ref h3, .ref h4, .ref h5, .int 0, .int 0, .ref h6, .int 0, .int 0, .ref h7, .ref h8, .ref h9, .ref h10, .ref h11, .ref h12, .ref h13, .int 0, .int 0, .ref h14, .ref h15, .ref h16, .ref h17, .int 0, .ref h18, .ref h19, .int 0, .ref h20, .int 0, .int 0, .ref h21, .ref h22, .int (-1), .int 0, .int 0, .int (-1), .int 0, .ref h23, .int 0, .ref h24, .ref h25, .int 0, .int 0, .int 0, .ref h26, .ref h27, .ref h28, .ref h29]))] t.heap ∧ va_K (dC, dI) vwCl [] t ∧ va_D (va_A [(h0, .inr (12, [.int 0, .ref h1, .ref h2, .ref h3, .ref h4, .ref h5, .int 0, .int 0, .ref h6, .int 0, .int 0, .ref h7, .ref h8, .ref h9, .ref h10, .ref h11, .ref h12, .ref h13, .int 0, .int 0, .ref h14, .ref h15, .ref h16, .ref h17, .int 0, .ref h18, .ref h19, .int 0, .ref h20, .int 0, .int 0, .ref h21, .ref h22, .int (-1), .int 0, .int 0, .int (-1), .int 0, .ref h23, .int 0, .ref h24, .ref h25, .int 0, .int 0, .int 0, .ref h26, .ref h27, .ref h28, .ref h29]))] sz) [(h0, .inr (12, [.int 0, .ref h1, .ref h2, .ref h3, .ref h4, .ref h5, .int 0, .int 0, .ref h6, .int 0, .int 0, .ref h7, .ref h8, .ref h9, .ref h10, .ref h11, .ref h12, .ref h13, .int 0, .int 0, .ref h14, .ref h15, .ref h16, .ref h17, .int 0, .ref h18, .ref h19, .int 0, .ref h20, .int 0, .int 0, .ref h21, .ref h22, .int (-1), .int 0, .int 0, .int (-1), .int 0, .ref h23, .int 0, .ref h24, .ref h25, .int 0, .int 0, .int 0, .ref h26, .ref h27, .ref h28, .ref h29]))]) (va_A [(h0, .inr (12, [.int 0, .ref h1, .ref h2, .ref h3, .ref h4, .ref h5, .int 0, .int 0, .ref h6, .int 0, .int 0, .ref h7, .ref h8, .ref h9, .ref h10, .ref h11, .ref h12, .ref h13, .int 0, .int 0, .ref h14, .ref h15, .ref h16, .ref h17, .int 0, .ref h18, .ref h19, .int 0, .ref h20, .int 0, .int 0, .ref h21, .ref h22, .int (-1), .int 0, .int 0, .int (-1), .int 0, .ref h23, .int 0, .ref h24, .ref h25, .int 0, .int 0, .int 0, .ref h26, .ref h27, .ref h28, .ref h29]))] sz)) 0 0 (va_A [(h0, .inr (12, [.int 0, .ref h1, .ref h2, .ref h3, .ref h4, .ref h5, .int 0, .int 0, .ref h6, .int 0, .int 0, .ref h7, .ref h8, .ref h9, .ref h10, .ref h11, .ref h12, .ref h13, .int 0, .int 0, .ref h14, .ref h15, .ref h16, .ref h17, .int 0, .ref h18, .ref h19, .int 0, .ref h20, .int 0, .int 0, .ref h21, .ref h22, .int (-1), .int 0, .int 0, .int (-1), .int 0, .ref h23, .int 0, .ref h24, .ref h25, .int 0, .int 0, .int 0, .ref h26, .ref h27, .ref h28, .ref h29]))] sz) := by
  refine Met.ofW (cc := cX12_byteAt) (maxL := 1) (ret := (some .int)) (by decide) rfl ?_
  intro p e s m args below meth c s₁ B hml hv
  obtain ⟨rfl, hsz, hP, hK, hD0⟩ := hv
  have hx := B.exec
  have hb := B.bytes
  have hr := B.returns
  have hts := atoms_spec (ws := wsX12_byteAt) B.pre
  have hown : s.vm.findClass RX12 = some m.cls := findClass_of_methodNamed B.named
  have hlocks := B.notSynchronized
  subst hsz
  have hD := hD0.self (sz := s.heap.size)
  generalize hAe : va_A [(h0, .inr (12, [.int 0, .ref h1, .ref h2, .ref h3, .ref h4, .ref h5, .int 0, .int 0, .ref h6, .int 0, .int 0, .ref h7, .ref h8, .ref h9, .ref h10, .ref h11, .ref h12, .ref h13, .int 0, .int 0, .ref h14, .ref h15, .ref h16, .ref h17, .int 0, .ref h18, .ref h19, .int 0, .ref h20, .int 0, .int 0, .ref h21, .ref h22, .int (-1), .int 0, .int 0, .int (-1), .int 0, .ref h23, .int 0, .ref h24, .ref h25, .int 0, .int 0, .int 0, .ref h26, .ref h27, .ref h28, .ref h29]))] s.heap.size = A at hD ⊢
  have hA : ∀ q : Nat, s.heap.size ≤ q → A q := fun q h => by rw [← hAe]; exact Or.inr h
  have hS : va_S A s.heap s.heap [] := va_S.rf
  have hP : va_P (dC, dI) vwCl [(h0, .inr (12, [.int 0, .ref h1, .ref h2, .ref h3, .ref h4, .ref h5, .int 0, .int 0, .ref h6, .int 0, .int 0, .ref h7, .ref h8, .ref h9, .ref h10, .ref h11, .ref h12, .ref h13, .int 0, .int 0, .ref h14, .ref h15, .ref h16, .ref h17, .int 0, .ref h18, .ref h19, .int 0, .ref h20, .int 0, .int 0, .ref h21, .ref h22, .int (-1), .int 0, .int 0, .int (-1), .int 0, .ref h23, .int 0, .ref h24, .ref h25, .int 0, .int 0, .int 0, .ref h26, .ref h27, .ref h28, .ref h29]))] s.heap := hP
  have hl := lv_entry ([.ref h0]) (n := 1) (Nat.le_of_ble_eq_true rfl)
  rw [lg_entry_eq]
  generalize (lg_sl ([.ref h0]) ++ List.replicate (1 - (lg_sl ([.ref h0])).length) Slot.unset).toArray = ls at hl ⊢
  have hl : lv_has ls 1 [(0, .ref h0)] := hl
  refine lv_aload_n hx hb dX12_byteAt_0 rfl (lv_at hl 0 rfl) ?_
  refine va_get (D := (dC, dI)) (ci := 12) (v := .int 0) (C := RX12) (T := TX12) (N := 49) hx hb hts (fun _ h => List.mem_cons_of_mem _ (List.mem_append_right _ h)) hown hK hP 0 rfl rfl 34 (by decide) (hts (.fieldLink RX12 262 "KinkStreetModel" "at" "I") (List.mem_of_getElem? (i := 1) rfl)) (fun _ h9 => h9) rfl dX12_byteAt_1 ?_
  refine lv_aload_n hx hb dX12_byteAt_4 rfl (lv_at hl 0 rfl) ?_
  refine va_get (D := (dC, dI)) (ci := 12) (v := .int 0) (C := RX12) (T := TX12) (N := 49) hx hb hts (fun _ h => List.mem_cons_of_mem _ (List.mem_append_right _ h)) hown hK hP 0 rfl rfl 35 (by decide) (hts (.fieldLink RX12 265 "KinkStreetModel" "ends" "I") (List.mem_of_getElem? (i := 2) rfl)) (fun _ h9 => h9) rfl dX12_byteAt_5 ?_
  refine lv_icmp_ge (tgt := 47) hx hb dX12_byteAt_8 (by decide) (fun _ => ?_) (fun c => absurd c (by decide))
  refine lv_iconst (v := 0) hx hb dX12_byteAt_47 (by decide) ?_
  have hP9 := hP.sub (ws' := [(h0, .inr (12, [.int 0, .ref h1, .ref h2, .ref h3, .ref h4, .ref h5, .int 0, .int 0, .ref h6, .int 0, .int 0, .ref h7, .ref h8, .ref h9, .ref h10, .ref h11, .ref h12, .ref h13, .int 0, .int 0, .ref h14, .ref h15, .ref h16, .ref h17, .int 0, .ref h18, .ref h19, .int 0, .ref h20, .int 0, .int 0, .ref h21, .ref h22, .int (-1), .int 0, .int 0, .int (-1), .int 0, .ref h23, .int 0, .ref h24, .ref h25, .int 0, .int 0, .int 0, .ref h26, .ref h27, .ref h28, .ref h29]))]) [0] rfl
  have hD9 := hD.sub (ws' := [(h0, .inr (12, [.int 0, .ref h1, .ref h2, .ref h3, .ref h4, .ref h5, .int 0, .int 0, .ref h6, .int 0, .int 0, .ref h7, .ref h8, .ref h9, .ref h10, .ref h11, .ref h12, .ref h13, .int 0, .int 0, .ref h14, .ref h15, .ref h16, .ref h17, .int 0, .ref h18, .ref h19, .int 0, .ref h20, .int 0, .int 0, .ref h21, .ref h22, .int (-1), .int 0, .int 0, .int (-1), .int 0, .ref h23, .int 0, .ref h24, .ref h25, .int 0, .int 0, .int 0, .ref h26, .ref h27, .ref h28, .ref h29]))]) [0] (by decide) rfl
  have hK9 := hK.sub (tys' := []) [] rfl
  exact W.iret (v := 0) hx hb hr (fun t ht hW => ⟨⟨0, (), rfl, rfl, by rw [ht]; exact hP9, va_K.moved hW.alike hK9, hD9⟩, hS.F ht⟩) hS.2.2 dX12_byteAt_48
set_option maxHeartbeats 4000000 in
set_option maxRecDepth 100000 in
theorem k_X12_nameOf_0 (l : Launch) (dC : Nat → ClassId) (dI : Nat → Nat → Nat) (sz : Nat)  : Met l yX12_nameOf wsX12_nameOf ({ frames := 0, cells := 0, slots := 0, locals := 0 }) (va_Pc [.int 0] (fun U => U.heap.size = sz ∧ va_P (dC, dI) vwCl [] U.heap ∧ va_K (dC, dI) vwCl [] U ∧ va_D (fun _ => True) [])) (va_Qi (fun (r : Int32) (_ : Unit) => r = (-1)) (fun (_ : Unit) t => va_P (dC, dI) vwCl [] t.heap ∧ va_K (dC, dI) vwCl [] t ∧ va_D (va_A [] sz) []) (va_A [] sz)) 0 0 (va_A [] sz) := by
  refine Met.ofW (cc := cX12_nameOf) (maxL := 1) (ret := (some .int)) (by decide) rfl ?_
  intro p e s m args below meth c s₁ B hml hv
  obtain ⟨rfl, hsz, hP, hK, hD0⟩ := hv
  have hx := B.exec
  have hb := B.bytes
  have hr := B.returns
  have hts := atoms_spec (ws := wsX12_nameOf) B.pre
  have hown : s.vm.findClass RX12 = some m.cls := findClass_of_methodNamed B.named
  have hlocks := B.notSynchronized
  subst hsz
  have hD := hD0.self (sz := s.heap.size)
  generalize hAe : va_A [] s.heap.size = A at hD ⊢
  have hA : ∀ q : Nat, s.heap.size ≤ q → A q := fun q h => by rw [← hAe]; exact Or.inr h
  have hS : va_S A s.heap s.heap [] := va_S.rf
  have hP : va_P (dC, dI) vwCl [] s.heap := hP
  have hl := lv_entry ([.int 0]) (n := 1) (Nat.le_of_ble_eq_true rfl)
  rw [lg_entry_eq]
  generalize (lg_sl ([.int 0]) ++ List.replicate (1 - (lg_sl ([.int 0])).length) Slot.unset).toArray = ls at hl ⊢
  have hl : lv_has ls 1 [(0, .int 0)] := hl
  refine lv_iload_n hx hb dX12_nameOf_0 rfl (lv_at hl 0 rfl) ?_
  refine lv_tableOut (tgt := 130) hx hb dX12_nameOf_1 (by decide) (by decide) ?_
  refine lv_iconst (v := (-1)) hx hb dX12_nameOf_130 (by decide) ?_
  have hP9 := hP.sub (ws' := []) [] rfl
  have hD9 := hD.sub (ws' := []) [] (by decide) rfl
  have hK9 := hK.sub (tys' := []) [] rfl
  exact W.iret (v := (-1)) hx hb hr (fun t ht hW => ⟨⟨(-1), (), rfl, rfl, by rw [ht]; exact hP9, va_K.moved hW.alike hK9, hD9⟩, hS.F ht⟩) hS.2.2 dX12_nameOf_131
set_option maxHeartbeats 4000000 in
set_option maxRecDepth 100000 in
theorem k_X12_wrong_0 (l : Launch) (dC : Nat → ClassId) (dI : Nat → Nat → Nat) (h0 h1 h2 h3 h4 h5 h6 h7 h8 h9 h10 h11 h12 h13 h14 h15 h16 h17 h18 h19 h20 h21 h22 h23 h24 h25 h26 h27 h28 h29 : Nat) (sz : Nat)  : Met l yX12_wrong wsX12_wrong ({ frames := 0, cells := 0, slots := 0, locals := 0 }) (va_Pc [.ref h0] (fun U => U.heap.size = sz ∧ va_P (dC, dI) vwCl [(h0, .inr (12, [.int 0, .ref h1, .ref h2, .ref h3, .ref h4, .ref h5, .int 0, .int 0, .ref h6, .int 0, .int 0, .ref h7, .ref h8, .ref h9, .ref h10, .ref h11, .ref h12, .ref h13, .int 0, .int 0, .ref h14, .ref h15, .ref h16, .ref h17, .int 0, .ref h18, .ref h19, .int 0, .ref h20, .int 0, .int 0, .ref h21, .ref h22, .int (-1), .int 0, .int 0, .int (-1), .int 0, .ref h23, .int 0, .ref h24, .ref h25, .int 0, .int 0, .int 0, .ref h26, .ref h27, .ref h28, .ref h29]))] U.heap ∧ va_K (dC, dI) vwCl [] U ∧ va_D (fun _ => True) [(h0, .inr (12, [.int 0, .ref h1, .ref h2, .ref h3, .ref h4, .ref h5, .int 0, .int 0, .ref h6, .int 0, .int 0, .ref h7, .ref h8, .ref h9, .ref h10, .ref h11, .ref h12, .ref h13, .int 0, .int 0, .ref h14, .ref h15, .ref h16, .ref h17, .int 0, .ref h18, .ref h19, .int 0, .ref h20, .int 0, .int 0, .ref h21, .ref h22, .int (-1), .int 0, .int 0, .int (-1), .int 0, .ref h23, .int 0, .ref h24, .ref h25, .int 0, .int 0, .int 0, .ref h26, .ref h27, .ref h28, .ref h29]))])) (va_Qi (fun (r : Int32) (_ : Unit) => r = 0) (fun (_ : Unit) t => va_P (dC, dI) vwCl [(h0, .inr (12, [.int 0, .ref h1, .ref h2, .ref h3, .ref h4, .ref h5, .int 0, .int 0, .ref h6, .int 0, .int 0, .ref h7, .ref h8, .ref h9, .ref h10, .ref h11, .ref h12, .ref h13, .int 0, .int 0, .ref h14, .ref h15, .ref h16, .ref h17, .int 0, .ref h18, .ref h19, .int 0, .ref h20, .int 0, .int 0, .ref h21, .ref h22, .int (-1), .int 0, .int 0, .int 0, .int 0, .ref h23, .int 0, .ref h24, .ref h25, .int 0, .int 0, .int 0, .ref h26, .ref h27, .ref h28, .ref h29]))] t.heap ∧ va_K (dC, dI) vwCl [] t ∧ va_D (va_A [(h0, .inr (12, [.int 0, .ref h1, .ref h2, .ref h3, .ref h4, .ref h5, .int 0, .int 0, .ref h6, .int 0, .int 0, .ref h7, .ref h8, .ref h9, .ref h10, .ref h11, .ref h12, .ref h13, .int 0, .int 0, .ref h14, .ref h15, .ref h16, .ref h17, .int 0, .ref h18, .ref h19, .int 0, .ref h20, .int 0, .int 0, .ref h21, .ref h22, .int (-1), .int 0, .int 0, .int (-1), .int 0, .ref h23, .int 0, .ref h24, .ref h25, .int 0, .int 0, .int 0, .ref h26, .ref h27, .ref h28, .ref h29]))] sz) [(h0, .inr (12, [.int 0, .ref h1, .ref h2, .ref h3, .ref h4, .ref h5, .int 0, .int 0, .ref h6, .int 0, .int 0, .ref h7, .ref h8, .ref h9, .ref h10, .ref h11, .ref h12, .ref h13, .int 0, .int 0, .ref h14, .ref h15, .ref h16, .ref h17, .int 0, .ref h18, .ref h19, .int 0, .ref h20, .int 0, .int 0, .ref h21, .ref h22, .int (-1), .int 0, .int 0, .int 0, .int 0, .ref h23, .int 0, .ref h24, .ref h25, .int 0, .int 0, .int 0, .ref h26, .ref h27, .ref h28, .ref h29]))]) (va_A [(h0, .inr (12, [.int 0, .ref h1, .ref h2, .ref h3, .ref h4, .ref h5, .int 0, .int 0, .ref h6, .int 0, .int 0, .ref h7, .ref h8, .ref h9, .ref h10, .ref h11, .ref h12, .ref h13, .int 0, .int 0, .ref h14, .ref h15, .ref h16, .ref h17, .int 0, .ref h18, .ref h19, .int 0, .ref h20, .int 0, .int 0, .ref h21, .ref h22, .int (-1), .int 0, .int 0, .int (-1), .int 0, .ref h23, .int 0, .ref h24, .ref h25, .int 0, .int 0, .int 0, .ref h26, .ref h27, .ref h28, .ref h29]))] sz)) 0 0 (va_A [(h0, .inr (12, [.int 0, .ref h1, .ref h2, .ref h3, .ref h4, .ref h5, .int 0, .int 0, .ref h6, .int 0, .int 0, .ref h7, .ref h8, .ref h9, .ref h10, .ref h11, .ref h12, .ref h13, .int 0, .int 0, .ref h14, .ref h15, .ref h16, .ref h17, .int 0, .ref h18, .ref h19, .int 0, .ref h20, .int 0, .int 0, .ref h21, .ref h22, .int (-1), .int 0, .int 0, .int (-1), .int 0, .ref h23, .int 0, .ref h24, .ref h25, .int 0, .int 0, .int 0, .ref h26, .ref h27, .ref h28, .ref h29]))] sz) := by
  refine Met.ofW (cc := cX12_wrong) (maxL := 1) (ret := (some .int)) (by decide) rfl ?_
  intro p e s m args below meth c s₁ B hml hv
  obtain ⟨rfl, hsz, hP, hK, hD0⟩ := hv
  have hx := B.exec
  have hb := B.bytes
  have hr := B.returns
  have hts := atoms_spec (ws := wsX12_wrong) B.pre
  have hown : s.vm.findClass RX12 = some m.cls := findClass_of_methodNamed B.named
  have hlocks := B.notSynchronized
  subst hsz
  have hD := hD0.self (sz := s.heap.size)
  generalize hAe : va_A [(h0, .inr (12, [.int 0, .ref h1, .ref h2, .ref h3, .ref h4, .ref h5, .int 0, .int 0, .ref h6, .int 0, .int 0, .ref h7, .ref h8, .ref h9, .ref h10, .ref h11, .ref h12, .ref h13, .int 0, .int 0, .ref h14, .ref h15, .ref h16, .ref h17, .int 0, .ref h18, .ref h19, .int 0, .ref h20, .int 0, .int 0, .ref h21, .ref h22, .int (-1), .int 0, .int 0, .int (-1), .int 0, .ref h23, .int 0, .ref h24, .ref h25, .int 0, .int 0, .int 0, .ref h26, .ref h27, .ref h28, .ref h29]))] s.heap.size = A at hD ⊢
  have hA : ∀ q : Nat, s.heap.size ≤ q → A q := fun q h => by rw [← hAe]; exact Or.inr h
  have hS : va_S A s.heap s.heap [] := va_S.rf
  have hP : va_P (dC, dI) vwCl [(h0, .inr (12, [.int 0, .ref h1, .ref h2, .ref h3, .ref h4, .ref h5, .int 0, .int 0, .ref h6, .int 0, .int 0, .ref h7, .ref h8, .ref h9, .ref h10, .ref h11, .ref h12, .ref h13, .int 0, .int 0, .ref h14, .ref h15, .ref h16, .ref h17, .int 0, .ref h18, .ref h19, .int 0, .ref h20, .int 0, .int 0, .ref h21, .ref h22, .int (-1), .int 0, .int 0, .int (-1), .int 0, .ref h23, .int 0, .ref h24, .ref h25, .int 0, .int 0, .int 0, .ref h26, .ref h27, .ref h28, .ref h29]))] s.heap := hP
  have hl := lv_entry ([.ref h0]) (n := 1) (Nat.le_of_ble_eq_true rfl)
  rw [lg_entry_eq]
  generalize (lg_sl ([.ref h0]) ++ List.replicate (1 - (lg_sl ([.ref h0])).length) Slot.unset).toArray = ls at hl ⊢
  have hl : lv_has ls 1 [(0, .ref h0)] := hl
  refine lv_aload_n hx hb dX12_wrong_0 rfl (lv_at hl 0 rfl) ?_
  refine lv_aload_n hx hb dX12_wrong_1 rfl (lv_at hl 0 rfl) ?_
  refine va_get (D := (dC, dI)) (ci := 12) (v := .int (-1)) (C := RX12) (T := TX12) (N := 49) hx hb hts (fun _ h => List.mem_cons_of_mem _ (List.mem_append_right _ h)) hown hK hP 0 rfl rfl 36 (by decide) (hts (.fieldLink RX12 271 "KinkStreetModel" "fault" "I") (List.mem_of_getElem? (i := 1) rfl)) (fun _ h9 => h9) rfl dX12_wrong_2 ?_
  refine lv_if_ge (tgt := 15) hx hb dX12_wrong_5 (by decide) (fun c => absurd c (by decide)) (fun _ => ?_)
  refine lv_aload_n hx hb dX12_wrong_8 rfl (lv_at hl 0 rfl) ?_
  refine va_get (D := (dC, dI)) (ci := 12) (v := .int 0) (C := RX12) (T := TX12) (N := 49) hx hb hts (fun _ h => List.mem_cons_of_mem _ (List.mem_append_right _ h)) hown hK hP 0 rfl rfl 34 (by decide) (hts (.fieldLink RX12 262 "KinkStreetModel" "at" "I") (List.mem_of_getElem? (i := 2) rfl)) (fun _ h9 => h9) rfl dX12_wrong_9 ?_
  refine lv_goto (tgt := 19) hx hb dX12_wrong_12 (by decide) ?_
  refine va_put (D := (dC, dI)) (ci := 12) (v := .int 0) (ty := .int) (C := RX12) (T := TX12) (N := 49) hx hb hts (fun _ h => List.mem_cons_of_mem _ (List.mem_append_right _ h)) tyX12 tyX12_ok nmX12 hown hK hP hD hS 0 rfl rfl 36 (by decide) (hts (.fieldLink RX12 271 "KinkStreetModel" "fault" "I") (List.mem_of_getElem? (i := 1) rfl)) (fun _ h9 => h9) rfl (by decide +kernel) rfl rfl (Nat.le_of_ble_eq_true rfl) dX12_wrong_19 (fun H locs hP hD hS => ?_)
  have hP : va_P (dC, dI) vwCl [(h0, .inr (12, [.int 0, .ref h1, .ref h2, .ref h3, .ref h4, .ref h5, .int 0, .int 0, .ref h6, .int 0, .int 0, .ref h7, .ref h8, .ref h9, .ref h10, .ref h11, .ref h12, .ref h13, .int 0, .int 0, .ref h14, .ref h15, .ref h16, .ref h17, .int 0, .ref h18, .ref h19, .int 0, .ref h20, .int 0, .int 0, .ref h21, .ref h22, .int (-1), .int 0, .int 0, .int 0, .int 0, .ref h23, .int 0, .ref h24, .ref h25, .int 0, .int 0, .int 0, .ref h26, .ref h27, .ref h28, .ref h29]))] H := hP
  have hD : va_D A [(h0, .inr (12, [.int 0, .ref h1, .ref h2, .ref h3, .ref h4, .ref h5, .int 0, .int 0, .ref h6, .int 0, .int 0, .ref h7, .ref h8, .ref h9, .ref h10, .ref h11, .ref h12, .ref h13, .int 0, .int 0, .ref h14, .ref h15, .ref h16, .ref h17, .int 0, .ref h18, .ref h19, .int 0, .ref h20, .int 0, .int 0, .ref h21, .ref h22, .int (-1), .int 0, .int 0, .int 0, .int 0, .ref h23, .int 0, .ref h24, .ref h25, .int 0, .int 0, .int 0, .ref h26, .ref h27, .ref h28, .ref h29]))] := hD
  refine lv_iconst (v := 0) hx hb dX12_wrong_22 (by decide) ?_
  have hP9 := hP.sub (ws' := [(h0, .inr (12, [.int 0, .ref h1, .ref h2, .ref h3, .ref h4, .ref h5, .int 0, .int 0, .ref h6, .int 0, .int 0, .ref h7, .ref h8, .ref h9, .ref h10, .ref h11, .ref h12, .ref h13, .int 0, .int 0, .ref h14, .ref h15, .ref h16, .ref h17, .int 0, .ref h18, .ref h19, .int 0, .ref h20, .int 0, .int 0, .ref h21, .ref h22, .int (-1), .int 0, .int 0, .int 0, .int 0, .ref h23, .int 0, .ref h24, .ref h25, .int 0, .int 0, .int 0, .ref h26, .ref h27, .ref h28, .ref h29]))]) [0] rfl
  have hD9 := hD.sub (ws' := [(h0, .inr (12, [.int 0, .ref h1, .ref h2, .ref h3, .ref h4, .ref h5, .int 0, .int 0, .ref h6, .int 0, .int 0, .ref h7, .ref h8, .ref h9, .ref h10, .ref h11, .ref h12, .ref h13, .int 0, .int 0, .ref h14, .ref h15, .ref h16, .ref h17, .int 0, .ref h18, .ref h19, .int 0, .ref h20, .int 0, .int 0, .ref h21, .ref h22, .int (-1), .int 0, .int 0, .int 0, .int 0, .ref h23, .int 0, .ref h24, .ref h25, .int 0, .int 0, .int 0, .ref h26, .ref h27, .ref h28, .ref h29]))]) [0] (by decide) rfl
  have hK9 := hK.sub (tys' := []) [] rfl
  exact W.iret (v := 0) hx hb hr (fun t ht hW => ⟨⟨0, (), rfl, rfl, by rw [ht]; exact hP9, va_K.moved hW.alike hK9, hD9⟩, hS.F ht⟩) hS.2.2 dX12_wrong_23
