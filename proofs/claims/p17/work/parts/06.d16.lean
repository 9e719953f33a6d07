set_option maxHeartbeats 4000000 in
set_option maxRecDepth 100000 in
theorem g_X6_workOutSpreads_0 (l : Launch) (dC : Nat → ClassId) (dI : Nat → Nat → Nat) (h0 : Nat) (h1 : Nat) (h2 : Nat) (h3 : Nat) (h4 : Nat) (h5 : Nat) (h6 : Nat → Nat) (h7 : Nat → Nat) (h8 : Nat) (h9 : Nat) (h10 : Nat) (cAint cint : ClassId) (sz : Nat) (p1 : Int32) (p2 : Int32) (tp1 : 0 ≤ p1.toInt ∧ p1.toInt ≤ 39) (n0_pieceCount : Int32) (n1_size : Int32) (f4 : Nat → Int32) (f5 : Nat → Int32) (F6 : Nat → Nat → Int32) (F7 : Nat → Nat → Int32) (tn0_pieceCount : kk_bx (0 ≤ n0_pieceCount.toInt ∧ n0_pieceCount.toInt ≤ 5)) (tn1_size : 0 ≤ n1_size.toInt ∧ n1_size.toInt ≤ 40) : Met l yX6_workOutSpreads wsX6_workOutSpreads ({ frames := 2, cells := 0, slots := 0, locals := 44 }) (va_Pc [.ref h0, .ref h1, .int p1, .int p2] (fun U => U.heap.size = sz ∧ va_P (dC, dI) vwCl (([(h0, kO6 h2 h3 h4 h8 n0_pieceCount), (h1, kO9 h5 h9 h10 n1_size), (h2, kAr cAint 40 (fun j => some (h6 j))), (h3, kAr cAint 6 (fun j => some (h7 j))), (h4, kAi cint 40 f4), (h5, kAi cint 40 f5)] : va_W) ++ (kk_rowsI h6 cint 41 F6 40 ++ (kk_rowsI h7 cint 41 F7 6))) U.heap ∧ va_K (dC, dI) vwCl [(cAint, .array .int), (cint, .int)] U ∧ va_D (fun _ => True) (([(h0, kO6 h2 h3 h4 h8 n0_pieceCount), (h1, kO9 h5 h9 h10 n1_size), (h2, kAr cAint 40 (fun j => some (h6 j))), (h3, kAr cAint 6 (fun j => some (h7 j))), (h4, kAi cint 40 f4), (h5, kAi cint 40 f5)] : va_W) ++ (kk_rowsI h6 cint 41 F6 40 ++ (kk_rowsI h7 cint 41 F7 6))))) (va_Qv (fun (_ : Unit) => True) (fun (_ : Unit) t => ∃ (g4 : Nat → Int32) (g6 : Nat → Nat → Int32), va_P (dC, dI) vwCl (([(h0, kO6 h2 h3 h4 h8 n0_pieceCount), (h1, kO9 h5 h9 h10 n1_size), (h2, kAr cAint 40 (fun j => some (h6 j))), (h3, kAr cAint 6 (fun j => some (h7 j))), (h4, kAi cint 40 g4), (h5, kAi cint 40 f5)] : va_W) ++ (kk_rowsI h6 cint 41 g6 40 ++ (kk_rowsI h7 cint 41 F7 6))) t.heap ∧ va_K (dC, dI) vwCl [] t ∧ va_D (va_A (([(h0, kO6 h2 h3 h4 h8 n0_pieceCount), (h1, kO9 h5 h9 h10 n1_size), (h2, kAr cAint 40 (fun j => some (h6 j))), (h3, kAr cAint 6 (fun j => some (h7 j))), (h4, kAi cint 40 f4), (h5, kAi cint 40 f5)] : va_W) ++ (kk_rowsI h6 cint 41 F6 40 ++ (kk_rowsI h7 cint 41 F7 6))) sz) (([(h0, kO6 h2 h3 h4 h8 n0_pieceCount), (h1, kO9 h5 h9 h10 n1_size), (h2, kAr cAint 40 (fun j => some (h6 j))), (h3, kAr cAint 6 (fun j => some (h7 j))), (h4, kAi cint 40 g4), (h5, kAi cint 40 f5)] : va_W) ++ (kk_rowsI h6 cint 41 g6 40 ++ (kk_rowsI h7 cint 41 F7 6)))) (va_A (([(h0, kO6 h2 h3 h4 h8 n0_pieceCount), (h1, kO9 h5 h9 h10 n1_size), (h2, kAr cAint 40 (fun j => some (h6 j))), (h3, kAr cAint 6 (fun j => some (h7 j))), (h4, kAi cint 40 f4), (h5, kAi cint 40 f5)] : va_W) ++ (kk_rowsI h6 cint 41 F6 40 ++ (kk_rowsI h7 cint 41 F7 6))) sz)) 0 0 (va_A (([(h0, kO6 h2 h3 h4 h8 n0_pieceCount), (h1, kO9 h5 h9 h10 n1_size), (h2, kAr cAint 40 (fun j => some (h6 j))), (h3, kAr cAint 6 (fun j => some (h7 j))), (h4, kAi cint 40 f4), (h5, kAi cint 40 f5)] : va_W) ++ (kk_rowsI h6 cint 41 F6 40 ++ (kk_rowsI h7 cint 41 F7 6))) sz) := by
  refine Met.ofW (cc := cX6_workOutSpreads) (maxL := 9) (ret := none) (by decide) rfl ?_
  intro p e s m args below meth c s₁ B hml hv
  obtain ⟨rfl, hsz, hP, hK, hD0⟩ := hv
  have hx := B.exec
  have hb := B.bytes
  have hr := B.returns
  have hts := atoms_spec (ws := wsX6_workOutSpreads) B.pre
  have hown : s.vm.findClass RX6 = some m.cls := findClass_of_methodNamed B.named
  have hlocks := B.notSynchronized
  subst hsz
  have hD := hD0.self (sz := s.heap.size)
  generalize hAe : va_A (([(h0, kO6 h2 h3 h4 h8 n0_pieceCount), (h1, kO9 h5 h9 h10 n1_size), (h2, kAr cAint 40 (fun j => some (h6 j))), (h3, kAr cAint 6 (fun j => some (h7 j))), (h4, kAi cint 40 f4), (h5, kAi cint 40 f5)] : va_W) ++ (kk_rowsI h6 cint 41 F6 40 ++ (kk_rowsI h7 cint 41 F7 6))) s.heap.size = A at hD ⊢
  have hA : ∀ q : Nat, s.heap.size ≤ q → A q := fun q h => by rw [← hAe]; exact Or.inr h
  have hS : va_S A s.heap s.heap [] := va_S.rf
  have hP : va_P (dC, dI) vwCl (([(h0, kO6 h2 h3 h4 h8 n0_pieceCount), (h1, kO9 h5 h9 h10 n1_size), (h2, kAr cAint 40 (fun j => some (h6 j))), (h3, kAr cAint 6 (fun j => some (h7 j))), (h4, kAi cint 40 f4), (h5, kAi cint 40 f5)] : va_W) ++ (kk_rowsI h6 cint 41 F6 40 ++ (kk_rowsI h7 cint 41 F7 6))) s.heap := hP
  have hl := lv_entry ([.ref h0, .ref h1, .int p1, .int p2]) (n := 9) (Nat.le_of_ble_eq_true rfl)
  rw [lg_entry_eq]
  generalize (lg_sl ([.ref h0, .ref h1, .int p1, .int p2]) ++ List.replicate (9 - (lg_sl ([.ref h0, .ref h1, .int p1, .int p2])).length) Slot.unset).toArray = ls at hl ⊢
  have hl : lv_has ls 9 [(0, .ref h0), (1, .ref h1), (2, .int p1), (3, .int p2)] := hl
  refine lv_iload_n hx hb dX6_workOutSpreads_0 rfl (lv_at hl 2 rfl) ?_
  refine lv_iconst (v := 1) hx hb dX6_workOutSpreads_1 kk_ic_1 ?_
  refine lv_iadd hx hb dX6_workOutSpreads_2 ?_
  refine lv_istore hx hb dX6_workOutSpreads_3 hl (by decide) (rfl : _ = ([(4, .int (p1 + 1)), (0, .ref h0), (1, .ref h1), (2, .int p1), (3, .int p2)] : List (Nat × Value))) (fun ls hl => ?_)
  try have := kk_add2 (x := p1) (y := 1) (a := p1.toInt) (b := 1) rfl rfl (by omega) (by omega)
  refine kk_loop (σ := Int32 × (Nat → Int32) × (Nat → Nat → Int32)) (fun x H locs ls => (1 ≤ x.1.toInt ∧ x.1.toInt ≤ 41) ∧ (p1 + 1).toInt ≤ x.1.toInt ∧ va_P (dC, dI) vwCl (([(h0, kO6 h2 h3 h4 h8 n0_pieceCount), (h1, kO9 h5 h9 h10 n1_size), (h2, kAr cAint 40 (fun j => some (h6 j))), (h3, kAr cAint 6 (fun j => some (h7 j))), (h4, kAi cint 40 x.2.1), (h5, kAi cint 40 f5)] : va_W) ++ (kk_rowsI h6 cint 41 x.2.2 40 ++ (kk_rowsI h7 cint 41 F7 6))) H ∧ va_D A (([(h0, kO6 h2 h3 h4 h8 n0_pieceCount), (h1, kO9 h5 h9 h10 n1_size), (h2, kAr cAint 40 (fun j => some (h6 j))), (h3, kAr cAint 6 (fun j => some (h7 j))), (h4, kAi cint 40 x.2.1), (h5, kAi cint 40 f5)] : va_W) ++ (kk_rowsI h6 cint 41 x.2.2 40 ++ (kk_rowsI h7 cint 41 F7 6))) ∧ va_S A s.heap H locs ∧ lv_has ls 9 [(4, .int x.1), (0, .ref h0), (1, .ref h1), (2, .int p1), (3, .int p2)]) (fun x => ((41 : Int) - x.1.toInt).toNat) ?_ ((p1 + 1), f4, F6) _ _ _ ⟨(by show 1 ≤ ((p1 + 1) : Int32).toInt ∧ ((p1 + 1) : Int32).toInt ≤ 41; first | decide | ((omega))), (by show ((p1 + 1) : Int32).toInt ≤ ((p1 + 1) : Int32).toInt; first | decide | (omega)), hP, hD, hS, hl⟩
  rintro ⟨i_1_0, f_1_1, f_1_2⟩ H locs ls ⟨t_1_0, z_1_0, hP, hD, hS, hl⟩ ih_1
  have t_1_0 : (1 ≤ i_1_0.toInt ∧ i_1_0.toInt ≤ 41) := t_1_0
  have z_1_0 : (p1 + 1).toInt ≤ i_1_0.toInt := z_1_0
  have hl : lv_has ls 9 [(4, .int i_1_0), (0, .ref h0), (1, .ref h1), (2, .int p1), (3, .int p2)] := hl
  have hP : va_P (dC, dI) vwCl (([(h0, kO6 h2 h3 h4 h8 n0_pieceCount), (h1, kO9 h5 h9 h10 n1_size), (h2, kAr cAint 40 (fun j => some (h6 j))), (h3, kAr cAint 6 (fun j => some (h7 j))), (h4, kAi cint 40 f_1_1), (h5, kAi cint 40 f5)] : va_W) ++ (kk_rowsI h6 cint 41 f_1_2 40 ++ (kk_rowsI h7 cint 41 F7 6))) H := hP
  have hD : va_D A (([(h0, kO6 h2 h3 h4 h8 n0_pieceCount), (h1, kO9 h5 h9 h10 n1_size), (h2, kAr cAint 40 (fun j => some (h6 j))), (h3, kAr cAint 6 (fun j => some (h7 j))), (h4, kAi cint 40 f_1_1), (h5, kAi cint 40 f5)] : va_W) ++ (kk_rowsI h6 cint 41 f_1_2 40 ++ (kk_rowsI h7 cint 41 F7 6))) := hD
  refine lv_iload hx hb dX6_workOutSpreads_5 (lv_at hl 0 rfl) ?_
  refine lv_aload_n hx hb dX6_workOutSpreads_7 rfl (lv_at hl 2 rfl) ?_
  obtain ⟨hPc, hDc, hFc⟩ := kk_cutout (wc := [(h1, kO9 h5 h9 h10 n1_size)]) hP hD hS hA [1] (by decide) rfl
  have hKc := kk_Ks (tq := []) hK [] rfl
  refine va_calli (va_runV (As := []) (rest := [.int i_1_0]) ⟨hx, hb, hml, hown, hts⟩ (g_X9_size_0 l dC dI h1 h5 h9 h10 H.size n1_size tn1_size) (cwV 0 hts gX6_workOutSpreads_X9_size rfl rfl rfl ⟨rfl, kh_X9_size⟩ ⟨Nat.le_of_ble_eq_true rfl, Nat.le_of_ble_eq_true rfl⟩) ⟨fun a U g mk q => by obtain ⟨q0, q1, qP, qK, qD⟩ := q; exact ⟨q0, q1, qP, va_K.moved (u := U) (U := U.calling g mk a) (Vm.Alike.refl U.vm) qK, qD⟩, va_recv hKc hPc (ci := 9) (q0 := 0) rfl rfl, fun U hU hW => ⟨rfl, by rw [hU], by rw [hU]; exact hPc, va_K.moved hW.alike hKc, hDc.weaken (fun _ _ _ _ => trivial)⟩⟩ rfl rfl hl.1 rfl (lv_room (Nat.le_of_ble_eq_true rfl)) dX6_workOutSpreads_8 ⟨Nat.le_of_ble_eq_true rfl, Nat.le_of_ble_eq_true rfl⟩) hS (fun q _ h => hFc q h) hFc (fun r_2 u t H1 locs ht hvm hw hB hz1 hk1 hS => ?_)
  obtain ⟨hP1, hK1, hD1⟩ := hB
  rw [ht] at hP1
  have hK1 := va_K.moved hvm.symm hK1
  obtain ⟨hP, hD⟩ := va_joinQ (cx := [(h1, kO9 h5 h9 h10 n1_size)]) (wr := [(h0, kO6 h2 h3 h4 h8 n0_pieceCount), (h2, kAr cAint 40 (fun j => some (h6 j))), (h3, kAr cAint 6 (fun j => some (h7 j))), (h4, kAi cint 40 f_1_1), (h5, kAi cint 40 f5)]) (w1 := [(h1, kO9 h5 h9 h10 n1_size)]) hP hD [1] [0, 2, 3, 4, 5] rfl rfl (by decide) (by decide) hk1 hFc hP1 hD1
  generalize H1 = H at hP hS ⊢
  have hP : va_P (dC, dI) vwCl (([(h0, kO6 h2 h3 h4 h8 n0_pieceCount), (h2, kAr cAint 40 (fun j => some (h6 j))), (h3, kAr cAint 6 (fun j => some (h7 j))), (h4, kAi cint 40 f_1_1), (h5, kAi cint 40 f5), (h1, kO9 h5 h9 h10 n1_size)] : va_W) ++ (kk_rowsI h6 cint 41 f_1_2 40 ++ (kk_rowsI h7 cint 41 F7 6))) H := hP
  have hD : va_D A (([(h0, kO6 h2 h3 h4 h8 n0_pieceCount), (h2, kAr cAint 40 (fun j => some (h6 j))), (h3, kAr cAint 6 (fun j => some (h7 j))), (h4, kAi cint 40 f_1_1), (h5, kAi cint 40 f5), (h1, kO9 h5 h9 h10 n1_size)] : va_W) ++ (kk_rowsI h6 cint 41 f_1_2 40 ++ (kk_rowsI h7 cint 41 F7 6))) := hD
  obtain rfl := hw
  refine lv_icmp_gt (tgt := 103) hx hb dX6_workOutSpreads_11 (by decide) (fun c_3 => ?_) (fun c_3 => ?_)
  · have t_3 : n1_size.toInt < i_1_0.toInt := kk_lt c_3
    have hP9 := hP.part (cx := [(h0, kO6 h2 h3 h4 h8 n0_pieceCount), (h1, kO9 h5 h9 h10 n1_size), (h2, kAr cAint 40 (fun j => some (h6 j))), (h3, kAr cAint 6 (fun j => some (h7 j))), (h4, kAi cint 40 f_1_1), (h5, kAi cint 40 f5)]) [0, 5, 1, 2, 3, 4] rfl
    have hD9 := hD.part (cx := [(h0, kO6 h2 h3 h4 h8 n0_pieceCount), (h1, kO9 h5 h9 h10 n1_size), (h2, kAr cAint 40 (fun j => some (h6 j))), (h3, kAr cAint 6 (fun j => some (h7 j))), (h4, kAi cint 40 f_1_1), (h5, kAi cint 40 f5)]) [0, 5, 1, 2, 3, 4] (by decide) rfl
    have hK9 := kk_Ks (tq := []) hK [] rfl
    exact W.vret hx hb hr (fun t ht hW => ⟨⟨(), rfl, trivial, f_1_1, f_1_2, by rw [ht]; exact hP9, va_K.moved hW.alike hK9, hD9⟩, hS.F ht⟩) hS.2.2 dX6_workOutSpreads_103
  · have t_3 : i_1_0.toInt ≤ n1_size.toInt := kk_nlt c_3
    refine lv_iload hx hb dX6_workOutSpreads_14 (lv_at hl 0 rfl) ?_
    refine lv_iload_n hx hb dX6_workOutSpreads_16 rfl (lv_at hl 3 rfl) ?_
    refine lv_isub hx hb dX6_workOutSpreads_17 ?_
    refine lv_istore hx hb dX6_workOutSpreads_18 hl (by decide) (rfl : _ = ([(5, .int (i_1_0 - p1)), (4, .int i_1_0), (0, .ref h0), (1, .ref h1), (2, .int p1), (3, .int p2)] : List (Nat × Value))) (fun ls hl => ?_)
    refine lv_aload_n hx hb dX6_workOutSpreads_20 rfl (lv_at hl 2 rfl) ?_
    refine lv_aload_n hx hb dX6_workOutSpreads_21 rfl (lv_at hl 3 rfl) ?_
    refine lv_iload hx hb dX6_workOutSpreads_22 (lv_at hl 1 rfl) ?_
    refine lv_iconst (v := 1) hx hb dX6_workOutSpreads_24 kk_ic_1 ?_
    refine lv_isub hx hb dX6_workOutSpreads_25 ?_
    obtain ⟨hPc, hDc, hFc⟩ := kk_cutout (wc := [(h1, kO9 h5 h9 h10 n1_size), (h5, kAi cint 40 f5)]) hP hD hS hA [5, 4] (by decide) rfl
    have hKc := kk_Ks (tq := [(cint, .int)]) hK [1] rfl
    refine va_calli (va_runV (As := [.int (i_1_0 - 1)]) (rest := [.ref h0]) ⟨hx, hb, hml, hown, hts⟩ (g_X9_width_0 l dC dI h1 h5 h9 h10 cint H.size (i_1_0 - 1) n1_size f5 tn1_size) (cwV 1 hts gX6_workOutSpreads_X9_width rfl rfl rfl ⟨rfl, kh_X9_width⟩ ⟨Nat.le_of_ble_eq_true rfl, Nat.le_of_ble_eq_true rfl⟩) ⟨fun a U g mk q => by obtain ⟨q0, q1, qP, qK, qD⟩ := q; exact ⟨q0, q1, qP, va_K.moved (u := U) (U := U.calling g mk a) (Vm.Alike.refl U.vm) qK, qD⟩, va_recv hKc hPc (ci := 9) (q0 := 0) rfl rfl, fun U hU hW => ⟨rfl, by rw [hU], by rw [hU]; exact hPc, va_K.moved hW.alike hKc, hDc.weaken (fun _ _ _ _ => trivial)⟩⟩ rfl rfl hl.1 rfl (lv_room (Nat.le_of_ble_eq_true rfl)) dX6_workOutSpreads_26 ⟨Nat.le_of_ble_eq_true rfl, Nat.le_of_ble_eq_true rfl⟩) hS (fun q _ h => hFc q h) hFc (fun r_4 u t H1 locs ht hvm hw hB hz1 hk1 hS => ?_)
    obtain ⟨hP1, hK1, hD1⟩ := hB
    rw [ht] at hP1
    have hK1 := va_K.moved hvm.symm hK1
    obtain ⟨hP, hD⟩ := va_joinQ (cx := [(h1, kO9 h5 h9 h10 n1_size), (h5, kAi cint 40 f5)]) (wr := [(h0, kO6 h2 h3 h4 h8 n0_pieceCount), (h2, kAr cAint 40 (fun j => some (h6 j))), (h3, kAr cAint 6 (fun j => some (h7 j))), (h4, kAi cint 40 f_1_1)]) (w1 := [(h1, kO9 h5 h9 h10 n1_size), (h5, kAi cint 40 f5)]) hP hD [5, 4] [0, 1, 2, 3] rfl rfl (by decide) (by decide) hk1 hFc hP1 hD1
    generalize H1 = H at hP hS ⊢
    have hP : va_P (dC, dI) vwCl (([(h0, kO6 h2 h3 h4 h8 n0_pieceCount), (h2, kAr cAint 40 (fun j => some (h6 j))), (h3, kAr cAint 6 (fun j => some (h7 j))), (h4, kAi cint 40 f_1_1), (h1, kO9 h5 h9 h10 n1_size), (h5, kAi cint 40 f5)] : va_W) ++ (kk_rowsI h6 cint 41 f_1_2 40 ++ (kk_rowsI h7 cint 41 F7 6))) H := hP
    have hD : va_D A (([(h0, kO6 h2 h3 h4 h8 n0_pieceCount), (h2, kAr cAint 40 (fun j => some (h6 j))), (h3, kAr cAint 6 (fun j => some (h7 j))), (h4, kAi cint 40 f_1_1), (h1, kO9 h5 h9 h10 n1_size), (h5, kAi cint 40 f5)] : va_W) ++ (kk_rowsI h6 cint 41 f_1_2 40 ++ (kk_rowsI h7 cint 41 F7 6))) := hD
    refine lv_iload hx hb dX6_workOutSpreads_29 (lv_at hl 0 rfl) ?_
    refine lv_iconst (v := 1) hx hb dX6_workOutSpreads_31 kk_ic_1 ?_
    refine lv_isub hx hb dX6_workOutSpreads_32 ?_
    obtain ⟨hPc, hDc, hFc⟩ := kk_cutout (wc := [(h0, kO6 h2 h3 h4 h8 n0_pieceCount), (h4, kAi cint 40 f_1_1)]) hP hD hS hA [0, 3] (by decide) rfl
    have hKc := kk_Ks (tq := [(cint, .int)]) hK [1] rfl
    try have := kk_sub2 (x := i_1_0) (y := p1) (a := i_1_0.toInt) (b := p1.toInt) rfl rfl (by omega) (by omega)
    try have := kk_sub2 (x := i_1_0) (y := 1) (a := i_1_0.toInt) (b := 1) rfl rfl (by omega) (by omega)
    try have := kk_sub2 (x := (i_1_0 - p1)) (y := 1) (a := (i_1_0 - p1).toInt) (b := 1) rfl rfl (by omega) (by omega)
    refine va_callv (va_runV (As := [.int r_4, .int ((i_1_0 - p1) - 1)]) (rest := []) ⟨hx, hb, hml, hown, hts⟩ (g_X6_sortIn_0 l dC dI h0 h4 h2 h3 h8 cint H.size r_4 ((i_1_0 - p1) - 1) (by show 0 ≤ (((i_1_0 - p1) - 1) : Int32).toInt ∧ (((i_1_0 - p1) - 1) : Int32).toInt ≤ 39; first | decide | ((omega))) n0_pieceCount f_1_1 tn0_pieceCount) (cwV 2 hts gX6_workOutSpreads_X6_sortIn rfl rfl rfl ⟨rfl, kh_X6_sortIn⟩ ⟨Nat.le_of_ble_eq_true rfl, Nat.le_of_ble_eq_true rfl⟩) ⟨fun a U g mk q => by obtain ⟨q0, q1, qP, qK, qD⟩ := q; exact ⟨q0, q1, qP, va_K.moved (u := U) (U := U.calling g mk a) (Vm.Alike.refl U.vm) qK, qD⟩, va_recv hKc hPc (ci := 6) (q0 := 0) rfl rfl, fun U hU hW => ⟨rfl, by rw [hU], by rw [hU]; exact hPc, va_K.moved hW.alike hKc, hDc.weaken (fun _ _ _ _ => trivial)⟩⟩ rfl rfl hl.1 rfl (lv_room (Nat.le_of_ble_eq_true rfl)) dX6_workOutSpreads_33 ⟨Nat.le_of_ble_eq_true rfl, Nat.le_of_ble_eq_true rfl⟩) hS (fun q _ h => hFc q h) hFc (fun u t H1 locs ht hvm hw hB hz1 hk1 hS => ?_)
    obtain ⟨f_6, hP1, hK1, hD1⟩ := hB
    rw [ht] at hP1
    have hK1 := va_K.moved hvm.symm hK1
    obtain ⟨hP, hD⟩ := va_joinQ (cx := [(h0, kO6 h2 h3 h4 h8 n0_pieceCount), (h4, kAi cint 40 f_1_1)]) (wr := [(h2, kAr cAint 40 (fun j => some (h6 j))), (h3, kAr cAint 6 (fun j => some (h7 j))), (h1, kO9 h5 h9 h10 n1_size), (h5, kAi cint 40 f5)]) (w1 := [(h0, kO6 h2 h3 h4 h8 n0_pieceCount), (h4, kAi cint 40 f_6)]) hP hD [0, 3] [1, 2, 4, 5] rfl rfl (by decide) (by decide) hk1 hFc hP1 hD1
    generalize H1 = H at hP hS ⊢
    have hP : va_P (dC, dI) vwCl (([(h2, kAr cAint 40 (fun j => some (h6 j))), (h3, kAr cAint 6 (fun j => some (h7 j))), (h1, kO9 h5 h9 h10 n1_size), (h5, kAi cint 40 f5), (h0, kO6 h2 h3 h4 h8 n0_pieceCount), (h4, kAi cint 40 f_6)] : va_W) ++ (kk_rowsI h6 cint 41 f_1_2 40 ++ (kk_rowsI h7 cint 41 F7 6))) H := hP
    have hD : va_D A (([(h2, kAr cAint 40 (fun j => some (h6 j))), (h3, kAr cAint 6 (fun j => some (h7 j))), (h1, kO9 h5 h9 h10 n1_size), (h5, kAi cint 40 f5), (h0, kO6 h2 h3 h4 h8 n0_pieceCount), (h4, kAi cint 40 f_6)] : va_W) ++ (kk_rowsI h6 cint 41 f_1_2 40 ++ (kk_rowsI h7 cint 41 F7 6))) := hD
    refine lv_aload_n hx hb dX6_workOutSpreads_36 rfl (lv_at hl 2 rfl) ?_
    refine va_get (D := (dC, dI)) (ci := 6) (v := .ref h4) (C := RX6) (T := TX6) (N := 5) hx hb hts (fun _ h => List.mem_cons_of_mem _ (List.mem_append_left _ (List.mem_append_right _ h))) hown hK hP 4 rfl rfl 2 (by decide) (hts (.fieldLink RX6 19 "KinkStreet$Pieces" "sorted" "[I") (List.mem_of_getElem? (i := 1) rfl)) (fun _ h9 => h9) rfl dX6_workOutSpreads_37 ?_
    refine lv_iload hx hb dX6_workOutSpreads_40 (lv_at hl 0 rfl) ?_
    refine lv_iconst (v := 1) hx hb dX6_workOutSpreads_42 kk_ic_1 ?_
    refine lv_isub hx hb dX6_workOutSpreads_43 ?_
    refine lv_iconst (v := 2) hx hb dX6_workOutSpreads_44 kk_ic_2 ?_
    refine lv_idiv hx hb dX6_workOutSpreads_45 (by decide) ?_
    try have := kk_divb (x := ((i_1_0 - p1) - 1)) (k := 2) (n := 2) rfl (by decide)
    have hi_7 : vp_in (((i_1_0 - p1) - 1) / 2) 40 := (vp_in_iff.mpr ⟨by omega, by omega⟩)
    refine va_iald hx hb hK hP 5 1 rfl rfl hi_7 dX6_workOutSpreads_46 ?_
    refine lv_topi (fun y_7 e_7 => ?_)
    clear e_7
    refine lv_istore hx hb dX6_workOutSpreads_47 hl (by decide) (rfl : _ = ([(6, .int y_7), (5, .int (i_1_0 - p1)), (4, .int i_1_0), (0, .ref h0), (1, .ref h1), (2, .int p1), (3, .int p2)] : List (Nat × Value))) (fun ls hl => ?_)
    refine lv_iload_n hx hb dX6_workOutSpreads_49 rfl (lv_at hl 6 rfl) ?_
    refine lv_istore hx hb dX6_workOutSpreads_50 hl (by decide) (rfl : _ = ([(7, .int p2), (6, .int y_7), (5, .int (i_1_0 - p1)), (4, .int i_1_0), (0, .ref h0), (1, .ref h1), (2, .int p1), (3, .int p2)] : List (Nat × Value))) (fun ls hl => ?_)
    refine lv_iconst (v := 0) hx hb dX6_workOutSpreads_52 kk_ic_0 ?_
    refine lv_istore hx hb dX6_workOutSpreads_53 hl (by decide) (rfl : _ = ([(8, .int 0), (7, .int p2), (6, .int y_7), (5, .int (i_1_0 - p1)), (4, .int i_1_0), (0, .ref h0), (1, .ref h1), (2, .int p1), (3, .int p2)] : List (Nat × Value))) (fun ls hl => ?_)
    refine kk_loop (σ := Int32 × Int32) (fun x H locs ls => (0 ≤ x.1.toInt ∧ x.1.toInt ≤ 40) ∧ va_P (dC, dI) vwCl (([(h2, kAr cAint 40 (fun j => some (h6 j))), (h3, kAr cAint 6 (fun j => some (h7 j))), (h1, kO9 h5 h9 h10 n1_size), (h5, kAi cint 40 f5), (h0, kO6 h2 h3 h4 h8 n0_pieceCount), (h4, kAi cint 40 f_6)] : va_W) ++ (kk_rowsI h6 cint 41 f_1_2 40 ++ (kk_rowsI h7 cint 41 F7 6))) H ∧ va_D A (([(h2, kAr cAint 40 (fun j => some (h6 j))), (h3, kAr cAint 6 (fun j => some (h7 j))), (h1, kO9 h5 h9 h10 n1_size), (h5, kAi cint 40 f5), (h0, kO6 h2 h3 h4 h8 n0_pieceCount), (h4, kAi cint 40 f_6)] : va_W) ++ (kk_rowsI h6 cint 41 f_1_2 40 ++ (kk_rowsI h7 cint 41 F7 6))) ∧ va_S A s.heap H locs ∧ lv_has ls 9 [(8, .int x.1), (7, .int x.2), (6, .int y_7), (5, .int (i_1_0 - p1)), (4, .int i_1_0), (0, .ref h0), (1, .ref h1), (2, .int p1), (3, .int p2)]) (fun x => ((40 : Int) - x.1.toInt).toNat) ?_ (0, p2) _ _ _ ⟨(by show 0 ≤ (0 : Int32).toInt ∧ (0 : Int32).toInt ≤ 40; first | decide | ((omega))), hP, hD, hS, hl⟩
    rintro ⟨i_8_0, i_8_1⟩ H locs ls ⟨t_8_0, hP, hD, hS, hl⟩ ih_8
    have t_8_0 : (0 ≤ i_8_0.toInt ∧ i_8_0.toInt ≤ 40) := t_8_0
    have hl : lv_has ls 9 [(8, .int i_8_0), (7, .int i_8_1), (6, .int y_7), (5, .int (i_1_0 - p1)), (4, .int i_1_0), (0, .ref h0), (1, .ref h1), (2, .int p1), (3, .int p2)] := hl
    have hP : va_P (dC, dI) vwCl (([(h2, kAr cAint 40 (fun j => some (h6 j))), (h3, kAr cAint 6 (fun j => some (h7 j))), (h1, kO9 h5 h9 h10 n1_size), (h5, kAi cint 40 f5), (h0, kO6 h2 h3 h4 h8 n0_pieceCount), (h4, kAi cint 40 f_6)] : va_W) ++ (kk_rowsI h6 cint 41 f_1_2 40 ++ (kk_rowsI h7 cint 41 F7 6))) H := hP
    have hD : va_D A (([(h2, kAr cAint 40 (fun j => some (h6 j))), (h3, kAr cAint 6 (fun j => some (h7 j))), (h1, kO9 h5 h9 h10 n1_size), (h5, kAi cint 40 f5), (h0, kO6 h2 h3 h4 h8 n0_pieceCount), (h4, kAi cint 40 f_6)] : va_W) ++ (kk_rowsI h6 cint 41 f_1_2 40 ++ (kk_rowsI h7 cint 41 F7 6))) := hD
    refine lv_iload hx hb dX6_workOutSpreads_55 (lv_at hl 0 rfl) ?_
    refine lv_iload hx hb dX6_workOutSpreads_57 (lv_at hl 3 rfl) ?_
    refine lv_icmp_ge (tgt := 86) hx hb dX6_workOutSpreads_59 (by decide) (fun c_9 => ?_) (fun c_9 => ?_)
    · have t_9 : (i_1_0 - p1).toInt ≤ i_8_0.toInt := kk_le c_9
      refine lv_aload_n hx hb dX6_workOutSpreads_86 rfl (lv_at hl 5 rfl) ?_
      refine va_get (D := (dC, dI)) (ci := 6) (v := .ref h2) (C := RX6) (T := TX6) (N := 5) hx hb hts (fun _ h => List.mem_cons_of_mem _ (List.mem_append_left _ (List.mem_append_right _ h))) hown hK hP 4 rfl rfl 0 (by decide) (hts (.fieldLink RX6 11 "KinkStreet$Pieces" "spreads" "[[I") (List.mem_of_getElem? (i := 6) rfl)) (fun _ h9 => h9) rfl dX6_workOutSpreads_87 ?_
      refine lv_iload_n hx hb dX6_workOutSpreads_90 rfl (lv_at hl 7 rfl) ?_
      have hi_10 : vp_in (p1 : Int32) 40 := (vp_in_iff.mpr ⟨by omega, by omega⟩)
      have hk_10 : (p1 : Int32).toNatClampNeg < 40 := Nat.not_le.mp fun q => hi_10 (Or.inr q)
      refine kk_aald hx hb hK hP 0 0 rfl rfl hi_10 dX6_workOutSpreads_91 ?_
      refine W.eq (g2 := F0 m 92 ls [.ref (h6 (p1 : Int32).toNatClampNeg)]) rfl ?_
      refine lv_iload hx hb dX6_workOutSpreads_92 (lv_at hl 4 rfl) ?_
      refine lv_iload hx hb dX6_workOutSpreads_94 (lv_at hl 1 rfl) ?_
      refine va_iast hx hb hK hP hD hS _ 1 (kk_getr (kk_getl (kk_rowI hk_10))) rfl (vp_in_iff.mpr ⟨by omega, by omega⟩) dX6_workOutSpreads_96 (fun H locs hP hD hS => ?_)
      rw [kk_setr, kk_setl (kk_rowI hk_10), kk_rowsI_set hk_10] at hP hD
      generalize kk_upF f_1_2 (p1 : Int32).toNatClampNeg (upd (f_1_2 (p1 : Int32).toNatClampNeg) (i_1_0 : Int32).toNatClampNeg i_8_1) = F_11 at hP hD
      have hP : va_P (dC, dI) vwCl (([(h2, kAr cAint 40 (fun j => some (h6 j))), (h3, kAr cAint 6 (fun j => some (h7 j))), (h1, kO9 h5 h9 h10 n1_size), (h5, kAi cint 40 f5), (h0, kO6 h2 h3 h4 h8 n0_pieceCount), (h4, kAi cint 40 f_6)] : va_W) ++ (kk_rowsI h6 cint 41 F_11 40 ++ (kk_rowsI h7 cint 41 F7 6))) H := hP
      have hD : va_D A (([(h2, kAr cAint 40 (fun j => some (h6 j))), (h3, kAr cAint 6 (fun j => some (h7 j))), (h1, kO9 h5 h9 h10 n1_size), (h5, kAi cint 40 f5), (h0, kO6 h2 h3 h4 h8 n0_pieceCount), (h4, kAi cint 40 f_6)] : va_W) ++ (kk_rowsI h6 cint 41 F_11 40 ++ (kk_rowsI h7 cint 41 F7 6))) := hD
      refine lv_iinc (v := (i_1_0 + 1)) hx hb dX6_workOutSpreads_97 hl (k := 4) rfl (by first | rfl | decide) (by decide) (rfl : _ = ([(4, .int (i_1_0 + 1)), (8, .int i_8_0), (7, .int i_8_1), (6, .int y_7), (5, .int (i_1_0 - p1)), (0, .ref h0), (1, .ref h1), (2, .int p1), (3, .int p2)] : List (Nat × Value))) (fun ls hl => ?_)
      refine lv_goto (tgt := 5) hx hb dX6_workOutSpreads_100 (by decide) ?_
      try have := kk_add2 (x := i_1_0) (y := 1) (a := i_1_0.toInt) (b := 1) rfl rfl (by omega) (by omega)
      exact ih_1 ((i_1_0 + 1), f_6, F_11) _ _ _ (by show ((41 : Int) - ((i_1_0 + 1)).toInt).toNat < ((41 : Int) - i_1_0.toInt).toNat; exact kk_mu (by omega) (by omega)) ⟨(by show 1 ≤ ((i_1_0 + 1) : Int32).toInt ∧ ((i_1_0 + 1) : Int32).toInt ≤ 41; first | decide | ((omega))), (by show ((p1 + 1) : Int32).toInt ≤ ((i_1_0 + 1) : Int32).toInt; first | decide | (omega)), hP.part (cx := [(h0, kO6 h2 h3 h4 h8 n0_pieceCount), (h1, kO9 h5 h9 h10 n1_size), (h2, kAr cAint 40 (fun j => some (h6 j))), (h3, kAr cAint 6 (fun j => some (h7 j))), (h4, kAi cint 40 f_6), (h5, kAi cint 40 f5)]) [4, 2, 0, 1, 5, 3] rfl, hD.part (cx := [(h0, kO6 h2 h3 h4 h8 n0_pieceCount), (h1, kO9 h5 h9 h10 n1_size), (h2, kAr cAint 40 (fun j => some (h6 j))), (h3, kAr cAint 6 (fun j => some (h7 j))), (h4, kAi cint 40 f_6), (h5, kAi cint 40 f5)]) [4, 2, 0, 1, 5, 3] (by decide) rfl, hS, lv_sub hl [0, 5, 6, 7, 8] rfl⟩
    · have t_9 : i_8_0.toInt < (i_1_0 - p1).toInt := kk_nle c_9
      refine lv_iload hx hb dX6_workOutSpreads_62 (lv_at hl 1 rfl) ?_
      refine lv_aload_n hx hb dX6_workOutSpreads_64 rfl (lv_at hl 5 rfl) ?_
      refine va_get (D := (dC, dI)) (ci := 6) (v := .ref h4) (C := RX6) (T := TX6) (N := 5) hx hb hts (fun _ h => List.mem_cons_of_mem _ (List.mem_append_left _ (List.mem_append_right _ h))) hown hK hP 4 rfl rfl 2 (by decide) (hts (.fieldLink RX6 19 "KinkStreet$Pieces" "sorted" "[I") (List.mem_of_getElem? (i := 1) rfl)) (fun _ h9 => h9) rfl dX6_workOutSpreads_65 ?_
      refine lv_iload hx hb dX6_workOutSpreads_68 (lv_at hl 0 rfl) ?_
      try have := kk_div (x := ((i_1_0 - p1) - 1)) (k := 2) (n := 2) rfl (by decide) (by omega)
      have hi_12 : vp_in i_8_0 40 := (vp_in_iff.mpr ⟨by omega, by omega⟩)
      refine va_iald hx hb hK hP 5 1 rfl rfl hi_12 dX6_workOutSpreads_70 ?_
      refine lv_topi (fun y_12 e_12 => ?_)
      clear e_12
      refine lv_iload hx hb dX6_workOutSpreads_71 (lv_at hl 2 rfl) ?_
      refine lv_isub hx hb dX6_workOutSpreads_73 ?_
      refine va_mabs hx hb (hml.trans hl.1.symm) hown (hts (.methodLink RX6 58 Lib.Math.abs.name) (List.mem_of_getElem? (i := 2) rfl)) (hts (.static Lib.Math.abs.name) (List.mem_of_getElem? (i := 3) rfl)) (hts (.initialized "java/lang/Math") (List.mem_of_getElem? (i := 4) rfl)) (hts (.code Lib.Math.abs.name Lib.Math.abs.code 1 (some .int)) (List.mem_of_getElem? (i := 5) rfl)) (Nat.le_of_ble_eq_true rfl) (Nat.le_of_ble_eq_true rfl) (Nat.le_of_ble_eq_true rfl) (Nat.le_of_ble_eq_true rfl) dX6_workOutSpreads_74 ?_
      refine lv_topi (fun y_13 e_13 => ?_)
      clear e_13
      refine lv_iadd hx hb dX6_workOutSpreads_77 ?_
      refine lv_istore hx hb dX6_workOutSpreads_78 hl (by decide) (rfl : _ = ([(7, .int (i_8_1 + y_13)), (8, .int i_8_0), (6, .int y_7), (5, .int (i_1_0 - p1)), (4, .int i_1_0), (0, .ref h0), (1, .ref h1), (2, .int p1), (3, .int p2)] : List (Nat × Value))) (fun ls hl => ?_)
      refine lv_iinc (v := (i_8_0 + 1)) hx hb dX6_workOutSpreads_80 hl (k := 1) rfl (by first | rfl | decide) (by decide) (rfl : _ = ([(8, .int (i_8_0 + 1)), (7, .int (i_8_1 + y_13)), (6, .int y_7), (5, .int (i_1_0 - p1)), (4, .int i_1_0), (0, .ref h0), (1, .ref h1), (2, .int p1), (3, .int p2)] : List (Nat × Value))) (fun ls hl => ?_)
      refine lv_goto (tgt := 55) hx hb dX6_workOutSpreads_83 (by decide) ?_
      try have := kk_add2 (x := i_8_0) (y := 1) (a := i_8_0.toInt) (b := 1) rfl rfl (by omega) (by omega)
      exact ih_8 ((i_8_0 + 1), (i_8_1 + y_13)) _ _ _ (by show ((40 : Int) - ((i_8_0 + 1)).toInt).toNat < ((40 : Int) - i_8_0.toInt).toNat; exact kk_mu (by omega) (by omega)) ⟨(by show 0 ≤ ((i_8_0 + 1) : Int32).toInt ∧ ((i_8_0 + 1) : Int32).toInt ≤ 40; first | decide | ((omega))), hP, hD, hS, lv_sub hl [0, 1, 2, 3, 4, 5, 6, 7, 8] rfl⟩
set_option maxHeartbeats 4000000 in
set_option maxRecDepth 100000 in
theorem g_X6_workOutSums_0 (l : Launch) (dC : Nat → ClassId) (dI : Nat → Nat → Nat) (h0 : Nat) (h1 : Nat) (h2 : Nat) (h3 : Nat → Nat) (h4 : Nat → Nat) (h5 : Nat) (h6 : Nat) (cAint cint : ClassId) (sz : Nat) (p0 : Int32) (p1 : Int32) (tp0 : 0 ≤ p0.toInt ∧ p0.toInt ≤ 40) (tp1 : 1 ≤ p1.toInt ∧ p1.toInt ≤ 5) (n0_pieceCount : Int32) (F3 : Nat → Nat → Int32) (F4 : Nat → Nat → Int32) (tn0_pieceCount : kk_bx (0 ≤ n0_pieceCount.toInt ∧ n0_pieceCount.toInt ≤ 5)) : Met l yX6_workOutSums wsX6_workOutSums ({ frames := 1, cells := 0, slots := 0, locals := 21 }) (va_Pc [.ref h0, .int p0, .int p1] (fun U => U.heap.size = sz ∧ va_P (dC, dI) vwCl (([(h0, kO6 h1 h2 h5 h6 n0_pieceCount), (h1, kAr cAint 40 (fun j => some (h3 j))), (h2, kAr cAint 6 (fun j => some (h4 j)))] : va_W) ++ (kk_rowsI h3 cint 41 F3 40 ++ (kk_rowsI h4 cint 41 F4 6))) U.heap ∧ va_K (dC, dI) vwCl [(cAint, .array .int), (cint, .int)] U ∧ va_D (fun _ => True) (([(h0, kO6 h1 h2 h5 h6 n0_pieceCount), (h1, kAr cAint 40 (fun j => some (h3 j))), (h2, kAr cAint 6 (fun j => some (h4 j)))] : va_W) ++ (kk_rowsI h3 cint 41 F3 40 ++ (kk_rowsI h4 cint 41 F4 6))))) (va_Qv (fun (_ : Unit) => True) (fun (_ : Unit) t => ∃ (g4 : Nat → Nat → Int32), va_P (dC, dI) vwCl (([(h0, kO6 h1 h2 h5 h6 n0_pieceCount), (h1, kAr cAint 40 (fun j => some (h3 j))), (h2, kAr cAint 6 (fun j => some (h4 j)))] : va_W) ++ (kk_rowsI h3 cint 41 F3 40 ++ (kk_rowsI h4 cint 41 g4 6))) t.heap ∧ va_K (dC, dI) vwCl [] t ∧ va_D (va_A (([(h0, kO6 h1 h2 h5 h6 n0_pieceCount), (h1, kAr cAint 40 (fun j => some (h3 j))), (h2, kAr cAint 6 (fun j => some (h4 j)))] : va_W) ++ (kk_rowsI h3 cint 41 F3 40 ++ (kk_rowsI h4 cint 41 F4 6))) sz) (([(h0, kO6 h1 h2 h5 h6 n0_pieceCount), (h1, kAr cAint 40 (fun j => some (h3 j))), (h2, kAr cAint 6 (fun j => some (h4 j)))] : va_W) ++ (kk_rowsI h3 cint 41 F3 40 ++ (kk_rowsI h4 cint 41 g4 6)))) (va_A (([(h0, kO6 h1 h2 h5 h6 n0_pieceCount), (h1, kAr cAint 40 (fun j => some (h3 j))), (h2, kAr cAint 6 (fun j => some (h4 j)))] : va_W) ++ (kk_rowsI h3 cint 41 F3 40 ++ (kk_rowsI h4 cint 41 F4 6))) sz)) 0 0 (va_A (([(h0, kO6 h1 h2 h5 h6 n0_pieceCount), (h1, kAr cAint 40 (fun j => some (h3 j))), (h2, kAr cAint 6 (fun j => some (h4 j)))] : va_W) ++ (kk_rowsI h3 cint 41 F3 40 ++ (kk_rowsI h4 cint 41 F4 6))) sz) := by
  refine Met.ofW (cc := cX6_workOutSums) (maxL := 6) (ret := none) (by decide) rfl ?_
  intro p e s m args below meth c s₁ B hml hv
  obtain ⟨rfl, hsz, hP, hK, hD0⟩ := hv
  have hx := B.exec
  have hb := B.bytes
  have hr := B.returns
  have hts := atoms_spec (ws := wsX6_workOutSums) B.pre
  have hown : s.vm.findClass RX6 = some m.cls := findClass_of_methodNamed B.named
  have hlocks := B.notSynchronized
  subst hsz
  have hD := hD0.self (sz := s.heap.size)
  generalize hAe : va_A (([(h0, kO6 h1 h2 h5 h6 n0_pieceCount), (h1, kAr cAint 40 (fun j => some (h3 j))), (h2, kAr cAint 6 (fun j => some (h4 j)))] : va_W) ++ (kk_rowsI h3 cint 41 F3 40 ++ (kk_rowsI h4 cint 41 F4 6))) s.heap.size = A at hD ⊢
  have hA : ∀ q : Nat, s.heap.size ≤ q → A q := fun q h => by rw [← hAe]; exact Or.inr h
  have hS : va_S A s.heap s.heap [] := va_S.rf
  have hP : va_P (dC, dI) vwCl (([(h0, kO6 h1 h2 h5 h6 n0_pieceCount), (h1, kAr cAint 40 (fun j => some (h3 j))), (h2, kAr cAint 6 (fun j => some (h4 j)))] : va_W) ++ (kk_rowsI h3 cint 41 F3 40 ++ (kk_rowsI h4 cint 41 F4 6))) s.heap := hP
  have hl := lv_entry ([.ref h0, .int p0, .int p1]) (n := 6) (Nat.le_of_ble_eq_true rfl)
  rw [lg_entry_eq]
  generalize (lg_sl ([.ref h0, .int p0, .int p1]) ++ List.replicate (6 - (lg_sl ([.ref h0, .int p0, .int p1])).length) Slot.unset).toArray = ls at hl ⊢
  have hl : lv_has ls 6 [(0, .ref h0), (1, .int p0), (2, .int p1)] := hl
  refine lv_iconst (v := 0) hx hb dX6_workOutSums_0 kk_ic_0 ?_
  refine lv_istore_n hx hb dX6_workOutSums_1 rfl hl (by decide) (rfl : _ = ([(3, .int 0), (0, .ref h0), (1, .int p0), (2, .int p1)] : List (Nat × Value))) (fun ls hl => ?_)
  refine kk_loop (σ := Int32 × (Nat → Nat → Int32)) (fun x H locs ls => (0 ≤ x.1.toInt ∧ x.1.toInt ≤ 41) ∧ va_P (dC, dI) vwCl (([(h0, kO6 h1 h2 h5 h6 n0_pieceCount), (h1, kAr cAint 40 (fun j => some (h3 j))), (h2, kAr cAint 6 (fun j => some (h4 j)))] : va_W) ++ (kk_rowsI h3 cint 41 F3 40 ++ (kk_rowsI h4 cint 41 x.2 6))) H ∧ va_D A (([(h0, kO6 h1 h2 h5 h6 n0_pieceCount), (h1, kAr cAint 40 (fun j => some (h3 j))), (h2, kAr cAint 6 (fun j => some (h4 j)))] : va_W) ++ (kk_rowsI h3 cint 41 F3 40 ++ (kk_rowsI h4 cint 41 x.2 6))) ∧ va_S A s.heap H locs ∧ lv_has ls 6 [(3, .int x.1), (0, .ref h0), (1, .int p0), (2, .int p1)]) (fun x => ((41 : Int) - x.1.toInt).toNat) ?_ (0, F4) _ _ _ ⟨(by show 0 ≤ (0 : Int32).toInt ∧ (0 : Int32).toInt ≤ 41; first | decide | ((omega))), hP, hD, hS, hl⟩
  rintro ⟨i_1_0, f_1_1⟩ H locs ls ⟨t_1_0, hP, hD, hS, hl⟩ ih_1
  have t_1_0 : (0 ≤ i_1_0.toInt ∧ i_1_0.toInt ≤ 41) := t_1_0
  have hl : lv_has ls 6 [(3, .int i_1_0), (0, .ref h0), (1, .int p0), (2, .int p1)] := hl
  have hP : va_P (dC, dI) vwCl (([(h0, kO6 h1 h2 h5 h6 n0_pieceCount), (h1, kAr cAint 40 (fun j => some (h3 j))), (h2, kAr cAint 6 (fun j => some (h4 j)))] : va_W) ++ (kk_rowsI h3 cint 41 F3 40 ++ (kk_rowsI h4 cint 41 f_1_1 6))) H := hP
  have hD : va_D A (([(h0, kO6 h1 h2 h5 h6 n0_pieceCount), (h1, kAr cAint 40 (fun j => some (h3 j))), (h2, kAr cAint 6 (fun j => some (h4 j)))] : va_W) ++ (kk_rowsI h3 cint 41 F3 40 ++ (kk_rowsI h4 cint 41 f_1_1 6))) := hD
  refine lv_iload_n hx hb dX6_workOutSums_2 rfl (lv_at hl 0 rfl) ?_
  refine lv_iload_n hx hb dX6_workOutSums_3 rfl (lv_at hl 2 rfl) ?_
  refine lv_icmp_gt (tgt := 104) hx hb dX6_workOutSums_4 (by decide) (fun c_2 => ?_) (fun c_2 => ?_)
  · have t_2 : p0.toInt < i_1_0.toInt := kk_lt c_2
    have hP9 := hP.part (cx := [(h0, kO6 h1 h2 h5 h6 n0_pieceCount), (h1, kAr cAint 40 (fun j => some (h3 j))), (h2, kAr cAint 6 (fun j => some (h4 j)))]) [0, 1, 2] rfl
    have hD9 := hD.part (cx := [(h0, kO6 h1 h2 h5 h6 n0_pieceCount), (h1, kAr cAint 40 (fun j => some (h3 j))), (h2, kAr cAint 6 (fun j => some (h4 j)))]) [0, 1, 2] (by decide) rfl
    have hK9 := kk_Ks (tq := []) hK [] rfl
    exact W.vret hx hb hr (fun t ht hW => ⟨⟨(), rfl, trivial, f_1_1, by rw [ht]; exact hP9, va_K.moved hW.alike hK9, hD9⟩, hS.F ht⟩) hS.2.2 dX6_workOutSums_104
  · have t_2 : i_1_0.toInt ≤ p0.toInt := kk_nlt c_2
    refine lv_ldc hx hb hown (hts _ (List.mem_of_getElem? (i := 1) rfl)) dX6_workOutSums_7 ?_
    refine lv_istore hx hb dX6_workOutSums_9 hl (by decide) (rfl : _ = ([(4, .int 1000000000), (3, .int i_1_0), (0, .ref h0), (1, .int p0), (2, .int p1)] : List (Nat × Value))) (fun ls hl => ?_)
    refine lv_iload_n hx hb dX6_workOutSums_11 rfl (lv_at hl 4 rfl) ?_
    refine lv_iconst (v := 1) hx hb dX6_workOutSums_12 kk_ic_1 ?_
    refine lv_icmp_ne (tgt := 41) hx hb dX6_workOutSums_13 (by decide) (fun c_3 => ?_) (fun c_3 => ?_)
    · have t_3 : p1.toInt ≠ 1 := kk_ne c_3
      refine lv_iload_n hx hb dX6_workOutSums_41 rfl (lv_at hl 1 rfl) ?_
      refine lv_iconst (v := 2) hx hb dX6_workOutSums_42 kk_ic_2 ?_
      refine lv_iadd hx hb dX6_workOutSums_43 ?_
      refine lv_istore hx hb dX6_workOutSums_44 hl (by decide) (rfl : _ = ([(5, .int (i_1_0 + 2)), (4, .int 1000000000), (3, .int i_1_0), (0, .ref h0), (1, .int p0), (2, .int p1)] : List (Nat × Value))) (fun ls hl => ?_)
      try have := kk_add2 (x := i_1_0) (y := 2) (a := i_1_0.toInt) (b := 2) rfl rfl (by omega) (by omega)
      refine kk_loop (σ := Int32 × Int32) (fun x H locs ls => (2 ≤ x.1.toInt ∧ x.1.toInt ≤ 42) ∧ ((-2147483648) ≤ x.2.toInt ∧ x.2.toInt ≤ 1000000000) ∧ (i_1_0 + 2).toInt ≤ x.1.toInt ∧ va_P (dC, dI) vwCl (([(h0, kO6 h1 h2 h5 h6 n0_pieceCount), (h1, kAr cAint 40 (fun j => some (h3 j))), (h2, kAr cAint 6 (fun j => some (h4 j)))] : va_W) ++ (kk_rowsI h3 cint 41 F3 40 ++ (kk_rowsI h4 cint 41 f_1_1 6))) H ∧ va_D A (([(h0, kO6 h1 h2 h5 h6 n0_pieceCount), (h1, kAr cAint 40 (fun j => some (h3 j))), (h2, kAr cAint 6 (fun j => some (h4 j)))] : va_W) ++ (kk_rowsI h3 cint 41 F3 40 ++ (kk_rowsI h4 cint 41 f_1_1 6))) ∧ va_S A s.heap H locs ∧ lv_has ls 6 [(5, .int x.1), (4, .int x.2), (3, .int i_1_0), (0, .ref h0), (1, .int p0), (2, .int p1)]) (fun x => ((42 : Int) - x.1.toInt).toNat) ?_ ((i_1_0 + 2), 1000000000) _ _ _ ⟨(by show 2 ≤ ((i_1_0 + 2) : Int32).toInt ∧ ((i_1_0 + 2) : Int32).toInt ≤ 42; first | decide | ((omega))), (by show (-2147483648) ≤ (1000000000 : Int32).toInt ∧ (1000000000 : Int32).toInt ≤ 1000000000; first | decide | ((omega))), (by show ((i_1_0 + 2) : Int32).toInt ≤ ((i_1_0 + 2) : Int32).toInt; first | decide | (omega)), hP, hD, hS, hl⟩
      rintro ⟨i_4_0, i_4_1⟩ H locs ls ⟨t_4_0, t_4_1, z_4_0, hP, hD, hS, hl⟩ ih_4
      have t_4_0 : (2 ≤ i_4_0.toInt ∧ i_4_0.toInt ≤ 42) := t_4_0
      have t_4_1 : ((-2147483648) ≤ i_4_1.toInt ∧ i_4_1.toInt ≤ 1000000000) := t_4_1
      have z_4_0 : (i_1_0 + 2).toInt ≤ i_4_0.toInt := z_4_0
      have hl : lv_has ls 6 [(5, .int i_4_0), (4, .int i_4_1), (3, .int i_1_0), (0, .ref h0), (1, .int p0), (2, .int p1)] := hl
      have hP : va_P (dC, dI) vwCl (([(h0, kO6 h1 h2 h5 h6 n0_pieceCount), (h1, kAr cAint 40 (fun j => some (h3 j))), (h2, kAr cAint 6 (fun j => some (h4 j)))] : va_W) ++ (kk_rowsI h3 cint 41 F3 40 ++ (kk_rowsI h4 cint 41 f_1_1 6))) H := hP
      have hD : va_D A (([(h0, kO6 h1 h2 h5 h6 n0_pieceCount), (h1, kAr cAint 40 (fun j => some (h3 j))), (h2, kAr cAint 6 (fun j => some (h4 j)))] : va_W) ++ (kk_rowsI h3 cint 41 F3 40 ++ (kk_rowsI h4 cint 41 f_1_1 6))) := hD
      refine lv_iload hx hb dX6_workOutSums_46 (lv_at hl 0 rfl) ?_
      refine lv_iload_n hx hb dX6_workOutSums_48 rfl (lv_at hl 4 rfl) ?_
      refine lv_iconst (v := 2) hx hb dX6_workOutSums_49 kk_ic_2 ?_
      refine lv_isub hx hb dX6_workOutSums_50 ?_
      refine lv_icmp_gt (tgt := 88) hx hb dX6_workOutSums_51 (by decide) (fun c_5 => ?_) (fun c_5 => ?_)
      · have t_5 : (p0 - 2).toInt < i_4_0.toInt := kk_lt c_5
        refine lv_aload_n hx hb dX6_workOutSums_88 rfl (lv_at hl 3 rfl) ?_
        refine va_get (D := (dC, dI)) (ci := 6) (v := .ref h2) (C := RX6) (T := TX6) (N := 5) hx hb hts (fun _ h => List.mem_cons_of_mem _ (List.mem_append_right _ h)) hown hK hP 0 rfl rfl 1 (by decide) (hts (.fieldLink RX6 16 "KinkStreet$Pieces" "sums" "[[I") (List.mem_of_getElem? (i := 3) rfl)) (fun _ h9 => h9) rfl dX6_workOutSums_89 ?_
        refine lv_iload_n hx hb dX6_workOutSums_92 rfl (lv_at hl 5 rfl) ?_
        try have := kk_rng i_4_1
        try have := kk_sub2 (x := p0) (y := 2) (a := p0.toInt) (b := 2) rfl rfl (by omega) (by omega)
        have hi_6 : vp_in (p1 : Int32) 6 := (vp_in_iff.mpr ⟨by omega, by omega⟩)
        have hk_6 : (p1 : Int32).toNatClampNeg < 6 := Nat.not_le.mp fun q => hi_6 (Or.inr q)
        refine kk_aald hx hb hK hP 2 0 rfl rfl hi_6 dX6_workOutSums_93 ?_
        refine W.eq (g2 := F0 m 94 ls [.ref (h4 (p1 : Int32).toNatClampNeg)]) rfl ?_
        refine lv_iload_n hx hb dX6_workOutSums_94 rfl (lv_at hl 2 rfl) ?_
        refine lv_iload hx hb dX6_workOutSums_95 (lv_at hl 1 rfl) ?_
        refine va_iast hx hb hK hP hD hS _ 1 (kk_getr (kk_getr (kk_rowI hk_6))) rfl (vp_in_iff.mpr ⟨by omega, by omega⟩) dX6_workOutSums_97 (fun H locs hP hD hS => ?_)
        rw [kk_setr, kk_setr, kk_rowsI_set hk_6] at hP hD
        generalize kk_upF f_1_1 (p1 : Int32).toNatClampNeg (upd (f_1_1 (p1 : Int32).toNatClampNeg) (i_1_0 : Int32).toNatClampNeg i_4_1) = F_7 at hP hD
        have hP : va_P (dC, dI) vwCl (([(h0, kO6 h1 h2 h5 h6 n0_pieceCount), (h1, kAr cAint 40 (fun j => some (h3 j))), (h2, kAr cAint 6 (fun j => some (h4 j)))] : va_W) ++ (kk_rowsI h3 cint 41 F3 40 ++ (kk_rowsI h4 cint 41 F_7 6))) H := hP
        have hD : va_D A (([(h0, kO6 h1 h2 h5 h6 n0_pieceCount), (h1, kAr cAint 40 (fun j => some (h3 j))), (h2, kAr cAint 6 (fun j => some (h4 j)))] : va_W) ++ (kk_rowsI h3 cint 41 F3 40 ++ (kk_rowsI h4 cint 41 F_7 6))) := hD
        refine lv_iinc (v := (i_1_0 + 1)) hx hb dX6_workOutSums_98 hl (k := 2) rfl (by first | rfl | decide) (by decide) (rfl : _ = ([(3, .int (i_1_0 + 1)), (5, .int i_4_0), (4, .int i_4_1), (0, .ref h0), (1, .int p0), (2, .int p1)] : List (Nat × Value))) (fun ls hl => ?_)
        refine lv_goto (tgt := 2) hx hb dX6_workOutSums_101 (by decide) ?_
        try have := kk_add2 (x := i_1_0) (y := 1) (a := i_1_0.toInt) (b := 1) rfl rfl (by omega) (by omega)
        exact ih_1 ((i_1_0 + 1), F_7) _ _ _ (by show ((41 : Int) - ((i_1_0 + 1)).toInt).toNat < ((41 : Int) - i_1_0.toInt).toNat; exact kk_mu (by omega) (by omega)) ⟨(by show 0 ≤ ((i_1_0 + 1) : Int32).toInt ∧ ((i_1_0 + 1) : Int32).toInt ≤ 41; first | decide | ((omega))), hP, hD, hS, lv_sub hl [0, 3, 4, 5] rfl⟩
      · have t_5 : i_4_0.toInt ≤ (p0 - 2).toInt := kk_nlt c_5
        refine lv_iload hx hb dX6_workOutSums_54 (lv_at hl 1 rfl) ?_
        refine lv_aload_n hx hb dX6_workOutSums_56 rfl (lv_at hl 3 rfl) ?_
        refine va_get (D := (dC, dI)) (ci := 6) (v := .ref h1) (C := RX6) (T := TX6) (N := 5) hx hb hts (fun _ h => List.mem_cons_of_mem _ (List.mem_append_right _ h)) hown hK hP 0 rfl rfl 0 (by decide) (hts (.fieldLink RX6 11 "KinkStreet$Pieces" "spreads" "[[I") (List.mem_of_getElem? (i := 2) rfl)) (fun _ h9 => h9) rfl dX6_workOutSums_57 ?_
        refine lv_iload_n hx hb dX6_workOutSums_60 rfl (lv_at hl 2 rfl) ?_
        try have := kk_rng i_4_1
        try have := kk_sub2 (x := p0) (y := 2) (a := p0.toInt) (b := 2) rfl rfl (by omega) (by omega)
        have hi_8 : vp_in (i_1_0 : Int32) 40 := (vp_in_iff.mpr ⟨by omega, by omega⟩)
        have hk_8 : (i_1_0 : Int32).toNatClampNeg < 40 := Nat.not_le.mp fun q => hi_8 (Or.inr q)
        refine kk_aald hx hb hK hP 1 0 rfl rfl hi_8 dX6_workOutSums_61 ?_
        refine W.eq (g2 := F0 m 62 ls [.ref (h3 (i_1_0 : Int32).toNatClampNeg), .int i_4_1]) rfl ?_
        refine lv_iload hx hb dX6_workOutSums_62 (lv_at hl 0 rfl) ?_
        refine va_iald hx hb hK hP _ 1 (kk_getr (kk_getl (kk_rowI hk_8))) rfl (vp_in_iff.mpr ⟨by omega, by omega⟩) dX6_workOutSums_64 ?_
        refine lv_topi (fun y_9 e_9 => ?_)
        clear e_9
        refine lv_aload_n hx hb dX6_workOutSums_65 rfl (lv_at hl 3 rfl) ?_
        refine va_get (D := (dC, dI)) (ci := 6) (v := .ref h2) (C := RX6) (T := TX6) (N := 5) hx hb hts (fun _ h => List.mem_cons_of_mem _ (List.mem_append_right _ h)) hown hK hP 0 rfl rfl 1 (by decide) (hts (.fieldLink RX6 16 "KinkStreet$Pieces" "sums" "[[I") (List.mem_of_getElem? (i := 3) rfl)) (fun _ h9 => h9) rfl dX6_workOutSums_66 ?_
        refine lv_iload_n hx hb dX6_workOutSums_69 rfl (lv_at hl 5 rfl) ?_
        refine lv_iconst (v := 1) hx hb dX6_workOutSums_70 kk_ic_1 ?_
        refine lv_isub hx hb dX6_workOutSums_71 ?_
        try have := kk_sub2 (x := p1) (y := 1) (a := p1.toInt) (b := 1) rfl rfl (by omega) (by omega)
        have hi_10 : vp_in ((p1 - 1) : Int32) 6 := (vp_in_iff.mpr ⟨by omega, by omega⟩)
        have hk_10 : ((p1 - 1) : Int32).toNatClampNeg < 6 := Nat.not_le.mp fun q => hi_10 (Or.inr q)
        refine kk_aald hx hb hK hP 2 0 rfl rfl hi_10 dX6_workOutSums_72 ?_
        refine W.eq (g2 := F0 m 73 ls [.ref (h4 ((p1 - 1) : Int32).toNatClampNeg), .int y_9, .int i_4_1]) rfl ?_
        refine lv_iload hx hb dX6_workOutSums_73 (lv_at hl 0 rfl) ?_
        refine va_iald hx hb hK hP _ 1 (kk_getr (kk_getr (kk_rowI hk_10))) rfl (vp_in_iff.mpr ⟨by omega, by omega⟩) dX6_workOutSums_75 ?_
        refine lv_topi (fun y_11 e_11 => ?_)
        clear e_11
        refine lv_iadd hx hb dX6_workOutSums_76 ?_
        refine va_mmin hx hb (hml.trans hl.1.symm) hown (hts (.methodLink RX6 63 Lib.Math.min.name) (List.mem_of_getElem? (i := 4) rfl)) (hts (.static Lib.Math.min.name) (List.mem_of_getElem? (i := 5) rfl)) (hts (.initialized "java/lang/Math") (List.mem_of_getElem? (i := 6) rfl)) (hts (.code Lib.Math.min.name Lib.Math.min.code 2 (some .int)) (List.mem_of_getElem? (i := 7) rfl)) (Nat.le_of_ble_eq_true rfl) (Nat.le_of_ble_eq_true rfl) (Nat.le_of_ble_eq_true rfl) (Nat.le_of_ble_eq_true rfl) dX6_workOutSums_77 ?_
        refine lv_topi (fun y_12 e_12 => ?_)
        have t_12 : y_12.toInt ≤ i_4_1.toInt ∧ y_12.toInt ≤ (y_9 + y_11).toInt ∧ (y_12.toInt = i_4_1.toInt ∨ y_12.toInt = (y_9 + y_11).toInt) := by rw [e_12]; exact kk_min _ _
        clear e_12
        refine lv_istore hx hb dX6_workOutSums_80 hl (by decide) (rfl : _ = ([(4, .int y_12), (5, .int i_4_0), (3, .int i_1_0), (0, .ref h0), (1, .int p0), (2, .int p1)] : List (Nat × Value))) (fun ls hl => ?_)
        refine lv_iinc (v := (i_4_0 + 1)) hx hb dX6_workOutSums_82 hl (k := 1) rfl (by first | rfl | decide) (by decide) (rfl : _ = ([(5, .int (i_4_0 + 1)), (4, .int y_12), (3, .int i_1_0), (0, .ref h0), (1, .int p0), (2, .int p1)] : List (Nat × Value))) (fun ls hl => ?_)
        refine lv_goto (tgt := 46) hx hb dX6_workOutSums_85 (by decide) ?_
        try have := kk_rng y_12
        try have := kk_rng y_11
        try have := kk_rng y_9
        try have := kk_add2 (x := i_4_0) (y := 1) (a := i_4_0.toInt) (b := 1) rfl rfl (by omega) (by omega)
        exact ih_4 ((i_4_0 + 1), y_12) _ _ _ (by show ((42 : Int) - ((i_4_0 + 1)).toInt).toNat < ((42 : Int) - i_4_0.toInt).toNat; exact kk_mu (by omega) (by omega)) ⟨(by show 2 ≤ ((i_4_0 + 1) : Int32).toInt ∧ ((i_4_0 + 1) : Int32).toInt ≤ 42; first | decide | ((omega))), (by show (-2147483648) ≤ (y_12 : Int32).toInt ∧ (y_12 : Int32).toInt ≤ 1000000000; first | decide | ((omega))), (by show ((i_1_0 + 2) : Int32).toInt ≤ ((i_4_0 + 1) : Int32).toInt; first | decide | (omega)), hP, hD, hS, lv_sub hl [0, 1, 2, 3, 4, 5] rfl⟩
    · have t_3 : p1.toInt = 1 := kk_eq c_3
      refine lv_iload_n hx hb dX6_workOutSums_16 rfl (lv_at hl 3 rfl) ?_
      refine lv_iload_n hx hb dX6_workOutSums_17 rfl (lv_at hl 1 rfl) ?_
      refine lv_isub hx hb dX6_workOutSums_18 ?_
      refine lv_iconst (v := 2) hx hb dX6_workOutSums_19 kk_ic_2 ?_
      refine lv_icmp_lt (tgt := 34) hx hb dX6_workOutSums_20 (by decide) (fun c_13 => ?_) (fun c_13 => ?_)
      · have t_13 : (p0 - i_1_0).toInt < 2 := kk_lt c_13
        refine lv_ldc hx hb hown (hts _ (List.mem_of_getElem? (i := 1) rfl)) dX6_workOutSums_34 ?_
        refine lv_istore hx hb dX6_workOutSums_36 hl (by decide) (rfl : _ = ([(4, .int 1000000000), (3, .int i_1_0), (0, .ref h0), (1, .int p0), (2, .int p1)] : List (Nat × Value))) (fun ls hl => ?_)
        refine lv_goto (tgt := 88) hx hb dX6_workOutSums_38 (by decide) ?_
        refine lv_aload_n hx hb dX6_workOutSums_88 rfl (lv_at hl 2 rfl) ?_
        refine va_get (D := (dC, dI)) (ci := 6) (v := .ref h2) (C := RX6) (T := TX6) (N := 5) hx hb hts (fun _ h => List.mem_cons_of_mem _ (List.mem_append_right _ h)) hown hK hP 0 rfl rfl 1 (by decide) (hts (.fieldLink RX6 16 "KinkStreet$Pieces" "sums" "[[I") (List.mem_of_getElem? (i := 3) rfl)) (fun _ h9 => h9) rfl dX6_workOutSums_89 ?_
        refine lv_iload_n hx hb dX6_workOutSums_92 rfl (lv_at hl 4 rfl) ?_
        try have := kk_sub2 (x := p0) (y := i_1_0) (a := p0.toInt) (b := i_1_0.toInt) rfl rfl (by omega) (by omega)
        have hi_14 : vp_in (p1 : Int32) 6 := (vp_in_iff.mpr ⟨by omega, by omega⟩)
        have hk_14 : (p1 : Int32).toNatClampNeg < 6 := Nat.not_le.mp fun q => hi_14 (Or.inr q)
        refine kk_aald hx hb hK hP 2 0 rfl rfl hi_14 dX6_workOutSums_93 ?_
        refine W.eq (g2 := F0 m 94 ls [.ref (h4 (p1 : Int32).toNatClampNeg)]) rfl ?_
        refine lv_iload_n hx hb dX6_workOutSums_94 rfl (lv_at hl 1 rfl) ?_
        refine lv_iload hx hb dX6_workOutSums_95 (lv_at hl 0 rfl) ?_
        refine va_iast hx hb hK hP hD hS _ 1 (kk_getr (kk_getr (kk_rowI hk_14))) rfl (vp_in_iff.mpr ⟨by omega, by omega⟩) dX6_workOutSums_97 (fun H locs hP hD hS => ?_)
        rw [kk_setr, kk_setr, kk_rowsI_set hk_14] at hP hD
        generalize kk_upF f_1_1 (p1 : Int32).toNatClampNeg (upd (f_1_1 (p1 : Int32).toNatClampNeg) (i_1_0 : Int32).toNatClampNeg 1000000000) = F_15 at hP hD
        have hP : va_P (dC, dI) vwCl (([(h0, kO6 h1 h2 h5 h6 n0_pieceCount), (h1, kAr cAint 40 (fun j => some (h3 j))), (h2, kAr cAint 6 (fun j => some (h4 j)))] : va_W) ++ (kk_rowsI h3 cint 41 F3 40 ++ (kk_rowsI h4 cint 41 F_15 6))) H := hP
        have hD : va_D A (([(h0, kO6 h1 h2 h5 h6 n0_pieceCount), (h1, kAr cAint 40 (fun j => some (h3 j))), (h2, kAr cAint 6 (fun j => some (h4 j)))] : va_W) ++ (kk_rowsI h3 cint 41 F3 40 ++ (kk_rowsI h4 cint 41 F_15 6))) := hD
        refine lv_iinc (v := (i_1_0 + 1)) hx hb dX6_workOutSums_98 hl (k := 1) rfl (by first | rfl | decide) (by decide) (rfl : _ = ([(3, .int (i_1_0 + 1)), (4, .int 1000000000), (0, .ref h0), (1, .int p0), (2, .int p1)] : List (Nat × Value))) (fun ls hl => ?_)
        refine lv_goto (tgt := 2) hx hb dX6_workOutSums_101 (by decide) ?_
        try have := kk_add2 (x := i_1_0) (y := 1) (a := i_1_0.toInt) (b := 1) rfl rfl (by omega) (by omega)
        exact ih_1 ((i_1_0 + 1), F_15) _ _ _ (by show ((41 : Int) - ((i_1_0 + 1)).toInt).toNat < ((41 : Int) - i_1_0.toInt).toNat; exact kk_mu (by omega) (by omega)) ⟨(by show 0 ≤ ((i_1_0 + 1) : Int32).toInt ∧ ((i_1_0 + 1) : Int32).toInt ≤ 41; first | decide | ((omega))), hP, hD, hS, lv_sub hl [0, 2, 3, 4] rfl⟩
      · have t_13 : 2 ≤ (p0 - i_1_0).toInt := kk_nlt c_13
        refine lv_aload_n hx hb dX6_workOutSums_23 rfl (lv_at hl 2 rfl) ?_
        refine va_get (D := (dC, dI)) (ci := 6) (v := .ref h1) (C := RX6) (T := TX6) (N := 5) hx hb hts (fun _ h => List.mem_cons_of_mem _ (List.mem_append_right _ h)) hown hK hP 0 rfl rfl 0 (by decide) (hts (.fieldLink RX6 11 "KinkStreet$Pieces" "spreads" "[[I") (List.mem_of_getElem? (i := 2) rfl)) (fun _ h9 => h9) rfl dX6_workOutSums_24 ?_
        refine lv_iload_n hx hb dX6_workOutSums_27 rfl (lv_at hl 1 rfl) ?_
        try have := kk_sub2 (x := p0) (y := i_1_0) (a := p0.toInt) (b := i_1_0.toInt) rfl rfl (by omega) (by omega)
        have hi_16 : vp_in (i_1_0 : Int32) 40 := (vp_in_iff.mpr ⟨by omega, by omega⟩)
        have hk_16 : (i_1_0 : Int32).toNatClampNeg < 40 := Nat.not_le.mp fun q => hi_16 (Or.inr q)
        refine kk_aald hx hb hK hP 1 0 rfl rfl hi_16 dX6_workOutSums_28 ?_
        refine W.eq (g2 := F0 m 29 ls [.ref (h3 (i_1_0 : Int32).toNatClampNeg)]) rfl ?_
        refine lv_iload_n hx hb dX6_workOutSums_29 rfl (lv_at hl 3 rfl) ?_
        refine va_iald hx hb hK hP _ 1 (kk_getr (kk_getl (kk_rowI hk_16))) rfl (vp_in_iff.mpr ⟨by omega, by omega⟩) dX6_workOutSums_30 ?_
        refine lv_topi (fun y_17 e_17 => ?_)
        clear e_17
        refine lv_goto (tgt := 36) hx hb dX6_workOutSums_31 (by decide) ?_
        refine lv_istore hx hb dX6_workOutSums_36 hl (by decide) (rfl : _ = ([(4, .int y_17), (3, .int i_1_0), (0, .ref h0), (1, .int p0), (2, .int p1)] : List (Nat × Value))) (fun ls hl => ?_)
        refine lv_goto (tgt := 88) hx hb dX6_workOutSums_38 (by decide) ?_
        refine lv_aload_n hx hb dX6_workOutSums_88 rfl (lv_at hl 2 rfl) ?_
        refine va_get (D := (dC, dI)) (ci := 6) (v := .ref h2) (C := RX6) (T := TX6) (N := 5) hx hb hts (fun _ h => List.mem_cons_of_mem _ (List.mem_append_right _ h)) hown hK hP 0 rfl rfl 1 (by decide) (hts (.fieldLink RX6 16 "KinkStreet$Pieces" "sums" "[[I") (List.mem_of_getElem? (i := 3) rfl)) (fun _ h9 => h9) rfl dX6_workOutSums_89 ?_
        refine lv_iload_n hx hb dX6_workOutSums_92 rfl (lv_at hl 4 rfl) ?_
        have hi_18 : vp_in (p1 : Int32) 6 := (vp_in_iff.mpr ⟨by omega, by omega⟩)
        have hk_18 : (p1 : Int32).toNatClampNeg < 6 := Nat.not_le.mp fun q => hi_18 (Or.inr q)
        refine kk_aald hx hb hK hP 2 0 rfl rfl hi_18 dX6_workOutSums_93 ?_
        refine W.eq (g2 := F0 m 94 ls [.ref (h4 (p1 : Int32).toNatClampNeg)]) rfl ?_
        refine lv_iload_n hx hb dX6_workOutSums_94 rfl (lv_at hl 1 rfl) ?_
        refine lv_iload hx hb dX6_workOutSums_95 (lv_at hl 0 rfl) ?_
        refine va_iast hx hb hK hP hD hS _ 1 (kk_getr (kk_getr (kk_rowI hk_18))) rfl (vp_in_iff.mpr ⟨by omega, by omega⟩) dX6_workOutSums_97 (fun H locs hP hD hS => ?_)
        rw [kk_setr, kk_setr, kk_rowsI_set hk_18] at hP hD
        generalize kk_upF f_1_1 (p1 : Int32).toNatClampNeg (upd (f_1_1 (p1 : Int32).toNatClampNeg) (i_1_0 : Int32).toNatClampNeg y_17) = F_19 at hP hD
        have hP : va_P (dC, dI) vwCl (([(h0, kO6 h1 h2 h5 h6 n0_pieceCount), (h1, kAr cAint 40 (fun j => some (h3 j))), (h2, kAr cAint 6 (fun j => some (h4 j)))] : va_W) ++ (kk_rowsI h3 cint 41 F3 40 ++ (kk_rowsI h4 cint 41 F_19 6))) H := hP
        have hD : va_D A (([(h0, kO6 h1 h2 h5 h6 n0_pieceCount), (h1, kAr cAint 40 (fun j => some (h3 j))), (h2, kAr cAint 6 (fun j => some (h4 j)))] : va_W) ++ (kk_rowsI h3 cint 41 F3 40 ++ (kk_rowsI h4 cint 41 F_19 6))) := hD
        refine lv_iinc (v := (i_1_0 + 1)) hx hb dX6_workOutSums_98 hl (k := 1) rfl (by first | rfl | decide) (by decide) (rfl : _ = ([(3, .int (i_1_0 + 1)), (4, .int y_17), (0, .ref h0), (1, .int p0), (2, .int p1)] : List (Nat × Value))) (fun ls hl => ?_)
        refine lv_goto (tgt := 2) hx hb dX6_workOutSums_101 (by decide) ?_
        try have := kk_add2 (x := i_1_0) (y := 1) (a := i_1_0.toInt) (b := 1) rfl rfl (by omega) (by omega)
        exact ih_1 ((i_1_0 + 1), F_19) _ _ _ (by show ((41 : Int) - ((i_1_0 + 1)).toInt).toNat < ((41 : Int) - i_1_0.toInt).toNat; exact kk_mu (by omega) (by omega)) ⟨(by show 0 ≤ ((i_1_0 + 1) : Int32).toInt ∧ ((i_1_0 + 1) : Int32).toInt ≤ 41; first | decide | ((omega))), hP, hD, hS, lv_sub hl [0, 2, 3, 4] rfl⟩
set_option maxHeartbeats 4000000 in
set_option maxRecDepth 100000 in
theorem g_X6_sum_0 (l : Launch) (dC : Nat → ClassId) (dI : Nat → Nat → Nat) (h0 : Nat) (h1 : Nat) (h2 : Nat) (h3 : Nat → Nat) (h4 : Nat → Nat) (h5 : Nat) (h6 : Nat) (cAint cint : ClassId) (sz : Nat) (n0_pieceCount : Int32) (F3 : Nat → Nat → Int32) (F4 : Nat → Nat → Int32) (tn0_pieceCount : 0 ≤ n0_pieceCount.toInt ∧ n0_pieceCount.toInt ≤ 5) : Met l yX6_sum wsX6_sum ({ frames := 0, cells := 0, slots := 0, locals := 0 }) (va_Pc [.ref h0] (fun U => U.heap.size = sz ∧ va_P (dC, dI) vwCl (([(h0, kO6 h1 h2 h5 h6 n0_pieceCount), (h1, kAr cAint 40 (fun j => some (h3 j))), (h2, kAr cAint 6 (fun j => some (h4 j)))] : va_W) ++ (kk_rowsI h3 cint 41 F3 40 ++ (kk_rowsI h4 cint 41 F4 6))) U.heap ∧ va_K (dC, dI) vwCl [(cAint, .array .int), (cint, .int)] U ∧ va_D (fun _ => True) (([(h0, kO6 h1 h2 h5 h6 n0_pieceCount), (h1, kAr cAint 40 (fun j => some (h3 j))), (h2, kAr cAint 6 (fun j => some (h4 j)))] : va_W) ++ (kk_rowsI h3 cint 41 F3 40 ++ (kk_rowsI h4 cint 41 F4 6))))) (va_Qi (fun (r : Int32) (_ : Unit) => True) (fun (_ : Unit) t => va_P (dC, dI) vwCl (([(h0, kO6 h1 h2 h5 h6 n0_pieceCount), (h1, kAr cAint 40 (fun j => some (h3 j))), (h2, kAr cAint 6 (fun j => some (h4 j)))] : va_W) ++ (kk_rowsI h3 cint 41 F3 40 ++ (kk_rowsI h4 cint 41 F4 6))) t.heap ∧ va_K (dC, dI) vwCl [] t ∧ va_D (va_A (([(h0, kO6 h1 h2 h5 h6 n0_pieceCount), (h1, kAr cAint 40 (fun j => some (h3 j))), (h2, kAr cAint 6 (fun j => some (h4 j)))] : va_W) ++ (kk_rowsI h3 cint 41 F3 40 ++ (kk_rowsI h4 cint 41 F4 6))) sz) (([(h0, kO6 h1 h2 h5 h6 n0_pieceCount), (h1, kAr cAint 40 (fun j => some (h3 j))), (h2, kAr cAint 6 (fun j => some (h4 j)))] : va_W) ++ (kk_rowsI h3 cint 41 F3 40 ++ (kk_rowsI h4 cint 41 F4 6)))) (va_A (([(h0, kO6 h1 h2 h5 h6 n0_pieceCount), (h1, kAr cAint 40 (fun j => some (h3 j))), (h2, kAr cAint 6 (fun j => some (h4 j)))] : va_W) ++ (kk_rowsI h3 cint 41 F3 40 ++ (kk_rowsI h4 cint 41 F4 6))) sz)) 0 0 (va_A (([(h0, kO6 h1 h2 h5 h6 n0_pieceCount), (h1, kAr cAint 40 (fun j => some (h3 j))), (h2, kAr cAint 6 (fun j => some (h4 j)))] : va_W) ++ (kk_rowsI h3 cint 41 F3 40 ++ (kk_rowsI h4 cint 41 F4 6))) sz) := by
  refine Met.ofW (cc := cX6_sum) (maxL := 1) (ret := (some .int)) (by decide) rfl ?_
  intro p e s m args below meth c s₁ B hml hv
  obtain ⟨rfl, hsz, hP, hK, hD0⟩ := hv
  have hx := B.exec
  have hb := B.bytes
  have hr := B.returns
  have hts := atoms_spec (ws := wsX6_sum) B.pre
  have hown : s.vm.findClass RX6 = some m.cls := findClass_of_methodNamed B.named
  have hlocks := B.notSynchronized
  subst hsz
  have hD := hD0.self (sz := s.heap.size)
  generalize hAe : va_A (([(h0, kO6 h1 h2 h5 h6 n0_pieceCount), (h1, kAr cAint 40 (fun j => some (h3 j))), (h2, kAr cAint 6 (fun j => some (h4 j)))] : va_W) ++ (kk_rowsI h3 cint 41 F3 40 ++ (kk_rowsI h4 cint 41 F4 6))) s.heap.size = A at hD ⊢
  have hA : ∀ q : Nat, s.heap.size ≤ q → A q := fun q h => by rw [← hAe]; exact Or.inr h
  have hS : va_S A s.heap s.heap [] := va_S.rf
  have hP : va_P (dC, dI) vwCl (([(h0, kO6 h1 h2 h5 h6 n0_pieceCount), (h1, kAr cAint 40 (fun j => some (h3 j))), (h2, kAr cAint 6 (fun j => some (h4 j)))] : va_W) ++ (kk_rowsI h3 cint 41 F3 40 ++ (kk_rowsI h4 cint 41 F4 6))) s.heap := hP
  have hl := lv_entry ([.ref h0]) (n := 1) (Nat.le_of_ble_eq_true rfl)
  rw [lg_entry_eq]
  generalize (lg_sl ([.ref h0]) ++ List.replicate (1 - (lg_sl ([.ref h0])).length) Slot.unset).toArray = ls at hl ⊢
  have hl : lv_has ls 1 [(0, .ref h0)] := hl
  refine lv_aload_n hx hb dX6_sum_0 rfl (lv_at hl 0 rfl) ?_
  refine va_get (D := (dC, dI)) (ci := 6) (v := .ref h2) (C := RX6) (T := TX6) (N := 5) hx hb hts (fun _ h => List.mem_cons_of_mem _ (List.mem_append_right _ h)) hown hK hP 0 rfl rfl 1 (by decide) (hts (.fieldLink RX6 16 "KinkStreet$Pieces" "sums" "[[I") (List.mem_of_getElem? (i := 1) rfl)) (fun _ h9 => h9) rfl dX6_sum_1 ?_
  refine lv_aload_n hx hb dX6_sum_4 rfl (lv_at hl 0 rfl) ?_
  refine va_get (D := (dC, dI)) (ci := 6) (v := .int n0_pieceCount) (C := RX6) (T := TX6) (N := 5) hx hb hts (fun _ h => List.mem_cons_of_mem _ (List.mem_append_right _ h)) hown hK hP 0 rfl rfl 4 (by decide) (hts (.fieldLink RX6 40 "KinkStreet$Pieces" "pieceCount" "I") (List.mem_of_getElem? (i := 2) rfl)) (fun _ h9 => h9) rfl dX6_sum_5 ?_
  have hi_1 : vp_in (n0_pieceCount : Int32) 6 := (vp_in_iff.mpr ⟨by omega, by omega⟩)
  have hk_1 : (n0_pieceCount : Int32).toNatClampNeg < 6 := Nat.not_le.mp fun q => hi_1 (Or.inr q)
  refine kk_aald hx hb hK hP 2 0 rfl rfl hi_1 dX6_sum_8 ?_
  refine W.eq (g2 := F0 m 9 ls [.ref (h4 (n0_pieceCount : Int32).toNatClampNeg)]) rfl ?_
  refine lv_iconst (v := 0) hx hb dX6_sum_9 kk_ic_0 ?_
  refine va_iald hx hb hK hP _ 1 (kk_getr (kk_getr (kk_rowI hk_1))) rfl (by unfold vp_in; decide) dX6_sum_10 ?_
  refine lv_topi (fun y_2 e_2 => ?_)
  clear e_2
  have hP9 := hP.part (cx := [(h0, kO6 h1 h2 h5 h6 n0_pieceCount), (h1, kAr cAint 40 (fun j => some (h3 j))), (h2, kAr cAint 6 (fun j => some (h4 j)))]) [0, 1, 2] rfl
  have hD9 := hD.part (cx := [(h0, kO6 h1 h2 h5 h6 n0_pieceCount), (h1, kAr cAint 40 (fun j => some (h3 j))), (h2, kAr cAint 6 (fun j => some (h4 j)))]) [0, 1, 2] (by decide) rfl
  have hK9 := kk_Ks (tq := []) hK [] rfl
  exact W.iret (v := y_2) hx hb hr (fun t ht hW => ⟨⟨y_2, (), rfl, trivial, by rw [ht]; exact hP9, va_K.moved hW.alike hK9, hD9⟩, hS.F ht⟩) hS.2.2 dX6_sum_11
set_option maxHeartbeats 4000000 in
set_option maxRecDepth 100000 in
theorem g_X6_howMany_0 (l : Launch) (dC : Nat → ClassId) (dI : Nat → Nat → Nat) (h0 : Nat) (h1 : Nat) (h2 : Nat) (h3 : Nat) (h4 : Nat) (sz : Nat) (n0_pieceCount : Int32) (tn0_pieceCount : 0 ≤ n0_pieceCount.toInt ∧ n0_pieceCount.toInt ≤ 5) : Met l yX6_howMany wsX6_howMany ({ frames := 0, cells := 0, slots := 0, locals := 0 }) (va_Pc [.ref h0] (fun U => U.heap.size = sz ∧ va_P (dC, dI) vwCl [(h0, kO6 h1 h2 h3 h4 n0_pieceCount)] U.heap ∧ va_K (dC, dI) vwCl [] U ∧ va_D (fun _ => True) [(h0, kO6 h1 h2 h3 h4 n0_pieceCount)])) (va_Qi (fun (r : Int32) (_ : Unit) => n0_pieceCount = r) (fun (_ : Unit) t => va_P (dC, dI) vwCl [(h0, kO6 h1 h2 h3 h4 n0_pieceCount)] t.heap ∧ va_K (dC, dI) vwCl [] t ∧ va_D (va_A [(h0, kO6 h1 h2 h3 h4 n0_pieceCount)] sz) [(h0, kO6 h1 h2 h3 h4 n0_pieceCount)]) (va_A [(h0, kO6 h1 h2 h3 h4 n0_pieceCount)] sz)) 0 0 (va_A [(h0, kO6 h1 h2 h3 h4 n0_pieceCount)] sz) := by
  refine Met.ofW (cc := cX6_howMany) (maxL := 1) (ret := (some .int)) (by decide) rfl ?_
  intro p e s m args below meth c s₁ B hml hv
  obtain ⟨rfl, hsz, hP, hK, hD0⟩ := hv
  have hx := B.exec
  have hb := B.bytes
  have hr := B.returns
  have hts := atoms_spec (ws := wsX6_howMany) B.pre
  have hown : s.vm.findClass RX6 = some m.cls := findClass_of_methodNamed B.named
  have hlocks := B.notSynchronized
  subst hsz
  have hD := hD0.self (sz := s.heap.size)
  generalize hAe : va_A [(h0, kO6 h1 h2 h3 h4 n0_pieceCount)] s.heap.size = A at hD ⊢
  have hA : ∀ q : Nat, s.heap.size ≤ q → A q := fun q h => by rw [← hAe]; exact Or.inr h
  have hS : va_S A s.heap s.heap [] := va_S.rf
  have hP : va_P (dC, dI) vwCl [(h0, kO6 h1 h2 h3 h4 n0_pieceCount)] s.heap := hP
  have hl := lv_entry ([.ref h0]) (n := 1) (Nat.le_of_ble_eq_true rfl)
  rw [lg_entry_eq]
  generalize (lg_sl ([.ref h0]) ++ List.replicate (1 - (lg_sl ([.ref h0])).length) Slot.unset).toArray = ls at hl ⊢
  have hl : lv_has ls 1 [(0, .ref h0)] := hl
  refine lv_aload_n hx hb dX6_howMany_0 rfl (lv_at hl 0 rfl) ?_
  refine va_get (D := (dC, dI)) (ci := 6) (v := .int n0_pieceCount) (C := RX6) (T := TX6) (N := 5) hx hb hts (fun _ h => List.mem_cons_of_mem _ (List.mem_append_right _ h)) hown hK hP 0 rfl rfl 4 (by decide) (hts (.fieldLink RX6 40 "KinkStreet$Pieces" "pieceCount" "I") (List.mem_of_getElem? (i := 1) rfl)) (fun _ h9 => h9) rfl dX6_howMany_1 ?_
  obtain ⟨hP9, hD9⟩ := kk_leafout (wc := [(h0, kO6 h1 h2 h3 h4 n0_pieceCount)]) hP hD [0] (by decide) rfl
  have hK9 := kk_Ks (tq := []) hK [] rfl
  exact W.iret (v := n0_pieceCount) hx hb hr (fun t ht hW => ⟨⟨n0_pieceCount, (), rfl, rfl, by rw [ht]; exact hP9, va_K.moved hW.alike hK9, hD9⟩, hS.F ht⟩) hS.2.2 dX6_howMany_4
set_option maxHeartbeats 4000000 in
set_option maxRecDepth 100000 in
theorem g_X6_begin_0 (l : Launch) (dC : Nat → ClassId) (dI : Nat → Nat → Nat) (h0 : Nat) (h1 : Nat) (h2 : Nat) (h3 : Nat) (h4 : Nat) (cint : ClassId) (sz : Nat) (p0 : Int32) (n0_pieceCount : Int32) (f1 : Nat → Int32) (tn0_pieceCount : kk_bx (0 ≤ n0_pieceCount.toInt ∧ n0_pieceCount.toInt ≤ 5)) (bf1 : ∀ j : Nat, j < 5 → 0 ≤ (f1 j).toInt ∧ (f1 j).toInt ≤ 40 + 2 * (j : Int)) : Met l yX6_begin wsX6_begin ({ frames := 0, cells := 0, slots := 0, locals := 0 }) (va_Pc [.ref h0, .int p0] (fun U => U.heap.size = sz ∧ va_P (dC, dI) vwCl [(h0, kO6 h2 h3 h4 h1 n0_pieceCount), (h1, kAi cint 5 f1)] U.heap ∧ va_K (dC, dI) vwCl [(cint, .int)] U ∧ va_D (fun _ => True) [(h0, kO6 h2 h3 h4 h1 n0_pieceCount), (h1, kAi cint 5 f1)])) (va_Qi (fun (r : Int32) (_ : Unit) => ((-1) ≤ r.toInt ∧ r.toInt ≤ 48)) (fun (_ : Unit) t => va_P (dC, dI) vwCl [(h0, kO6 h2 h3 h4 h1 n0_pieceCount), (h1, kAi cint 5 f1)] t.heap ∧ va_K (dC, dI) vwCl [] t ∧ va_D (va_A [(h0, kO6 h2 h3 h4 h1 n0_pieceCount), (h1, kAi cint 5 f1)] sz) [(h0, kO6 h2 h3 h4 h1 n0_pieceCount), (h1, kAi cint 5 f1)]) (va_A [(h0, kO6 h2 h3 h4 h1 n0_pieceCount), (h1, kAi cint 5 f1)] sz)) 0 0 (va_A [(h0, kO6 h2 h3 h4 h1 n0_pieceCount), (h1, kAi cint 5 f1)] sz) := by
  refine Met.ofW (cc := cX6_begin) (maxL := 2) (ret := (some .int)) (by decide) rfl ?_
  intro p e s m args below meth c s₁ B hml hv
  obtain ⟨rfl, hsz, hP, hK, hD0⟩ := hv
  have hx := B.exec
  have hb := B.bytes
  have hr := B.returns
  have hts := atoms_spec (ws := wsX6_begin) B.pre
  have hown : s.vm.findClass RX6 = some m.cls := findClass_of_methodNamed B.named
  have hlocks := B.notSynchronized
  subst hsz
  have hD := hD0.self (sz := s.heap.size)
  generalize hAe : va_A [(h0, kO6 h2 h3 h4 h1 n0_pieceCount), (h1, kAi cint 5 f1)] s.heap.size = A at hD ⊢
  have hA : ∀ q : Nat, s.heap.size ≤ q → A q := fun q h => by rw [← hAe]; exact Or.inr h
  have hS : va_S A s.heap s.heap [] := va_S.rf
  have hP : va_P (dC, dI) vwCl [(h0, kO6 h2 h3 h4 h1 n0_pieceCount), (h1, kAi cint 5 f1)] s.heap := hP
  have hl := lv_entry ([.ref h0, .int p0]) (n := 2) (Nat.le_of_ble_eq_true rfl)
  rw [lg_entry_eq]
  generalize (lg_sl ([.ref h0, .int p0]) ++ List.replicate (2 - (lg_sl ([.ref h0, .int p0])).length) Slot.unset).toArray = ls at hl ⊢
  have hl : lv_has ls 2 [(0, .ref h0), (1, .int p0)] := hl
  refine lv_iload_n hx hb dX6_begin_0 rfl (lv_at hl 1 rfl) ?_
  refine lv_if_lt (tgt := 22) hx hb dX6_begin_1 (by decide) (fun c_1 => ?_) (fun c_1 => ?_)
  · have t_1 : p0.toInt < 0 := kk_lt c_1
    refine lv_iconst (v := (-1)) hx hb dX6_begin_22 kk_ic_m1 ?_
    obtain ⟨hP9, hD9⟩ := kk_leafout (wc := [(h0, kO6 h2 h3 h4 h1 n0_pieceCount), (h1, kAi cint 5 f1)]) hP hD [0, 1] (by decide) rfl
    have hK9 := kk_Ks (tq := []) hK [] rfl
    try have := kk_rng p0
    exact W.iret (v := (-1)) hx hb hr (fun t ht hW => ⟨⟨(-1), (), rfl, (by show (-1) ≤ ((-1) : Int32).toInt ∧ ((-1) : Int32).toInt ≤ 48; first | decide | ((omega))), by rw [ht]; exact hP9, va_K.moved hW.alike hK9, hD9⟩, hS.F ht⟩) hS.2.2 dX6_begin_23
  · have t_1 : 0 ≤ p0.toInt := kk_nlt c_1
    refine lv_iload_n hx hb dX6_begin_4 rfl (lv_at hl 1 rfl) ?_
    refine lv_aload_n hx hb dX6_begin_5 rfl (lv_at hl 0 rfl) ?_
    refine va_get (D := (dC, dI)) (ci := 6) (v := .ref h1) (C := RX6) (T := TX6) (N := 5) hx hb hts (fun _ h => List.mem_cons_of_mem _ (List.mem_append_right _ h)) hown hK hP 0 rfl rfl 3 (by decide) (hts (.fieldLink RX6 23 "KinkStreet$Pieces" "begins" "[I") (List.mem_of_getElem? (i := 1) rfl)) (fun _ h9 => h9) rfl dX6_begin_6 ?_
    refine va_alen (v := 5) hx hb hK hP 1 0 rfl rfl rfl dX6_begin_9 ?_
    refine lv_icmp_ge (tgt := 22) hx hb dX6_begin_10 (by decide) (fun c_2 => ?_) (fun c_2 => ?_)
    · have t_2 : 5 ≤ p0.toInt := kk_le c_2
      refine lv_iconst (v := (-1)) hx hb dX6_begin_22 kk_ic_m1 ?_
      obtain ⟨hP9, hD9⟩ := kk_leafout (wc := [(h0, kO6 h2 h3 h4 h1 n0_pieceCount), (h1, kAi cint 5 f1)]) hP hD [0, 1] (by decide) rfl
      have hK9 := kk_Ks (tq := []) hK [] rfl
      try have := kk_rng p0
      exact W.iret (v := (-1)) hx hb hr (fun t ht hW => ⟨⟨(-1), (), rfl, (by show (-1) ≤ ((-1) : Int32).toInt ∧ ((-1) : Int32).toInt ≤ 48; first | decide | ((omega))), by rw [ht]; exact hP9, va_K.moved hW.alike hK9, hD9⟩, hS.F ht⟩) hS.2.2 dX6_begin_23
    · have t_2 : p0.toInt < 5 := kk_nle c_2
      refine lv_aload_n hx hb dX6_begin_13 rfl (lv_at hl 0 rfl) ?_
      refine va_get (D := (dC, dI)) (ci := 6) (v := .ref h1) (C := RX6) (T := TX6) (N := 5) hx hb hts (fun _ h => List.mem_cons_of_mem _ (List.mem_append_right _ h)) hown hK hP 0 rfl rfl 3 (by decide) (hts (.fieldLink RX6 23 "KinkStreet$Pieces" "begins" "[I") (List.mem_of_getElem? (i := 1) rfl)) (fun _ h9 => h9) rfl dX6_begin_14 ?_
      refine lv_iload_n hx hb dX6_begin_17 rfl (lv_at hl 1 rfl) ?_
      have hi_3 : vp_in p0 5 := (vp_in_iff.mpr ⟨by omega, by omega⟩)
      refine va_iald hx hb hK hP 1 0 rfl rfl hi_3 dX6_begin_18 ?_
      refine lv_topi (fun y_3 e_3 => ?_)
      have t_3 : 0 ≤ y_3.toInt ∧ y_3.toInt ≤ 40 + 2 * ((p0 : Int32).toNatClampNeg : Int) := by rw [e_3]; exact bf1 _ (Nat.not_le.mp fun q => hi_3 (Or.inr q))
      have u_3 := kk_tn (x := (p0 : Int32)) (by show 0 ≤ (p0 : Int32).toInt; omega)
      have t_3 : 0 ≤ y_3.toInt ∧ y_3.toInt ≤ 40 + 2 * p0.toInt := by omega
      clear e_3
      refine lv_goto (tgt := 23) hx hb dX6_begin_19 (by decide) ?_
      obtain ⟨hP9, hD9⟩ := kk_leafout (wc := [(h0, kO6 h2 h3 h4 h1 n0_pieceCount), (h1, kAi cint 5 f1)]) hP hD [0, 1] (by decide) rfl
      have hK9 := kk_Ks (tq := []) hK [] rfl
      exact W.iret (v := y_3) hx hb hr (fun t ht hW => ⟨⟨y_3, (), rfl, (by show (-1) ≤ (y_3 : Int32).toInt ∧ (y_3 : Int32).toInt ≤ 48; first | decide | ((omega))), by rw [ht]; exact hP9, va_K.moved hW.alike hK9, hD9⟩, hS.F ht⟩) hS.2.2 dX6_begin_23
set_option maxHeartbeats 4000000 in
set_option maxRecDepth 100000 in
theorem g_X5_isKind_0 (l : Launch) (dC : Nat → ClassId) (dI : Nat → Nat → Nat) (sz : Nat) (p0 : Int32) : Met l yX5_isKind wsX5_isKind ({ frames := 0, cells := 0, slots := 0, locals := 0 }) (va_Pc [.int p0] (fun U => U.heap.size = sz ∧ va_P (dC, dI) vwCl [] U.heap ∧ va_K (dC, dI) vwCl [] U ∧ va_D (fun _ => True) [])) (va_Qi (fun (r : Int32) (_ : Unit) => ((0 : Int32) = r) ∨ (0 ≤ p0.toInt ∧ p0.toInt < 8 ∧ (1 : Int32) = r)) (fun (_ : Unit) t => va_P (dC, dI) vwCl [] t.heap ∧ va_K (dC, dI) vwCl [] t ∧ va_D (va_A [] sz) []) (va_A [] sz)) 0 0 (va_A [] sz) := by
  refine Met.ofW (cc := cX5_isKind) (maxL := 1) (ret := (some .boolean)) (by decide) rfl ?_
  intro p e s m args below meth c s₁ B hml hv
  obtain ⟨rfl, hsz, hP, hK, hD0⟩ := hv
  have hx := B.exec
  have hb := B.bytes
  have hr := B.returns
  have hts := atoms_spec (ws := wsX5_isKind) B.pre
  have hown : s.vm.findClass RX5 = some m.cls := findClass_of_methodNamed B.named
  have hlocks := B.notSynchronized
  subst hsz
  have hD := hD0.self (sz := s.heap.size)
  generalize hAe : va_A [] s.heap.size = A at hD ⊢
  have hA : ∀ q : Nat, s.heap.size ≤ q → A q := fun q h => by rw [← hAe]; exact Or.inr h
  have hS : va_S A s.heap s.heap [] := va_S.rf
  have hP : va_P (dC, dI) vwCl [] s.heap := hP
  have hl := lv_entry ([.int p0]) (n := 1) (Nat.le_of_ble_eq_true rfl)
  rw [lg_entry_eq]
  generalize (lg_sl ([.int p0]) ++ List.replicate (1 - (lg_sl ([.int p0])).length) Slot.unset).toArray = ls at hl ⊢
  have hl : lv_has ls 1 [(0, .int p0)] := hl
  refine lv_iload_n hx hb dX5_isKind_0 rfl (lv_at hl 0 rfl) ?_
  refine lv_if_lt (tgt := 14) hx hb dX5_isKind_1 (by decide) (fun c_1 => ?_) (fun c_1 => ?_)
  · have t_1 : p0.toInt < 0 := kk_lt c_1
    refine lv_iconst (v := 0) hx hb dX5_isKind_14 kk_ic_0 ?_
    obtain ⟨hP9, hD9⟩ := kk_leafout (wc := []) hP hD [] (by decide) rfl
    have hK9 := kk_Ks (tq := []) hK [] rfl
    exact W.zret (v := 0) hx hb hr rfl (fun t ht hW => ⟨⟨0, (), rfl, Or.inl rfl, by rw [ht]; exact hP9, va_K.moved hW.alike hK9, hD9⟩, hS.F ht⟩) hS.2.2 dX5_isKind_15
  · have t_1 : 0 ≤ p0.toInt := kk_nlt c_1
    refine lv_iload_n hx hb dX5_isKind_4 rfl (lv_at hl 0 rfl) ?_
    refine lv_bipush (v := 8) hx hb dX5_isKind_5 kk_bi_8 ?_
    refine lv_icmp_ge (tgt := 14) hx hb dX5_isKind_7 (by decide) (fun c_2 => ?_) (fun c_2 => ?_)
    · have t_2 : 8 ≤ p0.toInt := kk_le c_2
      refine lv_iconst (v := 0) hx hb dX5_isKind_14 kk_ic_0 ?_
      obtain ⟨hP9, hD9⟩ := kk_leafout (wc := []) hP hD [] (by decide) rfl
      have hK9 := kk_Ks (tq := []) hK [] rfl
      exact W.zret (v := 0) hx hb hr rfl (fun t ht hW => ⟨⟨0, (), rfl, Or.inl rfl, by rw [ht]; exact hP9, va_K.moved hW.alike hK9, hD9⟩, hS.F ht⟩) hS.2.2 dX5_isKind_15
    · have t_2 : p0.toInt < 8 := kk_nle c_2
      refine lv_iconst (v := 1) hx hb dX5_isKind_10 kk_ic_1 ?_
      refine lv_goto (tgt := 15) hx hb dX5_isKind_11 (by decide) ?_
      obtain ⟨hP9, hD9⟩ := kk_leafout (wc := []) hP hD [] (by decide) rfl
      have hK9 := kk_Ks (tq := []) hK [] rfl
      exact W.zret (v := 1) hx hb hr rfl (fun t ht hW => ⟨⟨1, (), rfl, Or.inr (⟨by first | with_reducible assumption | (omega) | assumption, by first | with_reducible assumption | (omega) | assumption, rfl⟩), by rw [ht]; exact hP9, va_K.moved hW.alike hK9, hD9⟩, hS.F ht⟩) hS.2.2 dX5_isKind_15
set_option maxHeartbeats 4000000 in
set_option maxRecDepth 100000 in
theorem g_X5_isUnder_0 (l : Launch) (dC : Nat → ClassId) (dI : Nat → Nat → Nat) (sz : Nat) (p0 : Int32) (p1 : Int32) (aABOVE : Nat) : Met l yX5_isUnder wsX5_isUnder ({ frames := 1, cells := 0, slots := 0, locals := 20 }) (va_Pc [.int p0, .int p1] (fun U => U.heap.size = sz ∧ va_P (dC, dI) vwCl [] U.heap ∧ va_K (dC, dI) vwCl [] U ∧ va_D (fun _ => True) [] ∧ va_Z "KinkStreet$Lines" "ABOVE" "[I" (.ref aABOVE) (va_A [] sz) U U.heap ∧ va_T .int aABOVE 8 tb_ABOVE (va_A [] sz) U U.heap)) (va_Qi (fun (r : Int32) (_ : Unit) => ((0 : Int32) = r) ∨ (0 ≤ p1.toInt ∧ p1.toInt ≤ 7 ∧ (1 : Int32) = r)) (fun (_ : Unit) t => va_P (dC, dI) vwCl [] t.heap ∧ va_K (dC, dI) vwCl [] t ∧ va_D (va_A [] sz) []) (va_A [] sz)) 0 0 (va_A [] sz) := by
  refine Met.ofW (cc := cX5_isUnder) (maxL := 4) (ret := (some .boolean)) (by decide) rfl ?_
  intro p e s m args below meth c s₁ B hml hv
  obtain ⟨rfl, hsz, hP, hK, hD0, hZABOVE, hTABOVE⟩ := hv
  have hx := B.exec
  have hb := B.bytes
  have hr := B.returns
  have hts := atoms_spec (ws := wsX5_isUnder) B.pre
  have hown : s.vm.findClass RX5 = some m.cls := findClass_of_methodNamed B.named
  have hlocks := B.notSynchronized
  subst hsz
  have hD := hD0.self (sz := s.heap.size)
  generalize hAe : va_A [] s.heap.size = A at hD hZABOVE hTABOVE ⊢
  have hA : ∀ q : Nat, s.heap.size ≤ q → A q := fun q h => by rw [← hAe]; exact Or.inr h
  have hS : va_S A s.heap s.heap [] := va_S.rf
  have hP : va_P (dC, dI) vwCl [] s.heap := hP
  have hl := lv_entry ([.int p0, .int p1]) (n := 4) (Nat.le_of_ble_eq_true rfl)
  rw [lg_entry_eq]
  generalize (lg_sl ([.int p0, .int p1]) ++ List.replicate (4 - (lg_sl ([.int p0, .int p1])).length) Slot.unset).toArray = ls at hl ⊢
  have hl : lv_has ls 4 [(0, .int p0), (1, .int p1)] := hl
  refine lv_iload_n hx hb dX5_isUnder_0 rfl (lv_at hl 0 rfl) ?_
  refine lv_istore_n hx hb dX5_isUnder_1 rfl hl (by decide) (rfl : _ = ([(2, .int p0), (0, .int p0), (1, .int p1)] : List (Nat × Value))) (fun ls hl => ?_)
  refine lv_iconst (v := 0) hx hb dX5_isUnder_2 kk_ic_0 ?_
  refine lv_istore_n hx hb dX5_isUnder_3 rfl hl (by decide) (rfl : _ = ([(3, .int 0), (2, .int p0), (0, .int p0), (1, .int p1)] : List (Nat × Value))) (fun ls hl => ?_)
  refine kk_loop (σ := Int32 × Int32) (fun x H locs ls => (0 ≤ x.1.toInt ∧ x.1.toInt ≤ 8) ∧ va_P (dC, dI) vwCl [] H ∧ va_D A [] ∧ va_S A s.heap H locs ∧ lv_has ls 4 [(3, .int x.1), (2, .int x.2), (0, .int p0), (1, .int p1)]) (fun x => ((8 : Int) - x.1.toInt).toNat) ?_ (0, p0) _ _ _ ⟨(by show 0 ≤ (0 : Int32).toInt ∧ (0 : Int32).toInt ≤ 8; first | decide | ((omega))), hP, hD, hS, hl⟩
  rintro ⟨i_1_0, i_1_1⟩ H locs ls ⟨t_1_0, hP, hD, hS, hl⟩ ih_1
  have t_1_0 : (0 ≤ i_1_0.toInt ∧ i_1_0.toInt ≤ 8) := t_1_0
  have hl : lv_has ls 4 [(3, .int i_1_0), (2, .int i_1_1), (0, .int p0), (1, .int p1)] := hl
  have hP : va_P (dC, dI) vwCl [] H := hP
  have hD : va_D A [] := hD
  refine lv_iload_n hx hb dX5_isUnder_4 rfl (lv_at hl 0 rfl) ?_
  refine lv_bipush (v := 8) hx hb dX5_isUnder_5 kk_bi_8 ?_
  refine lv_icmp_ge (tgt := 36) hx hb dX5_isUnder_7 (by decide) (fun c_2 => ?_) (fun c_2 => ?_)
  · have t_2 : 8 ≤ i_1_0.toInt := kk_le c_2
    refine lv_iconst (v := 0) hx hb dX5_isUnder_36 kk_ic_0 ?_
    obtain ⟨hP9, hD9⟩ := kk_leafout (wc := []) hP hD [] (by decide) rfl
    have hK9 := kk_Ks (tq := []) hK [] rfl
    exact W.zret (v := 0) hx hb hr rfl (fun t ht hW => ⟨⟨0, (), rfl, Or.inl rfl, by rw [ht]; exact hP9, va_K.moved hW.alike hK9, hD9⟩, hS.F ht⟩) hS.2.2 dX5_isUnder_37
  · have t_2 : i_1_0.toInt < 8 := kk_nle c_2
    refine lv_iload_n hx hb dX5_isUnder_10 rfl (lv_at hl 1 rfl) ?_
    obtain ⟨hPc, hDc, hFc⟩ := kk_cutout (wc := []) hP hD hS hA [] (by decide) rfl
    have hKc := kk_Ks (tq := []) hK [] rfl
    refine va_calli (va_runS (As := [.int i_1_1]) (rest := []) ⟨hx, hb, hml, hown, hts⟩ (g_X5_isKind_0 l dC dI H.size i_1_1) (va_cwS 1 hts gX5_isUnder_X5_isKind rfl rfl rfl kh_X5_isKind ⟨Nat.le_of_ble_eq_true rfl, Nat.le_of_ble_eq_true rfl⟩) ⟨fun a U g mk q => by obtain ⟨q0, q1, qP, qK, qD⟩ := q; exact ⟨q0, q1, qP, va_K.moved (u := U) (U := U.calling g mk a) (Vm.Alike.refl U.vm) qK, qD⟩, fun U hU hW => ⟨rfl, by rw [hU], by rw [hU]; exact hPc, va_K.moved hW.alike hKc, hDc.weaken (fun _ _ _ _ => trivial)⟩⟩ rfl rfl hl.1 rfl (lv_room (Nat.le_of_ble_eq_true rfl)) dX5_isUnder_11 ⟨Nat.le_of_ble_eq_true rfl, Nat.le_of_ble_eq_true rfl⟩) hS (fun q _ h => hFc q h) hFc (fun r_3 u t H1 locs ht hvm hw hB hz1 hk1 hS => ?_)
    obtain ⟨hP1, hK1, hD1⟩ := hB
    rw [ht] at hP1
    have hK1 := va_K.moved hvm.symm hK1
    obtain ⟨hP, hD⟩ := va_join (wr := []) (w1 := []) hP hD [] [] rfl rfl (by decide) (by decide) hk1 hFc hP1 hD1
    generalize H1 = H at hP hS ⊢
    have hP : va_P (dC, dI) vwCl [] H := hP
    have hD : va_D A [] := hD
    rcases hw with ⟨rfl⟩ | ⟨t_3_0, t_3_1, rfl⟩
    · skip
      refine lv_if_eq (tgt := 36) hx hb dX5_isUnder_14 (by decide) (fun _ => ?_) (fun c => absurd c (by decide))
      refine lv_iconst (v := 0) hx hb dX5_isUnder_36 kk_ic_0 ?_
      obtain ⟨hP9, hD9⟩ := kk_leafout (wc := []) hP hD [] (by decide) rfl
      have hK9 := kk_Ks (tq := []) hK [] rfl
      exact W.zret (v := 0) hx hb hr rfl (fun t ht hW => ⟨⟨0, (), rfl, Or.inl rfl, by rw [ht]; exact hP9, va_K.moved hW.alike hK9, hD9⟩, hS.F ht⟩) hS.2.2 dX5_isUnder_37
    · skip
      have t_3_0 : (0 : Int) ≤ i_1_1.toInt := t_3_0
      have t_3_1 : (i_1_1.toInt : Int) < 8 := t_3_1
      refine lv_if_eq (tgt := 36) hx hb dX5_isUnder_14 (by decide) (fun c => absurd c (by decide)) (fun _ => ?_)
      refine lv_iload_n hx hb dX5_isUnder_17 rfl (lv_at hl 1 rfl) ?_
      refine lv_iload_n hx hb dX5_isUnder_18 rfl (lv_at hl 3 rfl) ?_
      refine lv_icmp_ne (tgt := 24) hx hb dX5_isUnder_19 (by decide) (fun c_4 => ?_) (fun c_4 => ?_)
      · have t_4 : i_1_1.toInt ≠ p1.toInt := kk_ne c_4
        refine va_gets hx hb hZABOVE hS hown (hts (.fieldLink RX5 22 "KinkStreet$Lines" "ABOVE" "[I") (List.mem_of_getElem? (i := 1) rfl)) (fun _ h9 => h9) dX5_isUnder_24 ?_
        refine lv_iload_n hx hb dX5_isUnder_27 rfl (lv_at hl 1 rfl) ?_
        have hi_5 : vp_in i_1_1 8 := (vp_in_iff.mpr ⟨by omega, by omega⟩)
        obtain ⟨y_5, e_5, t_5⟩ := tb_ABOVE_b _ (Nat.not_le.mp fun q => hi_5 (Or.inr q))
        refine va_ti (v := .int y_5) hx hb hTABOVE hS hi_5 e_5 dX5_isUnder_28 ?_
        refine lv_istore_n hx hb dX5_isUnder_29 rfl hl (by decide) (rfl : _ = ([(2, .int y_5), (3, .int i_1_0), (0, .int p0), (1, .int p1)] : List (Nat × Value))) (fun ls hl => ?_)
        refine lv_iinc (v := (i_1_0 + 1)) hx hb dX5_isUnder_30 hl (k := 1) rfl (by first | rfl | decide) (by decide) (rfl : _ = ([(3, .int (i_1_0 + 1)), (2, .int y_5), (0, .int p0), (1, .int p1)] : List (Nat × Value))) (fun ls hl => ?_)
        refine lv_goto (tgt := 4) hx hb dX5_isUnder_33 (by decide) ?_
        try have := kk_add2 (x := i_1_0) (y := 1) (a := i_1_0.toInt) (b := 1) rfl rfl (by omega) (by omega)
        exact ih_1 ((i_1_0 + 1), y_5) _ _ _ (by show ((8 : Int) - ((i_1_0 + 1)).toInt).toNat < ((8 : Int) - i_1_0.toInt).toNat; exact kk_mu (by omega) (by omega)) ⟨(by show 0 ≤ ((i_1_0 + 1) : Int32).toInt ∧ ((i_1_0 + 1) : Int32).toInt ≤ 8; first | decide | ((omega))), hP, hD, hS, lv_sub hl [0, 1, 2, 3] rfl⟩
      · have t_4 : i_1_1.toInt = p1.toInt := kk_eq c_4
        refine lv_iconst (v := 1) hx hb dX5_isUnder_22 kk_ic_1 ?_
        obtain ⟨hP9, hD9⟩ := kk_leafout (wc := []) hP hD [] (by decide) rfl
        have hK9 := kk_Ks (tq := []) hK [] rfl
        exact W.zret (v := 1) hx hb hr rfl (fun t ht hW => ⟨⟨1, (), rfl, Or.inr (⟨by first | with_reducible assumption | (omega) | assumption, by first | with_reducible assumption | (omega) | assumption, rfl⟩), by rw [ht]; exact hP9, va_K.moved hW.alike hK9, hD9⟩, hS.F ht⟩) hS.2.2 dX5_isUnder_23
set_option maxHeartbeats 4000000 in
set_option maxRecDepth 100000 in
theorem g_X5_size_0 (l : Launch) (dC : Nat → ClassId) (dI : Nat → Nat → Nat) (h0 : Nat) (h1 : Nat) (h2 : Nat) (sz : Nat) (n0_size : Int32) (n0_ran : Int32) (tn0_size : 0 ≤ n0_size.toInt ∧ n0_size.toInt ≤ 50) (tn0_ran : kk_bx (0 ≤ n0_ran.toInt ∧ n0_ran.toInt ≤ 1000)) : Met l yX5_size wsX5_size ({ frames := 0, cells := 0, slots := 0, locals := 0 }) (va_Pc [.ref h0] (fun U => U.heap.size = sz ∧ va_P (dC, dI) vwCl [(h0, kO5 h1 n0_size h2 n0_ran)] U.heap ∧ va_K (dC, dI) vwCl [] U ∧ va_D (fun _ => True) [(h0, kO5 h1 n0_size h2 n0_ran)])) (va_Qi (fun (r : Int32) (_ : Unit) => n0_size = r) (fun (_ : Unit) t => va_P (dC, dI) vwCl [(h0, kO5 h1 n0_size h2 n0_ran)] t.heap ∧ va_K (dC, dI) vwCl [] t ∧ va_D (va_A [(h0, kO5 h1 n0_size h2 n0_ran)] sz) [(h0, kO5 h1 n0_size h2 n0_ran)]) (va_A [(h0, kO5 h1 n0_size h2 n0_ran)] sz)) 0 0 (va_A [(h0, kO5 h1 n0_size h2 n0_ran)] sz) := by
  refine Met.ofW (cc := cX5_size) (maxL := 1) (ret := (some .int)) (by decide) rfl ?_
  intro p e s m args below meth c s₁ B hml hv
  obtain ⟨rfl, hsz, hP, hK, hD0⟩ := hv
  have hx := B.exec
  have hb := B.bytes
  have hr := B.returns
  have hts := atoms_spec (ws := wsX5_size) B.pre
  have hown : s.vm.findClass RX5 = some m.cls := findClass_of_methodNamed B.named
  have hlocks := B.notSynchronized
  subst hsz
  have hD := hD0.self (sz := s.heap.size)
  generalize hAe : va_A [(h0, kO5 h1 n0_size h2 n0_ran)] s.heap.size = A at hD ⊢
  have hA : ∀ q : Nat, s.heap.size ≤ q → A q := fun q h => by rw [← hAe]; exact Or.inr h
  have hS : va_S A s.heap s.heap [] := va_S.rf
  have hP : va_P (dC, dI) vwCl [(h0, kO5 h1 n0_size h2 n0_ran)] s.heap := hP
  have hl := lv_entry ([.ref h0]) (n := 1) (Nat.le_of_ble_eq_true rfl)
  rw [lg_entry_eq]
  generalize (lg_sl ([.ref h0]) ++ List.replicate (1 - (lg_sl ([.ref h0])).length) Slot.unset).toArray = ls at hl ⊢
  have hl : lv_has ls 1 [(0, .ref h0)] := hl
  refine lv_aload_n hx hb dX5_size_0 rfl (lv_at hl 0 rfl) ?_
  refine va_get (D := (dC, dI)) (ci := 5) (v := .int n0_size) (C := RX5) (T := TX5) (N := 4) hx hb hts (fun _ h => List.mem_cons_of_mem _ (List.mem_append_right _ h)) hown hK hP 0 rfl rfl 1 (by decide) (hts (.fieldLink RX5 25 "KinkStreet$Lines" "size" "I") (List.mem_of_getElem? (i := 1) rfl)) (fun _ h9 => h9) rfl dX5_size_1 ?_
  obtain ⟨hP9, hD9⟩ := kk_leafout (wc := [(h0, kO5 h1 n0_size h2 n0_ran)]) hP hD [0] (by decide) rfl
  have hK9 := kk_Ks (tq := []) hK [] rfl
  exact W.iret (v := n0_size) hx hb hr (fun t ht hW => ⟨⟨n0_size, (), rfl, rfl, by rw [ht]; exact hP9, va_K.moved hW.alike hK9, hD9⟩, hS.F ht⟩) hS.2.2 dX5_size_4
set_option maxHeartbeats 4000000 in
set_option maxRecDepth 100000 in
theorem g_X5_isFull_0 (l : Launch) (dC : Nat → ClassId) (dI : Nat → Nat → Nat) (h0 : Nat) (h1 : Nat) (h2 : Nat) (sz : Nat) (n0_size : Int32) (n0_ran : Int32) (tn0_size : 0 ≤ n0_size.toInt ∧ n0_size.toInt ≤ 50) (tn0_ran : kk_bx (0 ≤ n0_ran.toInt ∧ n0_ran.toInt ≤ 1000)) : Met l yX5_isFull wsX5_isFull ({ frames := 0, cells := 0, slots := 0, locals := 0 }) (va_Pc [.ref h0] (fun U => U.heap.size = sz ∧ va_P (dC, dI) vwCl [(h0, kO5 h1 n0_size h2 n0_ran)] U.heap ∧ va_K (dC, dI) vwCl [] U ∧ va_D (fun _ => True) [(h0, kO5 h1 n0_size h2 n0_ran)])) (va_Qi (fun (r : Int32) (_ : Unit) => (n0_size.toInt < 50 ∧ (0 : Int32) = r) ∨ (50 ≤ n0_size.toInt ∧ (1 : Int32) = r)) (fun (_ : Unit) t => va_P (dC, dI) vwCl [(h0, kO5 h1 n0_size h2 n0_ran)] t.heap ∧ va_K (dC, dI) vwCl [] t ∧ va_D (va_A [(h0, kO5 h1 n0_size h2 n0_ran)] sz) [(h0, kO5 h1 n0_size h2 n0_ran)]) (va_A [(h0, kO5 h1 n0_size h2 n0_ran)] sz)) 0 0 (va_A [(h0, kO5 h1 n0_size h2 n0_ran)] sz) := by
  refine Met.ofW (cc := cX5_isFull) (maxL := 1) (ret := (some .boolean)) (by decide) rfl ?_
  intro p e s m args below meth c s₁ B hml hv
  obtain ⟨rfl, hsz, hP, hK, hD0⟩ := hv
  have hx := B.exec
  have hb := B.bytes
  have hr := B.returns
  have hts := atoms_spec (ws := wsX5_isFull) B.pre
  have hown : s.vm.findClass RX5 = some m.cls := findClass_of_methodNamed B.named
  have hlocks := B.notSynchronized
  subst hsz
  have hD := hD0.self (sz := s.heap.size)
  generalize hAe : va_A [(h0, kO5 h1 n0_size h2 n0_ran)] s.heap.size = A at hD ⊢
  have hA : ∀ q : Nat, s.heap.size ≤ q → A q := fun q h => by rw [← hAe]; exact Or.inr h
  have hS : va_S A s.heap s.heap [] := va_S.rf
  have hP : va_P (dC, dI) vwCl [(h0, kO5 h1 n0_size h2 n0_ran)] s.heap := hP
  have hl := lv_entry ([.ref h0]) (n := 1) (Nat.le_of_ble_eq_true rfl)
  rw [lg_entry_eq]
  generalize (lg_sl ([.ref h0]) ++ List.replicate (1 - (lg_sl ([.ref h0])).length) Slot.unset).toArray = ls at hl ⊢
  have hl : lv_has ls 1 [(0, .ref h0)] := hl
  refine lv_aload_n hx hb dX5_isFull_0 rfl (lv_at hl 0 rfl) ?_
  refine va_get (D := (dC, dI)) (ci := 5) (v := .int n0_size) (C := RX5) (T := TX5) (N := 4) hx hb hts (fun _ h => List.mem_cons_of_mem _ (List.mem_append_right _ h)) hown hK hP 0 rfl rfl 1 (by decide) (hts (.fieldLink RX5 25 "KinkStreet$Lines" "size" "I") (List.mem_of_getElem? (i := 1) rfl)) (fun _ h9 => h9) rfl dX5_isFull_1 ?_
  refine lv_bipush (v := 50) hx hb dX5_isFull_4 kk_bi_50 ?_
  refine lv_icmp_lt (tgt := 13) hx hb dX5_isFull_6 (by decide) (fun c_1 => ?_) (fun c_1 => ?_)
  · have t_1 : n0_size.toInt < 50 := kk_lt c_1
    refine lv_iconst (v := 0) hx hb dX5_isFull_13 kk_ic_0 ?_
    obtain ⟨hP9, hD9⟩ := kk_leafout (wc := [(h0, kO5 h1 n0_size h2 n0_ran)]) hP hD [0] (by decide) rfl
    have hK9 := kk_Ks (tq := []) hK [] rfl
    exact W.zret (v := 0) hx hb hr rfl (fun t ht hW => ⟨⟨0, (), rfl, Or.inl ⟨by first | with_reducible assumption | (omega) | assumption, rfl⟩, by rw [ht]; exact hP9, va_K.moved hW.alike hK9, hD9⟩, hS.F ht⟩) hS.2.2 dX5_isFull_14
  · have t_1 : 50 ≤ n0_size.toInt := kk_nlt c_1
    refine lv_iconst (v := 1) hx hb dX5_isFull_9 kk_ic_1 ?_
    refine lv_goto (tgt := 14) hx hb dX5_isFull_10 (by decide) ?_
    obtain ⟨hP9, hD9⟩ := kk_leafout (wc := [(h0, kO5 h1 n0_size h2 n0_ran)]) hP hD [0] (by decide) rfl
    have hK9 := kk_Ks (tq := []) hK [] rfl
    exact W.zret (v := 1) hx hb hr rfl (fun t ht hW => ⟨⟨1, (), rfl, Or.inr (⟨by first | with_reducible assumption | (omega) | assumption, rfl⟩), by rw [ht]; exact hP9, va_K.moved hW.alike hK9, hD9⟩, hS.F ht⟩) hS.2.2 dX5_isFull_14
set_option maxHeartbeats 4000000 in
set_option maxRecDepth 100000 in
theorem g_X5_has_0 (l : Launch) (dC : Nat → ClassId) (dI : Nat → Nat → Nat) (h0 : Nat) (h1 : Nat) (h2 : Nat) (sz : Nat) (p0 : Int32) (n0_size : Int32) (n0_ran : Int32) (tn0_size : 0 ≤ n0_size.toInt ∧ n0_size.toInt ≤ 50) (tn0_ran : kk_bx (0 ≤ n0_ran.toInt ∧ n0_ran.toInt ≤ 1000)) : Met l yX5_has wsX5_has ({ frames := 0, cells := 0, slots := 0, locals := 0 }) (va_Pc [.ref h0, .int p0] (fun U => U.heap.size = sz ∧ va_P (dC, dI) vwCl [(h0, kO5 h1 n0_size h2 n0_ran)] U.heap ∧ va_K (dC, dI) vwCl [] U ∧ va_D (fun _ => True) [(h0, kO5 h1 n0_size h2 n0_ran)])) (va_Qi (fun (r : Int32) (_ : Unit) => ((0 : Int32) = r) ∨ (0 ≤ p0.toInt ∧ p0.toInt < n0_size.toInt ∧ p0.toInt ≤ 49 ∧ (1 : Int32) = r)) (fun (_ : Unit) t => va_P (dC, dI) vwCl [(h0, kO5 h1 n0_size h2 n0_ran)] t.heap ∧ va_K (dC, dI) vwCl [] t ∧ va_D (va_A [(h0, kO5 h1 n0_size h2 n0_ran)] sz) [(h0, kO5 h1 n0_size h2 n0_ran)]) (va_A [(h0, kO5 h1 n0_size h2 n0_ran)] sz)) 0 0 (va_A [(h0, kO5 h1 n0_size h2 n0_ran)] sz) := by
  refine Met.ofW (cc := cX5_has) (maxL := 2) (ret := (some .boolean)) (by decide) rfl ?_
  intro p e s m args below meth c s₁ B hml hv
  obtain ⟨rfl, hsz, hP, hK, hD0⟩ := hv
  have hx := B.exec
  have hb := B.bytes
  have hr := B.returns
  have hts := atoms_spec (ws := wsX5_has) B.pre
  have hown : s.vm.findClass RX5 = some m.cls := findClass_of_methodNamed B.named
  have hlocks := B.notSynchronized
  subst hsz
  have hD := hD0.self (sz := s.heap.size)
  generalize hAe : va_A [(h0, kO5 h1 n0_size h2 n0_ran)] s.heap.size = A at hD ⊢
  have hA : ∀ q : Nat, s.heap.size ≤ q → A q := fun q h => by rw [← hAe]; exact Or.inr h
  have hS : va_S A s.heap s.heap [] := va_S.rf
  have hP : va_P (dC, dI) vwCl [(h0, kO5 h1 n0_size h2 n0_ran)] s.heap := hP
  have hl := lv_entry ([.ref h0, .int p0]) (n := 2) (Nat.le_of_ble_eq_true rfl)
  rw [lg_entry_eq]
  generalize (lg_sl ([.ref h0, .int p0]) ++ List.replicate (2 - (lg_sl ([.ref h0, .int p0])).length) Slot.unset).toArray = ls at hl ⊢
  have hl : lv_has ls 2 [(0, .ref h0), (1, .int p0)] := hl
  refine lv_iload_n hx hb dX5_has_0 rfl (lv_at hl 1 rfl) ?_
  refine lv_if_lt (tgt := 16) hx hb dX5_has_1 (by decide) (fun c_1 => ?_) (fun c_1 => ?_)
  · have t_1 : p0.toInt < 0 := kk_lt c_1
    refine lv_iconst (v := 0) hx hb dX5_has_16 kk_ic_0 ?_
    obtain ⟨hP9, hD9⟩ := kk_leafout (wc := [(h0, kO5 h1 n0_size h2 n0_ran)]) hP hD [0] (by decide) rfl
    have hK9 := kk_Ks (tq := []) hK [] rfl
    exact W.zret (v := 0) hx hb hr rfl (fun t ht hW => ⟨⟨0, (), rfl, Or.inl rfl, by rw [ht]; exact hP9, va_K.moved hW.alike hK9, hD9⟩, hS.F ht⟩) hS.2.2 dX5_has_17
  · have t_1 : 0 ≤ p0.toInt := kk_nlt c_1
    refine lv_iload_n hx hb dX5_has_4 rfl (lv_at hl 1 rfl) ?_
    refine lv_aload_n hx hb dX5_has_5 rfl (lv_at hl 0 rfl) ?_
    refine va_get (D := (dC, dI)) (ci := 5) (v := .int n0_size) (C := RX5) (T := TX5) (N := 4) hx hb hts (fun _ h => List.mem_cons_of_mem _ (List.mem_append_right _ h)) hown hK hP 0 rfl rfl 1 (by decide) (hts (.fieldLink RX5 25 "KinkStreet$Lines" "size" "I") (List.mem_of_getElem? (i := 1) rfl)) (fun _ h9 => h9) rfl dX5_has_6 ?_
    refine lv_icmp_ge (tgt := 16) hx hb dX5_has_9 (by decide) (fun c_2 => ?_) (fun c_2 => ?_)
    · have t_2 : n0_size.toInt ≤ p0.toInt := kk_le c_2
      refine lv_iconst (v := 0) hx hb dX5_has_16 kk_ic_0 ?_
      obtain ⟨hP9, hD9⟩ := kk_leafout (wc := [(h0, kO5 h1 n0_size h2 n0_ran)]) hP hD [0] (by decide) rfl
      have hK9 := kk_Ks (tq := []) hK [] rfl
      exact W.zret (v := 0) hx hb hr rfl (fun t ht hW => ⟨⟨0, (), rfl, Or.inl rfl, by rw [ht]; exact hP9, va_K.moved hW.alike hK9, hD9⟩, hS.F ht⟩) hS.2.2 dX5_has_17
    · have t_2 : p0.toInt < n0_size.toInt := kk_nle c_2
      refine lv_iconst (v := 1) hx hb dX5_has_12 kk_ic_1 ?_
      refine lv_goto (tgt := 17) hx hb dX5_has_13 (by decide) ?_
      obtain ⟨hP9, hD9⟩ := kk_leafout (wc := [(h0, kO5 h1 n0_size h2 n0_ran)]) hP hD [0] (by decide) rfl
      have hK9 := kk_Ks (tq := []) hK [] rfl
      exact W.zret (v := 1) hx hb hr rfl (fun t ht hW => ⟨⟨1, (), rfl, Or.inr (⟨by first | with_reducible assumption | (omega) | assumption, by first | with_reducible assumption | (omega) | assumption, by first | with_reducible assumption | (omega) | assumption, rfl⟩), by rw [ht]; exact hP9, va_K.moved hW.alike hK9, hD9⟩, hS.F ht⟩) hS.2.2 dX5_has_17
set_option maxHeartbeats 4000000 in
set_option maxRecDepth 100000 in
theorem g_X5_kindOf_0 (l : Launch) (dC : Nat → ClassId) (dI : Nat → Nat → Nat) (h0 : Nat) (h1 : Nat) (h2 : Nat) (cint : ClassId) (sz : Nat) (p0 : Int32) (n0_size : Int32) (n0_ran : Int32) (f1 : Nat → Int32) (tn0_size : kk_bx (0 ≤ n0_size.toInt ∧ n0_size.toInt ≤ 50)) (tn0_ran : kk_bx (0 ≤ n0_ran.toInt ∧ n0_ran.toInt ≤ 1000)) (bf1 : ∀ j, j < 50 → 0 ≤ (f1 j).toInt ∧ (f1 j).toInt ≤ 7) : Met l yX5_kindOf wsX5_kindOf ({ frames := 1, cells := 0, slots := 0, locals := 21 }) (va_Pc [.ref h0, .int p0] (fun U => U.heap.size = sz ∧ va_P (dC, dI) vwCl [(h0, kO5 h1 n0_size h2 n0_ran), (h1, kAi cint 50 f1)] U.heap ∧ va_K (dC, dI) vwCl [(cint, .int)] U ∧ va_D (fun _ => True) [(h0, kO5 h1 n0_size h2 n0_ran), (h1, kAi cint 50 f1)])) (va_Qi (fun (r : Int32) (_ : Unit) => ((-1) ≤ r.toInt ∧ r.toInt ≤ 7)) (fun (_ : Unit) t => va_P (dC, dI) vwCl [(h0, kO5 h1 n0_size h2 n0_ran), (h1, kAi cint 50 f1)] t.heap ∧ va_K (dC, dI) vwCl [] t ∧ va_D (va_A [(h0, kO5 h1 n0_size h2 n0_ran), (h1, kAi cint 50 f1)] sz) [(h0, kO5 h1 n0_size h2 n0_ran), (h1, kAi cint 50 f1)]) (va_A [(h0, kO5 h1 n0_size h2 n0_ran), (h1, kAi cint 50 f1)] sz)) 0 0 (va_A [(h0, kO5 h1 n0_size h2 n0_ran), (h1, kAi cint 50 f1)] sz) := by
  refine Met.ofW (cc := cX5_kindOf) (maxL := 2) (ret := (some .int)) (by decide) rfl ?_
  intro p e s m args below meth c s₁ B hml hv
  obtain ⟨rfl, hsz, hP, hK, hD0⟩ := hv
  have hx := B.exec
  have hb := B.bytes
  have hr := B.returns
  have hts := atoms_spec (ws := wsX5_kindOf) B.pre
  have hown : s.vm.findClass RX5 = some m.cls := findClass_of_methodNamed B.named
  have hlocks := B.notSynchronized
  subst hsz
  have hD := hD0.self (sz := s.heap.size)
  generalize hAe : va_A [(h0, kO5 h1 n0_size h2 n0_ran), (h1, kAi cint 50 f1)] s.heap.size = A at hD ⊢
  have hA : ∀ q : Nat, s.heap.size ≤ q → A q := fun q h => by rw [← hAe]; exact Or.inr h
  have hS : va_S A s.heap s.heap [] := va_S.rf
  have hP : va_P (dC, dI) vwCl [(h0, kO5 h1 n0_size h2 n0_ran), (h1, kAi cint 50 f1)] s.heap := hP
  have hl := lv_entry ([.ref h0, .int p0]) (n := 2) (Nat.le_of_ble_eq_true rfl)
  rw [lg_entry_eq]
  generalize (lg_sl ([.ref h0, .int p0]) ++ List.replicate (2 - (lg_sl ([.ref h0, .int p0])).length) Slot.unset).toArray = ls at hl ⊢
  have hl : lv_has ls 2 [(0, .ref h0), (1, .int p0)] := hl
  refine lv_aload_n hx hb dX5_kindOf_0 rfl (lv_at hl 0 rfl) ?_
  refine lv_iload_n hx hb dX5_kindOf_1 rfl (lv_at hl 1 rfl) ?_
  obtain ⟨hPc, hDc, hFc⟩ := kk_cutout (wc := [(h0, kO5 h1 n0_size h2 n0_ran)]) hP hD hS hA [0] (by decide) rfl
  have hKc := kk_Ks (tq := []) hK [] rfl
  refine va_calli (va_runV (As := [.int p0]) (rest := []) ⟨hx, hb, hml, hown, hts⟩ (g_X5_has_0 l dC dI h0 h1 h2 s.heap.size p0 n0_size n0_ran tn0_size tn0_ran) (cwV 1 hts gX5_kindOf_X5_has rfl rfl rfl ⟨rfl, kh_X5_has⟩ ⟨Nat.le_of_ble_eq_true rfl, Nat.le_of_ble_eq_true rfl⟩) ⟨fun a U g mk q => by obtain ⟨q0, q1, qP, qK, qD⟩ := q; exact ⟨q0, q1, qP, va_K.moved (u := U) (U := U.calling g mk a) (Vm.Alike.refl U.vm) qK, qD⟩, va_recv hKc hPc (ci := 5) (q0 := 0) rfl rfl, fun U hU hW => ⟨rfl, by rw [hU], by rw [hU]; exact hPc, va_K.moved hW.alike hKc, hDc.weaken (fun _ _ _ _ => trivial)⟩⟩ rfl rfl hl.1 rfl (lv_room (Nat.le_of_ble_eq_true rfl)) dX5_kindOf_2 ⟨Nat.le_of_ble_eq_true rfl, Nat.le_of_ble_eq_true rfl⟩) hS (fun q _ h => hFc q h) hFc (fun r_1 u t H1 locs ht hvm hw hB hz1 hk1 hS => ?_)
  obtain ⟨hP1, hK1, hD1⟩ := hB
  rw [ht] at hP1
  have hK1 := va_K.moved hvm.symm hK1
  obtain ⟨hP, hD⟩ := va_join (wr := [(h1, kAi cint 50 f1)]) (w1 := [(h0, kO5 h1 n0_size h2 n0_ran)]) hP hD [0] [1] rfl rfl (by decide) (by decide) hk1 hFc hP1 hD1
  generalize H1 = H at hP hS ⊢
  have hP : va_P (dC, dI) vwCl [(h1, kAi cint 50 f1), (h0, kO5 h1 n0_size h2 n0_ran)] H := hP
  have hD : va_D A [(h1, kAi cint 50 f1), (h0, kO5 h1 n0_size h2 n0_ran)] := hD
  rcases hw with ⟨rfl⟩ | ⟨t_1_0, t_1_1, t_1_2, rfl⟩
  · skip
    refine lv_if_eq (tgt := 17) hx hb dX5_kindOf_5 (by decide) (fun _ => ?_) (fun c => absurd c (by decide))
    refine lv_iconst (v := (-1)) hx hb dX5_kindOf_17 kk_ic_m1 ?_
    obtain ⟨hP9, hD9⟩ := kk_leafout (wc := [(h0, kO5 h1 n0_size h2 n0_ran), (h1, kAi cint 50 f1)]) hP hD [1, 0] (by decide) rfl
    have hK9 := kk_Ks (tq := []) hK [] rfl
    exact W.iret (v := (-1)) hx hb hr (fun t ht hW => ⟨⟨(-1), (), rfl, (by show (-1) ≤ ((-1) : Int32).toInt ∧ ((-1) : Int32).toInt ≤ 7; first | decide | ((omega))), by rw [ht]; exact hP9, va_K.moved hW.alike hK9, hD9⟩, hS.F ht⟩) hS.2.2 dX5_kindOf_18
  · skip
    have t_1_0 : (0 : Int) ≤ p0.toInt := t_1_0
    have t_1_2 : (p0.toInt : Int) ≤ 49 := t_1_2
    refine lv_if_eq (tgt := 17) hx hb dX5_kindOf_5 (by decide) (fun c => absurd c (by decide)) (fun _ => ?_)
    refine lv_aload_n hx hb dX5_kindOf_8 rfl (lv_at hl 0 rfl) ?_
    refine va_get (D := (dC, dI)) (ci := 5) (v := .ref h1) (C := RX5) (T := TX5) (N := 4) hx hb hts (fun _ h => List.mem_cons_of_mem _ (List.mem_append_right _ h)) hown hK hP 1 rfl rfl 0 (by decide) (hts (.fieldLink RX5 11 "KinkStreet$Lines" "kinds" "[I") (List.mem_of_getElem? (i := 1) rfl)) (fun _ h9 => h9) rfl dX5_kindOf_9 ?_
    refine lv_iload_n hx hb dX5_kindOf_12 rfl (lv_at hl 1 rfl) ?_
    have hi_2 : vp_in p0 50 := (vp_in_iff.mpr ⟨by omega, by omega⟩)
    refine va_iald hx hb hK hP 0 0 rfl rfl hi_2 dX5_kindOf_13 ?_
    refine lv_topi (fun y_2 e_2 => ?_)
    have t_2 : 0 ≤ y_2.toInt ∧ y_2.toInt ≤ 7 := by rw [e_2]; exact bf1 _ (Nat.not_le.mp fun q => hi_2 (Or.inr q))
    clear e_2
    refine lv_goto (tgt := 18) hx hb dX5_kindOf_14 (by decide) ?_
    obtain ⟨hP9, hD9⟩ := kk_leafout (wc := [(h0, kO5 h1 n0_size h2 n0_ran), (h1, kAi cint 50 f1)]) hP hD [1, 0] (by decide) rfl
    have hK9 := kk_Ks (tq := []) hK [] rfl
    exact W.iret (v := y_2) hx hb hr (fun t ht hW => ⟨⟨y_2, (), rfl, (by show (-1) ≤ (y_2 : Int32).toInt ∧ (y_2 : Int32).toInt ≤ 7; first | decide | ((omega))), by rw [ht]; exact hP9, va_K.moved hW.alike hK9, hD9⟩, hS.F ht⟩) hS.2.2 dX5_kindOf_18
set_option maxHeartbeats 4000000 in
set_option maxRecDepth 100000 in
theorem g_X5_bodiesThatRan_0 (l : Launch) (dC : Nat → ClassId) (dI : Nat → Nat → Nat) (h0 : Nat) (h1 : Nat) (h2 : Nat) (sz : Nat) (n0_size : Int32) (n0_ran : Int32) (tn0_size : kk_bx (0 ≤ n0_size.toInt ∧ n0_size.toInt ≤ 50)) (tn0_ran : 0 ≤ n0_ran.toInt ∧ n0_ran.toInt ≤ 1000) : Met l yX5_bodiesThatRan wsX5_bodiesThatRan ({ frames := 0, cells := 0, slots := 0, locals := 0 }) (va_Pc [.ref h0] (fun U => U.heap.size = sz ∧ va_P (dC, dI) vwCl [(h0, kO5 h1 n0_size h2 n0_ran)] U.heap ∧ va_K (dC, dI) vwCl [] U ∧ va_D (fun _ => True) [(h0, kO5 h1 n0_size h2 n0_ran)])) (va_Qi (fun (r : Int32) (_ : Unit) => n0_ran = r) (fun (_ : Unit) t => va_P (dC, dI) vwCl [(h0, kO5 h1 n0_size h2 n0_ran)] t.heap ∧ va_K (dC, dI) vwCl [] t ∧ va_D (va_A [(h0, kO5 h1 n0_size h2 n0_ran)] sz) [(h0, kO5 h1 n0_size h2 n0_ran)]) (va_A [(h0, kO5 h1 n0_size h2 n0_ran)] sz)) 0 0 (va_A [(h0, kO5 h1 n0_size h2 n0_ran)] sz) := by
  refine Met.ofW (cc := cX5_bodiesThatRan) (maxL := 1) (ret := (some .int)) (by decide) rfl ?_
  intro p e s m args below meth c s₁ B hml hv
  obtain ⟨rfl, hsz, hP, hK, hD0⟩ := hv
  have hx := B.exec
  have hb := B.bytes
  have hr := B.returns
  have hts := atoms_spec (ws := wsX5_bodiesThatRan) B.pre
  have hown : s.vm.findClass RX5 = some m.cls := findClass_of_methodNamed B.named
  have hlocks := B.notSynchronized
  subst hsz
  have hD := hD0.self (sz := s.heap.size)
  generalize hAe : va_A [(h0, kO5 h1 n0_size h2 n0_ran)] s.heap.size = A at hD ⊢
  have hA : ∀ q : Nat, s.heap.size ≤ q → A q := fun q h => by rw [← hAe]; exact Or.inr h
  have hS : va_S A s.heap s.heap [] := va_S.rf
  have hP : va_P (dC, dI) vwCl [(h0, kO5 h1 n0_size h2 n0_ran)] s.heap := hP
  have hl := lv_entry ([.ref h0]) (n := 1) (Nat.le_of_ble_eq_true rfl)
  rw [lg_entry_eq]
  generalize (lg_sl ([.ref h0]) ++ List.replicate (1 - (lg_sl ([.ref h0])).length) Slot.unset).toArray = ls at hl ⊢
  have hl : lv_has ls 1 [(0, .ref h0)] := hl
  refine lv_aload_n hx hb dX5_bodiesThatRan_0 rfl (lv_at hl 0 rfl) ?_
  refine va_get (D := (dC, dI)) (ci := 5) (v := .int n0_ran) (C := RX5) (T := TX5) (N := 4) hx hb hts (fun _ h => List.mem_cons_of_mem _ (List.mem_append_right _ h)) hown hK hP 0 rfl rfl 3 (by decide) (hts (.fieldLink RX5 36 "KinkStreet$Lines" "ran" "I") (List.mem_of_getElem? (i := 1) rfl)) (fun _ h9 => h9) rfl dX5_bodiesThatRan_1 ?_
  obtain ⟨hP9, hD9⟩ := kk_leafout (wc := [(h0, kO5 h1 n0_size h2 n0_ran)]) hP hD [0] (by decide) rfl
  have hK9 := kk_Ks (tq := []) hK [] rfl
  exact W.iret (v := n0_ran) hx hb hr (fun t ht hW => ⟨⟨n0_ran, (), rfl, rfl, by rw [ht]; exact hP9, va_K.moved hW.alike hK9, hD9⟩, hS.F ht⟩) hS.2.2 dX5_bodiesThatRan_4
set_option maxHeartbeats 4000000 in
set_option maxRecDepth 100000 in
theorem g_X5_traced_0 (l : Launch) (dC : Nat → ClassId) (dI : Nat → Nat → Nat) (h0 : Nat) (h1 : Nat) (h2 : Nat) (cint : ClassId) (sz : Nat) (p0 : Int32) (n0_size : Int32) (n0_ran : Int32) (f1 : Nat → Int32) (tn0_size : kk_bx (0 ≤ n0_size.toInt ∧ n0_size.toInt ≤ 50)) (tn0_ran : 0 ≤ n0_ran.toInt ∧ n0_ran.toInt ≤ 1000) : Met l yX5_traced wsX5_traced ({ frames := 0, cells := 0, slots := 0, locals := 0 }) (va_Pc [.ref h0, .int p0] (fun U => U.heap.size = sz ∧ va_P (dC, dI) vwCl [(h0, kO5 h2 n0_size h1 n0_ran), (h1, kAi cint 24 f1)] U.heap ∧ va_K (dC, dI) vwCl [(cint, .int)] U ∧ va_D (fun _ => True) [(h0, kO5 h2 n0_size h1 n0_ran), (h1, kAi cint 24 f1)])) (va_Qi (fun (r : Int32) (_ : Unit) => True) (fun (_ : Unit) t => va_P (dC, dI) vwCl [(h0, kO5 h2 n0_size h1 n0_ran), (h1, kAi cint 24 f1)] t.heap ∧ va_K (dC, dI) vwCl [] t ∧ va_D (va_A [(h0, kO5 h2 n0_size h1 n0_ran), (h1, kAi cint 24 f1)] sz) [(h0, kO5 h2 n0_size h1 n0_ran), (h1, kAi cint 24 f1)]) (va_A [(h0, kO5 h2 n0_size h1 n0_ran), (h1, kAi cint 24 f1)] sz)) 0 0 (va_A [(h0, kO5 h2 n0_size h1 n0_ran), (h1, kAi cint 24 f1)] sz) := by
  refine Met.ofW (cc := cX5_traced) (maxL := 2) (ret := (some .int)) (by decide) rfl ?_
  intro p e s m args below meth c s₁ B hml hv
  obtain ⟨rfl, hsz, hP, hK, hD0⟩ := hv
  have hx := B.exec
  have hb := B.bytes
  have hr := B.returns
  have hts := atoms_spec (ws := wsX5_traced) B.pre
  have hown : s.vm.findClass RX5 = some m.cls := findClass_of_methodNamed B.named
  have hlocks := B.notSynchronized
  subst hsz
  have hD := hD0.self (sz := s.heap.size)
  generalize hAe : va_A [(h0, kO5 h2 n0_size h1 n0_ran), (h1, kAi cint 24 f1)] s.heap.size = A at hD ⊢
  have hA : ∀ q : Nat, s.heap.size ≤ q → A q := fun q h => by rw [← hAe]; exact Or.inr h
  have hS : va_S A s.heap s.heap [] := va_S.rf
  have hP : va_P (dC, dI) vwCl [(h0, kO5 h2 n0_size h1 n0_ran), (h1, kAi cint 24 f1)] s.heap := hP
  have hl := lv_entry ([.ref h0, .int p0]) (n := 2) (Nat.le_of_ble_eq_true rfl)
  rw [lg_entry_eq]
  generalize (lg_sl ([.ref h0, .int p0]) ++ List.replicate (2 - (lg_sl ([.ref h0, .int p0])).length) Slot.unset).toArray = ls at hl ⊢
  have hl : lv_has ls 2 [(0, .ref h0), (1, .int p0)] := hl
  refine lv_iload_n hx hb dX5_traced_0 rfl (lv_at hl 1 rfl) ?_
  refine lv_if_lt (tgt := 27) hx hb dX5_traced_1 (by decide) (fun c_1 => ?_) (fun c_1 => ?_)
  · have t_1 : p0.toInt < 0 := kk_lt c_1
    refine lv_iconst (v := (-1)) hx hb dX5_traced_27 kk_ic_m1 ?_
    obtain ⟨hP9, hD9⟩ := kk_leafout (wc := [(h0, kO5 h2 n0_size h1 n0_ran), (h1, kAi cint 24 f1)]) hP hD [0, 1] (by decide) rfl
    have hK9 := kk_Ks (tq := []) hK [] rfl
    exact W.iret (v := (-1)) hx hb hr (fun t ht hW => ⟨⟨(-1), (), rfl, trivial, by rw [ht]; exact hP9, va_K.moved hW.alike hK9, hD9⟩, hS.F ht⟩) hS.2.2 dX5_traced_28
  · have t_1 : 0 ≤ p0.toInt := kk_nlt c_1
    refine lv_iload_n hx hb dX5_traced_4 rfl (lv_at hl 1 rfl) ?_
    refine lv_aload_n hx hb dX5_traced_5 rfl (lv_at hl 0 rfl) ?_
    refine va_get (D := (dC, dI)) (ci := 5) (v := .int n0_ran) (C := RX5) (T := TX5) (N := 4) hx hb hts (fun _ h => List.mem_cons_of_mem _ (List.mem_append_right _ h)) hown hK hP 0 rfl rfl 3 (by decide) (hts (.fieldLink RX5 36 "KinkStreet$Lines" "ran" "I") (List.mem_of_getElem? (i := 1) rfl)) (fun _ h9 => h9) rfl dX5_traced_6 ?_
    refine lv_icmp_ge (tgt := 27) hx hb dX5_traced_9 (by decide) (fun c_2 => ?_) (fun c_2 => ?_)
    · have t_2 : n0_ran.toInt ≤ p0.toInt := kk_le c_2
      refine lv_iconst (v := (-1)) hx hb dX5_traced_27 kk_ic_m1 ?_
      obtain ⟨hP9, hD9⟩ := kk_leafout (wc := [(h0, kO5 h2 n0_size h1 n0_ran), (h1, kAi cint 24 f1)]) hP hD [0, 1] (by decide) rfl
      have hK9 := kk_Ks (tq := []) hK [] rfl
      exact W.iret (v := (-1)) hx hb hr (fun t ht hW => ⟨⟨(-1), (), rfl, trivial, by rw [ht]; exact hP9, va_K.moved hW.alike hK9, hD9⟩, hS.F ht⟩) hS.2.2 dX5_traced_28
    · have t_2 : p0.toInt < n0_ran.toInt := kk_nle c_2
      refine lv_iload_n hx hb dX5_traced_12 rfl (lv_at hl 1 rfl) ?_
      refine lv_bipush (v := 24) hx hb dX5_traced_13 kk_bi_24 ?_
      refine lv_icmp_ge (tgt := 27) hx hb dX5_traced_15 (by decide) (fun c_3 => ?_) (fun c_3 => ?_)
      · have t_3 : 24 ≤ p0.toInt := kk_le c_3
        refine lv_iconst (v := (-1)) hx hb dX5_traced_27 kk_ic_m1 ?_
        obtain ⟨hP9, hD9⟩ := kk_leafout (wc := [(h0, kO5 h2 n0_size h1 n0_ran), (h1, kAi cint 24 f1)]) hP hD [0, 1] (by decide) rfl
        have hK9 := kk_Ks (tq := []) hK [] rfl
        exact W.iret (v := (-1)) hx hb hr (fun t ht hW => ⟨⟨(-1), (), rfl, trivial, by rw [ht]; exact hP9, va_K.moved hW.alike hK9, hD9⟩, hS.F ht⟩) hS.2.2 dX5_traced_28
      · have t_3 : p0.toInt < 24 := kk_nle c_3
        refine lv_aload_n hx hb dX5_traced_18 rfl (lv_at hl 0 rfl) ?_
        refine va_get (D := (dC, dI)) (ci := 5) (v := .ref h1) (C := RX5) (T := TX5) (N := 4) hx hb hts (fun _ h => List.mem_cons_of_mem _ (List.mem_append_right _ h)) hown hK hP 0 rfl rfl 2 (by decide) (hts (.fieldLink RX5 15 "KinkStreet$Lines" "trace" "[I") (List.mem_of_getElem? (i := 2) rfl)) (fun _ h9 => h9) rfl dX5_traced_19 ?_
        refine lv_iload_n hx hb dX5_traced_22 rfl (lv_at hl 1 rfl) ?_
        have hi_4 : vp_in p0 24 := (vp_in_iff.mpr ⟨by omega, by omega⟩)
        refine va_iald hx hb hK hP 1 0 rfl rfl hi_4 dX5_traced_23 ?_
        refine lv_topi (fun y_4 e_4 => ?_)
        clear e_4
        refine lv_goto (tgt := 28) hx hb dX5_traced_24 (by decide) ?_
        obtain ⟨hP9, hD9⟩ := kk_leafout (wc := [(h0, kO5 h2 n0_size h1 n0_ran), (h1, kAi cint 24 f1)]) hP hD [0, 1] (by decide) rfl
        have hK9 := kk_Ks (tq := []) hK [] rfl
        exact W.iret (v := y_4) hx hb hr (fun t ht hW => ⟨⟨y_4, (), rfl, trivial, by rw [ht]; exact hP9, va_K.moved hW.alike hK9, hD9⟩, hS.F ht⟩) hS.2.2 dX5_traced_28
set_option maxHeartbeats 4000000 in
set_option maxRecDepth 100000 in
theorem g_X11_knownStreet_0 (l : Launch) (dC : Nat → ClassId) (dI : Nat → Nat → Nat) (h0 : Nat) (h1 : Nat) (h2 : Nat) (h3 : Nat) (h4 : Nat) (h5 : Nat) (h6 : Nat) (h7 : Nat) (h8 : Nat) (h9 : Nat) (h10 : Nat) (h11 : Nat) (h12 : Nat) (h13 : Nat) (cOStreet : ClassId) (sz : Nat) (p0 : Int32) (n0_streetCount : Int32) (n0_lawCount : Int32) (f1 : Nat → Option Nat) (qf1_0 : 0 ≤ p0.toInt → p0.toInt < 6 → f1 (p0 : Int32).toNatClampNeg = some h13) (tn0_streetCount : 0 ≤ n0_streetCount.toInt ∧ n0_streetCount.toInt ≤ 6) (tn0_lawCount : kk_bx (0 ≤ n0_lawCount.toInt ∧ n0_lawCount.toInt ≤ 4)) : Met l yX11_knownStreet wsX11_knownStreet ({ frames := 0, cells := 0, slots := 0, locals := 0 }) (va_Pc [.ref h0, .int p0] (fun U => U.heap.size = sz ∧ va_P (dC, dI) vwCl [(h0, kO11 h1 n0_streetCount h2 h3 h4 h5 h6 h7 h8 h9 h10 n0_lawCount h11 h12), (h1, kAr cOStreet 6 f1)] U.heap ∧ va_K (dC, dI) vwCl [(cOStreet, .object "KinkStreet$Street")] U ∧ va_D (fun _ => True) [(h0, kO11 h1 n0_streetCount h2 h3 h4 h5 h6 h7 h8 h9 h10 n0_lawCount h11 h12), (h1, kAr cOStreet 6 f1)])) (va_Qq (fun (r : Option Nat) (_ : Unit) => (none = r) ∨ (0 ≤ p0.toInt ∧ p0.toInt < n0_streetCount.toInt ∧ p0.toInt < 6 ∧ some h13 = r)) (fun (_ : Unit) t => va_P (dC, dI) vwCl [(h0, kO11 h1 n0_streetCount h2 h3 h4 h5 h6 h7 h8 h9 h10 n0_lawCount h11 h12), (h1, kAr cOStreet 6 f1)] t.heap ∧ va_K (dC, dI) vwCl [] t ∧ va_D (va_A [(h0, kO11 h1 n0_streetCount h2 h3 h4 h5 h6 h7 h8 h9 h10 n0_lawCount h11 h12), (h1, kAr cOStreet 6 f1)] sz) [(h0, kO11 h1 n0_streetCount h2 h3 h4 h5 h6 h7 h8 h9 h10 n0_lawCount h11 h12), (h1, kAr cOStreet 6 f1)]) (va_A [(h0, kO11 h1 n0_streetCount h2 h3 h4 h5 h6 h7 h8 h9 h10 n0_lawCount h11 h12), (h1, kAr cOStreet 6 f1)] sz)) 0 0 (va_A [(h0, kO11 h1 n0_streetCount h2 h3 h4 h5 h6 h7 h8 h9 h10 n0_lawCount h11 h12), (h1, kAr cOStreet 6 f1)] sz) := by
  refine Met.ofW (cc := cX11_knownStreet) (maxL := 2) (ret := (some (.object "KinkStreet$Street"))) (by decide) rfl ?_
  intro p e s m args below meth c s₁ B hml hv
  obtain ⟨rfl, hsz, hP, hK, hD0⟩ := hv
  have hx := B.exec
  have hb := B.bytes
  have hr := B.returns
  have hts := atoms_spec (ws := wsX11_knownStreet) B.pre
  have hown : s.vm.findClass RX11 = some m.cls := findClass_of_methodNamed B.named
  have hlocks := B.notSynchronized
  subst hsz
  have hD := hD0.self (sz := s.heap.size)
  generalize hAe : va_A [(h0, kO11 h1 n0_streetCount h2 h3 h4 h5 h6 h7 h8 h9 h10 n0_lawCount h11 h12), (h1, kAr cOStreet 6 f1)] s.heap.size = A at hD ⊢
  have hA : ∀ q : Nat, s.heap.size ≤ q → A q := fun q h => by rw [← hAe]; exact Or.inr h
  have hS : va_S A s.heap s.heap [] := va_S.rf
  have hP : va_P (dC, dI) vwCl [(h0, kO11 h1 n0_streetCount h2 h3 h4 h5 h6 h7 h8 h9 h10 n0_lawCount h11 h12), (h1, kAr cOStreet 6 f1)] s.heap := hP
  have hl := lv_entry ([.ref h0, .int p0]) (n := 2) (Nat.le_of_ble_eq_true rfl)
  rw [lg_entry_eq]
  generalize (lg_sl ([.ref h0, .int p0]) ++ List.replicate (2 - (lg_sl ([.ref h0, .int p0])).length) Slot.unset).toArray = ls at hl ⊢
  have hl : lv_has ls 2 [(0, .ref h0), (1, .int p0)] := hl
  refine lv_iload_n hx hb dX11_knownStreet_0 rfl (lv_at hl 1 rfl) ?_
  refine lv_if_lt (tgt := 30) hx hb dX11_knownStreet_1 (by decide) (fun c_1 => ?_) (fun c_1 => ?_)
  · have t_1 : p0.toInt < 0 := kk_lt c_1
    refine lv_null hx hb dX11_knownStreet_30 ?_
    obtain ⟨hP9, hD9⟩ := kk_leafout (wc := [(h0, kO11 h1 n0_streetCount h2 h3 h4 h5 h6 h7 h8 h9 h10 n0_lawCount h11 h12), (h1, kAr cOStreet 6 f1)]) hP hD [0, 1] (by decide) rfl
    have hK9 := kk_Ks (tq := []) hK [] rfl
    exact W.aret (v := .null) hx hb hr (Or.inl ⟨_, rfl⟩) (Or.inl rfl) (fun t ht hW => ⟨⟨none, (), rfl, Or.inl rfl, by rw [ht]; exact hP9, va_K.moved hW.alike hK9, hD9⟩, hS.F ht⟩) hS.2.2 dX11_knownStreet_31
  · have t_1 : 0 ≤ p0.toInt := kk_nlt c_1
    refine lv_iload_n hx hb dX11_knownStreet_4 rfl (lv_at hl 1 rfl) ?_
    refine lv_aload_n hx hb dX11_knownStreet_5 rfl (lv_at hl 0 rfl) ?_
    refine va_get (D := (dC, dI)) (ci := 11) (v := .int n0_streetCount) (C := RX11) (T := TX11) (N := 14) hx hb hts (fun _ h => List.mem_cons_of_mem _ (List.mem_append_right _ h)) hown hK hP 0 rfl rfl 1 (by decide) (hts (.fieldLink RX11 90 "KinkStreet" "streetCount" "I") (List.mem_of_getElem? (i := 1) rfl)) (fun _ h9 => h9) rfl dX11_knownStreet_6 ?_
    refine lv_icmp_ge (tgt := 30) hx hb dX11_knownStreet_9 (by decide) (fun c_2 => ?_) (fun c_2 => ?_)
    · have t_2 : n0_streetCount.toInt ≤ p0.toInt := kk_le c_2
      refine lv_null hx hb dX11_knownStreet_30 ?_
      obtain ⟨hP9, hD9⟩ := kk_leafout (wc := [(h0, kO11 h1 n0_streetCount h2 h3 h4 h5 h6 h7 h8 h9 h10 n0_lawCount h11 h12), (h1, kAr cOStreet 6 f1)]) hP hD [0, 1] (by decide) rfl
      have hK9 := kk_Ks (tq := []) hK [] rfl
      exact W.aret (v := .null) hx hb hr (Or.inl ⟨_, rfl⟩) (Or.inl rfl) (fun t ht hW => ⟨⟨none, (), rfl, Or.inl rfl, by rw [ht]; exact hP9, va_K.moved hW.alike hK9, hD9⟩, hS.F ht⟩) hS.2.2 dX11_knownStreet_31
    · have t_2 : p0.toInt < n0_streetCount.toInt := kk_nle c_2
      refine lv_iload_n hx hb dX11_knownStreet_12 rfl (lv_at hl 1 rfl) ?_
      refine lv_aload_n hx hb dX11_knownStreet_13 rfl (lv_at hl 0 rfl) ?_
      refine va_get (D := (dC, dI)) (ci := 11) (v := .ref h1) (C := RX11) (T := TX11) (N := 14) hx hb hts (fun _ h => List.mem_cons_of_mem _ (List.mem_append_right _ h)) hown hK hP 0 rfl rfl 0 (by decide) (hts (.fieldLink RX11 11 "KinkStreet" "streets" "[LKinkStreet$Street;") (List.mem_of_getElem? (i := 2) rfl)) (fun _ h9 => h9) rfl dX11_knownStreet_14 ?_
      refine va_alen (v := 6) hx hb hK hP 1 0 rfl rfl rfl dX11_knownStreet_17 ?_
      refine lv_icmp_ge (tgt := 30) hx hb dX11_knownStreet_18 (by decide) (fun c_3 => ?_) (fun c_3 => ?_)
      · have t_3 : 6 ≤ p0.toInt := kk_le c_3
        exfalso; omega
      · have t_3 : p0.toInt < 6 := kk_nle c_3
        refine lv_aload_n hx hb dX11_knownStreet_21 rfl (lv_at hl 0 rfl) ?_
        refine va_get (D := (dC, dI)) (ci := 11) (v := .ref h1) (C := RX11) (T := TX11) (N := 14) hx hb hts (fun _ h => List.mem_cons_of_mem _ (List.mem_append_right _ h)) hown hK hP 0 rfl rfl 0 (by decide) (hts (.fieldLink RX11 11 "KinkStreet" "streets" "[LKinkStreet$Street;") (List.mem_of_getElem? (i := 2) rfl)) (fun _ h9 => h9) rfl dX11_knownStreet_22 ?_
        refine lv_iload_n hx hb dX11_knownStreet_25 rfl (lv_at hl 1 rfl) ?_
        refine va_aldq hx hb hK hP 1 0 rfl rfl (vp_in_iff.mpr ⟨by omega, by omega⟩) dX11_knownStreet_26 ?_
        refine W.eq (g2 := F0 m 27 ls [.ref h13]) (by rw [qf1_0 (by omega) (by omega)]; rfl) ?_
        refine lv_goto (tgt := 31) hx hb dX11_knownStreet_27 (by decide) ?_
        obtain ⟨hP9, hD9⟩ := kk_leafout (wc := [(h0, kO11 h1 n0_streetCount h2 h3 h4 h5 h6 h7 h8 h9 h10 n0_lawCount h11 h12), (h1, kAr cOStreet 6 f1)]) hP hD [0, 1] (by decide) rfl
        have hK9 := kk_Ks (tq := []) hK [] rfl
        exact W.aret (v := .ref h13) hx hb hr (Or.inl ⟨_, rfl⟩) (Or.inr ⟨_, rfl⟩) (fun t ht hW => ⟨⟨some h13, (), rfl, Or.inr (⟨by first | with_reducible assumption | (omega) | assumption, by first | with_reducible assumption | (omega) | assumption, by first | with_reducible assumption | (omega) | assumption, rfl⟩), by rw [ht]; exact hP9, va_K.moved hW.alike hK9, hD9⟩, hS.F ht⟩) hS.2.2 dX11_knownStreet_31
set_option maxHeartbeats 4000000 in
set_option maxRecDepth 100000 in
theorem g_X11_knownShelf_0 (l : Launch) (dC : Nat → ClassId) (dI : Nat → Nat → Nat) (h0 : Nat) (h1 : Nat) (h2 : Nat) (h3 : Nat) (h4 : Nat) (h5 : Nat) (h6 : Nat) (h7 : Nat) (h8 : Nat) (h9 : Nat) (h10 : Nat) (h11 : Nat) (h12 : Nat) (h13 : Nat) (cOShelf : ClassId) (sz : Nat) (p0 : Int32) (n0_streetCount : Int32) (n0_lawCount : Int32) (f1 : Nat → Option Nat) (qf1_0 : 0 ≤ p0.toInt → p0.toInt < 6 → f1 (p0 : Int32).toNatClampNeg = some h13) (tn0_streetCount : kk_bx (0 ≤ n0_streetCount.toInt ∧ n0_streetCount.toInt ≤ 6)) (tn0_lawCount : kk_bx (0 ≤ n0_lawCount.toInt ∧ n0_lawCount.toInt ≤ 4)) : Met l yX11_knownShelf wsX11_knownShelf ({ frames := 0, cells := 0, slots := 0, locals := 0 }) (va_Pc [.ref h0, .int p0] (fun U => U.heap.size = sz ∧ va_P (dC, dI) vwCl [(h0, kO11 h2 n0_streetCount h3 h4 h5 h6 h7 h8 h9 h10 h11 n0_lawCount h12 h1), (h1, kAr cOShelf 6 f1)] U.heap ∧ va_K (dC, dI) vwCl [(cOShelf, .object "KinkStreet$Shelf")] U ∧ va_D (fun _ => True) [(h0, kO11 h2 n0_streetCount h3 h4 h5 h6 h7 h8 h9 h10 h11 n0_lawCount h12 h1), (h1, kAr cOShelf 6 f1)])) (va_Qq (fun (r : Option Nat) (_ : Unit) => (none = r) ∨ (0 ≤ p0.toInt ∧ p0.toInt < 6 ∧ some h13 = r)) (fun (_ : Unit) t => va_P (dC, dI) vwCl [(h0, kO11 h2 n0_streetCount h3 h4 h5 h6 h7 h8 h9 h10 h11 n0_lawCount h12 h1), (h1, kAr cOShelf 6 f1)] t.heap ∧ va_K (dC, dI) vwCl [] t ∧ va_D (va_A [(h0, kO11 h2 n0_streetCount h3 h4 h5 h6 h7 h8 h9 h10 h11 n0_lawCount h12 h1), (h1, kAr cOShelf 6 f1)] sz) [(h0, kO11 h2 n0_streetCount h3 h4 h5 h6 h7 h8 h9 h10 h11 n0_lawCount h12 h1), (h1, kAr cOShelf 6 f1)]) (va_A [(h0, kO11 h2 n0_streetCount h3 h4 h5 h6 h7 h8 h9 h10 h11 n0_lawCount h12 h1), (h1, kAr cOShelf 6 f1)] sz)) 0 0 (va_A [(h0, kO11 h2 n0_streetCount h3 h4 h5 h6 h7 h8 h9 h10 h11 n0_lawCount h12 h1), (h1, kAr cOShelf 6 f1)] sz) := by
  refine Met.ofW (cc := cX11_knownShelf) (maxL := 2) (ret := (some (.object "KinkStreet$Shelf"))) (by decide) rfl ?_
  intro p e s m args below meth c s₁ B hml hv
  obtain ⟨rfl, hsz, hP, hK, hD0⟩ := hv
  have hx := B.exec
  have hb := B.bytes
  have hr := B.returns
  have hts := atoms_spec (ws := wsX11_knownShelf) B.pre
  have hown : s.vm.findClass RX11 = some m.cls := findClass_of_methodNamed B.named
  have hlocks := B.notSynchronized
  subst hsz
  have hD := hD0.self (sz := s.heap.size)
  generalize hAe : va_A [(h0, kO11 h2 n0_streetCount h3 h4 h5 h6 h7 h8 h9 h10 h11 n0_lawCount h12 h1), (h1, kAr cOShelf 6 f1)] s.heap.size = A at hD ⊢
  have hA : ∀ q : Nat, s.heap.size ≤ q → A q := fun q h => by rw [← hAe]; exact Or.inr h
  have hS : va_S A s.heap s.heap [] := va_S.rf
  have hP : va_P (dC, dI) vwCl [(h0, kO11 h2 n0_streetCount h3 h4 h5 h6 h7 h8 h9 h10 h11 n0_lawCount h12 h1), (h1, kAr cOShelf 6 f1)] s.heap := hP
  have hl := lv_entry ([.ref h0, .int p0]) (n := 2) (Nat.le_of_ble_eq_true rfl)
  rw [lg_entry_eq]
  generalize (lg_sl ([.ref h0, .int p0]) ++ List.replicate (2 - (lg_sl ([.ref h0, .int p0])).length) Slot.unset).toArray = ls at hl ⊢
  have hl : lv_has ls 2 [(0, .ref h0), (1, .int p0)] := hl
  refine lv_iload_n hx hb dX11_knownShelf_0 rfl (lv_at hl 1 rfl) ?_
  refine lv_if_lt (tgt := 22) hx hb dX11_knownShelf_1 (by decide) (fun c_1 => ?_) (fun c_1 => ?_)
  · have t_1 : p0.toInt < 0 := kk_lt c_1
    refine lv_null hx hb dX11_knownShelf_22 ?_
    obtain ⟨hP9, hD9⟩ := kk_leafout (wc := [(h0, kO11 h2 n0_streetCount h3 h4 h5 h6 h7 h8 h9 h10 h11 n0_lawCount h12 h1), (h1, kAr cOShelf 6 f1)]) hP hD [0, 1] (by decide) rfl
    have hK9 := kk_Ks (tq := []) hK [] rfl
    exact W.aret (v := .null) hx hb hr (Or.inl ⟨_, rfl⟩) (Or.inl rfl) (fun t ht hW => ⟨⟨none, (), rfl, Or.inl rfl, by rw [ht]; exact hP9, va_K.moved hW.alike hK9, hD9⟩, hS.F ht⟩) hS.2.2 dX11_knownShelf_23
  · have t_1 : 0 ≤ p0.toInt := kk_nlt c_1
    refine lv_iload_n hx hb dX11_knownShelf_4 rfl (lv_at hl 1 rfl) ?_
    refine lv_aload_n hx hb dX11_knownShelf_5 rfl (lv_at hl 0 rfl) ?_
    refine va_get (D := (dC, dI)) (ci := 11) (v := .ref h1) (C := RX11) (T := TX11) (N := 14) hx hb hts (fun _ h => List.mem_cons_of_mem _ (List.mem_append_right _ h)) hown hK hP 0 rfl rfl 13 (by decide) (hts (.fieldLink RX11 84 "KinkStreet" "shelves" "[LKinkStreet$Shelf;") (List.mem_of_getElem? (i := 1) rfl)) (fun _ h9 => h9) rfl dX11_knownShelf_6 ?_
    refine va_alen (v := 6) hx hb hK hP 1 0 rfl rfl rfl dX11_knownShelf_9 ?_
    refine lv_icmp_ge (tgt := 22) hx hb dX11_knownShelf_10 (by decide) (fun c_2 => ?_) (fun c_2 => ?_)
    · have t_2 : 6 ≤ p0.toInt := kk_le c_2
      refine lv_null hx hb dX11_knownShelf_22 ?_
      obtain ⟨hP9, hD9⟩ := kk_leafout (wc := [(h0, kO11 h2 n0_streetCount h3 h4 h5 h6 h7 h8 h9 h10 h11 n0_lawCount h12 h1), (h1, kAr cOShelf 6 f1)]) hP hD [0, 1] (by decide) rfl
      have hK9 := kk_Ks (tq := []) hK [] rfl
      exact W.aret (v := .null) hx hb hr (Or.inl ⟨_, rfl⟩) (Or.inl rfl) (fun t ht hW => ⟨⟨none, (), rfl, Or.inl rfl, by rw [ht]; exact hP9, va_K.moved hW.alike hK9, hD9⟩, hS.F ht⟩) hS.2.2 dX11_knownShelf_23
    · have t_2 : p0.toInt < 6 := kk_nle c_2
      refine lv_aload_n hx hb dX11_knownShelf_13 rfl (lv_at hl 0 rfl) ?_
      refine va_get (D := (dC, dI)) (ci := 11) (v := .ref h1) (C := RX11) (T := TX11) (N := 14) hx hb hts (fun _ h => List.mem_cons_of_mem _ (List.mem_append_right _ h)) hown hK hP 0 rfl rfl 13 (by decide) (hts (.fieldLink RX11 84 "KinkStreet" "shelves" "[LKinkStreet$Shelf;") (List.mem_of_getElem? (i := 1) rfl)) (fun _ h9 => h9) rfl dX11_knownShelf_14 ?_
      refine lv_iload_n hx hb dX11_knownShelf_17 rfl (lv_at hl 1 rfl) ?_
      refine va_aldq hx hb hK hP 1 0 rfl rfl (vp_in_iff.mpr ⟨by omega, by omega⟩) dX11_knownShelf_18 ?_
      refine W.eq (g2 := F0 m 19 ls [.ref h13]) (by rw [qf1_0 (by omega) (by omega)]; rfl) ?_
      refine lv_goto (tgt := 23) hx hb dX11_knownShelf_19 (by decide) ?_
      obtain ⟨hP9, hD9⟩ := kk_leafout (wc := [(h0, kO11 h2 n0_streetCount h3 h4 h5 h6 h7 h8 h9 h10 h11 n0_lawCount h12 h1), (h1, kAr cOShelf 6 f1)]) hP hD [0, 1] (by decide) rfl
      have hK9 := kk_Ks (tq := []) hK [] rfl
      exact W.aret (v := .ref h13) hx hb hr (Or.inl ⟨_, rfl⟩) (Or.inr ⟨_, rfl⟩) (fun t ht hW => ⟨⟨some h13, (), rfl, Or.inr (⟨by first | with_reducible assumption | (omega) | assumption, by first | with_reducible assumption | (omega) | assumption, rfl⟩), by rw [ht]; exact hP9, va_K.moved hW.alike hK9, hD9⟩, hS.F ht⟩) hS.2.2 dX11_knownShelf_23
