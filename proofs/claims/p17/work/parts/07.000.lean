set_option maxHeartbeats 4000000 in
set_option maxRecDepth 100000 in
theorem g_X6_findBreaks_0 (l : Launch) (dC : Nat → ClassId) (dI : Nat → Nat → Nat) (h0 : Nat) (h1 : Nat) (h2 : Nat) (h3 : Nat) (h4 : Nat → Nat) (h5 : Nat → Nat) (h6 : Nat) (cAint cint : ClassId) (sz : Nat) (p0 : Int32) (tp0 : 0 ≤ p0.toInt ∧ p0.toInt ≤ 40) (n0_pieceCount : Int32) (f3 : Nat → Int32) (F4 : Nat → Nat → Int32) (F5 : Nat → Nat → Int32) (tn0_pieceCount : 0 ≤ n0_pieceCount.toInt ∧ n0_pieceCount.toInt ≤ 5) (bf3 : ∀ j : Nat, j < 5 → 0 ≤ (f3 j).toInt ∧ (f3 j).toInt ≤ 40 + 2 * (j : Int)) : Met l yX6_findBreaks wsX6_findBreaks ({ frames := 0, cells := 0, slots := 0, locals := 0 }) (va_Pc [.ref h0, .int p0] (fun U => U.heap.size = sz ∧ va_P (dC, dI) vwCl (([(h0, kO6 h1 h2 h6 h3 n0_pieceCount), (h1, kAr cAint 40 (fun j => some (h4 j))), (h2, kAr cAint 6 (fun j => some (h5 j))), (h3, kAi cint 5 f3)] : va_W) ++ (kk_rowsI h4 cint 41 F4 40 ++ (kk_rowsI h5 cint 41 F5 6))) U.heap ∧ va_K (dC, dI) vwCl [(cAint, .array .int), (cint, .int)] U ∧ va_D (fun _ => True) (([(h0, kO6 h1 h2 h6 h3 n0_pieceCount), (h1, kAr cAint 40 (fun j => some (h4 j))), (h2, kAr cAint 6 (fun j => some (h5 j))), (h3, kAi cint 5 f3)] : va_W) ++ (kk_rowsI h4 cint 41 F4 40 ++ (kk_rowsI h5 cint 41 F5 6))))) (va_Qv (fun (_ : Unit) => True) (fun (_ : Unit) t => ∃ (g3 : Nat → Int32), (∀ j : Nat, j < 5 → 0 ≤ (g3 j).toInt ∧ (g3 j).toInt ≤ 40 + 2 * (j : Int)) ∧ va_P (dC, dI) vwCl (([(h0, kO6 h1 h2 h6 h3 n0_pieceCount), (h1, kAr cAint 40 (fun j => some (h4 j))), (h2, kAr cAint 6 (fun j => some (h5 j))), (h3, kAi cint 5 g3)] : va_W) ++ (kk_rowsI h4 cint 41 F4 40 ++ (kk_rowsI h5 cint 41 F5 6))) t.heap ∧ va_K (dC, dI) vwCl [] t ∧ va_D (va_A (([(h0, kO6 h1 h2 h6 h3 n0_pieceCount), (h1, kAr cAint 40 (fun j => some (h4 j))), (h2, kAr cAint 6 (fun j => some (h5 j))), (h3, kAi cint 5 f3)] : va_W) ++ (kk_rowsI h4 cint 41 F4 40 ++ (kk_rowsI h5 cint 41 F5 6))) sz) (([(h0, kO6 h1 h2 h6 h3 n0_pieceCount), (h1, kAr cAint 40 (fun j => some (h4 j))), (h2, kAr cAint 6 (fun j => some (h5 j))), (h3, kAi cint 5 g3)] : va_W) ++ (kk_rowsI h4 cint 41 F4 40 ++ (kk_rowsI h5 cint 41 F5 6)))) (va_A (([(h0, kO6 h1 h2 h6 h3 n0_pieceCount), (h1, kAr cAint 40 (fun j => some (h4 j))), (h2, kAr cAint 6 (fun j => some (h5 j))), (h3, kAi cint 5 f3)] : va_W) ++ (kk_rowsI h4 cint 41 F4 40 ++ (kk_rowsI h5 cint 41 F5 6))) sz)) 0 0 (va_A (([(h0, kO6 h1 h2 h6 h3 n0_pieceCount), (h1, kAr cAint 40 (fun j => some (h4 j))), (h2, kAr cAint 6 (fun j => some (h5 j))), (h3, kAi cint 5 f3)] : va_W) ++ (kk_rowsI h4 cint 41 F4 40 ++ (kk_rowsI h5 cint 41 F5 6))) sz) := by
  refine Met.ofW (cc := cX6_findBreaks) (maxL := 6) (ret := none) (by decide) rfl ?_
  intro p e s m args below meth c s₁ B hml hv
  obtain ⟨rfl, hsz, hP, hK, hD0⟩ := hv
  have hx := B.exec
  have hb := B.bytes
  have hr := B.returns
  have hts := atoms_spec (ws := wsX6_findBreaks) B.pre
  have hown : s.vm.findClass RX6 = some m.cls := findClass_of_methodNamed B.named
  have hlocks := B.notSynchronized
  subst hsz
  have hD := hD0.self (sz := s.heap.size)
  generalize hAe : va_A (([(h0, kO6 h1 h2 h6 h3 n0_pieceCount), (h1, kAr cAint 40 (fun j => some (h4 j))), (h2, kAr cAint 6 (fun j => some (h5 j))), (h3, kAi cint 5 f3)] : va_W) ++ (kk_rowsI h4 cint 41 F4 40 ++ (kk_rowsI h5 cint 41 F5 6))) s.heap.size = A at hD ⊢
  have hA : ∀ q : Nat, s.heap.size ≤ q → A q := fun q h => by rw [← hAe]; exact Or.inr h
  have hS : va_S A s.heap s.heap [] := va_S.rf
  have hP : va_P (dC, dI) vwCl (([(h0, kO6 h1 h2 h6 h3 n0_pieceCount), (h1, kAr cAint 40 (fun j => some (h4 j))), (h2, kAr cAint 6 (fun j => some (h5 j))), (h3, kAi cint 5 f3)] : va_W) ++ (kk_rowsI h4 cint 41 F4 40 ++ (kk_rowsI h5 cint 41 F5 6))) s.heap := hP
  have hl := lv_entry ([.ref h0, .int p0]) (n := 6) (Nat.le_of_ble_eq_true rfl)
  rw [lg_entry_eq]
  generalize (lg_sl ([.ref h0, .int p0]) ++ List.replicate (6 - (lg_sl ([.ref h0, .int p0])).length) Slot.unset).toArray = ls at hl ⊢
  have hl : lv_has ls 6 [(0, .ref h0), (1, .int p0)] := hl
  refine lv_aload_n hx hb dX6_findBreaks_0 rfl (lv_at hl 0 rfl) ?_
  refine va_get (D := (dC, dI)) (ci := 6) (v := .ref h3) (C := RX6) (T := TX6) (N := 5) hx hb hts (fun _ h => List.mem_cons_of_mem _ (List.mem_append_right _ h)) hown hK hP 0 rfl rfl 3 (by decide) (hts (.fieldLink RX6 23 "KinkStreet$Pieces" "begins" "[I") (List.mem_of_getElem? (i := 1) rfl)) (fun _ h9 => h9) rfl dX6_findBreaks_1 ?_
  refine lv_iconst (v := 0) hx hb dX6_findBreaks_4 kk_ic_0 ?_
  refine lv_iconst (v := 0) hx hb dX6_findBreaks_5 kk_ic_0 ?_
  refine va_iast hx hb hK hP hD hS 3 1 rfl rfl (by unfold vp_in; decide) dX6_findBreaks_6 (fun H locs hP hD hS => ?_)
  have u_1 := kk_tn (x := (0 : Int32)) (by show 0 ≤ (0 : Int32).toInt; decide)
  have b_1 := kk_upbl (k := (0 : Int32).toNatClampNeg) bf3 (show 0 ≤ (0 : Int32).toInt ∧ (0 : Int32).toInt ≤ 40 + 2 * ((0 : Int32).toNatClampNeg : Int) from by rw [u_1]; show 0 ≤ (0 : Int32).toInt ∧ (0 : Int32).toInt ≤ 40 + 2 * (0 : Int32).toInt; first | decide | ((omega)))
  generalize upd f3 (0 : Int32).toNatClampNeg 0 = f_1 at hP hD b_1
  have hP : va_P (dC, dI) vwCl (([(h0, kO6 h1 h2 h6 h3 n0_pieceCount), (h1, kAr cAint 40 (fun j => some (h4 j))), (h2, kAr cAint 6 (fun j => some (h5 j))), (h3, kAi cint 5 f_1)] : va_W) ++ (kk_rowsI h4 cint 41 F4 40 ++ (kk_rowsI h5 cint 41 F5 6))) H := hP
  have hD : va_D A (([(h0, kO6 h1 h2 h6 h3 n0_pieceCount), (h1, kAr cAint 40 (fun j => some (h4 j))), (h2, kAr cAint 6 (fun j => some (h5 j))), (h3, kAi cint 5 f_1)] : va_W) ++ (kk_rowsI h4 cint 41 F4 40 ++ (kk_rowsI h5 cint 41 F5 6))) := hD
  refine lv_iconst (v := 1) hx hb dX6_findBreaks_7 kk_ic_1 ?_
  refine lv_istore_n hx hb dX6_findBreaks_8 rfl hl (by decide) (rfl : _ = ([(2, .int 1), (0, .ref h0), (1, .int p0)] : List (Nat × Value))) (fun ls hl => ?_)
  refine kk_loop (σ := Int32 × (Nat → Int32)) (fun x H locs ls => (1 ≤ x.1.toInt ∧ x.1.toInt ≤ 5) ∧ (∀ j : Nat, j < 5 → 0 ≤ (x.2 j).toInt ∧ (x.2 j).toInt ≤ 40 + 2 * (j : Int)) ∧ va_P (dC, dI) vwCl (([(h0, kO6 h1 h2 h6 h3 n0_pieceCount), (h1, kAr cAint 40 (fun j => some (h4 j))), (h2, kAr cAint 6 (fun j => some (h5 j))), (h3, kAi cint 5 x.2)] : va_W) ++ (kk_rowsI h4 cint 41 F4 40 ++ (kk_rowsI h5 cint 41 F5 6))) H ∧ va_D A (([(h0, kO6 h1 h2 h6 h3 n0_pieceCount), (h1, kAr cAint 40 (fun j => some (h4 j))), (h2, kAr cAint 6 (fun j => some (h5 j))), (h3, kAi cint 5 x.2)] : va_W) ++ (kk_rowsI h4 cint 41 F4 40 ++ (kk_rowsI h5 cint 41 F5 6))) ∧ va_S A s.heap H locs ∧ lv_has ls 6 [(2, .int x.1), (0, .ref h0), (1, .int p0)]) (fun x => ((5 : Int) - x.1.toInt).toNat) ?_ (1, f_1) _ _ _ ⟨(by show 1 ≤ (1 : Int32).toInt ∧ (1 : Int32).toInt ≤ 5; first | decide | ((omega))), b_1, hP, hD, hS, hl⟩
  rintro ⟨i_2_0, f_2_1⟩ H locs ls ⟨t_2_0, b_2_1, hP, hD, hS, hl⟩ ih_2
  have t_2_0 : (1 ≤ i_2_0.toInt ∧ i_2_0.toInt ≤ 5) := t_2_0
  have b_2_1 : (∀ j : Nat, j < 5 → 0 ≤ (f_2_1 j).toInt ∧ (f_2_1 j).toInt ≤ 40 + 2 * (j : Int)) := b_2_1
  have hl : lv_has ls 6 [(2, .int i_2_0), (0, .ref h0), (1, .int p0)] := hl
  have hP : va_P (dC, dI) vwCl (([(h0, kO6 h1 h2 h6 h3 n0_pieceCount), (h1, kAr cAint 40 (fun j => some (h4 j))), (h2, kAr cAint 6 (fun j => some (h5 j))), (h3, kAi cint 5 f_2_1)] : va_W) ++ (kk_rowsI h4 cint 41 F4 40 ++ (kk_rowsI h5 cint 41 F5 6))) H := hP
  have hD : va_D A (([(h0, kO6 h1 h2 h6 h3 n0_pieceCount), (h1, kAr cAint 40 (fun j => some (h4 j))), (h2, kAr cAint 6 (fun j => some (h5 j))), (h3, kAi cint 5 f_2_1)] : va_W) ++ (kk_rowsI h4 cint 41 F4 40 ++ (kk_rowsI h5 cint 41 F5 6))) := hD
  refine lv_iload_n hx hb dX6_findBreaks_9 rfl (lv_at hl 0 rfl) ?_
  refine lv_aload_n hx hb dX6_findBreaks_10 rfl (lv_at hl 1 rfl) ?_
  refine va_get (D := (dC, dI)) (ci := 6) (v := .int n0_pieceCount) (C := RX6) (T := TX6) (N := 5) hx hb hts (fun _ h => List.mem_cons_of_mem _ (List.mem_append_right _ h)) hown hK hP 0 rfl rfl 4 (by decide) (hts (.fieldLink RX6 40 "KinkStreet$Pieces" "pieceCount" "I") (List.mem_of_getElem? (i := 2) rfl)) (fun _ h9 => h9) rfl dX6_findBreaks_11 ?_
  refine lv_icmp_ge (tgt := 101) hx hb dX6_findBreaks_14 (by decide) (fun c_3 => ?_) (fun c_3 => ?_)
  · have t_3 : n0_pieceCount.toInt ≤ i_2_0.toInt := kk_le c_3
    have hP9 := hP.part (cx := [(h0, kO6 h1 h2 h6 h3 n0_pieceCount), (h1, kAr cAint 40 (fun j => some (h4 j))), (h2, kAr cAint 6 (fun j => some (h5 j))), (h3, kAi cint 5 f_2_1)]) [0, 1, 2, 3] rfl
    have hD9 := hD.part (cx := [(h0, kO6 h1 h2 h6 h3 n0_pieceCount), (h1, kAr cAint 40 (fun j => some (h4 j))), (h2, kAr cAint 6 (fun j => some (h5 j))), (h3, kAi cint 5 f_2_1)]) [0, 1, 2, 3] (by decide) rfl
    have hK9 := kk_Ks (tq := []) hK [] rfl
    exact W.vret hx hb hr (fun t ht hW => ⟨⟨(), rfl, trivial, f_2_1, b_2_1, by rw [ht]; exact hP9, va_K.moved hW.alike hK9, hD9⟩, hS.F ht⟩) hS.2.2 dX6_findBreaks_101
  · have t_3 : i_2_0.toInt < n0_pieceCount.toInt := kk_nle c_3
    refine lv_aload_n hx hb dX6_findBreaks_17 rfl (lv_at hl 1 rfl) ?_
    refine va_get (D := (dC, dI)) (ci := 6) (v := .ref h3) (C := RX6) (T := TX6) (N := 5) hx hb hts (fun _ h => List.mem_cons_of_mem _ (List.mem_append_right _ h)) hown hK hP 0 rfl rfl 3 (by decide) (hts (.fieldLink RX6 23 "KinkStreet$Pieces" "begins" "[I") (List.mem_of_getElem? (i := 1) rfl)) (fun _ h9 => h9) rfl dX6_findBreaks_18 ?_
    refine lv_iload_n hx hb dX6_findBreaks_21 rfl (lv_at hl 0 rfl) ?_
    refine lv_iconst (v := 1) hx hb dX6_findBreaks_22 kk_ic_1 ?_
    refine lv_isub hx hb dX6_findBreaks_23 ?_
    try have := kk_sub2 (x := i_2_0) (y := 1) (a := i_2_0.toInt) (b := 1) rfl rfl (by omega) (by omega)
    have hi_4 : vp_in (i_2_0 - 1) 5 := (vp_in_iff.mpr ⟨by omega, by omega⟩)
    refine va_iald hx hb hK hP 3 1 rfl rfl hi_4 dX6_findBreaks_24 ?_
    refine lv_topi (fun y_4 e_4 => ?_)
    have t_4 : 0 ≤ y_4.toInt ∧ y_4.toInt ≤ 40 + 2 * (((i_2_0 - 1) : Int32).toNatClampNeg : Int) := by rw [e_4]; exact b_2_1 _ (Nat.not_le.mp fun q => hi_4 (Or.inr q))
    have u_4 := kk_tn (x := ((i_2_0 - 1) : Int32)) (by show 0 ≤ ((i_2_0 - 1) : Int32).toInt; omega)
    have t_4 : 0 ≤ y_4.toInt ∧ y_4.toInt ≤ 40 + 2 * (i_2_0 - 1).toInt := by omega
    clear e_4
    refine lv_istore_n hx hb dX6_findBreaks_25 rfl hl (by decide) (rfl : _ = ([(3, .int y_4), (2, .int i_2_0), (0, .ref h0), (1, .int p0)] : List (Nat × Value))) (fun ls hl => ?_)
    refine lv_aload_n hx hb dX6_findBreaks_26 rfl (lv_at hl 2 rfl) ?_
    refine va_get (D := (dC, dI)) (ci := 6) (v := .int n0_pieceCount) (C := RX6) (T := TX6) (N := 5) hx hb hts (fun _ h => List.mem_cons_of_mem _ (List.mem_append_right _ h)) hown hK hP 0 rfl rfl 4 (by decide) (hts (.fieldLink RX6 40 "KinkStreet$Pieces" "pieceCount" "I") (List.mem_of_getElem? (i := 2) rfl)) (fun _ h9 => h9) rfl dX6_findBreaks_27 ?_
    refine lv_iload_n hx hb dX6_findBreaks_30 rfl (lv_at hl 1 rfl) ?_
    refine lv_isub hx hb dX6_findBreaks_31 ?_
    refine lv_istore hx hb dX6_findBreaks_32 hl (by decide) (rfl : _ = ([(4, .int (n0_pieceCount - i_2_0)), (3, .int y_4), (2, .int i_2_0), (0, .ref h0), (1, .int p0)] : List (Nat × Value))) (fun ls hl => ?_)
    refine lv_iload_n hx hb dX6_findBreaks_34 rfl (lv_at hl 1 rfl) ?_
    refine lv_iconst (v := 2) hx hb dX6_findBreaks_35 kk_ic_2 ?_
    refine lv_iadd hx hb dX6_findBreaks_36 ?_
    refine lv_istore hx hb dX6_findBreaks_37 hl (by decide) (rfl : _ = ([(5, .int (y_4 + 2)), (4, .int (n0_pieceCount - i_2_0)), (3, .int y_4), (2, .int i_2_0), (0, .ref h0), (1, .int p0)] : List (Nat × Value))) (fun ls hl => ?_)
    try have := kk_sub2 (x := n0_pieceCount) (y := i_2_0) (a := n0_pieceCount.toInt) (b := i_2_0.toInt) rfl rfl (by omega) (by omega)
    try have := kk_add2 (x := y_4) (y := 2) (a := y_4.toInt) (b := 2) rfl rfl (by omega) (by omega)
    refine kk_loop (σ := Int32) (fun x H locs ls => (2 ≤ x.toInt ∧ x.toInt ≤ 50) ∧ (y_4 + 2).toInt ≤ x.toInt ∧ (x.toInt ≤ 38 ∨ x.toInt ≤ y_4.toInt + 2) ∧ va_P (dC, dI) vwCl (([(h0, kO6 h1 h2 h6 h3 n0_pieceCount), (h1, kAr cAint 40 (fun j => some (h4 j))), (h2, kAr cAint 6 (fun j => some (h5 j))), (h3, kAi cint 5 f_2_1)] : va_W) ++ (kk_rowsI h4 cint 41 F4 40 ++ (kk_rowsI h5 cint 41 F5 6))) H ∧ va_D A (([(h0, kO6 h1 h2 h6 h3 n0_pieceCount), (h1, kAr cAint 40 (fun j => some (h4 j))), (h2, kAr cAint 6 (fun j => some (h5 j))), (h3, kAi cint 5 f_2_1)] : va_W) ++ (kk_rowsI h4 cint 41 F4 40 ++ (kk_rowsI h5 cint 41 F5 6))) ∧ va_S A s.heap H locs ∧ lv_has ls 6 [(5, .int x), (4, .int (n0_pieceCount - i_2_0)), (3, .int y_4), (2, .int i_2_0), (0, .ref h0), (1, .int p0)]) (fun x => ((50 : Int) - x.toInt).toNat) ?_ ((y_4 + 2)) _ _ _ ⟨(by show 2 ≤ ((y_4 + 2) : Int32).toInt ∧ ((y_4 + 2) : Int32).toInt ≤ 50; first | decide | ((omega))), (by show ((y_4 + 2) : Int32).toInt ≤ ((y_4 + 2) : Int32).toInt; first | decide | (omega)), (by show (((y_4 + 2) : Int32).toInt ≤ 38 ∨ ((y_4 + 2) : Int32).toInt ≤ (y_4 : Int32).toInt + 2); first | decide | (omega)), hP, hD, hS, hl⟩
    rintro i_5_0 H locs ls ⟨t_5_0, z_5_0, z_5_1, hP, hD, hS, hl⟩ ih_5
    have t_5_0 : (2 ≤ i_5_0.toInt ∧ i_5_0.toInt ≤ 50) := t_5_0
    have z_5_0 : (y_4 + 2).toInt ≤ i_5_0.toInt := z_5_0
    have z_5_1 : (i_5_0.toInt ≤ 38 ∨ i_5_0.toInt ≤ y_4.toInt + 2) := z_5_1
    have hl : lv_has ls 6 [(5, .int i_5_0), (4, .int (n0_pieceCount - i_2_0)), (3, .int y_4), (2, .int i_2_0), (0, .ref h0), (1, .int p0)] := hl
    have hP : va_P (dC, dI) vwCl (([(h0, kO6 h1 h2 h6 h3 n0_pieceCount), (h1, kAr cAint 40 (fun j => some (h4 j))), (h2, kAr cAint 6 (fun j => some (h5 j))), (h3, kAi cint 5 f_2_1)] : va_W) ++ (kk_rowsI h4 cint 41 F4 40 ++ (kk_rowsI h5 cint 41 F5 6))) H := hP
    have hD : va_D A (([(h0, kO6 h1 h2 h6 h3 n0_pieceCount), (h1, kAr cAint 40 (fun j => some (h4 j))), (h2, kAr cAint 6 (fun j => some (h5 j))), (h3, kAi cint 5 f_2_1)] : va_W) ++ (kk_rowsI h4 cint 41 F4 40 ++ (kk_rowsI h5 cint 41 F5 6))) := hD
    refine lv_iload hx hb dX6_findBreaks_39 (lv_at hl 0 rfl) ?_
    refine lv_iload_n hx hb dX6_findBreaks_41 rfl (lv_at hl 5 rfl) ?_
    refine lv_iconst (v := 2) hx hb dX6_findBreaks_42 kk_ic_2 ?_
    refine lv_isub hx hb dX6_findBreaks_43 ?_
    refine lv_icmp_ge (tgt := 87) hx hb dX6_findBreaks_44 (by decide) (fun c_6 => ?_) (fun c_6 => ?_)
    · have t_6 : (p0 - 2).toInt ≤ i_5_0.toInt := kk_le c_6
      refine lv_aload_n hx hb dX6_findBreaks_87 rfl (lv_at hl 4 rfl) ?_
      refine va_get (D := (dC, dI)) (ci := 6) (v := .ref h3) (C := RX6) (T := TX6) (N := 5) hx hb hts (fun _ h => List.mem_cons_of_mem _ (List.mem_append_right _ h)) hown hK hP 0 rfl rfl 3 (by decide) (hts (.fieldLink RX6 23 "KinkStreet$Pieces" "begins" "[I") (List.mem_of_getElem? (i := 1) rfl)) (fun _ h9 => h9) rfl dX6_findBreaks_88 ?_
      refine lv_iload_n hx hb dX6_findBreaks_91 rfl (lv_at hl 3 rfl) ?_
      refine lv_iload hx hb dX6_findBreaks_92 (lv_at hl 0 rfl) ?_
      try have := kk_sub2 (x := p0) (y := 2) (a := p0.toInt) (b := 2) rfl rfl (by omega) (by omega)
      refine va_iast hx hb hK hP hD hS 3 1 rfl rfl (vp_in_iff.mpr ⟨by omega, by omega⟩) dX6_findBreaks_94 (fun H locs hP hD hS => ?_)
      have u_7 := kk_tn (x := (i_2_0 : Int32)) (by show 0 ≤ (i_2_0 : Int32).toInt; omega)
      have b_7 := kk_upbl (k := (i_2_0 : Int32).toNatClampNeg) b_2_1 (show 0 ≤ (i_5_0 : Int32).toInt ∧ (i_5_0 : Int32).toInt ≤ 40 + 2 * ((i_2_0 : Int32).toNatClampNeg : Int) from by rw [u_7]; show 0 ≤ (i_5_0 : Int32).toInt ∧ (i_5_0 : Int32).toInt ≤ 40 + 2 * (i_2_0 : Int32).toInt; first | decide | ((omega)))
      generalize upd f_2_1 (i_2_0 : Int32).toNatClampNeg i_5_0 = f_7 at hP hD b_7
      have hP : va_P (dC, dI) vwCl (([(h0, kO6 h1 h2 h6 h3 n0_pieceCount), (h1, kAr cAint 40 (fun j => some (h4 j))), (h2, kAr cAint 6 (fun j => some (h5 j))), (h3, kAi cint 5 f_7)] : va_W) ++ (kk_rowsI h4 cint 41 F4 40 ++ (kk_rowsI h5 cint 41 F5 6))) H := hP
      have hD : va_D A (([(h0, kO6 h1 h2 h6 h3 n0_pieceCount), (h1, kAr cAint 40 (fun j => some (h4 j))), (h2, kAr cAint 6 (fun j => some (h5 j))), (h3, kAi cint 5 f_7)] : va_W) ++ (kk_rowsI h4 cint 41 F4 40 ++ (kk_rowsI h5 cint 41 F5 6))) := hD
      refine lv_iinc (v := (i_2_0 + 1)) hx hb dX6_findBreaks_95 hl (k := 3) rfl (by first | rfl | decide) (by decide) (rfl : _ = ([(2, .int (i_2_0 + 1)), (5, .int i_5_0), (4, .int (n0_pieceCount - i_2_0)), (3, .int y_4), (0, .ref h0), (1, .int p0)] : List (Nat × Value))) (fun ls hl => ?_)
      refine lv_goto (tgt := 9) hx hb dX6_findBreaks_98 (by decide) ?_
      try have := kk_add2 (x := i_2_0) (y := 1) (a := i_2_0.toInt) (b := 1) rfl rfl (by omega) (by omega)
      exact ih_2 ((i_2_0 + 1), f_7) _ _ _ (by show ((5 : Int) - ((i_2_0 + 1)).toInt).toNat < ((5 : Int) - i_2_0.toInt).toNat; exact kk_mu (by omega) (by omega)) ⟨(by show 1 ≤ ((i_2_0 + 1) : Int32).toInt ∧ ((i_2_0 + 1) : Int32).toInt ≤ 5; first | decide | ((omega))), b_7, hP, hD, hS, lv_sub hl [0, 4, 5] rfl⟩
    · have t_6 : i_5_0.toInt < (p0 - 2).toInt := kk_nle c_6
      refine lv_aload_n hx hb dX6_findBreaks_47 rfl (lv_at hl 4 rfl) ?_
      refine va_get (D := (dC, dI)) (ci := 6) (v := .ref h1) (C := RX6) (T := TX6) (N := 5) hx hb hts (fun _ h => List.mem_cons_of_mem _ (List.mem_append_right _ h)) hown hK hP 0 rfl rfl 0 (by decide) (hts (.fieldLink RX6 11 "KinkStreet$Pieces" "spreads" "[[I") (List.mem_of_getElem? (i := 3) rfl)) (fun _ h9 => h9) rfl dX6_findBreaks_48 ?_
      refine lv_iload_n hx hb dX6_findBreaks_51 rfl (lv_at hl 2 rfl) ?_
      try have := kk_sub2 (x := p0) (y := 2) (a := p0.toInt) (b := 2) rfl rfl (by omega) (by omega)
      have hi_8 : vp_in (y_4 : Int32) 40 := (vp_in_iff.mpr ⟨by omega, by omega⟩)
      have hk_8 : (y_4 : Int32).toNatClampNeg < 40 := Nat.not_le.mp fun q => hi_8 (Or.inr q)
      refine kk_aald hx hb hK hP 1 0 rfl rfl hi_8 dX6_findBreaks_52 ?_
      refine W.eq (g2 := F0 m 53 ls [.ref (h4 (y_4 : Int32).toNatClampNeg)]) rfl ?_
      refine lv_iload hx hb dX6_findBreaks_53 (lv_at hl 0 rfl) ?_
      refine va_iald hx hb hK hP _ 1 (kk_getr (kk_getl (kk_rowI hk_8))) rfl (vp_in_iff.mpr ⟨by omega, by omega⟩) dX6_findBreaks_55 ?_
      refine lv_topi (fun y_9 e_9 => ?_)
      clear e_9
      refine lv_aload_n hx hb dX6_findBreaks_56 rfl (lv_at hl 4 rfl) ?_
      refine va_get (D := (dC, dI)) (ci := 6) (v := .ref h2) (C := RX6) (T := TX6) (N := 5) hx hb hts (fun _ h => List.mem_cons_of_mem _ (List.mem_append_right _ h)) hown hK hP 0 rfl rfl 1 (by decide) (hts (.fieldLink RX6 16 "KinkStreet$Pieces" "sums" "[[I") (List.mem_of_getElem? (i := 4) rfl)) (fun _ h9 => h9) rfl dX6_findBreaks_57 ?_
      refine lv_iload hx hb dX6_findBreaks_60 (lv_at hl 1 rfl) ?_
      have hi_10 : vp_in ((n0_pieceCount - i_2_0) : Int32) 6 := (vp_in_iff.mpr ⟨by omega, by omega⟩)
      have hk_10 : ((n0_pieceCount - i_2_0) : Int32).toNatClampNeg < 6 := Nat.not_le.mp fun q => hi_10 (Or.inr q)
      refine kk_aald hx hb hK hP 2 0 rfl rfl hi_10 dX6_findBreaks_62 ?_
      refine W.eq (g2 := F0 m 63 ls [.ref (h5 ((n0_pieceCount - i_2_0) : Int32).toNatClampNeg), .int y_9]) rfl ?_
      refine lv_iload hx hb dX6_findBreaks_63 (lv_at hl 0 rfl) ?_
      refine va_iald hx hb hK hP _ 1 (kk_getr (kk_getr (kk_rowI hk_10))) rfl (vp_in_iff.mpr ⟨by omega, by omega⟩) dX6_findBreaks_65 ?_
      refine lv_topi (fun y_11 e_11 => ?_)
      clear e_11
      refine lv_iadd hx hb dX6_findBreaks_66 ?_
      refine lv_aload_n hx hb dX6_findBreaks_67 rfl (lv_at hl 4 rfl) ?_
      refine va_get (D := (dC, dI)) (ci := 6) (v := .ref h2) (C := RX6) (T := TX6) (N := 5) hx hb hts (fun _ h => List.mem_cons_of_mem _ (List.mem_append_right _ h)) hown hK hP 0 rfl rfl 1 (by decide) (hts (.fieldLink RX6 16 "KinkStreet$Pieces" "sums" "[[I") (List.mem_of_getElem? (i := 4) rfl)) (fun _ h9 => h9) rfl dX6_findBreaks_68 ?_
      refine lv_iload hx hb dX6_findBreaks_71 (lv_at hl 1 rfl) ?_
      refine lv_iconst (v := 1) hx hb dX6_findBreaks_73 kk_ic_1 ?_
      refine lv_iadd hx hb dX6_findBreaks_74 ?_
      try have := kk_add2 (x := (n0_pieceCount - i_2_0)) (y := 1) (a := (n0_pieceCount - i_2_0).toInt) (b := 1) rfl rfl (by omega) (by omega)
      have hi_12 : vp_in (((n0_pieceCount - i_2_0) + 1) : Int32) 6 := (vp_in_iff.mpr ⟨by omega, by omega⟩)
      have hk_12 : (((n0_pieceCount - i_2_0) + 1) : Int32).toNatClampNeg < 6 := Nat.not_le.mp fun q => hi_12 (Or.inr q)
      refine kk_aald hx hb hK hP 2 0 rfl rfl hi_12 dX6_findBreaks_75 ?_
      refine W.eq (g2 := F0 m 76 ls [.ref (h5 (((n0_pieceCount - i_2_0) + 1) : Int32).toNatClampNeg), .int (y_9 + y_11)]) rfl ?_
      refine lv_iload_n hx hb dX6_findBreaks_76 rfl (lv_at hl 2 rfl) ?_
      refine va_iald hx hb hK hP _ 1 (kk_getr (kk_getr (kk_rowI hk_12))) rfl (vp_in_iff.mpr ⟨by omega, by omega⟩) dX6_findBreaks_77 ?_
      refine lv_topi (fun y_13 e_13 => ?_)
      clear e_13
      refine lv_icmp_eq (tgt := 87) hx hb dX6_findBreaks_78 (by decide) (fun c_14 => ?_) (fun c_14 => ?_)
      · have t_14 : (y_9 + y_11).toInt = y_13.toInt := kk_eq c_14
        refine lv_aload_n hx hb dX6_findBreaks_87 rfl (lv_at hl 4 rfl) ?_
        refine va_get (D := (dC, dI)) (ci := 6) (v := .ref h3) (C := RX6) (T := TX6) (N := 5) hx hb hts (fun _ h => List.mem_cons_of_mem _ (List.mem_append_right _ h)) hown hK hP 0 rfl rfl 3 (by decide) (hts (.fieldLink RX6 23 "KinkStreet$Pieces" "begins" "[I") (List.mem_of_getElem? (i := 1) rfl)) (fun _ h9 => h9) rfl dX6_findBreaks_88 ?_
        refine lv_iload_n hx hb dX6_findBreaks_91 rfl (lv_at hl 3 rfl) ?_
        refine lv_iload hx hb dX6_findBreaks_92 (lv_at hl 0 rfl) ?_
        try have := kk_rng y_11
        try have := kk_rng y_9
        try have := kk_rng y_13
        refine va_iast hx hb hK hP hD hS 3 1 rfl rfl (vp_in_iff.mpr ⟨by omega, by omega⟩) dX6_findBreaks_94 (fun H locs hP hD hS => ?_)
        have u_15 := kk_tn (x := (i_2_0 : Int32)) (by show 0 ≤ (i_2_0 : Int32).toInt; omega)
        have b_15 := kk_upbl (k := (i_2_0 : Int32).toNatClampNeg) b_2_1 (show 0 ≤ (i_5_0 : Int32).toInt ∧ (i_5_0 : Int32).toInt ≤ 40 + 2 * ((i_2_0 : Int32).toNatClampNeg : Int) from by rw [u_15]; show 0 ≤ (i_5_0 : Int32).toInt ∧ (i_5_0 : Int32).toInt ≤ 40 + 2 * (i_2_0 : Int32).toInt; first | decide | ((omega)))
        generalize upd f_2_1 (i_2_0 : Int32).toNatClampNeg i_5_0 = f_15 at hP hD b_15
        have hP : va_P (dC, dI) vwCl (([(h0, kO6 h1 h2 h6 h3 n0_pieceCount), (h1, kAr cAint 40 (fun j => some (h4 j))), (h2, kAr cAint 6 (fun j => some (h5 j))), (h3, kAi cint 5 f_15)] : va_W) ++ (kk_rowsI h4 cint 41 F4 40 ++ (kk_rowsI h5 cint 41 F5 6))) H := hP
        have hD : va_D A (([(h0, kO6 h1 h2 h6 h3 n0_pieceCount), (h1, kAr cAint 40 (fun j => some (h4 j))), (h2, kAr cAint 6 (fun j => some (h5 j))), (h3, kAi cint 5 f_15)] : va_W) ++ (kk_rowsI h4 cint 41 F4 40 ++ (kk_rowsI h5 cint 41 F5 6))) := hD
        refine lv_iinc (v := (i_2_0 + 1)) hx hb dX6_findBreaks_95 hl (k := 3) rfl (by first | rfl | decide) (by decide) (rfl : _ = ([(2, .int (i_2_0 + 1)), (5, .int i_5_0), (4, .int (n0_pieceCount - i_2_0)), (3, .int y_4), (0, .ref h0), (1, .int p0)] : List (Nat × Value))) (fun ls hl => ?_)
        refine lv_goto (tgt := 9) hx hb dX6_findBreaks_98 (by decide) ?_
        try have := kk_add2 (x := i_2_0) (y := 1) (a := i_2_0.toInt) (b := 1) rfl rfl (by omega) (by omega)
        exact ih_2 ((i_2_0 + 1), f_15) _ _ _ (by show ((5 : Int) - ((i_2_0 + 1)).toInt).toNat < ((5 : Int) - i_2_0.toInt).toNat; exact kk_mu (by omega) (by omega)) ⟨(by show 1 ≤ ((i_2_0 + 1) : Int32).toInt ∧ ((i_2_0 + 1) : Int32).toInt ≤ 5; first | decide | ((omega))), b_15, hP, hD, hS, lv_sub hl [0, 4, 5] rfl⟩
      · have t_14 : (y_9 + y_11).toInt ≠ y_13.toInt := kk_ne c_14
        refine lv_iinc (v := (i_5_0 + 1)) hx hb dX6_findBreaks_81 hl (k := 0) rfl (by first | rfl | decide) (by decide) (rfl : _ = ([(5, .int (i_5_0 + 1)), (4, .int (n0_pieceCount - i_2_0)), (3, .int y_4), (2, .int i_2_0), (0, .ref h0), (1, .int p0)] : List (Nat × Value))) (fun ls hl => ?_)
        refine lv_goto (tgt := 39) hx hb dX6_findBreaks_84 (by decide) ?_
        try have := kk_add2 (x := i_5_0) (y := 1) (a := i_5_0.toInt) (b := 1) rfl rfl (by omega) (by omega)
        exact ih_5 ((i_5_0 + 1)) _ _ _ (by show ((50 : Int) - ((i_5_0 + 1)).toInt).toNat < ((50 : Int) - i_5_0.toInt).toNat; exact kk_mu (by omega) (by omega)) ⟨(by show 2 ≤ ((i_5_0 + 1) : Int32).toInt ∧ ((i_5_0 + 1) : Int32).toInt ≤ 50; first | decide | ((omega))), (by show ((y_4 + 2) : Int32).toInt ≤ ((i_5_0 + 1) : Int32).toInt; first | decide | (omega)), (by show (((i_5_0 + 1) : Int32).toInt ≤ 38 ∨ ((i_5_0 + 1) : Int32).toInt ≤ (y_4 : Int32).toInt + 2); first | decide | (omega)), hP, hD, hS, lv_sub hl [0, 1, 2, 3, 4, 5] rfl⟩
set_option maxHeartbeats 4000000 in
set_option maxRecDepth 100000 in
theorem g_X6_divide_0 (l : Launch) (dC : Nat → ClassId) (dI : Nat → Nat → Nat) (h0 : Nat) (h1 : Nat) (h2 : Nat) (h3 : Nat) (h4 : Nat) (h5 : Nat) (h6 : Nat) (h7 : Nat) (h8 : Nat → Nat) (h9 : Nat → Nat) (h10 : Nat) (cAint cint : ClassId) (sz : Nat) (p1 : Int32) (n0_pieceCount : Int32) (n1_size : Int32) (f4 : Nat → Int32) (f5 : Nat → Int32) (f6 : Nat → Int32) (f7 : Nat → Int32) (F8 : Nat → Nat → Int32) (F9 : Nat → Nat → Int32) (tn0_pieceCount : kk_bx (0 ≤ n0_pieceCount.toInt ∧ n0_pieceCount.toInt ≤ 5)) (tn1_size : 0 ≤ n1_size.toInt ∧ n1_size.toInt ≤ 40) (bf5 : ∀ j : Nat, j < 5 → 0 ≤ (f5 j).toInt ∧ (f5 j).toInt ≤ 40 + 2 * (j : Int)) : Met l yX6_divide wsX6_divide ({ frames := 3, cells := 0, slots := 0, locals := 72 }) (va_Pc [.ref h0, .ref h1, .int p1] (fun U => U.heap.size = sz ∧ va_P (dC, dI) vwCl (([(h0, kO6 h2 h3 h4 h5 n0_pieceCount), (h1, kO9 h6 h10 h7 n1_size), (h2, kAr cAint 40 (fun j => some (h8 j))), (h3, kAr cAint 6 (fun j => some (h9 j))), (h4, kAi cint 40 f4), (h5, kAi cint 5 f5), (h6, kAi cint 40 f6), (h7, kAi cint 40 f7)] : va_W) ++ (kk_rowsI h8 cint 41 F8 40 ++ (kk_rowsI h9 cint 41 F9 6))) U.heap ∧ va_K (dC, dI) vwCl [(cAint, .array .int), (cint, .int)] U ∧ va_D (fun _ => True) (([(h0, kO6 h2 h3 h4 h5 n0_pieceCount), (h1, kO9 h6 h10 h7 n1_size), (h2, kAr cAint 40 (fun j => some (h8 j))), (h3, kAr cAint 6 (fun j => some (h9 j))), (h4, kAi cint 40 f4), (h5, kAi cint 5 f5), (h6, kAi cint 40 f6), (h7, kAi cint 40 f7)] : va_W) ++ (kk_rowsI h8 cint 41 F8 40 ++ (kk_rowsI h9 cint 41 F9 6))))) (va_Qv (fun (_ : Unit) => True) (fun (_ : Unit) t => ∃ (m0_pieceCount : Int32) (g4 : Nat → Int32) (g5 : Nat → Int32) (g8 : Nat → Nat → Int32) (g9 : Nat → Nat → Int32), (0 ≤ m0_pieceCount.toInt ∧ m0_pieceCount.toInt ≤ 5) ∧ (∀ j : Nat, j < 5 → 0 ≤ (g5 j).toInt ∧ (g5 j).toInt ≤ 40 + 2 * (j : Int)) ∧ va_P (dC, dI) vwCl (([(h0, kO6 h2 h3 h4 h5 m0_pieceCount), (h1, kO9 h6 h10 h7 n1_size), (h2, kAr cAint 40 (fun j => some (h8 j))), (h3, kAr cAint 6 (fun j => some (h9 j))), (h4, kAi cint 40 g4), (h5, kAi cint 5 g5), (h6, kAi cint 40 f6), (h7, kAi cint 40 f7)] : va_W) ++ (kk_rowsI h8 cint 41 g8 40 ++ (kk_rowsI h9 cint 41 g9 6))) t.heap ∧ va_K (dC, dI) vwCl [] t ∧ va_D (va_A (([(h0, kO6 h2 h3 h4 h5 n0_pieceCount), (h1, kO9 h6 h10 h7 n1_size), (h2, kAr cAint 40 (fun j => some (h8 j))), (h3, kAr cAint 6 (fun j => some (h9 j))), (h4, kAi cint 40 f4), (h5, kAi cint 5 f5), (h6, kAi cint 40 f6), (h7, kAi cint 40 f7)] : va_W) ++ (kk_rowsI h8 cint 41 F8 40 ++ (kk_rowsI h9 cint 41 F9 6))) sz) (([(h0, kO6 h2 h3 h4 h5 m0_pieceCount), (h1, kO9 h6 h10 h7 n1_size), (h2, kAr cAint 40 (fun j => some (h8 j))), (h3, kAr cAint 6 (fun j => some (h9 j))), (h4, kAi cint 40 g4), (h5, kAi cint 5 g5), (h6, kAi cint 40 f6), (h7, kAi cint 40 f7)] : va_W) ++ (kk_rowsI h8 cint 41 g8 40 ++ (kk_rowsI h9 cint 41 g9 6)))) (va_A (([(h0, kO6 h2 h3 h4 h5 n0_pieceCount), (h1, kO9 h6 h10 h7 n1_size), (h2, kAr cAint 40 (fun j => some (h8 j))), (h3, kAr cAint 6 (fun j => some (h9 j))), (h4, kAi cint 40 f4), (h5, kAi cint 5 f5), (h6, kAi cint 40 f6), (h7, kAi cint 40 f7)] : va_W) ++ (kk_rowsI h8 cint 41 F8 40 ++ (kk_rowsI h9 cint 41 F9 6))) sz)) 0 0 (va_A (([(h0, kO6 h2 h3 h4 h5 n0_pieceCount), (h1, kO9 h6 h10 h7 n1_size), (h2, kAr cAint 40 (fun j => some (h8 j))), (h3, kAr cAint 6 (fun j => some (h9 j))), (h4, kAi cint 40 f4), (h5, kAi cint 5 f5), (h6, kAi cint 40 f6), (h7, kAi cint 40 f7)] : va_W) ++ (kk_rowsI h8 cint 41 F8 40 ++ (kk_rowsI h9 cint 41 F9 6))) sz) := by
  refine Met.ofW (cc := cX6_divide) (maxL := 4) (ret := none) (by decide) rfl ?_
  intro p e s m args below meth c s₁ B hml hv
  obtain ⟨rfl, hsz, hP, hK, hD0⟩ := hv
  have hx := B.exec
  have hb := B.bytes
  have hr := B.returns
  have hts := atoms_spec (ws := wsX6_divide) B.pre
  have hown : s.vm.findClass RX6 = some m.cls := findClass_of_methodNamed B.named
  have hlocks := B.notSynchronized
  subst hsz
  have hD := hD0.self (sz := s.heap.size)
  generalize hAe : va_A (([(h0, kO6 h2 h3 h4 h5 n0_pieceCount), (h1, kO9 h6 h10 h7 n1_size), (h2, kAr cAint 40 (fun j => some (h8 j))), (h3, kAr cAint 6 (fun j => some (h9 j))), (h4, kAi cint 40 f4), (h5, kAi cint 5 f5), (h6, kAi cint 40 f6), (h7, kAi cint 40 f7)] : va_W) ++ (kk_rowsI h8 cint 41 F8 40 ++ (kk_rowsI h9 cint 41 F9 6))) s.heap.size = A at hD ⊢
  have hA : ∀ q : Nat, s.heap.size ≤ q → A q := fun q h => by rw [← hAe]; exact Or.inr h
  have hS : va_S A s.heap s.heap [] := va_S.rf
  have hP : va_P (dC, dI) vwCl (([(h0, kO6 h2 h3 h4 h5 n0_pieceCount), (h1, kO9 h6 h10 h7 n1_size), (h2, kAr cAint 40 (fun j => some (h8 j))), (h3, kAr cAint 6 (fun j => some (h9 j))), (h4, kAi cint 40 f4), (h5, kAi cint 5 f5), (h6, kAi cint 40 f6), (h7, kAi cint 40 f7)] : va_W) ++ (kk_rowsI h8 cint 41 F8 40 ++ (kk_rowsI h9 cint 41 F9 6))) s.heap := hP
  have hl := lv_entry ([.ref h0, .ref h1, .int p1]) (n := 4) (Nat.le_of_ble_eq_true rfl)
  rw [lg_entry_eq]
  generalize (lg_sl ([.ref h0, .ref h1, .int p1]) ++ List.replicate (4 - (lg_sl ([.ref h0, .ref h1, .int p1])).length) Slot.unset).toArray = ls at hl ⊢
  have hl : lv_has ls 4 [(0, .ref h0), (1, .ref h1), (2, .int p1)] := hl
  refine lv_iconst (v := 0) hx hb dX6_divide_0 kk_ic_0 ?_
  refine lv_istore_n hx hb dX6_divide_1 rfl hl (by decide) (rfl : _ = ([(3, .int 0), (0, .ref h0), (1, .ref h1), (2, .int p1)] : List (Nat × Value))) (fun ls hl => ?_)
  refine kk_loop (σ := Int32 × (Nat → Int32) × (Nat → Nat → Int32)) (fun x H locs ls => (0 ≤ x.1.toInt ∧ x.1.toInt ≤ 40) ∧ va_P (dC, dI) vwCl (([(h0, kO6 h2 h3 h4 h5 n0_pieceCount), (h1, kO9 h6 h10 h7 n1_size), (h2, kAr cAint 40 (fun j => some (h8 j))), (h3, kAr cAint 6 (fun j => some (h9 j))), (h4, kAi cint 40 x.2.1), (h5, kAi cint 5 f5), (h6, kAi cint 40 f6), (h7, kAi cint 40 f7)] : va_W) ++ (kk_rowsI h8 cint 41 x.2.2 40 ++ (kk_rowsI h9 cint 41 F9 6))) H ∧ va_D A (([(h0, kO6 h2 h3 h4 h5 n0_pieceCount), (h1, kO9 h6 h10 h7 n1_size), (h2, kAr cAint 40 (fun j => some (h8 j))), (h3, kAr cAint 6 (fun j => some (h9 j))), (h4, kAi cint 40 x.2.1), (h5, kAi cint 5 f5), (h6, kAi cint 40 f6), (h7, kAi cint 40 f7)] : va_W) ++ (kk_rowsI h8 cint 41 x.2.2 40 ++ (kk_rowsI h9 cint 41 F9 6))) ∧ va_S A s.heap H locs ∧ lv_has ls 4 [(3, .int x.1), (0, .ref h0), (1, .ref h1), (2, .int p1)]) (fun x => ((40 : Int) - x.1.toInt).toNat) ?_ (0, f4, F8) _ _ _ ⟨(by show 0 ≤ (0 : Int32).toInt ∧ (0 : Int32).toInt ≤ 40; first | decide | ((omega))), hP, hD, hS, hl⟩
  rintro ⟨i_1_0, f_1_1, f_1_2⟩ H locs ls ⟨t_1_0, hP, hD, hS, hl⟩ ih_1
  have t_1_0 : (0 ≤ i_1_0.toInt ∧ i_1_0.toInt ≤ 40) := t_1_0
  have hl : lv_has ls 4 [(3, .int i_1_0), (0, .ref h0), (1, .ref h1), (2, .int p1)] := hl
  have hP : va_P (dC, dI) vwCl (([(h0, kO6 h2 h3 h4 h5 n0_pieceCount), (h1, kO9 h6 h10 h7 n1_size), (h2, kAr cAint 40 (fun j => some (h8 j))), (h3, kAr cAint 6 (fun j => some (h9 j))), (h4, kAi cint 40 f_1_1), (h5, kAi cint 5 f5), (h6, kAi cint 40 f6), (h7, kAi cint 40 f7)] : va_W) ++ (kk_rowsI h8 cint 41 f_1_2 40 ++ (kk_rowsI h9 cint 41 F9 6))) H := hP
  have hD : va_D A (([(h0, kO6 h2 h3 h4 h5 n0_pieceCount), (h1, kO9 h6 h10 h7 n1_size), (h2, kAr cAint 40 (fun j => some (h8 j))), (h3, kAr cAint 6 (fun j => some (h9 j))), (h4, kAi cint 40 f_1_1), (h5, kAi cint 5 f5), (h6, kAi cint 40 f6), (h7, kAi cint 40 f7)] : va_W) ++ (kk_rowsI h8 cint 41 f_1_2 40 ++ (kk_rowsI h9 cint 41 F9 6))) := hD
  refine lv_iload_n hx hb dX6_divide_2 rfl (lv_at hl 0 rfl) ?_
  refine lv_aload_n hx hb dX6_divide_3 rfl (lv_at hl 2 rfl) ?_
  obtain ⟨hPc, hDc, hFc⟩ := kk_cutout (wc := [(h1, kO9 h6 h10 h7 n1_size)]) hP hD hS hA [1] (by decide) rfl
  have hKc := kk_Ks (tq := []) hK [] rfl
  refine va_calli (va_runV (As := []) (rest := [.int i_1_0]) ⟨hx, hb, hml, hown, hts⟩ (g_X9_size_0 l dC dI h1 h6 h10 h7 H.size n1_size tn1_size) (cwV 0 hts gX6_divide_X9_size rfl rfl rfl ⟨rfl, kh_X9_size⟩ ⟨Nat.le_of_ble_eq_true rfl, Nat.le_of_ble_eq_true rfl⟩) ⟨fun a U g mk q => by obtain ⟨q0, q1, qP, qK, qD⟩ := q; exact ⟨q0, q1, qP, va_K.moved (u := U) (U := U.calling g mk a) (Vm.Alike.refl U.vm) qK, qD⟩, va_recv hKc hPc (ci := 9) (q0 := 0) rfl rfl, fun U hU hW => ⟨rfl, by rw [hU], by rw [hU]; exact hPc, va_K.moved hW.alike hKc, hDc.weaken (fun _ _ _ _ => trivial)⟩⟩ rfl rfl hl.1 rfl (lv_room (Nat.le_of_ble_eq_true rfl)) dX6_divide_4 ⟨Nat.le_of_ble_eq_true rfl, Nat.le_of_ble_eq_true rfl⟩) hS (fun q _ h => hFc q h) hFc (fun r_2 u t H1 locs ht hvm hw hB hz1 hk1 hS => ?_)
  obtain ⟨hP1, hK1, hD1⟩ := hB
  rw [ht] at hP1
  have hK1 := va_K.moved hvm.symm hK1
  obtain ⟨hP, hD⟩ := va_joinQ (cx := [(h1, kO9 h6 h10 h7 n1_size)]) (wr := [(h0, kO6 h2 h3 h4 h5 n0_pieceCount), (h2, kAr cAint 40 (fun j => some (h8 j))), (h3, kAr cAint 6 (fun j => some (h9 j))), (h4, kAi cint 40 f_1_1), (h5, kAi cint 5 f5), (h6, kAi cint 40 f6), (h7, kAi cint 40 f7)]) (w1 := [(h1, kO9 h6 h10 h7 n1_size)]) hP hD [1] [0, 2, 3, 4, 5, 6, 7] rfl rfl (by decide) (by decide) hk1 hFc hP1 hD1
  generalize H1 = H at hP hS ⊢
  have hP : va_P (dC, dI) vwCl (([(h0, kO6 h2 h3 h4 h5 n0_pieceCount), (h2, kAr cAint 40 (fun j => some (h8 j))), (h3, kAr cAint 6 (fun j => some (h9 j))), (h4, kAi cint 40 f_1_1), (h5, kAi cint 5 f5), (h6, kAi cint 40 f6), (h7, kAi cint 40 f7), (h1, kO9 h6 h10 h7 n1_size)] : va_W) ++ (kk_rowsI h8 cint 41 f_1_2 40 ++ (kk_rowsI h9 cint 41 F9 6))) H := hP
  have hD : va_D A (([(h0, kO6 h2 h3 h4 h5 n0_pieceCount), (h2, kAr cAint 40 (fun j => some (h8 j))), (h3, kAr cAint 6 (fun j => some (h9 j))), (h4, kAi cint 40 f_1_1), (h5, kAi cint 5 f5), (h6, kAi cint 40 f6), (h7, kAi cint 40 f7), (h1, kO9 h6 h10 h7 n1_size)] : va_W) ++ (kk_rowsI h8 cint 41 f_1_2 40 ++ (kk_rowsI h9 cint 41 F9 6))) := hD
  obtain rfl := hw
  refine lv_icmp_ge (tgt := 41) hx hb dX6_divide_7 (by decide) (fun c_3 => ?_) (fun c_3 => ?_)
  · have t_3 : n1_size.toInt ≤ i_1_0.toInt := kk_le c_3
    refine lv_aload_n hx hb dX6_divide_41 rfl (lv_at hl 1 rfl) ?_
    refine lv_iconst (v := 1) hx hb dX6_divide_42 kk_ic_1 ?_
    refine va_put (D := (dC, dI)) (ci := 6) (v := .int 1) (ty := .int) (C := RX6) (T := TX6) (N := 5) hx hb hts (fun _ h => List.mem_cons_of_mem _ (List.mem_append_left _ (List.mem_append_right _ h))) tyX6 tyX6_ok nmX6 hown hK hP hD hS 0 rfl rfl 4 (by decide) (hts (.fieldLink RX6 40 "KinkStreet$Pieces" "pieceCount" "I") (List.mem_of_getElem? (i := 1) rfl)) (fun _ h9 => h9) rfl (by decide +kernel) rfl rfl (Nat.le_of_ble_eq_true rfl) dX6_divide_43 (fun H locs hP hD hS => ?_)
    have hP : va_P (dC, dI) vwCl (([(h0, kO6 h2 h3 h4 h5 1), (h2, kAr cAint 40 (fun j => some (h8 j))), (h3, kAr cAint 6 (fun j => some (h9 j))), (h4, kAi cint 40 f_1_1), (h5, kAi cint 5 f5), (h6, kAi cint 40 f6), (h7, kAi cint 40 f7), (h1, kO9 h6 h10 h7 n1_size)] : va_W) ++ (kk_rowsI h8 cint 41 f_1_2 40 ++ (kk_rowsI h9 cint 41 F9 6))) H := hP
    have hD : va_D A (([(h0, kO6 h2 h3 h4 h5 1), (h2, kAr cAint 40 (fun j => some (h8 j))), (h3, kAr cAint 6 (fun j => some (h9 j))), (h4, kAi cint 40 f_1_1), (h5, kAi cint 5 f5), (h6, kAi cint 40 f6), (h7, kAi cint 40 f7), (h1, kO9 h6 h10 h7 n1_size)] : va_W) ++ (kk_rowsI h8 cint 41 f_1_2 40 ++ (kk_rowsI h9 cint 41 F9 6))) := hD
    refine lv_iconst (v := 1) hx hb dX6_divide_46 kk_ic_1 ?_
    refine lv_istore_n hx hb dX6_divide_47 rfl hl (by decide) (rfl : _ = ([(3, .int 1), (0, .ref h0), (1, .ref h1), (2, .int p1)] : List (Nat × Value))) (fun ls hl => ?_)
    refine kk_loop (σ := Int32 × (Nat → Nat → Int32) × Int32) (fun x H locs ls => (1 ≤ x.1.toInt ∧ x.1.toInt ≤ 6) ∧ (0 ≤ x.2.2.toInt ∧ x.2.2.toInt ≤ 5) ∧ va_P (dC, dI) vwCl (([(h0, kO6 h2 h3 h4 h5 x.2.2), (h2, kAr cAint 40 (fun j => some (h8 j))), (h3, kAr cAint 6 (fun j => some (h9 j))), (h4, kAi cint 40 f_1_1), (h5, kAi cint 5 f5), (h6, kAi cint 40 f6), (h7, kAi cint 40 f7), (h1, kO9 h6 h10 h7 n1_size)] : va_W) ++ (kk_rowsI h8 cint 41 f_1_2 40 ++ (kk_rowsI h9 cint 41 x.2.1 6))) H ∧ va_D A (([(h0, kO6 h2 h3 h4 h5 x.2.2), (h2, kAr cAint 40 (fun j => some (h8 j))), (h3, kAr cAint 6 (fun j => some (h9 j))), (h4, kAi cint 40 f_1_1), (h5, kAi cint 5 f5), (h6, kAi cint 40 f6), (h7, kAi cint 40 f7), (h1, kO9 h6 h10 h7 n1_size)] : va_W) ++ (kk_rowsI h8 cint 41 f_1_2 40 ++ (kk_rowsI h9 cint 41 x.2.1 6))) ∧ va_S A s.heap H locs ∧ lv_has ls 4 [(3, .int x.1), (0, .ref h0), (1, .ref h1), (2, .int p1)]) (fun x => ((6 : Int) - x.1.toInt).toNat) ?_ (1, F9, 1) _ _ _ ⟨(by show 1 ≤ (1 : Int32).toInt ∧ (1 : Int32).toInt ≤ 6; first | decide | ((omega))), (by show 0 ≤ (1 : Int32).toInt ∧ (1 : Int32).toInt ≤ 5; first | decide | ((omega))), hP, hD, hS, hl⟩
    rintro ⟨i_4_0, f_4_1, i_4_2⟩ H locs ls ⟨t_4_0, t_4_2, hP, hD, hS, hl⟩ ih_4
    have t_4_0 : (1 ≤ i_4_0.toInt ∧ i_4_0.toInt ≤ 6) := t_4_0
    have t_4_2 : (0 ≤ i_4_2.toInt ∧ i_4_2.toInt ≤ 5) := t_4_2
    have hl : lv_has ls 4 [(3, .int i_4_0), (0, .ref h0), (1, .ref h1), (2, .int p1)] := hl
    have hP : va_P (dC, dI) vwCl (([(h0, kO6 h2 h3 h4 h5 i_4_2), (h2, kAr cAint 40 (fun j => some (h8 j))), (h3, kAr cAint 6 (fun j => some (h9 j))), (h4, kAi cint 40 f_1_1), (h5, kAi cint 5 f5), (h6, kAi cint 40 f6), (h7, kAi cint 40 f7), (h1, kO9 h6 h10 h7 n1_size)] : va_W) ++ (kk_rowsI h8 cint 41 f_1_2 40 ++ (kk_rowsI h9 cint 41 f_4_1 6))) H := hP
    have hD : va_D A (([(h0, kO6 h2 h3 h4 h5 i_4_2), (h2, kAr cAint 40 (fun j => some (h8 j))), (h3, kAr cAint 6 (fun j => some (h9 j))), (h4, kAi cint 40 f_1_1), (h5, kAi cint 5 f5), (h6, kAi cint 40 f6), (h7, kAi cint 40 f7), (h1, kO9 h6 h10 h7 n1_size)] : va_W) ++ (kk_rowsI h8 cint 41 f_1_2 40 ++ (kk_rowsI h9 cint 41 f_4_1 6))) := hD
    refine lv_iload_n hx hb dX6_divide_48 rfl (lv_at hl 0 rfl) ?_
    refine lv_iconst (v := 5) hx hb dX6_divide_49 kk_ic_5 ?_
    refine lv_icmp_gt (tgt := 95) hx hb dX6_divide_50 (by decide) (fun c_5 => ?_) (fun c_5 => ?_)
    · have t_5 : 5 < i_4_0.toInt := kk_lt c_5
      refine lv_aload_n hx hb dX6_divide_95 rfl (lv_at hl 1 rfl) ?_
      refine lv_aload_n hx hb dX6_divide_96 rfl (lv_at hl 2 rfl) ?_
      obtain ⟨hPc, hDc, hFc⟩ := kk_cutout (wc := [(h1, kO9 h6 h10 h7 n1_size)]) hP hD hS hA [7] (by decide) rfl
      have hKc := kk_Ks (tq := []) hK [] rfl
      refine va_calli (va_runV (As := []) (rest := [.ref h0]) ⟨hx, hb, hml, hown, hts⟩ (g_X9_size_0 l dC dI h1 h6 h10 h7 H.size n1_size tn1_size) (cwV 0 hts gX6_divide_X9_size rfl rfl rfl ⟨rfl, kh_X9_size⟩ ⟨Nat.le_of_ble_eq_true rfl, Nat.le_of_ble_eq_true rfl⟩) ⟨fun a U g mk q => by obtain ⟨q0, q1, qP, qK, qD⟩ := q; exact ⟨q0, q1, qP, va_K.moved (u := U) (U := U.calling g mk a) (Vm.Alike.refl U.vm) qK, qD⟩, va_recv hKc hPc (ci := 9) (q0 := 0) rfl rfl, fun U hU hW => ⟨rfl, by rw [hU], by rw [hU]; exact hPc, va_K.moved hW.alike hKc, hDc.weaken (fun _ _ _ _ => trivial)⟩⟩ rfl rfl hl.1 rfl (lv_room (Nat.le_of_ble_eq_true rfl)) dX6_divide_97 ⟨Nat.le_of_ble_eq_true rfl, Nat.le_of_ble_eq_true rfl⟩) hS (fun q _ h => hFc q h) hFc (fun r_6 u t H1 locs ht hvm hw hB hz1 hk1 hS => ?_)
      obtain ⟨hP1, hK1, hD1⟩ := hB
      rw [ht] at hP1
      have hK1 := va_K.moved hvm.symm hK1
      obtain ⟨hP, hD⟩ := va_joinQ (cx := [(h1, kO9 h6 h10 h7 n1_size)]) (wr := [(h0, kO6 h2 h3 h4 h5 i_4_2), (h2, kAr cAint 40 (fun j => some (h8 j))), (h3, kAr cAint 6 (fun j => some (h9 j))), (h4, kAi cint 40 f_1_1), (h5, kAi cint 5 f5), (h6, kAi cint 40 f6), (h7, kAi cint 40 f7)]) (w1 := [(h1, kO9 h6 h10 h7 n1_size)]) hP hD [7] [0, 1, 2, 3, 4, 5, 6] rfl rfl (by decide) (by decide) hk1 hFc hP1 hD1
      generalize H1 = H at hP hS ⊢
      have hP : va_P (dC, dI) vwCl (([(h0, kO6 h2 h3 h4 h5 i_4_2), (h2, kAr cAint 40 (fun j => some (h8 j))), (h3, kAr cAint 6 (fun j => some (h9 j))), (h4, kAi cint 40 f_1_1), (h5, kAi cint 5 f5), (h6, kAi cint 40 f6), (h7, kAi cint 40 f7), (h1, kO9 h6 h10 h7 n1_size)] : va_W) ++ (kk_rowsI h8 cint 41 f_1_2 40 ++ (kk_rowsI h9 cint 41 f_4_1 6))) H := hP
      have hD : va_D A (([(h0, kO6 h2 h3 h4 h5 i_4_2), (h2, kAr cAint 40 (fun j => some (h8 j))), (h3, kAr cAint 6 (fun j => some (h9 j))), (h4, kAi cint 40 f_1_1), (h5, kAi cint 5 f5), (h6, kAi cint 40 f6), (h7, kAi cint 40 f7), (h1, kO9 h6 h10 h7 n1_size)] : va_W) ++ (kk_rowsI h8 cint 41 f_1_2 40 ++ (kk_rowsI h9 cint 41 f_4_1 6))) := hD
      obtain rfl := hw
      have hPc := hP.part (cx := [(h0, kO6 h2 h3 h4 h5 i_4_2), (h2, kAr cAint 40 (fun j => some (h8 j))), (h3, kAr cAint 6 (fun j => some (h9 j))), (h5, kAi cint 5 f5)]) [0, 1, 2, 4] rfl
      have hDc := hD.part (cx := [(h0, kO6 h2 h3 h4 h5 i_4_2), (h2, kAr cAint 40 (fun j => some (h8 j))), (h3, kAr cAint 6 (fun j => some (h9 j))), (h5, kAi cint 5 f5)]) [0, 1, 2, 4] (by decide) rfl
      have hFc := va_freeP (cx := [(h0, kO6 h2 h3 h4 h5 i_4_2), (h2, kAr cAint 40 (fun j => some (h8 j))), (h3, kAr cAint 6 (fun j => some (h9 j))), (h5, kAi cint 5 f5)]) hD hS hA [0, 1, 2, 4] rfl
      have hKc := kk_Ks (tq := [(cAint, .array .int), (cint, .int)]) hK [0, 1] rfl
      refine va_callv (va_runV (As := [.int n1_size]) (rest := []) ⟨hx, hb, hml, hown, hts⟩ (g_X6_findBreaks_0 l dC dI h0 h2 h3 h5 h8 h9 h4 cAint cint H.size n1_size tn1_size i_4_2 f5 f_1_2 f_4_1 (by show 0 ≤ (i_4_2 : Int32).toInt ∧ (i_4_2 : Int32).toInt ≤ 5; first | decide | ((omega))) bf5) (cwV 1 hts gX6_divide_X6_findBreaks rfl rfl rfl ⟨rfl, kh_X6_findBreaks⟩ ⟨Nat.le_of_ble_eq_true rfl, Nat.le_of_ble_eq_true rfl⟩) ⟨fun a U g mk q => by obtain ⟨q0, q1, qP, qK, qD⟩ := q; exact ⟨q0, q1, qP, va_K.moved (u := U) (U := U.calling g mk a) (Vm.Alike.refl U.vm) qK, qD⟩, va_recv hKc hPc (ci := 6) (q0 := 0) rfl rfl, fun U hU hW => ⟨rfl, by rw [hU], by rw [hU]; exact hPc, va_K.moved hW.alike hKc, hDc.weaken (fun _ _ _ _ => trivial)⟩⟩ rfl rfl hl.1 rfl (lv_room (Nat.le_of_ble_eq_true rfl)) dX6_divide_100 ⟨Nat.le_of_ble_eq_true rfl, Nat.le_of_ble_eq_true rfl⟩) hS (fun q _ h => hFc q h) hFc (fun u t H1 locs ht hvm hw hB hz1 hk1 hS => ?_)
      refine hB.elim (fun f_8 hB => ?_)
      refine hB.elim (fun bf_8 hB => ?_)
      have hP1 := hB.1
      have hK1 := hB.2.1
      have hD1 := hB.2.2
      rw [ht] at hP1
      have hK1 := va_K.moved hvm.symm hK1
      obtain ⟨hP, hD⟩ := va_joinP (cx := [(h0, kO6 h2 h3 h4 h5 i_4_2), (h2, kAr cAint 40 (fun j => some (h8 j))), (h3, kAr cAint 6 (fun j => some (h9 j))), (h5, kAi cint 5 f5)]) (wr := [(h4, kAi cint 40 f_1_1), (h6, kAi cint 40 f6), (h7, kAi cint 40 f7), (h1, kO9 h6 h10 h7 n1_size)]) (rx := [(h0, kO6 h2 h3 h4 h5 i_4_2), (h2, kAr cAint 40 (fun j => some (h8 j))), (h3, kAr cAint 6 (fun j => some (h9 j))), (h5, kAi cint 5 f_8)]) hP hD [0, 1, 2, 4] [3, 5, 6, 7] rfl rfl (by decide) (by decide) hk1 hFc hP1 hD1
      generalize H1 = H at hP hS ⊢
      have hP : va_P (dC, dI) vwCl (([(h4, kAi cint 40 f_1_1), (h6, kAi cint 40 f6), (h7, kAi cint 40 f7), (h1, kO9 h6 h10 h7 n1_size), (h0, kO6 h2 h3 h4 h5 i_4_2), (h2, kAr cAint 40 (fun j => some (h8 j))), (h3, kAr cAint 6 (fun j => some (h9 j))), (h5, kAi cint 5 f_8)] : va_W) ++ (kk_rowsI h8 cint 41 f_1_2 40 ++ (kk_rowsI h9 cint 41 f_4_1 6))) H := hP
      have hD : va_D A (([(h4, kAi cint 40 f_1_1), (h6, kAi cint 40 f6), (h7, kAi cint 40 f7), (h1, kO9 h6 h10 h7 n1_size), (h0, kO6 h2 h3 h4 h5 i_4_2), (h2, kAr cAint 40 (fun j => some (h8 j))), (h3, kAr cAint 6 (fun j => some (h9 j))), (h5, kAi cint 5 f_8)] : va_W) ++ (kk_rowsI h8 cint 41 f_1_2 40 ++ (kk_rowsI h9 cint 41 f_4_1 6))) := hD
      have hP9 := hP.part (cx := [(h0, kO6 h2 h3 h4 h5 i_4_2), (h1, kO9 h6 h10 h7 n1_size), (h2, kAr cAint 40 (fun j => some (h8 j))), (h3, kAr cAint 6 (fun j => some (h9 j))), (h4, kAi cint 40 f_1_1), (h5, kAi cint 5 f_8), (h6, kAi cint 40 f6), (h7, kAi cint 40 f7)]) [4, 3, 5, 6, 0, 7, 1, 2] rfl
      have hD9 := hD.part (cx := [(h0, kO6 h2 h3 h4 h5 i_4_2), (h1, kO9 h6 h10 h7 n1_size), (h2, kAr cAint 40 (fun j => some (h8 j))), (h3, kAr cAint 6 (fun j => some (h9 j))), (h4, kAi cint 40 f_1_1), (h5, kAi cint 5 f_8), (h6, kAi cint 40 f6), (h7, kAi cint 40 f7)]) [4, 3, 5, 6, 0, 7, 1, 2] (by decide) rfl
      have hK9 := kk_Ks (tq := []) hK [] rfl
      exact W.vret hx hb hr (fun t ht hW => ⟨⟨(), rfl, trivial, i_4_2, f_1_1, f_8, f_1_2, f_4_1, (by show 0 ≤ (i_4_2 : Int32).toInt ∧ (i_4_2 : Int32).toInt ≤ 5; first | decide | ((omega))), bf_8, by rw [ht]; exact hP9, va_K.moved hW.alike hK9, hD9⟩, hS.F ht⟩) hS.2.2 dX6_divide_103
    · have t_5 : i_4_0.toInt ≤ 5 := kk_nlt c_5
      refine lv_aload_n hx hb dX6_divide_53 rfl (lv_at hl 1 rfl) ?_
      refine lv_aload_n hx hb dX6_divide_54 rfl (lv_at hl 2 rfl) ?_
      obtain ⟨hPc, hDc, hFc⟩ := kk_cutout (wc := [(h1, kO9 h6 h10 h7 n1_size)]) hP hD hS hA [7] (by decide) rfl
      have hKc := kk_Ks (tq := []) hK [] rfl
      refine va_calli (va_runV (As := []) (rest := [.ref h0]) ⟨hx, hb, hml, hown, hts⟩ (g_X9_size_0 l dC dI h1 h6 h10 h7 H.size n1_size tn1_size) (cwV 0 hts gX6_divide_X9_size rfl rfl rfl ⟨rfl, kh_X9_size⟩ ⟨Nat.le_of_ble_eq_true rfl, Nat.le_of_ble_eq_true rfl⟩) ⟨fun a U g mk q => by obtain ⟨q0, q1, qP, qK, qD⟩ := q; exact ⟨q0, q1, qP, va_K.moved (u := U) (U := U.calling g mk a) (Vm.Alike.refl U.vm) qK, qD⟩, va_recv hKc hPc (ci := 9) (q0 := 0) rfl rfl, fun U hU hW => ⟨rfl, by rw [hU], by rw [hU]; exact hPc, va_K.moved hW.alike hKc, hDc.weaken (fun _ _ _ _ => trivial)⟩⟩ rfl rfl hl.1 rfl (lv_room (Nat.le_of_ble_eq_true rfl)) dX6_divide_55 ⟨Nat.le_of_ble_eq_true rfl, Nat.le_of_ble_eq_true rfl⟩) hS (fun q _ h => hFc q h) hFc (fun r_9 u t H1 locs ht hvm hw hB hz1 hk1 hS => ?_)
      obtain ⟨hP1, hK1, hD1⟩ := hB
      rw [ht] at hP1
      have hK1 := va_K.moved hvm.symm hK1
      obtain ⟨hP, hD⟩ := va_joinQ (cx := [(h1, kO9 h6 h10 h7 n1_size)]) (wr := [(h0, kO6 h2 h3 h4 h5 i_4_2), (h2, kAr cAint 40 (fun j => some (h8 j))), (h3, kAr cAint 6 (fun j => some (h9 j))), (h4, kAi cint 40 f_1_1), (h5, kAi cint 5 f5), (h6, kAi cint 40 f6), (h7, kAi cint 40 f7)]) (w1 := [(h1, kO9 h6 h10 h7 n1_size)]) hP hD [7] [0, 1, 2, 3, 4, 5, 6] rfl rfl (by decide) (by decide) hk1 hFc hP1 hD1
      generalize H1 = H at hP hS ⊢
      have hP : va_P (dC, dI) vwCl (([(h0, kO6 h2 h3 h4 h5 i_4_2), (h2, kAr cAint 40 (fun j => some (h8 j))), (h3, kAr cAint 6 (fun j => some (h9 j))), (h4, kAi cint 40 f_1_1), (h5, kAi cint 5 f5), (h6, kAi cint 40 f6), (h7, kAi cint 40 f7), (h1, kO9 h6 h10 h7 n1_size)] : va_W) ++ (kk_rowsI h8 cint 41 f_1_2 40 ++ (kk_rowsI h9 cint 41 f_4_1 6))) H := hP
      have hD : va_D A (([(h0, kO6 h2 h3 h4 h5 i_4_2), (h2, kAr cAint 40 (fun j => some (h8 j))), (h3, kAr cAint 6 (fun j => some (h9 j))), (h4, kAi cint 40 f_1_1), (h5, kAi cint 5 f5), (h6, kAi cint 40 f6), (h7, kAi cint 40 f7), (h1, kO9 h6 h10 h7 n1_size)] : va_W) ++ (kk_rowsI h8 cint 41 f_1_2 40 ++ (kk_rowsI h9 cint 41 f_4_1 6))) := hD
      obtain rfl := hw
      refine lv_iload_n hx hb dX6_divide_58 rfl (lv_at hl 0 rfl) ?_
      have hPc := hP.part (cx := [(h0, kO6 h2 h3 h4 h5 i_4_2), (h2, kAr cAint 40 (fun j => some (h8 j))), (h3, kAr cAint 6 (fun j => some (h9 j)))]) [0, 1, 2] rfl
      have hDc := hD.part (cx := [(h0, kO6 h2 h3 h4 h5 i_4_2), (h2, kAr cAint 40 (fun j => some (h8 j))), (h3, kAr cAint 6 (fun j => some (h9 j)))]) [0, 1, 2] (by decide) rfl
      have hFc := va_freeP (cx := [(h0, kO6 h2 h3 h4 h5 i_4_2), (h2, kAr cAint 40 (fun j => some (h8 j))), (h3, kAr cAint 6 (fun j => some (h9 j)))]) hD hS hA [0, 1, 2] rfl
      have hKc := kk_Ks (tq := [(cAint, .array .int), (cint, .int)]) hK [0, 1] rfl
      refine va_callv (va_runV (As := [.int n1_size, .int i_4_0]) (rest := []) ⟨hx, hb, hml, hown, hts⟩ (g_X6_workOutSums_0 l dC dI h0 h2 h3 h8 h9 h4 h5 cAint cint H.size n1_size i_4_0 tn1_size (by show 1 ≤ (i_4_0 : Int32).toInt ∧ (i_4_0 : Int32).toInt ≤ 5; first | decide | ((omega))) i_4_2 f_1_2 f_4_1 (by show 0 ≤ (i_4_2 : Int32).toInt ∧ (i_4_2 : Int32).toInt ≤ 5; first | decide | ((omega)))) (cwV 2 hts gX6_divide_X6_workOutSums rfl rfl rfl ⟨rfl, kh_X6_workOutSums⟩ ⟨Nat.le_of_ble_eq_true rfl, Nat.le_of_ble_eq_true rfl⟩) ⟨fun a U g mk q => by obtain ⟨q0, q1, qP, qK, qD⟩ := q; exact ⟨q0, q1, qP, va_K.moved (u := U) (U := U.calling g mk a) (Vm.Alike.refl U.vm) qK, qD⟩, va_recv hKc hPc (ci := 6) (q0 := 0) rfl rfl, fun U hU hW => ⟨rfl, by rw [hU], by rw [hU]; exact hPc, va_K.moved hW.alike hKc, hDc.weaken (fun _ _ _ _ => trivial)⟩⟩ rfl rfl hl.1 rfl (lv_room (Nat.le_of_ble_eq_true rfl)) dX6_divide_59 ⟨Nat.le_of_ble_eq_true rfl, Nat.le_of_ble_eq_true rfl⟩) hS (fun q _ h => hFc q h) hFc (fun u t H1 locs ht hvm hw hB hz1 hk1 hS => ?_)
      obtain ⟨f_11, hP1, hK1, hD1⟩ := hB
      rw [ht] at hP1
      have hK1 := va_K.moved hvm.symm hK1
      obtain ⟨hP, hD⟩ := va_joinP (cx := [(h0, kO6 h2 h3 h4 h5 i_4_2), (h2, kAr cAint 40 (fun j => some (h8 j))), (h3, kAr cAint 6 (fun j => some (h9 j)))]) (wr := [(h4, kAi cint 40 f_1_1), (h5, kAi cint 5 f5), (h6, kAi cint 40 f6), (h7, kAi cint 40 f7), (h1, kO9 h6 h10 h7 n1_size)]) (rx := [(h0, kO6 h2 h3 h4 h5 i_4_2), (h2, kAr cAint 40 (fun j => some (h8 j))), (h3, kAr cAint 6 (fun j => some (h9 j)))]) hP hD [0, 1, 2] [3, 4, 5, 6, 7] rfl rfl (by decide) (by decide) hk1 hFc hP1 hD1
      generalize H1 = H at hP hS ⊢
      have hP : va_P (dC, dI) vwCl (([(h4, kAi cint 40 f_1_1), (h5, kAi cint 5 f5), (h6, kAi cint 40 f6), (h7, kAi cint 40 f7), (h1, kO9 h6 h10 h7 n1_size), (h0, kO6 h2 h3 h4 h5 i_4_2), (h2, kAr cAint 40 (fun j => some (h8 j))), (h3, kAr cAint 6 (fun j => some (h9 j)))] : va_W) ++ (kk_rowsI h8 cint 41 f_1_2 40 ++ (kk_rowsI h9 cint 41 f_11 6))) H := hP
      have hD : va_D A (([(h4, kAi cint 40 f_1_1), (h5, kAi cint 5 f5), (h6, kAi cint 40 f6), (h7, kAi cint 40 f7), (h1, kO9 h6 h10 h7 n1_size), (h0, kO6 h2 h3 h4 h5 i_4_2), (h2, kAr cAint 40 (fun j => some (h8 j))), (h3, kAr cAint 6 (fun j => some (h9 j)))] : va_W) ++ (kk_rowsI h8 cint 41 f_1_2 40 ++ (kk_rowsI h9 cint 41 f_11 6))) := hD
      refine lv_aload_n hx hb dX6_divide_62 rfl (lv_at hl 1 rfl) ?_
      refine va_get (D := (dC, dI)) (ci := 6) (v := .ref h3) (C := RX6) (T := TX6) (N := 5) hx hb hts (fun _ h => List.mem_cons_of_mem _ (List.mem_append_left _ (List.mem_append_right _ h))) hown hK hP 5 rfl rfl 1 (by decide) (hts (.fieldLink RX6 16 "KinkStreet$Pieces" "sums" "[[I") (List.mem_of_getElem? (i := 2) rfl)) (fun _ h9 => h9) rfl dX6_divide_63 ?_
      refine lv_iload_n hx hb dX6_divide_66 rfl (lv_at hl 0 rfl) ?_
      have hi_12 : vp_in (i_4_0 : Int32) 6 := (vp_in_iff.mpr ⟨by omega, by omega⟩)
      have hk_12 : (i_4_0 : Int32).toNatClampNeg < 6 := Nat.not_le.mp fun q => hi_12 (Or.inr q)
      refine kk_aald hx hb hK hP 7 0 rfl rfl hi_12 dX6_divide_67 ?_
      refine W.eq (g2 := F0 m 68 ls [.ref (h9 (i_4_0 : Int32).toNatClampNeg)]) rfl ?_
      refine lv_iconst (v := 0) hx hb dX6_divide_68 kk_ic_0 ?_
      refine va_iald hx hb hK hP _ 1 (kk_getr (kk_getr (kk_rowI hk_12))) rfl (by unfold vp_in; decide) dX6_divide_69 ?_
      refine lv_topi (fun y_13 e_13 => ?_)
      clear e_13
      refine lv_aload_n hx hb dX6_divide_70 rfl (lv_at hl 1 rfl) ?_
      refine va_get (D := (dC, dI)) (ci := 6) (v := .ref h3) (C := RX6) (T := TX6) (N := 5) hx hb hts (fun _ h => List.mem_cons_of_mem _ (List.mem_append_left _ (List.mem_append_right _ h))) hown hK hP 5 rfl rfl 1 (by decide) (hts (.fieldLink RX6 16 "KinkStreet$Pieces" "sums" "[[I") (List.mem_of_getElem? (i := 2) rfl)) (fun _ h9 => h9) rfl dX6_divide_71 ?_
      refine lv_aload_n hx hb dX6_divide_74 rfl (lv_at hl 1 rfl) ?_
      refine va_get (D := (dC, dI)) (ci := 6) (v := .int i_4_2) (C := RX6) (T := TX6) (N := 5) hx hb hts (fun _ h => List.mem_cons_of_mem _ (List.mem_append_left _ (List.mem_append_right _ h))) hown hK hP 5 rfl rfl 4 (by decide) (hts (.fieldLink RX6 40 "KinkStreet$Pieces" "pieceCount" "I") (List.mem_of_getElem? (i := 1) rfl)) (fun _ h9 => h9) rfl dX6_divide_75 ?_
      have hi_14 : vp_in (i_4_2 : Int32) 6 := (vp_in_iff.mpr ⟨by omega, by omega⟩)
      have hk_14 : (i_4_2 : Int32).toNatClampNeg < 6 := Nat.not_le.mp fun q => hi_14 (Or.inr q)
      refine kk_aald hx hb hK hP 7 0 rfl rfl hi_14 dX6_divide_78 ?_
      refine W.eq (g2 := F0 m 79 ls [.ref (h9 (i_4_2 : Int32).toNatClampNeg), .int y_13]) rfl ?_
      refine lv_iconst (v := 0) hx hb dX6_divide_79 kk_ic_0 ?_
      refine va_iald hx hb hK hP _ 1 (kk_getr (kk_getr (kk_rowI hk_14))) rfl (by unfold vp_in; decide) dX6_divide_80 ?_
      refine lv_topi (fun y_15 e_15 => ?_)
      clear e_15
      refine lv_icmp_ge (tgt := 89) hx hb dX6_divide_81 (by decide) (fun c_16 => ?_) (fun c_16 => ?_)
      · have t_16 : y_15.toInt ≤ y_13.toInt := kk_le c_16
        refine lv_iinc (v := (i_4_0 + 1)) hx hb dX6_divide_89 hl (k := 0) rfl (by first | rfl | decide) (by decide) (rfl : _ = ([(3, .int (i_4_0 + 1)), (0, .ref h0), (1, .ref h1), (2, .int p1)] : List (Nat × Value))) (fun ls hl => ?_)
        refine lv_goto (tgt := 48) hx hb dX6_divide_92 (by decide) ?_
        try have := kk_rng y_15
        try have := kk_rng y_13
        try have := kk_add2 (x := i_4_0) (y := 1) (a := i_4_0.toInt) (b := 1) rfl rfl (by omega) (by omega)
        exact ih_4 ((i_4_0 + 1), f_11, i_4_2) _ _ _ (by show ((6 : Int) - ((i_4_0 + 1)).toInt).toNat < ((6 : Int) - i_4_0.toInt).toNat; exact kk_mu (by omega) (by omega)) ⟨(by show 1 ≤ ((i_4_0 + 1) : Int32).toInt ∧ ((i_4_0 + 1) : Int32).toInt ≤ 6; first | decide | ((omega))), (by show 0 ≤ (i_4_2 : Int32).toInt ∧ (i_4_2 : Int32).toInt ≤ 5; first | decide | ((omega))), hP.part (cx := [(h0, kO6 h2 h3 h4 h5 i_4_2), (h2, kAr cAint 40 (fun j => some (h8 j))), (h3, kAr cAint 6 (fun j => some (h9 j))), (h4, kAi cint 40 f_1_1), (h5, kAi cint 5 f5), (h6, kAi cint 40 f6), (h7, kAi cint 40 f7), (h1, kO9 h6 h10 h7 n1_size)]) [5, 6, 7, 0, 1, 2, 3, 4] rfl, hD.part (cx := [(h0, kO6 h2 h3 h4 h5 i_4_2), (h2, kAr cAint 40 (fun j => some (h8 j))), (h3, kAr cAint 6 (fun j => some (h9 j))), (h4, kAi cint 40 f_1_1), (h5, kAi cint 5 f5), (h6, kAi cint 40 f6), (h7, kAi cint 40 f7), (h1, kO9 h6 h10 h7 n1_size)]) [5, 6, 7, 0, 1, 2, 3, 4] (by decide) rfl, hS, lv_sub hl [0, 1, 2, 3] rfl⟩
      · have t_16 : y_13.toInt < y_15.toInt := kk_nle c_16
        refine lv_aload_n hx hb dX6_divide_84 rfl (lv_at hl 1 rfl) ?_
        refine lv_iload_n hx hb dX6_divide_85 rfl (lv_at hl 0 rfl) ?_
        refine va_put (D := (dC, dI)) (ci := 6) (v := .int i_4_0) (ty := .int) (C := RX6) (T := TX6) (N := 5) hx hb hts (fun _ h => List.mem_cons_of_mem _ (List.mem_append_left _ (List.mem_append_right _ h))) tyX6 tyX6_ok nmX6 hown hK hP hD hS 5 rfl rfl 4 (by decide) (hts (.fieldLink RX6 40 "KinkStreet$Pieces" "pieceCount" "I") (List.mem_of_getElem? (i := 1) rfl)) (fun _ h9 => h9) rfl (by decide +kernel) rfl rfl (Nat.le_of_ble_eq_true rfl) dX6_divide_86 (fun H locs hP hD hS => ?_)
        have hP : va_P (dC, dI) vwCl (([(h4, kAi cint 40 f_1_1), (h5, kAi cint 5 f5), (h6, kAi cint 40 f6), (h7, kAi cint 40 f7), (h1, kO9 h6 h10 h7 n1_size), (h0, kO6 h2 h3 h4 h5 i_4_0), (h2, kAr cAint 40 (fun j => some (h8 j))), (h3, kAr cAint 6 (fun j => some (h9 j)))] : va_W) ++ (kk_rowsI h8 cint 41 f_1_2 40 ++ (kk_rowsI h9 cint 41 f_11 6))) H := hP
        have hD : va_D A (([(h4, kAi cint 40 f_1_1), (h5, kAi cint 5 f5), (h6, kAi cint 40 f6), (h7, kAi cint 40 f7), (h1, kO9 h6 h10 h7 n1_size), (h0, kO6 h2 h3 h4 h5 i_4_0), (h2, kAr cAint 40 (fun j => some (h8 j))), (h3, kAr cAint 6 (fun j => some (h9 j)))] : va_W) ++ (kk_rowsI h8 cint 41 f_1_2 40 ++ (kk_rowsI h9 cint 41 f_11 6))) := hD
        refine lv_iinc (v := (i_4_0 + 1)) hx hb dX6_divide_89 hl (k := 0) rfl (by first | rfl | decide) (by decide) (rfl : _ = ([(3, .int (i_4_0 + 1)), (0, .ref h0), (1, .ref h1), (2, .int p1)] : List (Nat × Value))) (fun ls hl => ?_)
        refine lv_goto (tgt := 48) hx hb dX6_divide_92 (by decide) ?_
        try have := kk_rng y_13
        try have := kk_rng y_15
        try have := kk_add2 (x := i_4_0) (y := 1) (a := i_4_0.toInt) (b := 1) rfl rfl (by omega) (by omega)
        exact ih_4 ((i_4_0 + 1), f_11, i_4_0) _ _ _ (by show ((6 : Int) - ((i_4_0 + 1)).toInt).toNat < ((6 : Int) - i_4_0.toInt).toNat; exact kk_mu (by omega) (by omega)) ⟨(by show 1 ≤ ((i_4_0 + 1) : Int32).toInt ∧ ((i_4_0 + 1) : Int32).toInt ≤ 6; first | decide | ((omega))), (by show 0 ≤ (i_4_0 : Int32).toInt ∧ (i_4_0 : Int32).toInt ≤ 5; first | decide | ((omega))), hP.part (cx := [(h0, kO6 h2 h3 h4 h5 i_4_0), (h2, kAr cAint 40 (fun j => some (h8 j))), (h3, kAr cAint 6 (fun j => some (h9 j))), (h4, kAi cint 40 f_1_1), (h5, kAi cint 5 f5), (h6, kAi cint 40 f6), (h7, kAi cint 40 f7), (h1, kO9 h6 h10 h7 n1_size)]) [5, 6, 7, 0, 1, 2, 3, 4] rfl, hD.part (cx := [(h0, kO6 h2 h3 h4 h5 i_4_0), (h2, kAr cAint 40 (fun j => some (h8 j))), (h3, kAr cAint 6 (fun j => some (h9 j))), (h4, kAi cint 40 f_1_1), (h5, kAi cint 5 f5), (h6, kAi cint 40 f6), (h7, kAi cint 40 f7), (h1, kO9 h6 h10 h7 n1_size)]) [5, 6, 7, 0, 1, 2, 3, 4] (by decide) rfl, hS, lv_sub hl [0, 1, 2, 3] rfl⟩
  · have t_3 : i_1_0.toInt < n1_size.toInt := kk_nle c_3
    refine lv_iload_n hx hb dX6_divide_10 rfl (lv_at hl 0 rfl) ?_
    refine lv_bipush (v := 40) hx hb dX6_divide_11 kk_bi_40 ?_
    refine lv_icmp_ge (tgt := 41) hx hb dX6_divide_13 (by decide) (fun c_17 => ?_) (fun c_17 => ?_)
    · have t_17 : 40 ≤ i_1_0.toInt := kk_le c_17
      exfalso; omega
    · have t_17 : i_1_0.toInt < 40 := kk_nle c_17
      refine lv_aload_n hx hb dX6_divide_16 rfl (lv_at hl 1 rfl) ?_
      refine lv_aload_n hx hb dX6_divide_17 rfl (lv_at hl 2 rfl) ?_
      refine lv_iload_n hx hb dX6_divide_18 rfl (lv_at hl 0 rfl) ?_
      refine lv_aload_n hx hb dX6_divide_19 rfl (lv_at hl 2 rfl) ?_
      refine lv_iload_n hx hb dX6_divide_20 rfl (lv_at hl 0 rfl) ?_
      obtain ⟨hPc, hDc, hFc⟩ := kk_cutout (wc := [(h1, kO9 h6 h10 h7 n1_size), (h7, kAi cint 40 f7)]) hP hD hS hA [7, 6] (by decide) rfl
      have hKc := kk_Ks (tq := [(cint, .int)]) hK [1] rfl
      refine va_calli (va_runV (As := [.int i_1_0]) (rest := [.int i_1_0, .ref h1, .ref h0]) ⟨hx, hb, hml, hown, hts⟩ (g_X9_aside_0 l dC dI h1 h7 h6 h10 cint H.size i_1_0 n1_size f7 tn1_size) (cwV 1 hts gX6_divide_X9_aside rfl rfl rfl ⟨rfl, kh_X9_aside⟩ ⟨Nat.le_of_ble_eq_true rfl, Nat.le_of_ble_eq_true rfl⟩) ⟨fun a U g mk q => by obtain ⟨q0, q1, qP, qK, qD⟩ := q; exact ⟨q0, q1, qP, va_K.moved (u := U) (U := U.calling g mk a) (Vm.Alike.refl U.vm) qK, qD⟩, va_recv hKc hPc (ci := 9) (q0 := 0) rfl rfl, fun U hU hW => ⟨rfl, by rw [hU], by rw [hU]; exact hPc, va_K.moved hW.alike hKc, hDc.weaken (fun _ _ _ _ => trivial)⟩⟩ rfl rfl hl.1 rfl (lv_room (Nat.le_of_ble_eq_true rfl)) dX6_divide_21 ⟨Nat.le_of_ble_eq_true rfl, Nat.le_of_ble_eq_true rfl⟩) hS (fun q _ h => hFc q h) hFc (fun r_18 u t H1 locs ht hvm hw hB hz1 hk1 hS => ?_)
      obtain ⟨hP1, hK1, hD1⟩ := hB
      rw [ht] at hP1
      have hK1 := va_K.moved hvm.symm hK1
      obtain ⟨hP, hD⟩ := va_joinQ (cx := [(h1, kO9 h6 h10 h7 n1_size), (h7, kAi cint 40 f7)]) (wr := [(h0, kO6 h2 h3 h4 h5 n0_pieceCount), (h2, kAr cAint 40 (fun j => some (h8 j))), (h3, kAr cAint 6 (fun j => some (h9 j))), (h4, kAi cint 40 f_1_1), (h5, kAi cint 5 f5), (h6, kAi cint 40 f6)]) (w1 := [(h1, kO9 h6 h10 h7 n1_size), (h7, kAi cint 40 f7)]) hP hD [7, 6] [0, 1, 2, 3, 4, 5] rfl rfl (by decide) (by decide) hk1 hFc hP1 hD1
      generalize H1 = H at hP hS ⊢
      have hP : va_P (dC, dI) vwCl (([(h0, kO6 h2 h3 h4 h5 n0_pieceCount), (h2, kAr cAint 40 (fun j => some (h8 j))), (h3, kAr cAint 6 (fun j => some (h9 j))), (h4, kAi cint 40 f_1_1), (h5, kAi cint 5 f5), (h6, kAi cint 40 f6), (h1, kO9 h6 h10 h7 n1_size), (h7, kAi cint 40 f7)] : va_W) ++ (kk_rowsI h8 cint 41 f_1_2 40 ++ (kk_rowsI h9 cint 41 F9 6))) H := hP
      have hD : va_D A (([(h0, kO6 h2 h3 h4 h5 n0_pieceCount), (h2, kAr cAint 40 (fun j => some (h8 j))), (h3, kAr cAint 6 (fun j => some (h9 j))), (h4, kAi cint 40 f_1_1), (h5, kAi cint 5 f5), (h6, kAi cint 40 f6), (h1, kO9 h6 h10 h7 n1_size), (h7, kAi cint 40 f7)] : va_W) ++ (kk_rowsI h8 cint 41 f_1_2 40 ++ (kk_rowsI h9 cint 41 F9 6))) := hD
      refine lv_if_ne (tgt := 31) hx hb dX6_divide_24 (by decide) (fun c_19 => ?_) (fun c_19 => ?_)
      · have t_19 : r_18.toInt ≠ 0 := kk_ne c_19
        refine lv_iconst (v := 0) hx hb dX6_divide_31 kk_ic_0 ?_
        have hPc := hP.part (cx := [(h0, kO6 h2 h3 h4 h5 n0_pieceCount), (h1, kO9 h6 h10 h7 n1_size), (h2, kAr cAint 40 (fun j => some (h8 j))), (h3, kAr cAint 6 (fun j => some (h9 j))), (h4, kAi cint 40 f_1_1), (h6, kAi cint 40 f6)]) [0, 6, 1, 2, 3, 5] rfl
        have hDc := hD.part (cx := [(h0, kO6 h2 h3 h4 h5 n0_pieceCount), (h1, kO9 h6 h10 h7 n1_size), (h2, kAr cAint 40 (fun j => some (h8 j))), (h3, kAr cAint 6 (fun j => some (h9 j))), (h4, kAi cint 40 f_1_1), (h6, kAi cint 40 f6)]) [0, 6, 1, 2, 3, 5] (by decide) rfl
        have hFc := va_freeP (cx := [(h0, kO6 h2 h3 h4 h5 n0_pieceCount), (h1, kO9 h6 h10 h7 n1_size), (h2, kAr cAint 40 (fun j => some (h8 j))), (h3, kAr cAint 6 (fun j => some (h9 j))), (h4, kAi cint 40 f_1_1), (h6, kAi cint 40 f6)]) hD hS hA [0, 6, 1, 2, 3, 5] rfl
        have hKc := kk_Ks (tq := [(cAint, .array .int), (cint, .int)]) hK [0, 1] rfl
        refine va_callv (va_runV (As := [.ref h1, .int i_1_0, .int 0]) (rest := []) ⟨hx, hb, hml, hown, hts⟩ (g_X6_workOutSpreads_0 l dC dI h0 h1 h2 h3 h4 h6 h8 h9 h5 h10 h7 cAint cint H.size i_1_0 0 (by show 0 ≤ (i_1_0 : Int32).toInt ∧ (i_1_0 : Int32).toInt ≤ 39; first | decide | ((omega))) n0_pieceCount n1_size f_1_1 f6 f_1_2 F9 tn0_pieceCount tn1_size) (cwV 3 hts gX6_divide_X6_workOutSpreads rfl rfl rfl ⟨rfl, kh_X6_workOutSpreads⟩ ⟨Nat.le_of_ble_eq_true rfl, Nat.le_of_ble_eq_true rfl⟩) ⟨fun a U g mk q => by obtain ⟨q0, q1, qP, qK, qD⟩ := q; exact ⟨q0, q1, qP, va_K.moved (u := U) (U := U.calling g mk a) (Vm.Alike.refl U.vm) qK, qD⟩, va_recv hKc hPc (ci := 6) (q0 := 0) rfl rfl, fun U hU hW => ⟨rfl, by rw [hU], by rw [hU]; exact hPc, va_K.moved hW.alike hKc, hDc.weaken (fun _ _ _ _ => trivial)⟩⟩ rfl rfl hl.1 rfl (lv_room (Nat.le_of_ble_eq_true rfl)) dX6_divide_32 ⟨Nat.le_of_ble_eq_true rfl, Nat.le_of_ble_eq_true rfl⟩) hS (fun q _ h => hFc q h) hFc (fun u t H1 locs ht hvm hw hB hz1 hk1 hS => ?_)
        refine hB.elim (fun f_21 hB => ?_)
        refine hB.elim (fun f_22 hB => ?_)
        have hP1 := hB.1
        have hK1 := hB.2.1
        have hD1 := hB.2.2
        rw [ht] at hP1
        have hK1 := va_K.moved hvm.symm hK1
        obtain ⟨hP, hD⟩ := va_joinP (cx := [(h0, kO6 h2 h3 h4 h5 n0_pieceCount), (h1, kO9 h6 h10 h7 n1_size), (h2, kAr cAint 40 (fun j => some (h8 j))), (h3, kAr cAint 6 (fun j => some (h9 j))), (h4, kAi cint 40 f_1_1), (h6, kAi cint 40 f6)]) (wr := [(h5, kAi cint 5 f5), (h7, kAi cint 40 f7)]) (rx := [(h0, kO6 h2 h3 h4 h5 n0_pieceCount), (h1, kO9 h6 h10 h7 n1_size), (h2, kAr cAint 40 (fun j => some (h8 j))), (h3, kAr cAint 6 (fun j => some (h9 j))), (h4, kAi cint 40 f_21), (h6, kAi cint 40 f6)]) hP hD [0, 6, 1, 2, 3, 5] [4, 7] rfl rfl (by decide) (by decide) hk1 hFc hP1 hD1
        generalize H1 = H at hP hS ⊢
        have hP : va_P (dC, dI) vwCl (([(h5, kAi cint 5 f5), (h7, kAi cint 40 f7), (h0, kO6 h2 h3 h4 h5 n0_pieceCount), (h1, kO9 h6 h10 h7 n1_size), (h2, kAr cAint 40 (fun j => some (h8 j))), (h3, kAr cAint 6 (fun j => some (h9 j))), (h4, kAi cint 40 f_21), (h6, kAi cint 40 f6)] : va_W) ++ (kk_rowsI h8 cint 41 f_22 40 ++ (kk_rowsI h9 cint 41 F9 6))) H := hP
        have hD : va_D A (([(h5, kAi cint 5 f5), (h7, kAi cint 40 f7), (h0, kO6 h2 h3 h4 h5 n0_pieceCount), (h1, kO9 h6 h10 h7 n1_size), (h2, kAr cAint 40 (fun j => some (h8 j))), (h3, kAr cAint 6 (fun j => some (h9 j))), (h4, kAi cint 40 f_21), (h6, kAi cint 40 f6)] : va_W) ++ (kk_rowsI h8 cint 41 f_22 40 ++ (kk_rowsI h9 cint 41 F9 6))) := hD
        refine lv_iinc (v := (i_1_0 + 1)) hx hb dX6_divide_35 hl (k := 0) rfl (by first | rfl | decide) (by decide) (rfl : _ = ([(3, .int (i_1_0 + 1)), (0, .ref h0), (1, .ref h1), (2, .int p1)] : List (Nat × Value))) (fun ls hl => ?_)
        refine lv_goto (tgt := 2) hx hb dX6_divide_38 (by decide) ?_
        try have := kk_add2 (x := i_1_0) (y := 1) (a := i_1_0.toInt) (b := 1) rfl rfl (by omega) (by omega)
        exact ih_1 ((i_1_0 + 1), f_21, f_22) _ _ _ (by show ((40 : Int) - ((i_1_0 + 1)).toInt).toNat < ((40 : Int) - i_1_0.toInt).toNat; exact kk_mu (by omega) (by omega)) ⟨(by show 0 ≤ ((i_1_0 + 1) : Int32).toInt ∧ ((i_1_0 + 1) : Int32).toInt ≤ 40; first | decide | ((omega))), hP.part (cx := [(h0, kO6 h2 h3 h4 h5 n0_pieceCount), (h1, kO9 h6 h10 h7 n1_size), (h2, kAr cAint 40 (fun j => some (h8 j))), (h3, kAr cAint 6 (fun j => some (h9 j))), (h4, kAi cint 40 f_21), (h5, kAi cint 5 f5), (h6, kAi cint 40 f6), (h7, kAi cint 40 f7)]) [2, 3, 4, 5, 6, 0, 7, 1] rfl, hD.part (cx := [(h0, kO6 h2 h3 h4 h5 n0_pieceCount), (h1, kO9 h6 h10 h7 n1_size), (h2, kAr cAint 40 (fun j => some (h8 j))), (h3, kAr cAint 6 (fun j => some (h9 j))), (h4, kAi cint 40 f_21), (h5, kAi cint 5 f5), (h6, kAi cint 40 f6), (h7, kAi cint 40 f7)]) [2, 3, 4, 5, 6, 0, 7, 1] (by decide) rfl, hS, lv_sub hl [0, 1, 2, 3] rfl⟩
      · have t_19 : r_18.toInt = 0 := kk_eq c_19
        refine lv_iload_n hx hb dX6_divide_27 rfl (lv_at hl 3 rfl) ?_
        refine lv_goto (tgt := 32) hx hb dX6_divide_28 (by decide) ?_
        have hPc := hP.part (cx := [(h0, kO6 h2 h3 h4 h5 n0_pieceCount), (h1, kO9 h6 h10 h7 n1_size), (h2, kAr cAint 40 (fun j => some (h8 j))), (h3, kAr cAint 6 (fun j => some (h9 j))), (h4, kAi cint 40 f_1_1), (h6, kAi cint 40 f6)]) [0, 6, 1, 2, 3, 5] rfl
        have hDc := hD.part (cx := [(h0, kO6 h2 h3 h4 h5 n0_pieceCount), (h1, kO9 h6 h10 h7 n1_size), (h2, kAr cAint 40 (fun j => some (h8 j))), (h3, kAr cAint 6 (fun j => some (h9 j))), (h4, kAi cint 40 f_1_1), (h6, kAi cint 40 f6)]) [0, 6, 1, 2, 3, 5] (by decide) rfl
        have hFc := va_freeP (cx := [(h0, kO6 h2 h3 h4 h5 n0_pieceCount), (h1, kO9 h6 h10 h7 n1_size), (h2, kAr cAint 40 (fun j => some (h8 j))), (h3, kAr cAint 6 (fun j => some (h9 j))), (h4, kAi cint 40 f_1_1), (h6, kAi cint 40 f6)]) hD hS hA [0, 6, 1, 2, 3, 5] rfl
        have hKc := kk_Ks (tq := [(cAint, .array .int), (cint, .int)]) hK [0, 1] rfl
        refine va_callv (va_runV (As := [.ref h1, .int i_1_0, .int p1]) (rest := []) ⟨hx, hb, hml, hown, hts⟩ (g_X6_workOutSpreads_0 l dC dI h0 h1 h2 h3 h4 h6 h8 h9 h5 h10 h7 cAint cint H.size i_1_0 p1 (by show 0 ≤ (i_1_0 : Int32).toInt ∧ (i_1_0 : Int32).toInt ≤ 39; first | decide | ((omega))) n0_pieceCount n1_size f_1_1 f6 f_1_2 F9 tn0_pieceCount tn1_size) (cwV 3 hts gX6_divide_X6_workOutSpreads rfl rfl rfl ⟨rfl, kh_X6_workOutSpreads⟩ ⟨Nat.le_of_ble_eq_true rfl, Nat.le_of_ble_eq_true rfl⟩) ⟨fun a U g mk q => by obtain ⟨q0, q1, qP, qK, qD⟩ := q; exact ⟨q0, q1, qP, va_K.moved (u := U) (U := U.calling g mk a) (Vm.Alike.refl U.vm) qK, qD⟩, va_recv hKc hPc (ci := 6) (q0 := 0) rfl rfl, fun U hU hW => ⟨rfl, by rw [hU], by rw [hU]; exact hPc, va_K.moved hW.alike hKc, hDc.weaken (fun _ _ _ _ => trivial)⟩⟩ rfl rfl hl.1 rfl (lv_room (Nat.le_of_ble_eq_true rfl)) dX6_divide_32 ⟨Nat.le_of_ble_eq_true rfl, Nat.le_of_ble_eq_true rfl⟩) hS (fun q _ h => hFc q h) hFc (fun u t H1 locs ht hvm hw hB hz1 hk1 hS => ?_)
        refine hB.elim (fun f_24 hB => ?_)
        refine hB.elim (fun f_25 hB => ?_)
        have hP1 := hB.1
        have hK1 := hB.2.1
        have hD1 := hB.2.2
        rw [ht] at hP1
        have hK1 := va_K.moved hvm.symm hK1
        obtain ⟨hP, hD⟩ := va_joinP (cx := [(h0, kO6 h2 h3 h4 h5 n0_pieceCount), (h1, kO9 h6 h10 h7 n1_size), (h2, kAr cAint 40 (fun j => some (h8 j))), (h3, kAr cAint 6 (fun j => some (h9 j))), (h4, kAi cint 40 f_1_1), (h6, kAi cint 40 f6)]) (wr := [(h5, kAi cint 5 f5), (h7, kAi cint 40 f7)]) (rx := [(h0, kO6 h2 h3 h4 h5 n0_pieceCount), (h1, kO9 h6 h10 h7 n1_size), (h2, kAr cAint 40 (fun j => some (h8 j))), (h3, kAr cAint 6 (fun j => some (h9 j))), (h4, kAi cint 40 f_24), (h6, kAi cint 40 f6)]) hP hD [0, 6, 1, 2, 3, 5] [4, 7] rfl rfl (by decide) (by decide) hk1 hFc hP1 hD1
        generalize H1 = H at hP hS ⊢
        have hP : va_P (dC, dI) vwCl (([(h5, kAi cint 5 f5), (h7, kAi cint 40 f7), (h0, kO6 h2 h3 h4 h5 n0_pieceCount), (h1, kO9 h6 h10 h7 n1_size), (h2, kAr cAint 40 (fun j => some (h8 j))), (h3, kAr cAint 6 (fun j => some (h9 j))), (h4, kAi cint 40 f_24), (h6, kAi cint 40 f6)] : va_W) ++ (kk_rowsI h8 cint 41 f_25 40 ++ (kk_rowsI h9 cint 41 F9 6))) H := hP
        have hD : va_D A (([(h5, kAi cint 5 f5), (h7, kAi cint 40 f7), (h0, kO6 h2 h3 h4 h5 n0_pieceCount), (h1, kO9 h6 h10 h7 n1_size), (h2, kAr cAint 40 (fun j => some (h8 j))), (h3, kAr cAint 6 (fun j => some (h9 j))), (h4, kAi cint 40 f_24), (h6, kAi cint 40 f6)] : va_W) ++ (kk_rowsI h8 cint 41 f_25 40 ++ (kk_rowsI h9 cint 41 F9 6))) := hD
        refine lv_iinc (v := (i_1_0 + 1)) hx hb dX6_divide_35 hl (k := 0) rfl (by first | rfl | decide) (by decide) (rfl : _ = ([(3, .int (i_1_0 + 1)), (0, .ref h0), (1, .ref h1), (2, .int p1)] : List (Nat × Value))) (fun ls hl => ?_)
        refine lv_goto (tgt := 2) hx hb dX6_divide_38 (by decide) ?_
        try have := kk_add2 (x := i_1_0) (y := 1) (a := i_1_0.toInt) (b := 1) rfl rfl (by omega) (by omega)
        exact ih_1 ((i_1_0 + 1), f_24, f_25) _ _ _ (by show ((40 : Int) - ((i_1_0 + 1)).toInt).toNat < ((40 : Int) - i_1_0.toInt).toNat; exact kk_mu (by omega) (by omega)) ⟨(by show 0 ≤ ((i_1_0 + 1) : Int32).toInt ∧ ((i_1_0 + 1) : Int32).toInt ≤ 40; first | decide | ((omega))), hP.part (cx := [(h0, kO6 h2 h3 h4 h5 n0_pieceCount), (h1, kO9 h6 h10 h7 n1_size), (h2, kAr cAint 40 (fun j => some (h8 j))), (h3, kAr cAint 6 (fun j => some (h9 j))), (h4, kAi cint 40 f_24), (h5, kAi cint 5 f5), (h6, kAi cint 40 f6), (h7, kAi cint 40 f7)]) [2, 3, 4, 5, 6, 0, 7, 1] rfl, hD.part (cx := [(h0, kO6 h2 h3 h4 h5 n0_pieceCount), (h1, kO9 h6 h10 h7 n1_size), (h2, kAr cAint 40 (fun j => some (h8 j))), (h3, kAr cAint 6 (fun j => some (h9 j))), (h4, kAi cint 40 f_24), (h5, kAi cint 5 f5), (h6, kAi cint 40 f6), (h7, kAi cint 40 f7)]) [2, 3, 4, 5, 6, 0, 7, 1] (by decide) rfl, hS, lv_sub hl [0, 1, 2, 3] rfl⟩
set_option maxHeartbeats 4000000 in
set_option maxRecDepth 100000 in
theorem g_X11_pieces_0 (l : Launch) (dC : Nat → ClassId) (dI : Nat → Nat → Nat) (h0 : Nat) (h1 : Nat) (h2 : Nat) (h3 : Nat) (h4 : Nat) (h5 : Nat) (h6 : Nat) (h7 : Nat) (h8 : Nat) (h9 : Nat) (h10 : Nat → Nat) (h11 : Nat → Nat) (h12 : Nat) (h13 : Nat) (h14 : Nat) (h15 : Nat) (h16 : Nat) (h17 : Nat) (h18 : Nat) (h19 : Nat) (h20 : Nat) (h21 : Nat) (h22 : Nat) (cOStreet cAint cint : ClassId) (sz : Nat) (p0 : Int32) (p1 : Int32) (p2 : Int32) (n0_streetCount : Int32) (n0_lawCount : Int32) (f1 : Nat → Option Nat) (n2_pieceCount : Int32) (n3_size : Int32) (f6 : Nat → Int32) (f7 : Nat → Int32) (f8 : Nat → Int32) (f9 : Nat → Int32) (F10 : Nat → Nat → Int32) (F11 : Nat → Nat → Int32) (qf1_0 : 0 ≤ p0.toInt → p0.toInt < 6 → f1 (p0 : Int32).toNatClampNeg = some h3) (tn0_streetCount : kk_bx (0 ≤ n0_streetCount.toInt ∧ n0_streetCount.toInt ≤ 6)) (tn0_lawCount : kk_bx (0 ≤ n0_lawCount.toInt ∧ n0_lawCount.toInt ≤ 4)) (tn2_pieceCount : kk_bx (0 ≤ n2_pieceCount.toInt ∧ n2_pieceCount.toInt ≤ 5)) (tn3_size : 0 ≤ n3_size.toInt ∧ n3_size.toInt ≤ 40) (bf7 : ∀ j : Nat, j < 5 → 0 ≤ (f7 j).toInt ∧ (f7 j).toInt ≤ 40 + 2 * (j : Int)) : Met l yX11_pieces wsX11_pieces ({ frames := 4, cells := 0, slots := 0, locals := 95 }) (va_Pc [.ref h0, .int p0, .int p1, .int p2] (fun U => U.heap.size = sz ∧ va_P (dC, dI) vwCl (([(h0, kO11 h1 n0_streetCount h12 h13 h14 h15 h2 h16 h17 h18 h19 n0_lawCount h20 h21), (h1, kAr cOStreet 6 f1), (h2, kO6 h4 h5 h6 h7 n2_pieceCount), (h3, kO9 h8 h22 h9 n3_size), (h4, kAr cAint 40 (fun j => some (h10 j))), (h5, kAr cAint 6 (fun j => some (h11 j))), (h6, kAi cint 40 f6), (h7, kAi cint 5 f7), (h8, kAi cint 40 f8), (h9, kAi cint 40 f9)] : va_W) ++ (kk_rowsI h10 cint 41 F10 40 ++ (kk_rowsI h11 cint 41 F11 6))) U.heap ∧ va_K (dC, dI) vwCl [(cOStreet, .object "KinkStreet$Street"), (cAint, .array .int), (cint, .int)] U ∧ va_D (fun _ => True) (([(h0, kO11 h1 n0_streetCount h12 h13 h14 h15 h2 h16 h17 h18 h19 n0_lawCount h20 h21), (h1, kAr cOStreet 6 f1), (h2, kO6 h4 h5 h6 h7 n2_pieceCount), (h3, kO9 h8 h22 h9 n3_size), (h4, kAr cAint 40 (fun j => some (h10 j))), (h5, kAr cAint 6 (fun j => some (h11 j))), (h6, kAi cint 40 f6), (h7, kAi cint 5 f7), (h8, kAi cint 40 f8), (h9, kAi cint 40 f9)] : va_W) ++ (kk_rowsI h10 cint 41 F10 40 ++ (kk_rowsI h11 cint 41 F11 6))))) (va_Qi (fun (r : Int32) (_ : Unit) => True) (fun (_ : Unit) t => ∃ (m2_pieceCount : Int32) (g6 : Nat → Int32) (g7 : Nat → Int32) (g10 : Nat → Nat → Int32) (g11 : Nat → Nat → Int32), (0 ≤ m2_pieceCount.toInt ∧ m2_pieceCount.toInt ≤ 5) ∧ (∀ j : Nat, j < 5 → 0 ≤ (g7 j).toInt ∧ (g7 j).toInt ≤ 40 + 2 * (j : Int)) ∧ va_P (dC, dI) vwCl (([(h0, kO11 h1 n0_streetCount h12 h13 h14 h15 h2 h16 h17 h18 h19 n0_lawCount h20 h21), (h1, kAr cOStreet 6 f1), (h2, kO6 h4 h5 h6 h7 m2_pieceCount), (h3, kO9 h8 h22 h9 n3_size), (h4, kAr cAint 40 (fun j => some (h10 j))), (h5, kAr cAint 6 (fun j => some (h11 j))), (h6, kAi cint 40 g6), (h7, kAi cint 5 g7), (h8, kAi cint 40 f8), (h9, kAi cint 40 f9)] : va_W) ++ (kk_rowsI h10 cint 41 g10 40 ++ (kk_rowsI h11 cint 41 g11 6))) t.heap ∧ va_K (dC, dI) vwCl [] t ∧ va_D (va_A (([(h0, kO11 h1 n0_streetCount h12 h13 h14 h15 h2 h16 h17 h18 h19 n0_lawCount h20 h21), (h1, kAr cOStreet 6 f1), (h2, kO6 h4 h5 h6 h7 n2_pieceCount), (h3, kO9 h8 h22 h9 n3_size), (h4, kAr cAint 40 (fun j => some (h10 j))), (h5, kAr cAint 6 (fun j => some (h11 j))), (h6, kAi cint 40 f6), (h7, kAi cint 5 f7), (h8, kAi cint 40 f8), (h9, kAi cint 40 f9)] : va_W) ++ (kk_rowsI h10 cint 41 F10 40 ++ (kk_rowsI h11 cint 41 F11 6))) sz) (([(h0, kO11 h1 n0_streetCount h12 h13 h14 h15 h2 h16 h17 h18 h19 n0_lawCount h20 h21), (h1, kAr cOStreet 6 f1), (h2, kO6 h4 h5 h6 h7 m2_pieceCount), (h3, kO9 h8 h22 h9 n3_size), (h4, kAr cAint 40 (fun j => some (h10 j))), (h5, kAr cAint 6 (fun j => some (h11 j))), (h6, kAi cint 40 g6), (h7, kAi cint 5 g7), (h8, kAi cint 40 f8), (h9, kAi cint 40 f9)] : va_W) ++ (kk_rowsI h10 cint 41 g10 40 ++ (kk_rowsI h11 cint 41 g11 6)))) (va_A (([(h0, kO11 h1 n0_streetCount h12 h13 h14 h15 h2 h16 h17 h18 h19 n0_lawCount h20 h21), (h1, kAr cOStreet 6 f1), (h2, kO6 h4 h5 h6 h7 n2_pieceCount), (h3, kO9 h8 h22 h9 n3_size), (h4, kAr cAint 40 (fun j => some (h10 j))), (h5, kAr cAint 6 (fun j => some (h11 j))), (h6, kAi cint 40 f6), (h7, kAi cint 5 f7), (h8, kAi cint 40 f8), (h9, kAi cint 40 f9)] : va_W) ++ (kk_rowsI h10 cint 41 F10 40 ++ (kk_rowsI h11 cint 41 F11 6))) sz)) 0 0 (va_A (([(h0, kO11 h1 n0_streetCount h12 h13 h14 h15 h2 h16 h17 h18 h19 n0_lawCount h20 h21), (h1, kAr cOStreet 6 f1), (h2, kO6 h4 h5 h6 h7 n2_pieceCount), (h3, kO9 h8 h22 h9 n3_size), (h4, kAr cAint 40 (fun j => some (h10 j))), (h5, kAr cAint 6 (fun j => some (h11 j))), (h6, kAi cint 40 f6), (h7, kAi cint 5 f7), (h8, kAi cint 40 f8), (h9, kAi cint 40 f9)] : va_W) ++ (kk_rowsI h10 cint 41 F10 40 ++ (kk_rowsI h11 cint 41 F11 6))) sz) := by
  refine Met.ofW (cc := cX11_pieces) (maxL := 5) (ret := (some .int)) (by decide) rfl ?_
  intro p e s m args below meth c s₁ B hml hv
  obtain ⟨rfl, hsz, hP, hK, hD0⟩ := hv
  have hx := B.exec
  have hb := B.bytes
  have hr := B.returns
  have hts := atoms_spec (ws := wsX11_pieces) B.pre
  have hown : s.vm.findClass RX11 = some m.cls := findClass_of_methodNamed B.named
  have hlocks := B.notSynchronized
  subst hsz
  have hD := hD0.self (sz := s.heap.size)
  generalize hAe : va_A (([(h0, kO11 h1 n0_streetCount h12 h13 h14 h15 h2 h16 h17 h18 h19 n0_lawCount h20 h21), (h1, kAr cOStreet 6 f1), (h2, kO6 h4 h5 h6 h7 n2_pieceCount), (h3, kO9 h8 h22 h9 n3_size), (h4, kAr cAint 40 (fun j => some (h10 j))), (h5, kAr cAint 6 (fun j => some (h11 j))), (h6, kAi cint 40 f6), (h7, kAi cint 5 f7), (h8, kAi cint 40 f8), (h9, kAi cint 40 f9)] : va_W) ++ (kk_rowsI h10 cint 41 F10 40 ++ (kk_rowsI h11 cint 41 F11 6))) s.heap.size = A at hD ⊢
  have hA : ∀ q : Nat, s.heap.size ≤ q → A q := fun q h => by rw [← hAe]; exact Or.inr h
  have hS : va_S A s.heap s.heap [] := va_S.rf
  have hP : va_P (dC, dI) vwCl (([(h0, kO11 h1 n0_streetCount h12 h13 h14 h15 h2 h16 h17 h18 h19 n0_lawCount h20 h21), (h1, kAr cOStreet 6 f1), (h2, kO6 h4 h5 h6 h7 n2_pieceCount), (h3, kO9 h8 h22 h9 n3_size), (h4, kAr cAint 40 (fun j => some (h10 j))), (h5, kAr cAint 6 (fun j => some (h11 j))), (h6, kAi cint 40 f6), (h7, kAi cint 5 f7), (h8, kAi cint 40 f8), (h9, kAi cint 40 f9)] : va_W) ++ (kk_rowsI h10 cint 41 F10 40 ++ (kk_rowsI h11 cint 41 F11 6))) s.heap := hP
  have hl := lv_entry ([.ref h0, .int p0, .int p1, .int p2]) (n := 5) (Nat.le_of_ble_eq_true rfl)
  rw [lg_entry_eq]
  generalize (lg_sl ([.ref h0, .int p0, .int p1, .int p2]) ++ List.replicate (5 - (lg_sl ([.ref h0, .int p0, .int p1, .int p2])).length) Slot.unset).toArray = ls at hl ⊢
  have hl : lv_has ls 5 [(0, .ref h0), (1, .int p0), (2, .int p1), (3, .int p2)] := hl
  refine lv_aload_n hx hb dX11_pieces_0 rfl (lv_at hl 0 rfl) ?_
  refine lv_iload_n hx hb dX11_pieces_1 rfl (lv_at hl 1 rfl) ?_
  obtain ⟨hPc, hDc, hFc⟩ := kk_cutout (wc := [(h0, kO11 h1 n0_streetCount h12 h13 h14 h15 h2 h16 h17 h18 h19 n0_lawCount h20 h21), (h1, kAr cOStreet 6 f1)]) hP hD hS hA [0, 1] (by decide) rfl
  have hKc := kk_Ks (tq := [(cOStreet, .object "KinkStreet$Street")]) hK [0] rfl
  refine va_callq (va_runV (As := [.int p0]) (rest := []) ⟨hx, hb, hml, hown, hts⟩ (g_X11_knownStreet_0 l dC dI h0 h1 h12 h13 h14 h15 h2 h16 h17 h18 h19 h20 h21 h3 cOStreet s.heap.size p0 n0_streetCount n0_lawCount f1 qf1_0 tn0_streetCount tn0_lawCount) (cwV 1 hts gX11_pieces_X11_knownStreet rfl rfl rfl ⟨rfl, kh_X11_knownStreet⟩ ⟨Nat.le_of_ble_eq_true rfl, Nat.le_of_ble_eq_true rfl⟩) ⟨fun a U g mk q => by obtain ⟨q0, q1, qP, qK, qD⟩ := q; exact ⟨q0, q1, qP, va_K.moved (u := U) (U := U.calling g mk a) (Vm.Alike.refl U.vm) qK, qD⟩, va_recv hKc hPc (ci := 11) (q0 := 0) rfl rfl, fun U hU hW => ⟨rfl, by rw [hU], by rw [hU]; exact hPc, va_K.moved hW.alike hKc, hDc.weaken (fun _ _ _ _ => trivial)⟩⟩ rfl rfl hl.1 rfl (lv_room (Nat.le_of_ble_eq_true rfl)) dX11_pieces_2 ⟨Nat.le_of_ble_eq_true rfl, Nat.le_of_ble_eq_true rfl⟩) hS (fun q _ h => hFc q h) hFc (fun r_1 u t H1 locs ht hvm hw hB hz1 hk1 hS => ?_)
  obtain ⟨hP1, hK1, hD1⟩ := hB
  rw [ht] at hP1
  have hK1 := va_K.moved hvm.symm hK1
  obtain ⟨hP, hD⟩ := va_joinQ (cx := [(h0, kO11 h1 n0_streetCount h12 h13 h14 h15 h2 h16 h17 h18 h19 n0_lawCount h20 h21), (h1, kAr cOStreet 6 f1)]) (wr := [(h2, kO6 h4 h5 h6 h7 n2_pieceCount), (h3, kO9 h8 h22 h9 n3_size), (h4, kAr cAint 40 (fun j => some (h10 j))), (h5, kAr cAint 6 (fun j => some (h11 j))), (h6, kAi cint 40 f6), (h7, kAi cint 5 f7), (h8, kAi cint 40 f8), (h9, kAi cint 40 f9)]) (w1 := [(h0, kO11 h1 n0_streetCount h12 h13 h14 h15 h2 h16 h17 h18 h19 n0_lawCount h20 h21), (h1, kAr cOStreet 6 f1)]) hP hD [0, 1] [2, 3, 4, 5, 6, 7, 8, 9] rfl rfl (by decide) (by decide) hk1 hFc hP1 hD1
  generalize H1 = H at hP hS ⊢
  have hP : va_P (dC, dI) vwCl (([(h2, kO6 h4 h5 h6 h7 n2_pieceCount), (h3, kO9 h8 h22 h9 n3_size), (h4, kAr cAint 40 (fun j => some (h10 j))), (h5, kAr cAint 6 (fun j => some (h11 j))), (h6, kAi cint 40 f6), (h7, kAi cint 5 f7), (h8, kAi cint 40 f8), (h9, kAi cint 40 f9), (h0, kO11 h1 n0_streetCount h12 h13 h14 h15 h2 h16 h17 h18 h19 n0_lawCount h20 h21), (h1, kAr cOStreet 6 f1)] : va_W) ++ (kk_rowsI h10 cint 41 F10 40 ++ (kk_rowsI h11 cint 41 F11 6))) H := hP
  have hD : va_D A (([(h2, kO6 h4 h5 h6 h7 n2_pieceCount), (h3, kO9 h8 h22 h9 n3_size), (h4, kAr cAint 40 (fun j => some (h10 j))), (h5, kAr cAint 6 (fun j => some (h11 j))), (h6, kAi cint 40 f6), (h7, kAi cint 5 f7), (h8, kAi cint 40 f8), (h9, kAi cint 40 f9), (h0, kO11 h1 n0_streetCount h12 h13 h14 h15 h2 h16 h17 h18 h19 n0_lawCount h20 h21), (h1, kAr cOStreet 6 f1)] : va_W) ++ (kk_rowsI h10 cint 41 F10 40 ++ (kk_rowsI h11 cint 41 F11 6))) := hD
  rcases hw with ⟨rfl⟩ | ⟨t_1_0, t_1_1, t_1_2, rfl⟩
  · skip
    refine W.eq (g2 := F0 m 5 ls [.null]) rfl ?_
    refine lv_astoreN hx hb dX11_pieces_5 hl (by decide) (rfl : _ = ([(4, .null), (0, .ref h0), (1, .int p0), (2, .int p1), (3, .int p2)] : List (Nat × Value))) (fun ls hl => ?_)
    refine lv_aloadN hx hb dX11_pieces_7 (lv_at hl 0 rfl) ?_
    refine lv_ifnullN (tgt := 34) hx hb dX11_pieces_9 (by decide) ?_
    refine lv_iconst (v := (-1)) hx hb dX11_pieces_34 kk_ic_m1 ?_
    have hP9 := hP.part (cx := [(h0, kO11 h1 n0_streetCount h12 h13 h14 h15 h2 h16 h17 h18 h19 n0_lawCount h20 h21), (h1, kAr cOStreet 6 f1), (h2, kO6 h4 h5 h6 h7 n2_pieceCount), (h3, kO9 h8 h22 h9 n3_size), (h4, kAr cAint 40 (fun j => some (h10 j))), (h5, kAr cAint 6 (fun j => some (h11 j))), (h6, kAi cint 40 f6), (h7, kAi cint 5 f7), (h8, kAi cint 40 f8), (h9, kAi cint 40 f9)]) [8, 9, 0, 1, 2, 3, 4, 5, 6, 7] rfl
    have hD9 := hD.part (cx := [(h0, kO11 h1 n0_streetCount h12 h13 h14 h15 h2 h16 h17 h18 h19 n0_lawCount h20 h21), (h1, kAr cOStreet 6 f1), (h2, kO6 h4 h5 h6 h7 n2_pieceCount), (h3, kO9 h8 h22 h9 n3_size), (h4, kAr cAint 40 (fun j => some (h10 j))), (h5, kAr cAint 6 (fun j => some (h11 j))), (h6, kAi cint 40 f6), (h7, kAi cint 5 f7), (h8, kAi cint 40 f8), (h9, kAi cint 40 f9)]) [8, 9, 0, 1, 2, 3, 4, 5, 6, 7] (by decide) rfl
    have hK9 := kk_Ks (tq := []) hK [] rfl
    exact W.iret (v := (-1)) hx hb hr (fun t ht hW => ⟨⟨(-1), (), rfl, trivial, n2_pieceCount, f6, f7, F10, F11, tn2_pieceCount, bf7, by rw [ht]; exact hP9, va_K.moved hW.alike hK9, hD9⟩, hS.F ht⟩) hS.2.2 dX11_pieces_35
  · skip
    have t_1_0 : (0 : Int) ≤ p0.toInt := t_1_0
    have t_1_2 : (p0.toInt : Int) < 6 := t_1_2
    refine W.eq (g2 := F0 m 5 ls [.ref h3]) rfl ?_
    refine lv_astore hx hb dX11_pieces_5 hl (by decide) (rfl : _ = ([(4, .ref h3), (0, .ref h0), (1, .int p0), (2, .int p1), (3, .int p2)] : List (Nat × Value))) (fun ls hl => ?_)
    refine lv_aload hx hb dX11_pieces_7 (lv_at hl 0 rfl) ?_
    refine lv_ifnull hx hb dX11_pieces_9 ?_
    refine lv_iload_n hx hb dX11_pieces_12 rfl (lv_at hl 3 rfl) ?_
    refine lv_if_lt (tgt := 34) hx hb dX11_pieces_13 (by decide) (fun c_2 => ?_) (fun c_2 => ?_)
    · have t_2 : p1.toInt < 0 := kk_lt c_2
      refine lv_iconst (v := (-1)) hx hb dX11_pieces_34 kk_ic_m1 ?_
      have hP9 := hP.part (cx := [(h0, kO11 h1 n0_streetCount h12 h13 h14 h15 h2 h16 h17 h18 h19 n0_lawCount h20 h21), (h1, kAr cOStreet 6 f1), (h2, kO6 h4 h5 h6 h7 n2_pieceCount), (h3, kO9 h8 h22 h9 n3_size), (h4, kAr cAint 40 (fun j => some (h10 j))), (h5, kAr cAint 6 (fun j => some (h11 j))), (h6, kAi cint 40 f6), (h7, kAi cint 5 f7), (h8, kAi cint 40 f8), (h9, kAi cint 40 f9)]) [8, 9, 0, 1, 2, 3, 4, 5, 6, 7] rfl
      have hD9 := hD.part (cx := [(h0, kO11 h1 n0_streetCount h12 h13 h14 h15 h2 h16 h17 h18 h19 n0_lawCount h20 h21), (h1, kAr cOStreet 6 f1), (h2, kO6 h4 h5 h6 h7 n2_pieceCount), (h3, kO9 h8 h22 h9 n3_size), (h4, kAr cAint 40 (fun j => some (h10 j))), (h5, kAr cAint 6 (fun j => some (h11 j))), (h6, kAi cint 40 f6), (h7, kAi cint 5 f7), (h8, kAi cint 40 f8), (h9, kAi cint 40 f9)]) [8, 9, 0, 1, 2, 3, 4, 5, 6, 7] (by decide) rfl
      have hK9 := kk_Ks (tq := []) hK [] rfl
      exact W.iret (v := (-1)) hx hb hr (fun t ht hW => ⟨⟨(-1), (), rfl, trivial, n2_pieceCount, f6, f7, F10, F11, tn2_pieceCount, bf7, by rw [ht]; exact hP9, va_K.moved hW.alike hK9, hD9⟩, hS.F ht⟩) hS.2.2 dX11_pieces_35
    · have t_2 : 0 ≤ p1.toInt := kk_nlt c_2
      refine lv_iload_n hx hb dX11_pieces_16 rfl (lv_at hl 3 rfl) ?_
      refine lv_sipush (v := 9999) hx hb dX11_pieces_17 kk_si_9999 ?_
      refine lv_icmp_gt (tgt := 34) hx hb dX11_pieces_20 (by decide) (fun c_3 => ?_) (fun c_3 => ?_)
      · have t_3 : 9999 < p1.toInt := kk_lt c_3
        refine lv_iconst (v := (-1)) hx hb dX11_pieces_34 kk_ic_m1 ?_
        have hP9 := hP.part (cx := [(h0, kO11 h1 n0_streetCount h12 h13 h14 h15 h2 h16 h17 h18 h19 n0_lawCount h20 h21), (h1, kAr cOStreet 6 f1), (h2, kO6 h4 h5 h6 h7 n2_pieceCount), (h3, kO9 h8 h22 h9 n3_size), (h4, kAr cAint 40 (fun j => some (h10 j))), (h5, kAr cAint 6 (fun j => some (h11 j))), (h6, kAi cint 40 f6), (h7, kAi cint 5 f7), (h8, kAi cint 40 f8), (h9, kAi cint 40 f9)]) [8, 9, 0, 1, 2, 3, 4, 5, 6, 7] rfl
        have hD9 := hD.part (cx := [(h0, kO11 h1 n0_streetCount h12 h13 h14 h15 h2 h16 h17 h18 h19 n0_lawCount h20 h21), (h1, kAr cOStreet 6 f1), (h2, kO6 h4 h5 h6 h7 n2_pieceCount), (h3, kO9 h8 h22 h9 n3_size), (h4, kAr cAint 40 (fun j => some (h10 j))), (h5, kAr cAint 6 (fun j => some (h11 j))), (h6, kAi cint 40 f6), (h7, kAi cint 5 f7), (h8, kAi cint 40 f8), (h9, kAi cint 40 f9)]) [8, 9, 0, 1, 2, 3, 4, 5, 6, 7] (by decide) rfl
        have hK9 := kk_Ks (tq := []) hK [] rfl
        exact W.iret (v := (-1)) hx hb hr (fun t ht hW => ⟨⟨(-1), (), rfl, trivial, n2_pieceCount, f6, f7, F10, F11, tn2_pieceCount, bf7, by rw [ht]; exact hP9, va_K.moved hW.alike hK9, hD9⟩, hS.F ht⟩) hS.2.2 dX11_pieces_35
      · have t_3 : p1.toInt ≤ 9999 := kk_nlt c_3
        refine lv_iload_n hx hb dX11_pieces_23 rfl (lv_at hl 4 rfl) ?_
        refine lv_bipush (v := (-2)) hx hb dX11_pieces_24 kk_bi_m2 ?_
        refine lv_icmp_lt (tgt := 34) hx hb dX11_pieces_26 (by decide) (fun c_4 => ?_) (fun c_4 => ?_)
        · have t_4 : p2.toInt < (-2) := kk_lt c_4
          refine lv_iconst (v := (-1)) hx hb dX11_pieces_34 kk_ic_m1 ?_
          have hP9 := hP.part (cx := [(h0, kO11 h1 n0_streetCount h12 h13 h14 h15 h2 h16 h17 h18 h19 n0_lawCount h20 h21), (h1, kAr cOStreet 6 f1), (h2, kO6 h4 h5 h6 h7 n2_pieceCount), (h3, kO9 h8 h22 h9 n3_size), (h4, kAr cAint 40 (fun j => some (h10 j))), (h5, kAr cAint 6 (fun j => some (h11 j))), (h6, kAi cint 40 f6), (h7, kAi cint 5 f7), (h8, kAi cint 40 f8), (h9, kAi cint 40 f9)]) [8, 9, 0, 1, 2, 3, 4, 5, 6, 7] rfl
          have hD9 := hD.part (cx := [(h0, kO11 h1 n0_streetCount h12 h13 h14 h15 h2 h16 h17 h18 h19 n0_lawCount h20 h21), (h1, kAr cOStreet 6 f1), (h2, kO6 h4 h5 h6 h7 n2_pieceCount), (h3, kO9 h8 h22 h9 n3_size), (h4, kAr cAint 40 (fun j => some (h10 j))), (h5, kAr cAint 6 (fun j => some (h11 j))), (h6, kAi cint 40 f6), (h7, kAi cint 5 f7), (h8, kAi cint 40 f8), (h9, kAi cint 40 f9)]) [8, 9, 0, 1, 2, 3, 4, 5, 6, 7] (by decide) rfl
          have hK9 := kk_Ks (tq := []) hK [] rfl
          exact W.iret (v := (-1)) hx hb hr (fun t ht hW => ⟨⟨(-1), (), rfl, trivial, n2_pieceCount, f6, f7, F10, F11, tn2_pieceCount, bf7, by rw [ht]; exact hP9, va_K.moved hW.alike hK9, hD9⟩, hS.F ht⟩) hS.2.2 dX11_pieces_35
        · have t_4 : (-2) ≤ p2.toInt := kk_nlt c_4
          refine lv_iload_n hx hb dX11_pieces_29 rfl (lv_at hl 4 rfl) ?_
          refine lv_iconst (v := 5) hx hb dX11_pieces_30 kk_ic_5 ?_
          refine lv_icmp_lt (tgt := 36) hx hb dX11_pieces_31 (by decide) (fun c_5 => ?_) (fun c_5 => ?_)
          · have t_5 : p2.toInt < 5 := kk_lt c_5
            refine lv_aload hx hb dX11_pieces_36 (lv_at hl 0 rfl) ?_
            obtain ⟨hPc, hDc, hFc⟩ := kk_cutout (wc := [(h3, kO9 h8 h22 h9 n3_size)]) hP hD hS hA [1] (by decide) rfl
            have hKc := kk_Ks (tq := []) hK [] rfl
            refine va_calli (va_runV (As := []) (rest := []) ⟨hx, hb, hml, hown, hts⟩ (g_X9_size_0 l dC dI h3 h8 h22 h9 H.size n3_size tn3_size) (cwV 0 hts gX11_pieces_X9_size rfl rfl rfl ⟨rfl, kh_X9_size⟩ ⟨Nat.le_of_ble_eq_true rfl, Nat.le_of_ble_eq_true rfl⟩) ⟨fun a U g mk q => by obtain ⟨q0, q1, qP, qK, qD⟩ := q; exact ⟨q0, q1, qP, va_K.moved (u := U) (U := U.calling g mk a) (Vm.Alike.refl U.vm) qK, qD⟩, va_recv hKc hPc (ci := 9) (q0 := 0) rfl rfl, fun U hU hW => ⟨rfl, by rw [hU], by rw [hU]; exact hPc, va_K.moved hW.alike hKc, hDc.weaken (fun _ _ _ _ => trivial)⟩⟩ rfl rfl hl.1 rfl (lv_room (Nat.le_of_ble_eq_true rfl)) dX11_pieces_38 ⟨Nat.le_of_ble_eq_true rfl, Nat.le_of_ble_eq_true rfl⟩) hS (fun q _ h => hFc q h) hFc (fun r_6 u t H1 locs ht hvm hw hB hz1 hk1 hS => ?_)
            obtain ⟨hP1, hK1, hD1⟩ := hB
            rw [ht] at hP1
            have hK1 := va_K.moved hvm.symm hK1
            obtain ⟨hP, hD⟩ := va_joinQ (cx := [(h3, kO9 h8 h22 h9 n3_size)]) (wr := [(h2, kO6 h4 h5 h6 h7 n2_pieceCount), (h4, kAr cAint 40 (fun j => some (h10 j))), (h5, kAr cAint 6 (fun j => some (h11 j))), (h6, kAi cint 40 f6), (h7, kAi cint 5 f7), (h8, kAi cint 40 f8), (h9, kAi cint 40 f9), (h0, kO11 h1 n0_streetCount h12 h13 h14 h15 h2 h16 h17 h18 h19 n0_lawCount h20 h21), (h1, kAr cOStreet 6 f1)]) (w1 := [(h3, kO9 h8 h22 h9 n3_size)]) hP hD [1] [0, 2, 3, 4, 5, 6, 7, 8, 9] rfl rfl (by decide) (by decide) hk1 hFc hP1 hD1
            generalize H1 = H at hP hS ⊢
            have hP : va_P (dC, dI) vwCl (([(h2, kO6 h4 h5 h6 h7 n2_pieceCount), (h4, kAr cAint 40 (fun j => some (h10 j))), (h5, kAr cAint 6 (fun j => some (h11 j))), (h6, kAi cint 40 f6), (h7, kAi cint 5 f7), (h8, kAi cint 40 f8), (h9, kAi cint 40 f9), (h0, kO11 h1 n0_streetCount h12 h13 h14 h15 h2 h16 h17 h18 h19 n0_lawCount h20 h21), (h1, kAr cOStreet 6 f1), (h3, kO9 h8 h22 h9 n3_size)] : va_W) ++ (kk_rowsI h10 cint 41 F10 40 ++ (kk_rowsI h11 cint 41 F11 6))) H := hP
            have hD : va_D A (([(h2, kO6 h4 h5 h6 h7 n2_pieceCount), (h4, kAr cAint 40 (fun j => some (h10 j))), (h5, kAr cAint 6 (fun j => some (h11 j))), (h6, kAi cint 40 f6), (h7, kAi cint 5 f7), (h8, kAi cint 40 f8), (h9, kAi cint 40 f9), (h0, kO11 h1 n0_streetCount h12 h13 h14 h15 h2 h16 h17 h18 h19 n0_lawCount h20 h21), (h1, kAr cOStreet 6 f1), (h3, kO9 h8 h22 h9 n3_size)] : va_W) ++ (kk_rowsI h10 cint 41 F10 40 ++ (kk_rowsI h11 cint 41 F11 6))) := hD
            obtain rfl := hw
            refine lv_iconst (v := 2) hx hb dX11_pieces_41 kk_ic_2 ?_
            refine lv_icmp_ge (tgt := 48) hx hb dX11_pieces_42 (by decide) (fun c_7 => ?_) (fun c_7 => ?_)
            · have t_7 : 2 ≤ n3_size.toInt := kk_le c_7
              refine lv_aload_n hx hb dX11_pieces_48 rfl (lv_at hl 1 rfl) ?_
              refine va_get (D := (dC, dI)) (ci := 11) (v := .ref h2) (C := RX11) (T := TX11) (N := 14) hx hb hts (fun _ h => List.mem_cons_of_mem _ (List.mem_append_left _ (List.mem_append_left _ (List.mem_append_right _ h)))) hown hK hP 7 rfl rfl 6 (by decide) (hts (.fieldLink RX11 44 "KinkStreet" "partedPieces" "LKinkStreet$Pieces;") (List.mem_of_getElem? (i := 1) rfl)) (fun _ h9 => h9) rfl dX11_pieces_49 ?_
              refine lv_aload hx hb dX11_pieces_52 (lv_at hl 0 rfl) ?_
              refine lv_iload_n hx hb dX11_pieces_54 rfl (lv_at hl 3 rfl) ?_
              have hPc := hP.part (cx := [(h2, kO6 h4 h5 h6 h7 n2_pieceCount), (h3, kO9 h8 h22 h9 n3_size), (h4, kAr cAint 40 (fun j => some (h10 j))), (h5, kAr cAint 6 (fun j => some (h11 j))), (h6, kAi cint 40 f6), (h7, kAi cint 5 f7), (h8, kAi cint 40 f8), (h9, kAi cint 40 f9)]) [0, 9, 1, 2, 3, 4, 5, 6] rfl
              have hDc := hD.part (cx := [(h2, kO6 h4 h5 h6 h7 n2_pieceCount), (h3, kO9 h8 h22 h9 n3_size), (h4, kAr cAint 40 (fun j => some (h10 j))), (h5, kAr cAint 6 (fun j => some (h11 j))), (h6, kAi cint 40 f6), (h7, kAi cint 5 f7), (h8, kAi cint 40 f8), (h9, kAi cint 40 f9)]) [0, 9, 1, 2, 3, 4, 5, 6] (by decide) rfl
              have hFc := va_freeP (cx := [(h2, kO6 h4 h5 h6 h7 n2_pieceCount), (h3, kO9 h8 h22 h9 n3_size), (h4, kAr cAint 40 (fun j => some (h10 j))), (h5, kAr cAint 6 (fun j => some (h11 j))), (h6, kAi cint 40 f6), (h7, kAi cint 5 f7), (h8, kAi cint 40 f8), (h9, kAi cint 40 f9)]) hD hS hA [0, 9, 1, 2, 3, 4, 5, 6] rfl
              have hKc := kk_Ks (tq := [(cAint, .array .int), (cint, .int)]) hK [1, 2] rfl
              refine va_callv (va_runV (As := [.ref h3, .int p1]) (rest := []) ⟨hx, hb, hml, hown, hts⟩ (g_X6_divide_0 l dC dI h2 h3 h4 h5 h6 h7 h8 h9 h10 h11 h22 cAint cint H.size p1 n2_pieceCount n3_size f6 f7 f8 f9 F10 F11 tn2_pieceCount tn3_size bf7) (cwV 2 hts gX11_pieces_X6_divide rfl rfl rfl ⟨rfl, kh_X6_divide⟩ ⟨Nat.le_of_ble_eq_true rfl, Nat.le_of_ble_eq_true rfl⟩) ⟨fun a U g mk q => by obtain ⟨q0, q1, qP, qK, qD⟩ := q; exact ⟨q0, q1, qP, va_K.moved (u := U) (U := U.calling g mk a) (Vm.Alike.refl U.vm) qK, qD⟩, va_recv hKc hPc (ci := 6) (q0 := 0) rfl rfl, fun U hU hW => ⟨rfl, by rw [hU], by rw [hU]; exact hPc, va_K.moved hW.alike hKc, hDc.weaken (fun _ _ _ _ => trivial)⟩⟩ rfl rfl hl.1 rfl (lv_room (Nat.le_of_ble_eq_true rfl)) dX11_pieces_55 ⟨Nat.le_of_ble_eq_true rfl, Nat.le_of_ble_eq_true rfl⟩) hS (fun q _ h => hFc q h) hFc (fun u t H1 locs ht hvm hw hB hz1 hk1 hS => ?_)
              refine hB.elim (fun y_9 hB => ?_)
              refine hB.elim (fun f_10 hB => ?_)
              refine hB.elim (fun f_11 hB => ?_)
              refine hB.elim (fun f_12 hB => ?_)
              refine hB.elim (fun f_13 hB => ?_)
              refine hB.elim (fun by_9 hB => ?_)
              refine hB.elim (fun bf_11 hB => ?_)
              have hP1 := hB.1
              have hK1 := hB.2.1
              have hD1 := hB.2.2
              rw [ht] at hP1
              have hK1 := va_K.moved hvm.symm hK1
              obtain ⟨hP, hD⟩ := va_joinP (cx := [(h2, kO6 h4 h5 h6 h7 n2_pieceCount), (h3, kO9 h8 h22 h9 n3_size), (h4, kAr cAint 40 (fun j => some (h10 j))), (h5, kAr cAint 6 (fun j => some (h11 j))), (h6, kAi cint 40 f6), (h7, kAi cint 5 f7), (h8, kAi cint 40 f8), (h9, kAi cint 40 f9)]) (wr := [(h0, kO11 h1 n0_streetCount h12 h13 h14 h15 h2 h16 h17 h18 h19 n0_lawCount h20 h21), (h1, kAr cOStreet 6 f1)]) (rx := [(h2, kO6 h4 h5 h6 h7 y_9), (h3, kO9 h8 h22 h9 n3_size), (h4, kAr cAint 40 (fun j => some (h10 j))), (h5, kAr cAint 6 (fun j => some (h11 j))), (h6, kAi cint 40 f_10), (h7, kAi cint 5 f_11), (h8, kAi cint 40 f8), (h9, kAi cint 40 f9)]) hP hD [0, 9, 1, 2, 3, 4, 5, 6] [7, 8] rfl rfl (by decide) (by decide) hk1 hFc hP1 hD1
              generalize H1 = H at hP hS ⊢
              have hP : va_P (dC, dI) vwCl (([(h0, kO11 h1 n0_streetCount h12 h13 h14 h15 h2 h16 h17 h18 h19 n0_lawCount h20 h21), (h1, kAr cOStreet 6 f1), (h2, kO6 h4 h5 h6 h7 y_9), (h3, kO9 h8 h22 h9 n3_size), (h4, kAr cAint 40 (fun j => some (h10 j))), (h5, kAr cAint 6 (fun j => some (h11 j))), (h6, kAi cint 40 f_10), (h7, kAi cint 5 f_11), (h8, kAi cint 40 f8), (h9, kAi cint 40 f9)] : va_W) ++ (kk_rowsI h10 cint 41 f_12 40 ++ (kk_rowsI h11 cint 41 f_13 6))) H := hP
              have hD : va_D A (([(h0, kO11 h1 n0_streetCount h12 h13 h14 h15 h2 h16 h17 h18 h19 n0_lawCount h20 h21), (h1, kAr cOStreet 6 f1), (h2, kO6 h4 h5 h6 h7 y_9), (h3, kO9 h8 h22 h9 n3_size), (h4, kAr cAint 40 (fun j => some (h10 j))), (h5, kAr cAint 6 (fun j => some (h11 j))), (h6, kAi cint 40 f_10), (h7, kAi cint 5 f_11), (h8, kAi cint 40 f8), (h9, kAi cint 40 f9)] : va_W) ++ (kk_rowsI h10 cint 41 f_12 40 ++ (kk_rowsI h11 cint 41 f_13 6))) := hD
              refine lv_iload_n hx hb dX11_pieces_58 rfl (lv_at hl 4 rfl) ?_
              refine lv_if_ge (tgt := 86) hx hb dX11_pieces_59 (by decide) (fun c_14 => ?_) (fun c_14 => ?_)
              · have t_14 : 0 ≤ p2.toInt := kk_le c_14
                refine lv_iload_n hx hb dX11_pieces_86 rfl (lv_at hl 4 rfl) ?_
                refine lv_aload_n hx hb dX11_pieces_87 rfl (lv_at hl 1 rfl) ?_
                refine va_get (D := (dC, dI)) (ci := 11) (v := .ref h2) (C := RX11) (T := TX11) (N := 14) hx hb hts (fun _ h => List.mem_cons_of_mem _ (List.mem_append_left _ (List.mem_append_left _ (List.mem_append_right _ h)))) hown hK hP 0 rfl rfl 6 (by decide) (hts (.fieldLink RX11 44 "KinkStreet" "partedPieces" "LKinkStreet$Pieces;") (List.mem_of_getElem? (i := 1) rfl)) (fun _ h9 => h9) rfl dX11_pieces_88 ?_
                obtain ⟨hPc, hDc, hFc⟩ := kk_cutout (wc := [(h2, kO6 h4 h5 h6 h7 y_9)]) hP hD hS hA [2] (by decide) rfl
                have hKc := kk_Ks (tq := []) hK [] rfl
                refine va_calli (va_runV (As := []) (rest := [.int p2]) ⟨hx, hb, hml, hown, hts⟩ (g_X6_howMany_0 l dC dI h2 h4 h5 h6 h7 H.size y_9 (by show 0 ≤ (y_9 : Int32).toInt ∧ (y_9 : Int32).toInt ≤ 5; first | decide | ((omega)))) (cwV 0 hts gX11_pieces_X6_howMany rfl rfl rfl ⟨rfl, kh_X6_howMany⟩ ⟨Nat.le_of_ble_eq_true rfl, Nat.le_of_ble_eq_true rfl⟩) ⟨fun a U g mk q => by obtain ⟨q0, q1, qP, qK, qD⟩ := q; exact ⟨q0, q1, qP, va_K.moved (u := U) (U := U.calling g mk a) (Vm.Alike.refl U.vm) qK, qD⟩, va_recv hKc hPc (ci := 6) (q0 := 0) rfl rfl, fun U hU hW => ⟨rfl, by rw [hU], by rw [hU]; exact hPc, va_K.moved hW.alike hKc, hDc.weaken (fun _ _ _ _ => trivial)⟩⟩ rfl rfl hl.1 rfl (lv_room (Nat.le_of_ble_eq_true rfl)) dX11_pieces_91 ⟨Nat.le_of_ble_eq_true rfl, Nat.le_of_ble_eq_true rfl⟩) hS (fun q _ h => hFc q h) hFc (fun r_15 u t H1 locs ht hvm hw hB hz1 hk1 hS => ?_)
                obtain ⟨hP1, hK1, hD1⟩ := hB
                rw [ht] at hP1
                have hK1 := va_K.moved hvm.symm hK1
                obtain ⟨hP, hD⟩ := va_joinQ (cx := [(h2, kO6 h4 h5 h6 h7 y_9)]) (wr := [(h0, kO11 h1 n0_streetCount h12 h13 h14 h15 h2 h16 h17 h18 h19 n0_lawCount h20 h21), (h1, kAr cOStreet 6 f1), (h3, kO9 h8 h22 h9 n3_size), (h4, kAr cAint 40 (fun j => some (h10 j))), (h5, kAr cAint 6 (fun j => some (h11 j))), (h6, kAi cint 40 f_10), (h7, kAi cint 5 f_11), (h8, kAi cint 40 f8), (h9, kAi cint 40 f9)]) (w1 := [(h2, kO6 h4 h5 h6 h7 y_9)]) hP hD [2] [0, 1, 3, 4, 5, 6, 7, 8, 9] rfl rfl (by decide) (by decide) hk1 hFc hP1 hD1
                generalize H1 = H at hP hS ⊢
                have hP : va_P (dC, dI) vwCl (([(h0, kO11 h1 n0_streetCount h12 h13 h14 h15 h2 h16 h17 h18 h19 n0_lawCount h20 h21), (h1, kAr cOStreet 6 f1), (h3, kO9 h8 h22 h9 n3_size), (h4, kAr cAint 40 (fun j => some (h10 j))), (h5, kAr cAint 6 (fun j => some (h11 j))), (h6, kAi cint 40 f_10), (h7, kAi cint 5 f_11), (h8, kAi cint 40 f8), (h9, kAi cint 40 f9), (h2, kO6 h4 h5 h6 h7 y_9)] : va_W) ++ (kk_rowsI h10 cint 41 f_12 40 ++ (kk_rowsI h11 cint 41 f_13 6))) H := hP
                have hD : va_D A (([(h0, kO11 h1 n0_streetCount h12 h13 h14 h15 h2 h16 h17 h18 h19 n0_lawCount h20 h21), (h1, kAr cOStreet 6 f1), (h3, kO9 h8 h22 h9 n3_size), (h4, kAr cAint 40 (fun j => some (h10 j))), (h5, kAr cAint 6 (fun j => some (h11 j))), (h6, kAi cint 40 f_10), (h7, kAi cint 5 f_11), (h8, kAi cint 40 f8), (h9, kAi cint 40 f9), (h2, kO6 h4 h5 h6 h7 y_9)] : va_W) ++ (kk_rowsI h10 cint 41 f_12 40 ++ (kk_rowsI h11 cint 41 f_13 6))) := hD
                obtain rfl := hw
                refine lv_icmp_ge (tgt := 108) hx hb dX11_pieces_94 (by decide) (fun c_16 => ?_) (fun c_16 => ?_)
                · have t_16 : y_9.toInt ≤ p2.toInt := kk_le c_16
                  refine lv_iconst (v := (-1)) hx hb dX11_pieces_108 kk_ic_m1 ?_
                  have hP9 := hP.part (cx := [(h0, kO11 h1 n0_streetCount h12 h13 h14 h15 h2 h16 h17 h18 h19 n0_lawCount h20 h21), (h1, kAr cOStreet 6 f1), (h2, kO6 h4 h5 h6 h7 y_9), (h3, kO9 h8 h22 h9 n3_size), (h4, kAr cAint 40 (fun j => some (h10 j))), (h5, kAr cAint 6 (fun j => some (h11 j))), (h6, kAi cint 40 f_10), (h7, kAi cint 5 f_11), (h8, kAi cint 40 f8), (h9, kAi cint 40 f9)]) [0, 1, 9, 2, 3, 4, 5, 6, 7, 8] rfl
                  have hD9 := hD.part (cx := [(h0, kO11 h1 n0_streetCount h12 h13 h14 h15 h2 h16 h17 h18 h19 n0_lawCount h20 h21), (h1, kAr cOStreet 6 f1), (h2, kO6 h4 h5 h6 h7 y_9), (h3, kO9 h8 h22 h9 n3_size), (h4, kAr cAint 40 (fun j => some (h10 j))), (h5, kAr cAint 6 (fun j => some (h11 j))), (h6, kAi cint 40 f_10), (h7, kAi cint 5 f_11), (h8, kAi cint 40 f8), (h9, kAi cint 40 f9)]) [0, 1, 9, 2, 3, 4, 5, 6, 7, 8] (by decide) rfl
                  have hK9 := kk_Ks (tq := []) hK [] rfl
                  exact W.iret (v := (-1)) hx hb hr (fun t ht hW => ⟨⟨(-1), (), rfl, trivial, y_9, f_10, f_11, f_12, f_13, (by show 0 ≤ (y_9 : Int32).toInt ∧ (y_9 : Int32).toInt ≤ 5; first | decide | ((omega))), bf_11, by rw [ht]; exact hP9, va_K.moved hW.alike hK9, hD9⟩, hS.F ht⟩) hS.2.2 dX11_pieces_109
                · have t_16 : p2.toInt < y_9.toInt := kk_nle c_16
                  refine lv_aload_n hx hb dX11_pieces_97 rfl (lv_at hl 1 rfl) ?_
                  refine va_get (D := (dC, dI)) (ci := 11) (v := .ref h2) (C := RX11) (T := TX11) (N := 14) hx hb hts (fun _ h => List.mem_cons_of_mem _ (List.mem_append_left _ (List.mem_append_left _ (List.mem_append_right _ h)))) hown hK hP 0 rfl rfl 6 (by decide) (hts (.fieldLink RX11 44 "KinkStreet" "partedPieces" "LKinkStreet$Pieces;") (List.mem_of_getElem? (i := 1) rfl)) (fun _ h9 => h9) rfl dX11_pieces_98 ?_
                  refine lv_iload_n hx hb dX11_pieces_101 rfl (lv_at hl 4 rfl) ?_
                  obtain ⟨hPc, hDc, hFc⟩ := kk_cutout (wc := [(h2, kO6 h4 h5 h6 h7 y_9), (h7, kAi cint 5 f_11)]) hP hD hS hA [9, 6] (by decide) rfl
                  have hKc := kk_Ks (tq := [(cint, .int)]) hK [2] rfl
                  refine va_calli (va_runV (As := [.int p2]) (rest := []) ⟨hx, hb, hml, hown, hts⟩ (g_X6_begin_0 l dC dI h2 h7 h4 h5 h6 cint H.size p2 y_9 f_11 (by show 0 ≤ (y_9 : Int32).toInt ∧ (y_9 : Int32).toInt ≤ 5; first | decide | ((omega))) bf_11) (cwV 1 hts gX11_pieces_X6_begin rfl rfl rfl ⟨rfl, kh_X6_begin⟩ ⟨Nat.le_of_ble_eq_true rfl, Nat.le_of_ble_eq_true rfl⟩) ⟨fun a U g mk q => by obtain ⟨q0, q1, qP, qK, qD⟩ := q; exact ⟨q0, q1, qP, va_K.moved (u := U) (U := U.calling g mk a) (Vm.Alike.refl U.vm) qK, qD⟩, va_recv hKc hPc (ci := 6) (q0 := 0) rfl rfl, fun U hU hW => ⟨rfl, by rw [hU], by rw [hU]; exact hPc, va_K.moved hW.alike hKc, hDc.weaken (fun _ _ _ _ => trivial)⟩⟩ rfl rfl hl.1 rfl (lv_room (Nat.le_of_ble_eq_true rfl)) dX11_pieces_102 ⟨Nat.le_of_ble_eq_true rfl, Nat.le_of_ble_eq_true rfl⟩) hS (fun q _ h => hFc q h) hFc (fun r_17 u t H1 locs ht hvm hw hB hz1 hk1 hS => ?_)
                  obtain ⟨hP1, hK1, hD1⟩ := hB
                  rw [ht] at hP1
                  have hK1 := va_K.moved hvm.symm hK1
                  obtain ⟨hP, hD⟩ := va_joinQ (cx := [(h2, kO6 h4 h5 h6 h7 y_9), (h7, kAi cint 5 f_11)]) (wr := [(h0, kO11 h1 n0_streetCount h12 h13 h14 h15 h2 h16 h17 h18 h19 n0_lawCount h20 h21), (h1, kAr cOStreet 6 f1), (h3, kO9 h8 h22 h9 n3_size), (h4, kAr cAint 40 (fun j => some (h10 j))), (h5, kAr cAint 6 (fun j => some (h11 j))), (h6, kAi cint 40 f_10), (h8, kAi cint 40 f8), (h9, kAi cint 40 f9)]) (w1 := [(h2, kO6 h4 h5 h6 h7 y_9), (h7, kAi cint 5 f_11)]) hP hD [9, 6] [0, 1, 2, 3, 4, 5, 7, 8] rfl rfl (by decide) (by decide) hk1 hFc hP1 hD1
                  generalize H1 = H at hP hS ⊢
                  have hP : va_P (dC, dI) vwCl (([(h0, kO11 h1 n0_streetCount h12 h13 h14 h15 h2 h16 h17 h18 h19 n0_lawCount h20 h21), (h1, kAr cOStreet 6 f1), (h3, kO9 h8 h22 h9 n3_size), (h4, kAr cAint 40 (fun j => some (h10 j))), (h5, kAr cAint 6 (fun j => some (h11 j))), (h6, kAi cint 40 f_10), (h8, kAi cint 40 f8), (h9, kAi cint 40 f9), (h2, kO6 h4 h5 h6 h7 y_9), (h7, kAi cint 5 f_11)] : va_W) ++ (kk_rowsI h10 cint 41 f_12 40 ++ (kk_rowsI h11 cint 41 f_13 6))) H := hP
                  have hD : va_D A (([(h0, kO11 h1 n0_streetCount h12 h13 h14 h15 h2 h16 h17 h18 h19 n0_lawCount h20 h21), (h1, kAr cOStreet 6 f1), (h3, kO9 h8 h22 h9 n3_size), (h4, kAr cAint 40 (fun j => some (h10 j))), (h5, kAr cAint 6 (fun j => some (h11 j))), (h6, kAi cint 40 f_10), (h8, kAi cint 40 f8), (h9, kAi cint 40 f9), (h2, kO6 h4 h5 h6 h7 y_9), (h7, kAi cint 5 f_11)] : va_W) ++ (kk_rowsI h10 cint 41 f_12 40 ++ (kk_rowsI h11 cint 41 f_13 6))) := hD
                  have t_17 : (-1) ≤ r_17.toInt ∧ r_17.toInt ≤ 48 := hw
                  refine lv_goto (tgt := 109) hx hb dX11_pieces_105 (by decide) ?_
                  have hP9 := hP.part (cx := [(h0, kO11 h1 n0_streetCount h12 h13 h14 h15 h2 h16 h17 h18 h19 n0_lawCount h20 h21), (h1, kAr cOStreet 6 f1), (h2, kO6 h4 h5 h6 h7 y_9), (h3, kO9 h8 h22 h9 n3_size), (h4, kAr cAint 40 (fun j => some (h10 j))), (h5, kAr cAint 6 (fun j => some (h11 j))), (h6, kAi cint 40 f_10), (h7, kAi cint 5 f_11), (h8, kAi cint 40 f8), (h9, kAi cint 40 f9)]) [0, 1, 8, 2, 3, 4, 5, 9, 6, 7] rfl
                  have hD9 := hD.part (cx := [(h0, kO11 h1 n0_streetCount h12 h13 h14 h15 h2 h16 h17 h18 h19 n0_lawCount h20 h21), (h1, kAr cOStreet 6 f1), (h2, kO6 h4 h5 h6 h7 y_9), (h3, kO9 h8 h22 h9 n3_size), (h4, kAr cAint 40 (fun j => some (h10 j))), (h5, kAr cAint 6 (fun j => some (h11 j))), (h6, kAi cint 40 f_10), (h7, kAi cint 5 f_11), (h8, kAi cint 40 f8), (h9, kAi cint 40 f9)]) [0, 1, 8, 2, 3, 4, 5, 9, 6, 7] (by decide) rfl
                  have hK9 := kk_Ks (tq := []) hK [] rfl
                  exact W.iret (v := r_17) hx hb hr (fun t ht hW => ⟨⟨r_17, (), rfl, trivial, y_9, f_10, f_11, f_12, f_13, (by show 0 ≤ (y_9 : Int32).toInt ∧ (y_9 : Int32).toInt ≤ 5; first | decide | ((omega))), bf_11, by rw [ht]; exact hP9, va_K.moved hW.alike hK9, hD9⟩, hS.F ht⟩) hS.2.2 dX11_pieces_109
              · have t_14 : p2.toInt < 0 := kk_nle c_14
                refine lv_iload_n hx hb dX11_pieces_62 rfl (lv_at hl 4 rfl) ?_
                refine lv_bipush (v := (-2)) hx hb dX11_pieces_63 kk_bi_m2 ?_
                refine lv_icmp_ne (tgt := 78) hx hb dX11_pieces_65 (by decide) (fun c_18 => ?_) (fun c_18 => ?_)
                · have t_18 : p2.toInt ≠ (-2) := kk_ne c_18
                  refine lv_aload_n hx hb dX11_pieces_78 rfl (lv_at hl 1 rfl) ?_
                  refine va_get (D := (dC, dI)) (ci := 11) (v := .ref h2) (C := RX11) (T := TX11) (N := 14) hx hb hts (fun _ h => List.mem_cons_of_mem _ (List.mem_append_left _ (List.mem_append_left _ (List.mem_append_right _ h)))) hown hK hP 0 rfl rfl 6 (by decide) (hts (.fieldLink RX11 44 "KinkStreet" "partedPieces" "LKinkStreet$Pieces;") (List.mem_of_getElem? (i := 1) rfl)) (fun _ h9 => h9) rfl dX11_pieces_79 ?_
                  obtain ⟨hPc, hDc, hFc⟩ := kk_cutout (wc := [(h2, kO6 h4 h5 h6 h7 y_9)]) hP hD hS hA [2] (by decide) rfl
                  have hKc := kk_Ks (tq := []) hK [] rfl
                  refine va_calli (va_runV (As := []) (rest := []) ⟨hx, hb, hml, hown, hts⟩ (g_X6_howMany_0 l dC dI h2 h4 h5 h6 h7 H.size y_9 (by show 0 ≤ (y_9 : Int32).toInt ∧ (y_9 : Int32).toInt ≤ 5; first | decide | ((omega)))) (cwV 0 hts gX11_pieces_X6_howMany rfl rfl rfl ⟨rfl, kh_X6_howMany⟩ ⟨Nat.le_of_ble_eq_true rfl, Nat.le_of_ble_eq_true rfl⟩) ⟨fun a U g mk q => by obtain ⟨q0, q1, qP, qK, qD⟩ := q; exact ⟨q0, q1, qP, va_K.moved (u := U) (U := U.calling g mk a) (Vm.Alike.refl U.vm) qK, qD⟩, va_recv hKc hPc (ci := 6) (q0 := 0) rfl rfl, fun U hU hW => ⟨rfl, by rw [hU], by rw [hU]; exact hPc, va_K.moved hW.alike hKc, hDc.weaken (fun _ _ _ _ => trivial)⟩⟩ rfl rfl hl.1 rfl (lv_room (Nat.le_of_ble_eq_true rfl)) dX11_pieces_82 ⟨Nat.le_of_ble_eq_true rfl, Nat.le_of_ble_eq_true rfl⟩) hS (fun q _ h => hFc q h) hFc (fun r_19 u t H1 locs ht hvm hw hB hz1 hk1 hS => ?_)
                  obtain ⟨hP1, hK1, hD1⟩ := hB
                  rw [ht] at hP1
                  have hK1 := va_K.moved hvm.symm hK1
                  obtain ⟨hP, hD⟩ := va_joinQ (cx := [(h2, kO6 h4 h5 h6 h7 y_9)]) (wr := [(h0, kO11 h1 n0_streetCount h12 h13 h14 h15 h2 h16 h17 h18 h19 n0_lawCount h20 h21), (h1, kAr cOStreet 6 f1), (h3, kO9 h8 h22 h9 n3_size), (h4, kAr cAint 40 (fun j => some (h10 j))), (h5, kAr cAint 6 (fun j => some (h11 j))), (h6, kAi cint 40 f_10), (h7, kAi cint 5 f_11), (h8, kAi cint 40 f8), (h9, kAi cint 40 f9)]) (w1 := [(h2, kO6 h4 h5 h6 h7 y_9)]) hP hD [2] [0, 1, 3, 4, 5, 6, 7, 8, 9] rfl rfl (by decide) (by decide) hk1 hFc hP1 hD1
                  generalize H1 = H at hP hS ⊢
                  have hP : va_P (dC, dI) vwCl (([(h0, kO11 h1 n0_streetCount h12 h13 h14 h15 h2 h16 h17 h18 h19 n0_lawCount h20 h21), (h1, kAr cOStreet 6 f1), (h3, kO9 h8 h22 h9 n3_size), (h4, kAr cAint 40 (fun j => some (h10 j))), (h5, kAr cAint 6 (fun j => some (h11 j))), (h6, kAi cint 40 f_10), (h7, kAi cint 5 f_11), (h8, kAi cint 40 f8), (h9, kAi cint 40 f9), (h2, kO6 h4 h5 h6 h7 y_9)] : va_W) ++ (kk_rowsI h10 cint 41 f_12 40 ++ (kk_rowsI h11 cint 41 f_13 6))) H := hP
                  have hD : va_D A (([(h0, kO11 h1 n0_streetCount h12 h13 h14 h15 h2 h16 h17 h18 h19 n0_lawCount h20 h21), (h1, kAr cOStreet 6 f1), (h3, kO9 h8 h22 h9 n3_size), (h4, kAr cAint 40 (fun j => some (h10 j))), (h5, kAr cAint 6 (fun j => some (h11 j))), (h6, kAi cint 40 f_10), (h7, kAi cint 5 f_11), (h8, kAi cint 40 f8), (h9, kAi cint 40 f9), (h2, kO6 h4 h5 h6 h7 y_9)] : va_W) ++ (kk_rowsI h10 cint 41 f_12 40 ++ (kk_rowsI h11 cint 41 f_13 6))) := hD
                  obtain rfl := hw
                  have hP9 := hP.part (cx := [(h0, kO11 h1 n0_streetCount h12 h13 h14 h15 h2 h16 h17 h18 h19 n0_lawCount h20 h21), (h1, kAr cOStreet 6 f1), (h2, kO6 h4 h5 h6 h7 y_9), (h3, kO9 h8 h22 h9 n3_size), (h4, kAr cAint 40 (fun j => some (h10 j))), (h5, kAr cAint 6 (fun j => some (h11 j))), (h6, kAi cint 40 f_10), (h7, kAi cint 5 f_11), (h8, kAi cint 40 f8), (h9, kAi cint 40 f9)]) [0, 1, 9, 2, 3, 4, 5, 6, 7, 8] rfl
                  have hD9 := hD.part (cx := [(h0, kO11 h1 n0_streetCount h12 h13 h14 h15 h2 h16 h17 h18 h19 n0_lawCount h20 h21), (h1, kAr cOStreet 6 f1), (h2, kO6 h4 h5 h6 h7 y_9), (h3, kO9 h8 h22 h9 n3_size), (h4, kAr cAint 40 (fun j => some (h10 j))), (h5, kAr cAint 6 (fun j => some (h11 j))), (h6, kAi cint 40 f_10), (h7, kAi cint 5 f_11), (h8, kAi cint 40 f8), (h9, kAi cint 40 f9)]) [0, 1, 9, 2, 3, 4, 5, 6, 7, 8] (by decide) rfl
                  have hK9 := kk_Ks (tq := []) hK [] rfl
                  exact W.iret (v := y_9) hx hb hr (fun t ht hW => ⟨⟨y_9, (), rfl, trivial, y_9, f_10, f_11, f_12, f_13, (by show 0 ≤ (y_9 : Int32).toInt ∧ (y_9 : Int32).toInt ≤ 5; first | decide | ((omega))), bf_11, by rw [ht]; exact hP9, va_K.moved hW.alike hK9, hD9⟩, hS.F ht⟩) hS.2.2 dX11_pieces_85
                · have t_18 : p2.toInt = (-2) := kk_eq c_18
                  refine lv_aload_n hx hb dX11_pieces_68 rfl (lv_at hl 1 rfl) ?_
                  refine va_get (D := (dC, dI)) (ci := 11) (v := .ref h2) (C := RX11) (T := TX11) (N := 14) hx hb hts (fun _ h => List.mem_cons_of_mem _ (List.mem_append_left _ (List.mem_append_left _ (List.mem_append_right _ h)))) hown hK hP 0 rfl rfl 6 (by decide) (hts (.fieldLink RX11 44 "KinkStreet" "partedPieces" "LKinkStreet$Pieces;") (List.mem_of_getElem? (i := 1) rfl)) (fun _ h9 => h9) rfl dX11_pieces_69 ?_
                  have hPc := hP.part (cx := [(h2, kO6 h4 h5 h6 h7 y_9), (h4, kAr cAint 40 (fun j => some (h10 j))), (h5, kAr cAint 6 (fun j => some (h11 j)))]) [2, 4, 5] rfl
                  have hDc := hD.part (cx := [(h2, kO6 h4 h5 h6 h7 y_9), (h4, kAr cAint 40 (fun j => some (h10 j))), (h5, kAr cAint 6 (fun j => some (h11 j)))]) [2, 4, 5] (by decide) rfl
                  have hFc := va_freeP (cx := [(h2, kO6 h4 h5 h6 h7 y_9), (h4, kAr cAint 40 (fun j => some (h10 j))), (h5, kAr cAint 6 (fun j => some (h11 j)))]) hD hS hA [2, 4, 5] rfl
                  have hKc := kk_Ks (tq := [(cAint, .array .int), (cint, .int)]) hK [1, 2] rfl
                  refine va_calli (va_runV (As := []) (rest := []) ⟨hx, hb, hml, hown, hts⟩ (g_X6_sum_0 l dC dI h2 h4 h5 h10 h11 h6 h7 cAint cint H.size y_9 f_12 f_13 (by show 0 ≤ (y_9 : Int32).toInt ∧ (y_9 : Int32).toInt ≤ 5; first | decide | ((omega)))) (cwV 0 hts gX11_pieces_X6_sum rfl rfl rfl ⟨rfl, kh_X6_sum⟩ ⟨Nat.le_of_ble_eq_true rfl, Nat.le_of_ble_eq_true rfl⟩) ⟨fun a U g mk q => by obtain ⟨q0, q1, qP, qK, qD⟩ := q; exact ⟨q0, q1, qP, va_K.moved (u := U) (U := U.calling g mk a) (Vm.Alike.refl U.vm) qK, qD⟩, va_recv hKc hPc (ci := 6) (q0 := 0) rfl rfl, fun U hU hW => ⟨rfl, by rw [hU], by rw [hU]; exact hPc, va_K.moved hW.alike hKc, hDc.weaken (fun _ _ _ _ => trivial)⟩⟩ rfl rfl hl.1 rfl (lv_room (Nat.le_of_ble_eq_true rfl)) dX11_pieces_72 ⟨Nat.le_of_ble_eq_true rfl, Nat.le_of_ble_eq_true rfl⟩) hS (fun q _ h => hFc q h) hFc (fun r_20 u t H1 locs ht hvm hw hB hz1 hk1 hS => ?_)
                  obtain ⟨hP1, hK1, hD1⟩ := hB
                  rw [ht] at hP1
                  have hK1 := va_K.moved hvm.symm hK1
                  obtain ⟨hP, hD⟩ := va_joinP (cx := [(h2, kO6 h4 h5 h6 h7 y_9), (h4, kAr cAint 40 (fun j => some (h10 j))), (h5, kAr cAint 6 (fun j => some (h11 j)))]) (wr := [(h0, kO11 h1 n0_streetCount h12 h13 h14 h15 h2 h16 h17 h18 h19 n0_lawCount h20 h21), (h1, kAr cOStreet 6 f1), (h3, kO9 h8 h22 h9 n3_size), (h6, kAi cint 40 f_10), (h7, kAi cint 5 f_11), (h8, kAi cint 40 f8), (h9, kAi cint 40 f9)]) (rx := [(h2, kO6 h4 h5 h6 h7 y_9), (h4, kAr cAint 40 (fun j => some (h10 j))), (h5, kAr cAint 6 (fun j => some (h11 j)))]) hP hD [2, 4, 5] [0, 1, 3, 6, 7, 8, 9] rfl rfl (by decide) (by decide) hk1 hFc hP1 hD1
                  generalize H1 = H at hP hS ⊢
                  have hP : va_P (dC, dI) vwCl (([(h0, kO11 h1 n0_streetCount h12 h13 h14 h15 h2 h16 h17 h18 h19 n0_lawCount h20 h21), (h1, kAr cOStreet 6 f1), (h3, kO9 h8 h22 h9 n3_size), (h6, kAi cint 40 f_10), (h7, kAi cint 5 f_11), (h8, kAi cint 40 f8), (h9, kAi cint 40 f9), (h2, kO6 h4 h5 h6 h7 y_9), (h4, kAr cAint 40 (fun j => some (h10 j))), (h5, kAr cAint 6 (fun j => some (h11 j)))] : va_W) ++ (kk_rowsI h10 cint 41 f_12 40 ++ (kk_rowsI h11 cint 41 f_13 6))) H := hP
                  have hD : va_D A (([(h0, kO11 h1 n0_streetCount h12 h13 h14 h15 h2 h16 h17 h18 h19 n0_lawCount h20 h21), (h1, kAr cOStreet 6 f1), (h3, kO9 h8 h22 h9 n3_size), (h6, kAi cint 40 f_10), (h7, kAi cint 5 f_11), (h8, kAi cint 40 f8), (h9, kAi cint 40 f9), (h2, kO6 h4 h5 h6 h7 y_9), (h4, kAr cAint 40 (fun j => some (h10 j))), (h5, kAr cAint 6 (fun j => some (h11 j)))] : va_W) ++ (kk_rowsI h10 cint 41 f_12 40 ++ (kk_rowsI h11 cint 41 f_13 6))) := hD
                  refine lv_goto (tgt := 85) hx hb dX11_pieces_75 (by decide) ?_
                  have hP9 := hP.part (cx := [(h0, kO11 h1 n0_streetCount h12 h13 h14 h15 h2 h16 h17 h18 h19 n0_lawCount h20 h21), (h1, kAr cOStreet 6 f1), (h2, kO6 h4 h5 h6 h7 y_9), (h3, kO9 h8 h22 h9 n3_size), (h4, kAr cAint 40 (fun j => some (h10 j))), (h5, kAr cAint 6 (fun j => some (h11 j))), (h6, kAi cint 40 f_10), (h7, kAi cint 5 f_11), (h8, kAi cint 40 f8), (h9, kAi cint 40 f9)]) [0, 1, 7, 2, 8, 9, 3, 4, 5, 6] rfl
                  have hD9 := hD.part (cx := [(h0, kO11 h1 n0_streetCount h12 h13 h14 h15 h2 h16 h17 h18 h19 n0_lawCount h20 h21), (h1, kAr cOStreet 6 f1), (h2, kO6 h4 h5 h6 h7 y_9), (h3, kO9 h8 h22 h9 n3_size), (h4, kAr cAint 40 (fun j => some (h10 j))), (h5, kAr cAint 6 (fun j => some (h11 j))), (h6, kAi cint 40 f_10), (h7, kAi cint 5 f_11), (h8, kAi cint 40 f8), (h9, kAi cint 40 f9)]) [0, 1, 7, 2, 8, 9, 3, 4, 5, 6] (by decide) rfl
                  have hK9 := kk_Ks (tq := []) hK [] rfl
                  exact W.iret (v := r_20) hx hb hr (fun t ht hW => ⟨⟨r_20, (), rfl, trivial, y_9, f_10, f_11, f_12, f_13, (by show 0 ≤ (y_9 : Int32).toInt ∧ (y_9 : Int32).toInt ≤ 5; first | decide | ((omega))), bf_11, by rw [ht]; exact hP9, va_K.moved hW.alike hK9, hD9⟩, hS.F ht⟩) hS.2.2 dX11_pieces_85
            · have t_7 : n3_size.toInt < 2 := kk_nle c_7
              refine lv_bipush (v := (-2)) hx hb dX11_pieces_45 kk_bi_m2 ?_
              have hP9 := hP.part (cx := [(h0, kO11 h1 n0_streetCount h12 h13 h14 h15 h2 h16 h17 h18 h19 n0_lawCount h20 h21), (h1, kAr cOStreet 6 f1), (h2, kO6 h4 h5 h6 h7 n2_pieceCount), (h3, kO9 h8 h22 h9 n3_size), (h4, kAr cAint 40 (fun j => some (h10 j))), (h5, kAr cAint 6 (fun j => some (h11 j))), (h6, kAi cint 40 f6), (h7, kAi cint 5 f7), (h8, kAi cint 40 f8), (h9, kAi cint 40 f9)]) [7, 8, 0, 9, 1, 2, 3, 4, 5, 6] rfl
              have hD9 := hD.part (cx := [(h0, kO11 h1 n0_streetCount h12 h13 h14 h15 h2 h16 h17 h18 h19 n0_lawCount h20 h21), (h1, kAr cOStreet 6 f1), (h2, kO6 h4 h5 h6 h7 n2_pieceCount), (h3, kO9 h8 h22 h9 n3_size), (h4, kAr cAint 40 (fun j => some (h10 j))), (h5, kAr cAint 6 (fun j => some (h11 j))), (h6, kAi cint 40 f6), (h7, kAi cint 5 f7), (h8, kAi cint 40 f8), (h9, kAi cint 40 f9)]) [7, 8, 0, 9, 1, 2, 3, 4, 5, 6] (by decide) rfl
              have hK9 := kk_Ks (tq := []) hK [] rfl
              exact W.iret (v := (-2)) hx hb hr (fun t ht hW => ⟨⟨(-2), (), rfl, trivial, n2_pieceCount, f6, f7, F10, F11, tn2_pieceCount, bf7, by rw [ht]; exact hP9, va_K.moved hW.alike hK9, hD9⟩, hS.F ht⟩) hS.2.2 dX11_pieces_47
          · have t_5 : 5 ≤ p2.toInt := kk_nlt c_5
            refine lv_iconst (v := (-1)) hx hb dX11_pieces_34 kk_ic_m1 ?_
            have hP9 := hP.part (cx := [(h0, kO11 h1 n0_streetCount h12 h13 h14 h15 h2 h16 h17 h18 h19 n0_lawCount h20 h21), (h1, kAr cOStreet 6 f1), (h2, kO6 h4 h5 h6 h7 n2_pieceCount), (h3, kO9 h8 h22 h9 n3_size), (h4, kAr cAint 40 (fun j => some (h10 j))), (h5, kAr cAint 6 (fun j => some (h11 j))), (h6, kAi cint 40 f6), (h7, kAi cint 5 f7), (h8, kAi cint 40 f8), (h9, kAi cint 40 f9)]) [8, 9, 0, 1, 2, 3, 4, 5, 6, 7] rfl
            have hD9 := hD.part (cx := [(h0, kO11 h1 n0_streetCount h12 h13 h14 h15 h2 h16 h17 h18 h19 n0_lawCount h20 h21), (h1, kAr cOStreet 6 f1), (h2, kO6 h4 h5 h6 h7 n2_pieceCount), (h3, kO9 h8 h22 h9 n3_size), (h4, kAr cAint 40 (fun j => some (h10 j))), (h5, kAr cAint 6 (fun j => some (h11 j))), (h6, kAi cint 40 f6), (h7, kAi cint 5 f7), (h8, kAi cint 40 f8), (h9, kAi cint 40 f9)]) [8, 9, 0, 1, 2, 3, 4, 5, 6, 7] (by decide) rfl
            have hK9 := kk_Ks (tq := []) hK [] rfl
            exact W.iret (v := (-1)) hx hb hr (fun t ht hW => ⟨⟨(-1), (), rfl, trivial, n2_pieceCount, f6, f7, F10, F11, tn2_pieceCount, bf7, by rw [ht]; exact hP9, va_K.moved hW.alike hK9, hD9⟩, hS.F ht⟩) hS.2.2 dX11_pieces_35
