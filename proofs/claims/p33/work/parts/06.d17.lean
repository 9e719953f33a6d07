set_option maxHeartbeats 4000000 in
set_option maxRecDepth 100000 in
theorem g_X6_workOutSums_0 (l : Launch) (dC : Nat → ClassId) (dI : Nat → Nat → Nat) (h0 : Nat) (h1 : Nat) (h2 : Nat) (h3 : Nat → Nat) (h4 : Nat → Nat) (h5 : Nat) (h6 : Nat) (cAint cint : ClassId) (sz : Nat) (p0 : Int32) (p1 : Int32) (tp0 : 0 ≤ p0.toInt ∧ p0.toInt ≤ 40) (tp1 : 1 ≤ p1.toInt ∧ p1.toInt ≤ 5) (n0_pieceCount : Int32) (F3 : Nat → Nat → Int32) (F4 : Nat → Nat → Int32) (tn0_pieceCount : 0 ≤ n0_pieceCount.toInt ∧ n0_pieceCount.toInt ≤ 5) : Met l yX6_workOutSums wsX6_workOutSums ({ frames := 1, cells := 0, slots := 0, locals := 21 }) (va_Pc [.ref h0, .int p0, .int p1] (fun U => U.heap.size = sz ∧ va_P (dC, dI) vwCl (([(h0, .inr (6, [.ref h1, .ref h2, .ref h5, .ref h6, .int n0_pieceCount])), (h1, .inl (cAint, 40, .inr (.inr (.inr (.inr (fun j => some (h3 j))))))), (h2, .inl (cAint, 6, .inr (.inr (.inr (.inr (fun j => some (h4 j)))))))] : va_W) ++ (kk_rowsI h3 cint 41 F3 40 ++ (kk_rowsI h4 cint 41 F4 6))) U.heap ∧ va_K (dC, dI) vwCl [(cAint, .array .int), (cint, .int)] U ∧ va_D (fun _ => True) (([(h0, .inr (6, [.ref h1, .ref h2, .ref h5, .ref h6, .int n0_pieceCount])), (h1, .inl (cAint, 40, .inr (.inr (.inr (.inr (fun j => some (h3 j))))))), (h2, .inl (cAint, 6, .inr (.inr (.inr (.inr (fun j => some (h4 j)))))))] : va_W) ++ (kk_rowsI h3 cint 41 F3 40 ++ (kk_rowsI h4 cint 41 F4 6))))) (va_Qv (fun (_ : Unit) => True) (fun (_ : Unit) t => ∃ (g4 : Nat → Nat → Int32), va_P (dC, dI) vwCl (([(h0, .inr (6, [.ref h1, .ref h2, .ref h5, .ref h6, .int n0_pieceCount])), (h1, .inl (cAint, 40, .inr (.inr (.inr (.inr (fun j => some (h3 j))))))), (h2, .inl (cAint, 6, .inr (.inr (.inr (.inr (fun j => some (h4 j)))))))] : va_W) ++ (kk_rowsI h3 cint 41 F3 40 ++ (kk_rowsI h4 cint 41 g4 6))) t.heap ∧ va_K (dC, dI) vwCl [] t ∧ va_D (va_A (([(h0, .inr (6, [.ref h1, .ref h2, .ref h5, .ref h6, .int n0_pieceCount])), (h1, .inl (cAint, 40, .inr (.inr (.inr (.inr (fun j => some (h3 j))))))), (h2, .inl (cAint, 6, .inr (.inr (.inr (.inr (fun j => some (h4 j)))))))] : va_W) ++ (kk_rowsI h3 cint 41 F3 40 ++ (kk_rowsI h4 cint 41 F4 6))) sz) (([(h0, .inr (6, [.ref h1, .ref h2, .ref h5, .ref h6, .int n0_pieceCount])), (h1, .inl (cAint, 40, .inr (.inr (.inr (.inr (fun j => some (h3 j))))))), (h2, .inl (cAint, 6, .inr (.inr (.inr (.inr (fun j => some (h4 j)))))))] : va_W) ++ (kk_rowsI h3 cint 41 F3 40 ++ (kk_rowsI h4 cint 41 g4 6)))) (va_A (([(h0, .inr (6, [.ref h1, .ref h2, .ref h5, .ref h6, .int n0_pieceCount])), (h1, .inl (cAint, 40, .inr (.inr (.inr (.inr (fun j => some (h3 j))))))), (h2, .inl (cAint, 6, .inr (.inr (.inr (.inr (fun j => some (h4 j)))))))] : va_W) ++ (kk_rowsI h3 cint 41 F3 40 ++ (kk_rowsI h4 cint 41 F4 6))) sz)) 0 0 (va_A (([(h0, .inr (6, [.ref h1, .ref h2, .ref h5, .ref h6, .int n0_pieceCount])), (h1, .inl (cAint, 40, .inr (.inr (.inr (.inr (fun j => some (h3 j))))))), (h2, .inl (cAint, 6, .inr (.inr (.inr (.inr (fun j => some (h4 j)))))))] : va_W) ++ (kk_rowsI h3 cint 41 F3 40 ++ (kk_rowsI h4 cint 41 F4 6))) sz) := by
  refine Met.ofW (cc := cX6_workOutSums) (maxL := 6) (ret := none) (by decide) rfl ?_
  intro p e s m args below meth c s₁ B hml hv
  obtain ⟨rfl, hsz, hP, hK, hD0⟩ := hv
  have hx := B.exec
  have hb := B.bytes
  have hr := B.returns
  have hts := atoms_spec (ws := wsX6_workOutSums) B.pre
  have hown : s.vm.findClass RX6 = some m.cls := findClass_of_methodNamed B.named
  have hlocks := B.notSynchronized
  subst hsz
  have hD := hD0.self (sz := s.heap.size)
  generalize hAe : va_A (([(h0, .inr (6, [.ref h1, .ref h2, .ref h5, .ref h6, .int n0_pieceCount])), (h1, .inl (cAint, 40, .inr (.inr (.inr (.inr (fun j => some (h3 j))))))), (h2, .inl (cAint, 6, .inr (.inr (.inr (.inr (fun j => some (h4 j)))))))] : va_W) ++ (kk_rowsI h3 cint 41 F3 40 ++ (kk_rowsI h4 cint 41 F4 6))) s.heap.size = A at hD ⊢
  have hA : ∀ q : Nat, s.heap.size ≤ q → A q := fun q h => by rw [← hAe]; exact Or.inr h
  have hS : va_S A s.heap s.heap [] := va_S.rf
  have hP : va_P (dC, dI) vwCl (([(h0, .inr (6, [.ref h1, .ref h2, .ref h5, .ref h6, .int n0_pieceCount])), (h1, .inl (cAint, 40, .inr (.inr (.inr (.inr (fun j => some (h3 j))))))), (h2, .inl (cAint, 6, .inr (.inr (.inr (.inr (fun j => some (h4 j)))))))] : va_W) ++ (kk_rowsI h3 cint 41 F3 40 ++ (kk_rowsI h4 cint 41 F4 6))) s.heap := hP
  have hl := lv_entry ([.ref h0, .int p0, .int p1]) (n := 6) (Nat.le_of_ble_eq_true rfl)
  rw [lg_entry_eq]
  generalize (lg_sl ([.ref h0, .int p0, .int p1]) ++ List.replicate (6 - (lg_sl ([.ref h0, .int p0, .int p1])).length) Slot.unset).toArray = ls at hl ⊢
  have hl : lv_has ls 6 [(0, .ref h0), (1, .int p0), (2, .int p1)] := hl
  refine lv_iconst (v := 0) hx hb dX6_workOutSums_0 (by decide) ?_
  refine lv_istore_n (lv' := [(3, .int 0), (0, .ref h0), (1, .int p0), (2, .int p1)]) hx hb dX6_workOutSums_1 rfl hl (by decide) rfl (fun ls hl => ?_)
  refine kk_loop (σ := Int32 × (Nat → Nat → Int32)) (fun x H locs ls => (0 ≤ x.1.toInt ∧ x.1.toInt ≤ 41) ∧ va_P (dC, dI) vwCl (([(h0, .inr (6, [.ref h1, .ref h2, .ref h5, .ref h6, .int n0_pieceCount])), (h1, .inl (cAint, 40, .inr (.inr (.inr (.inr (fun j => some (h3 j))))))), (h2, .inl (cAint, 6, .inr (.inr (.inr (.inr (fun j => some (h4 j)))))))] : va_W) ++ (kk_rowsI h3 cint 41 F3 40 ++ (kk_rowsI h4 cint 41 x.2 6))) H ∧ va_D A (([(h0, .inr (6, [.ref h1, .ref h2, .ref h5, .ref h6, .int n0_pieceCount])), (h1, .inl (cAint, 40, .inr (.inr (.inr (.inr (fun j => some (h3 j))))))), (h2, .inl (cAint, 6, .inr (.inr (.inr (.inr (fun j => some (h4 j)))))))] : va_W) ++ (kk_rowsI h3 cint 41 F3 40 ++ (kk_rowsI h4 cint 41 x.2 6))) ∧ va_S A s.heap H locs ∧ lv_has ls 6 [(3, .int x.1), (0, .ref h0), (1, .int p0), (2, .int p1)]) (fun x => ((41 : Int) - x.1.toInt).toNat) ?_ (0, F4) _ _ _ ⟨(by show 0 ≤ (0 : Int32).toInt ∧ (0 : Int32).toInt ≤ 41; first | decide | (constructor <;> (omega))), hP, hD, hS, hl⟩
  rintro ⟨i_1_0, f_1_1⟩ H locs ls ⟨t_1_0, hP, hD, hS, hl⟩ ih_1
  have t_1_0 : (0 ≤ i_1_0.toInt ∧ i_1_0.toInt ≤ 41) := t_1_0
  have hl : lv_has ls 6 [(3, .int i_1_0), (0, .ref h0), (1, .int p0), (2, .int p1)] := hl
  have hP : va_P (dC, dI) vwCl (([(h0, .inr (6, [.ref h1, .ref h2, .ref h5, .ref h6, .int n0_pieceCount])), (h1, .inl (cAint, 40, .inr (.inr (.inr (.inr (fun j => some (h3 j))))))), (h2, .inl (cAint, 6, .inr (.inr (.inr (.inr (fun j => some (h4 j)))))))] : va_W) ++ (kk_rowsI h3 cint 41 F3 40 ++ (kk_rowsI h4 cint 41 f_1_1 6))) H := hP
  have hD : va_D A (([(h0, .inr (6, [.ref h1, .ref h2, .ref h5, .ref h6, .int n0_pieceCount])), (h1, .inl (cAint, 40, .inr (.inr (.inr (.inr (fun j => some (h3 j))))))), (h2, .inl (cAint, 6, .inr (.inr (.inr (.inr (fun j => some (h4 j)))))))] : va_W) ++ (kk_rowsI h3 cint 41 F3 40 ++ (kk_rowsI h4 cint 41 f_1_1 6))) := hD
  refine lv_iload_n hx hb dX6_workOutSums_2 rfl (lv_at hl 0 rfl) ?_
  refine lv_iload_n hx hb dX6_workOutSums_3 rfl (lv_at hl 2 rfl) ?_
  refine lv_icmp_gt (tgt := 104) hx hb dX6_workOutSums_4 (by decide) (fun c_2 => ?_) (fun c_2 => ?_)
  · have t_2 : p0.toInt < i_1_0.toInt := kk_lt c_2
    have hP9 := hP.part (cx := [(h0, .inr (6, [.ref h1, .ref h2, .ref h5, .ref h6, .int n0_pieceCount])), (h1, .inl (cAint, 40, .inr (.inr (.inr (.inr (fun j => some (h3 j))))))), (h2, .inl (cAint, 6, .inr (.inr (.inr (.inr (fun j => some (h4 j)))))))]) [0, 1, 2] rfl
    have hD9 := hD.part (cx := [(h0, .inr (6, [.ref h1, .ref h2, .ref h5, .ref h6, .int n0_pieceCount])), (h1, .inl (cAint, 40, .inr (.inr (.inr (.inr (fun j => some (h3 j))))))), (h2, .inl (cAint, 6, .inr (.inr (.inr (.inr (fun j => some (h4 j)))))))]) [0, 1, 2] (by decide) rfl
    have hK9 := hK.sub (tys' := []) [] rfl
    exact W.vret hx hb hr (fun t ht hW => ⟨⟨(), rfl, trivial, f_1_1, by rw [ht]; exact hP9, va_K.moved hW.alike hK9, hD9⟩, hS.F ht⟩) hS.2.2 dX6_workOutSums_104
  · have t_2 : i_1_0.toInt ≤ p0.toInt := kk_nlt c_2
    refine lv_ldc hx hb hown (hts _ (List.mem_of_getElem? (i := 1) rfl)) dX6_workOutSums_7 ?_
    refine lv_istore (lv' := [(4, .int 1000000000), (3, .int i_1_0), (0, .ref h0), (1, .int p0), (2, .int p1)]) hx hb dX6_workOutSums_9 hl (by decide) rfl (fun ls hl => ?_)
    refine lv_iload_n hx hb dX6_workOutSums_11 rfl (lv_at hl 4 rfl) ?_
    refine lv_iconst (v := 1) hx hb dX6_workOutSums_12 (by decide) ?_
    refine lv_icmp_ne (tgt := 41) hx hb dX6_workOutSums_13 (by decide) (fun c_3 => ?_) (fun c_3 => ?_)
    · have t_3 : p1.toInt ≠ 1 := kk_ne c_3
      refine lv_iload_n hx hb dX6_workOutSums_41 rfl (lv_at hl 1 rfl) ?_
      refine lv_iconst (v := 2) hx hb dX6_workOutSums_42 (by decide) ?_
      refine lv_iadd hx hb dX6_workOutSums_43 ?_
      refine lv_istore (lv' := [(5, .int (i_1_0 + 2)), (4, .int 1000000000), (3, .int i_1_0), (0, .ref h0), (1, .int p0), (2, .int p1)]) hx hb dX6_workOutSums_44 hl (by decide) rfl (fun ls hl => ?_)
      refine kk_loop (σ := Int32 × Int32) (fun x H locs ls => (2 ≤ x.1.toInt ∧ x.1.toInt ≤ 42) ∧ ((-2147483648) ≤ x.2.toInt ∧ x.2.toInt ≤ 1000000000) ∧ (i_1_0 + 2).toInt ≤ x.1.toInt ∧ va_P (dC, dI) vwCl (([(h0, .inr (6, [.ref h1, .ref h2, .ref h5, .ref h6, .int n0_pieceCount])), (h1, .inl (cAint, 40, .inr (.inr (.inr (.inr (fun j => some (h3 j))))))), (h2, .inl (cAint, 6, .inr (.inr (.inr (.inr (fun j => some (h4 j)))))))] : va_W) ++ (kk_rowsI h3 cint 41 F3 40 ++ (kk_rowsI h4 cint 41 f_1_1 6))) H ∧ va_D A (([(h0, .inr (6, [.ref h1, .ref h2, .ref h5, .ref h6, .int n0_pieceCount])), (h1, .inl (cAint, 40, .inr (.inr (.inr (.inr (fun j => some (h3 j))))))), (h2, .inl (cAint, 6, .inr (.inr (.inr (.inr (fun j => some (h4 j)))))))] : va_W) ++ (kk_rowsI h3 cint 41 F3 40 ++ (kk_rowsI h4 cint 41 f_1_1 6))) ∧ va_S A s.heap H locs ∧ lv_has ls 6 [(5, .int x.1), (4, .int x.2), (3, .int i_1_0), (0, .ref h0), (1, .int p0), (2, .int p1)]) (fun x => ((42 : Int) - x.1.toInt).toNat) ?_ ((i_1_0 + 2), 1000000000) _ _ _ ⟨(by show 2 ≤ ((i_1_0 + 2) : Int32).toInt ∧ ((i_1_0 + 2) : Int32).toInt ≤ 42; first | decide | (constructor <;> (have := kk_add2 (x := i_1_0) (y := 2) (a := i_1_0.toInt) (b := 2) rfl rfl (by omega) (by omega); omega))), (by show (-2147483648) ≤ (1000000000 : Int32).toInt ∧ (1000000000 : Int32).toInt ≤ 1000000000; first | decide | (constructor <;> (have := kk_add2 (x := i_1_0) (y := 2) (a := i_1_0.toInt) (b := 2) rfl rfl (by omega) (by omega); omega))), (by show ((i_1_0 + 2) : Int32).toInt ≤ ((i_1_0 + 2) : Int32).toInt; first | decide | (have := kk_add2 (x := i_1_0) (y := 2) (a := i_1_0.toInt) (b := 2) rfl rfl (by omega) (by omega); omega)), hP, hD, hS, hl⟩
      rintro ⟨i_4_0, i_4_1⟩ H locs ls ⟨t_4_0, t_4_1, z_4_0, hP, hD, hS, hl⟩ ih_4
      have t_4_0 : (2 ≤ i_4_0.toInt ∧ i_4_0.toInt ≤ 42) := t_4_0
      have t_4_1 : ((-2147483648) ≤ i_4_1.toInt ∧ i_4_1.toInt ≤ 1000000000) := t_4_1
      have z_4_0 : (i_1_0 + 2).toInt ≤ i_4_0.toInt := z_4_0
      have hl : lv_has ls 6 [(5, .int i_4_0), (4, .int i_4_1), (3, .int i_1_0), (0, .ref h0), (1, .int p0), (2, .int p1)] := hl
      have hP : va_P (dC, dI) vwCl (([(h0, .inr (6, [.ref h1, .ref h2, .ref h5, .ref h6, .int n0_pieceCount])), (h1, .inl (cAint, 40, .inr (.inr (.inr (.inr (fun j => some (h3 j))))))), (h2, .inl (cAint, 6, .inr (.inr (.inr (.inr (fun j => some (h4 j)))))))] : va_W) ++ (kk_rowsI h3 cint 41 F3 40 ++ (kk_rowsI h4 cint 41 f_1_1 6))) H := hP
      have hD : va_D A (([(h0, .inr (6, [.ref h1, .ref h2, .ref h5, .ref h6, .int n0_pieceCount])), (h1, .inl (cAint, 40, .inr (.inr (.inr (.inr (fun j => some (h3 j))))))), (h2, .inl (cAint, 6, .inr (.inr (.inr (.inr (fun j => some (h4 j)))))))] : va_W) ++ (kk_rowsI h3 cint 41 F3 40 ++ (kk_rowsI h4 cint 41 f_1_1 6))) := hD
      refine lv_iload hx hb dX6_workOutSums_46 (lv_at hl 0 rfl) ?_
      refine lv_iload_n hx hb dX6_workOutSums_48 rfl (lv_at hl 4 rfl) ?_
      refine lv_iconst (v := 2) hx hb dX6_workOutSums_49 (by decide) ?_
      refine lv_isub hx hb dX6_workOutSums_50 ?_
      refine lv_icmp_gt (tgt := 88) hx hb dX6_workOutSums_51 (by decide) (fun c_5 => ?_) (fun c_5 => ?_)
      · have t_5 : (p0 - 2).toInt < i_4_0.toInt := kk_lt c_5
        refine lv_aload_n hx hb dX6_workOutSums_88 rfl (lv_at hl 3 rfl) ?_
        refine va_get (D := (dC, dI)) (ci := 6) (v := .ref h2) (C := RX6) (T := TX6) (N := 5) hx hb hts (fun _ h => List.mem_cons_of_mem _ (List.mem_append_right _ h)) hown hK hP 0 rfl rfl 1 (by decide) (hts (.fieldLink RX6 16 "KinkStreet$Pieces" "sums" "[[I") (List.mem_of_getElem? (i := 3) rfl)) (fun _ h9 => h9) rfl dX6_workOutSums_89 ?_
        refine lv_iload_n hx hb dX6_workOutSums_92 rfl (lv_at hl 5 rfl) ?_
        have hi_6 : vp_in (p1 : Int32) 6 := (vp_in_iff.mpr ⟨by have := kk_rng i_4_1; have := kk_add2 (x := i_1_0) (y := 2) (a := i_1_0.toInt) (b := 2) rfl rfl (by omega) (by omega); have := kk_sub2 (x := p0) (y := 2) (a := p0.toInt) (b := 2) rfl rfl (by omega) (by omega); omega, by have := kk_rng i_4_1; have := kk_add2 (x := i_1_0) (y := 2) (a := i_1_0.toInt) (b := 2) rfl rfl (by omega) (by omega); have := kk_sub2 (x := p0) (y := 2) (a := p0.toInt) (b := 2) rfl rfl (by omega) (by omega); omega⟩)
        have hk_6 : (p1 : Int32).toNatClampNeg < 6 := Nat.not_le.mp fun q => hi_6 (Or.inr q)
        refine kk_aald hx hb hK hP 2 0 rfl rfl hi_6 dX6_workOutSums_93 ?_
        refine W.eq (g2 := F0 m 94 ls [.ref (h4 (p1 : Int32).toNatClampNeg)]) rfl ?_
        refine lv_iload_n hx hb dX6_workOutSums_94 rfl (lv_at hl 2 rfl) ?_
        refine lv_iload hx hb dX6_workOutSums_95 (lv_at hl 1 rfl) ?_
        refine va_iast hx hb hK hP hD hS _ 1 (kk_getr (kk_getr (kk_rowI hk_6))) rfl (vp_in_iff.mpr ⟨by have := kk_rng i_4_1; have := kk_add2 (x := i_1_0) (y := 2) (a := i_1_0.toInt) (b := 2) rfl rfl (by omega) (by omega); have := kk_sub2 (x := p0) (y := 2) (a := p0.toInt) (b := 2) rfl rfl (by omega) (by omega); omega, by have := kk_rng i_4_1; have := kk_add2 (x := i_1_0) (y := 2) (a := i_1_0.toInt) (b := 2) rfl rfl (by omega) (by omega); have := kk_sub2 (x := p0) (y := 2) (a := p0.toInt) (b := 2) rfl rfl (by omega) (by omega); omega⟩) dX6_workOutSums_97 (fun H locs hP hD hS => ?_)
        rw [kk_setr, kk_setr, kk_rowsI_set hk_6] at hP hD
        generalize kk_upF f_1_1 (p1 : Int32).toNatClampNeg (upd (f_1_1 (p1 : Int32).toNatClampNeg) (i_1_0 : Int32).toNatClampNeg i_4_1) = F_7 at hP hD
        have hP : va_P (dC, dI) vwCl (([(h0, .inr (6, [.ref h1, .ref h2, .ref h5, .ref h6, .int n0_pieceCount])), (h1, .inl (cAint, 40, .inr (.inr (.inr (.inr (fun j => some (h3 j))))))), (h2, .inl (cAint, 6, .inr (.inr (.inr (.inr (fun j => some (h4 j)))))))] : va_W) ++ (kk_rowsI h3 cint 41 F3 40 ++ (kk_rowsI h4 cint 41 F_7 6))) H := hP
        have hD : va_D A (([(h0, .inr (6, [.ref h1, .ref h2, .ref h5, .ref h6, .int n0_pieceCount])), (h1, .inl (cAint, 40, .inr (.inr (.inr (.inr (fun j => some (h3 j))))))), (h2, .inl (cAint, 6, .inr (.inr (.inr (.inr (fun j => some (h4 j)))))))] : va_W) ++ (kk_rowsI h3 cint 41 F3 40 ++ (kk_rowsI h4 cint 41 F_7 6))) := hD
        refine lv_iinc (v := (i_1_0 + 1)) (lv' := [(3, .int (i_1_0 + 1)), (5, .int i_4_0), (4, .int i_4_1), (0, .ref h0), (1, .int p0), (2, .int p1)]) hx hb dX6_workOutSums_98 hl (k := 2) rfl (by first | rfl | decide) (by decide) rfl (fun ls hl => ?_)
        refine lv_goto (tgt := 2) hx hb dX6_workOutSums_101 (by decide) ?_
        exact ih_1 ((i_1_0 + 1), F_7) _ _ _ (by show ((41 : Int) - ((i_1_0 + 1)).toInt).toNat < ((41 : Int) - i_1_0.toInt).toNat; have := kk_rng i_4_1; have := kk_add2 (x := i_1_0) (y := 2) (a := i_1_0.toInt) (b := 2) rfl rfl (by omega) (by omega); have := kk_sub2 (x := p0) (y := 2) (a := p0.toInt) (b := 2) rfl rfl (by omega) (by omega); have := kk_add2 (x := i_1_0) (y := 1) (a := i_1_0.toInt) (b := 1) rfl rfl (by omega) (by omega); exact kk_mu (by omega) (by omega)) ⟨(by show 0 ≤ ((i_1_0 + 1) : Int32).toInt ∧ ((i_1_0 + 1) : Int32).toInt ≤ 41; first | decide | (constructor <;> (have := kk_rng i_4_1; have := kk_add2 (x := i_1_0) (y := 2) (a := i_1_0.toInt) (b := 2) rfl rfl (by omega) (by omega); have := kk_sub2 (x := p0) (y := 2) (a := p0.toInt) (b := 2) rfl rfl (by omega) (by omega); have := kk_add2 (x := i_1_0) (y := 1) (a := i_1_0.toInt) (b := 1) rfl rfl (by omega) (by omega); omega))), hP, hD, hS, lv_sub hl [0, 3, 4, 5] rfl⟩
      · have t_5 : i_4_0.toInt ≤ (p0 - 2).toInt := kk_nlt c_5
        refine lv_iload hx hb dX6_workOutSums_54 (lv_at hl 1 rfl) ?_
        refine lv_aload_n hx hb dX6_workOutSums_56 rfl (lv_at hl 3 rfl) ?_
        refine va_get (D := (dC, dI)) (ci := 6) (v := .ref h1) (C := RX6) (T := TX6) (N := 5) hx hb hts (fun _ h => List.mem_cons_of_mem _ (List.mem_append_right _ h)) hown hK hP 0 rfl rfl 0 (by decide) (hts (.fieldLink RX6 11 "KinkStreet$Pieces" "spreads" "[[I") (List.mem_of_getElem? (i := 2) rfl)) (fun _ h9 => h9) rfl dX6_workOutSums_57 ?_
        refine lv_iload_n hx hb dX6_workOutSums_60 rfl (lv_at hl 2 rfl) ?_
        have hi_8 : vp_in (i_1_0 : Int32) 40 := (vp_in_iff.mpr ⟨by have := kk_rng i_4_1; have := kk_add2 (x := i_1_0) (y := 2) (a := i_1_0.toInt) (b := 2) rfl rfl (by omega) (by omega); have := kk_sub2 (x := p0) (y := 2) (a := p0.toInt) (b := 2) rfl rfl (by omega) (by omega); omega, by have := kk_rng i_4_1; have := kk_add2 (x := i_1_0) (y := 2) (a := i_1_0.toInt) (b := 2) rfl rfl (by omega) (by omega); have := kk_sub2 (x := p0) (y := 2) (a := p0.toInt) (b := 2) rfl rfl (by omega) (by omega); omega⟩)
        have hk_8 : (i_1_0 : Int32).toNatClampNeg < 40 := Nat.not_le.mp fun q => hi_8 (Or.inr q)
        refine kk_aald hx hb hK hP 1 0 rfl rfl hi_8 dX6_workOutSums_61 ?_
        refine W.eq (g2 := F0 m 62 ls [.ref (h3 (i_1_0 : Int32).toNatClampNeg), .int i_4_1]) rfl ?_
        refine lv_iload hx hb dX6_workOutSums_62 (lv_at hl 0 rfl) ?_
        refine va_iald hx hb hK hP _ 1 (kk_getr (kk_getl (kk_rowI hk_8))) rfl (vp_in_iff.mpr ⟨by have := kk_rng i_4_1; have := kk_add2 (x := i_1_0) (y := 2) (a := i_1_0.toInt) (b := 2) rfl rfl (by omega) (by omega); have := kk_sub2 (x := p0) (y := 2) (a := p0.toInt) (b := 2) rfl rfl (by omega) (by omega); omega, by have := kk_rng i_4_1; have := kk_add2 (x := i_1_0) (y := 2) (a := i_1_0.toInt) (b := 2) rfl rfl (by omega) (by omega); have := kk_sub2 (x := p0) (y := 2) (a := p0.toInt) (b := 2) rfl rfl (by omega) (by omega); omega⟩) dX6_workOutSums_64 ?_
        refine lv_topi (fun y_9 e_9 => ?_)
        clear e_9
        refine lv_aload_n hx hb dX6_workOutSums_65 rfl (lv_at hl 3 rfl) ?_
        refine va_get (D := (dC, dI)) (ci := 6) (v := .ref h2) (C := RX6) (T := TX6) (N := 5) hx hb hts (fun _ h => List.mem_cons_of_mem _ (List.mem_append_right _ h)) hown hK hP 0 rfl rfl 1 (by decide) (hts (.fieldLink RX6 16 "KinkStreet$Pieces" "sums" "[[I") (List.mem_of_getElem? (i := 3) rfl)) (fun _ h9 => h9) rfl dX6_workOutSums_66 ?_
        refine lv_iload_n hx hb dX6_workOutSums_69 rfl (lv_at hl 5 rfl) ?_
        refine lv_iconst (v := 1) hx hb dX6_workOutSums_70 (by decide) ?_
        refine lv_isub hx hb dX6_workOutSums_71 ?_
        have hi_10 : vp_in ((p1 - 1) : Int32) 6 := (vp_in_iff.mpr ⟨by have := kk_rng i_4_1; have := kk_add2 (x := i_1_0) (y := 2) (a := i_1_0.toInt) (b := 2) rfl rfl (by omega) (by omega); have := kk_sub2 (x := p0) (y := 2) (a := p0.toInt) (b := 2) rfl rfl (by omega) (by omega); have := kk_sub2 (x := p1) (y := 1) (a := p1.toInt) (b := 1) rfl rfl (by omega) (by omega); omega, by have := kk_rng i_4_1; have := kk_add2 (x := i_1_0) (y := 2) (a := i_1_0.toInt) (b := 2) rfl rfl (by omega) (by omega); have := kk_sub2 (x := p0) (y := 2) (a := p0.toInt) (b := 2) rfl rfl (by omega) (by omega); have := kk_sub2 (x := p1) (y := 1) (a := p1.toInt) (b := 1) rfl rfl (by omega) (by omega); omega⟩)
        have hk_10 : ((p1 - 1) : Int32).toNatClampNeg < 6 := Nat.not_le.mp fun q => hi_10 (Or.inr q)
        refine kk_aald hx hb hK hP 2 0 rfl rfl hi_10 dX6_workOutSums_72 ?_
        refine W.eq (g2 := F0 m 73 ls [.ref (h4 ((p1 - 1) : Int32).toNatClampNeg), .int y_9, .int i_4_1]) rfl ?_
        refine lv_iload hx hb dX6_workOutSums_73 (lv_at hl 0 rfl) ?_
        refine va_iald hx hb hK hP _ 1 (kk_getr (kk_getr (kk_rowI hk_10))) rfl (vp_in_iff.mpr ⟨by have := kk_rng i_4_1; have := kk_add2 (x := i_1_0) (y := 2) (a := i_1_0.toInt) (b := 2) rfl rfl (by omega) (by omega); have := kk_sub2 (x := p0) (y := 2) (a := p0.toInt) (b := 2) rfl rfl (by omega) (by omega); have := kk_sub2 (x := p1) (y := 1) (a := p1.toInt) (b := 1) rfl rfl (by omega) (by omega); omega, by have := kk_rng i_4_1; have := kk_add2 (x := i_1_0) (y := 2) (a := i_1_0.toInt) (b := 2) rfl rfl (by omega) (by omega); have := kk_sub2 (x := p0) (y := 2) (a := p0.toInt) (b := 2) rfl rfl (by omega) (by omega); have := kk_sub2 (x := p1) (y := 1) (a := p1.toInt) (b := 1) rfl rfl (by omega) (by omega); omega⟩) dX6_workOutSums_75 ?_
        refine lv_topi (fun y_11 e_11 => ?_)
        clear e_11
        refine lv_iadd hx hb dX6_workOutSums_76 ?_
        refine va_mmin hx hb (hml.trans hl.1.symm) hown (hts (.methodLink RX6 63 Lib.Math.min.name) (List.mem_of_getElem? (i := 4) rfl)) (hts (.static Lib.Math.min.name) (List.mem_of_getElem? (i := 5) rfl)) (hts (.initialized "java/lang/Math") (List.mem_of_getElem? (i := 6) rfl)) (hts (.code Lib.Math.min.name Lib.Math.min.code 2 (some .int)) (List.mem_of_getElem? (i := 7) rfl)) (Nat.le_of_ble_eq_true rfl) (Nat.le_of_ble_eq_true rfl) (Nat.le_of_ble_eq_true rfl) (Nat.le_of_ble_eq_true rfl) dX6_workOutSums_77 ?_
        refine lv_topi (fun y_12 e_12 => ?_)
        have t_12 : y_12.toInt ≤ i_4_1.toInt ∧ y_12.toInt ≤ (y_9 + y_11).toInt ∧ (y_12.toInt = i_4_1.toInt ∨ y_12.toInt = (y_9 + y_11).toInt) := by rw [e_12]; exact kk_min _ _
        clear e_12
        refine lv_istore (lv' := [(4, .int y_12), (5, .int i_4_0), (3, .int i_1_0), (0, .ref h0), (1, .int p0), (2, .int p1)]) hx hb dX6_workOutSums_80 hl (by decide) rfl (fun ls hl => ?_)
        refine lv_iinc (v := (i_4_0 + 1)) (lv' := [(5, .int (i_4_0 + 1)), (4, .int y_12), (3, .int i_1_0), (0, .ref h0), (1, .int p0), (2, .int p1)]) hx hb dX6_workOutSums_82 hl (k := 1) rfl (by first | rfl | decide) (by decide) rfl (fun ls hl => ?_)
        refine lv_goto (tgt := 46) hx hb dX6_workOutSums_85 (by decide) ?_
        exact ih_4 ((i_4_0 + 1), y_12) _ _ _ (by show ((42 : Int) - ((i_4_0 + 1)).toInt).toNat < ((42 : Int) - i_4_0.toInt).toNat; have := kk_rng y_12; have := kk_rng y_11; have := kk_rng y_9; have := kk_rng i_4_1; have := kk_add2 (x := i_1_0) (y := 2) (a := i_1_0.toInt) (b := 2) rfl rfl (by omega) (by omega); have := kk_sub2 (x := p0) (y := 2) (a := p0.toInt) (b := 2) rfl rfl (by omega) (by omega); have := kk_sub2 (x := p1) (y := 1) (a := p1.toInt) (b := 1) rfl rfl (by omega) (by omega); have := kk_add2 (x := i_4_0) (y := 1) (a := i_4_0.toInt) (b := 1) rfl rfl (by omega) (by omega); exact kk_mu (by omega) (by omega)) ⟨(by show 2 ≤ ((i_4_0 + 1) : Int32).toInt ∧ ((i_4_0 + 1) : Int32).toInt ≤ 42; first | decide | (constructor <;> (have := kk_rng y_12; have := kk_rng y_11; have := kk_rng y_9; have := kk_rng i_4_1; have := kk_add2 (x := i_1_0) (y := 2) (a := i_1_0.toInt) (b := 2) rfl rfl (by omega) (by omega); have := kk_sub2 (x := p0) (y := 2) (a := p0.toInt) (b := 2) rfl rfl (by omega) (by omega); have := kk_sub2 (x := p1) (y := 1) (a := p1.toInt) (b := 1) rfl rfl (by omega) (by omega); have := kk_add2 (x := i_4_0) (y := 1) (a := i_4_0.toInt) (b := 1) rfl rfl (by omega) (by omega); omega))), (by show (-2147483648) ≤ (y_12 : Int32).toInt ∧ (y_12 : Int32).toInt ≤ 1000000000; first | decide | (constructor <;> (have := kk_rng y_12; have := kk_rng y_11; have := kk_rng y_9; have := kk_rng i_4_1; have := kk_add2 (x := i_1_0) (y := 2) (a := i_1_0.toInt) (b := 2) rfl rfl (by omega) (by omega); have := kk_sub2 (x := p0) (y := 2) (a := p0.toInt) (b := 2) rfl rfl (by omega) (by omega); have := kk_sub2 (x := p1) (y := 1) (a := p1.toInt) (b := 1) rfl rfl (by omega) (by omega); have := kk_add2 (x := i_4_0) (y := 1) (a := i_4_0.toInt) (b := 1) rfl rfl (by omega) (by omega); omega))), (by show ((i_1_0 + 2) : Int32).toInt ≤ ((i_4_0 + 1) : Int32).toInt; first | decide | (have := kk_rng y_12; have := kk_rng y_11; have := kk_rng y_9; have := kk_rng i_4_1; have := kk_add2 (x := i_1_0) (y := 2) (a := i_1_0.toInt) (b := 2) rfl rfl (by omega) (by omega); have := kk_sub2 (x := p0) (y := 2) (a := p0.toInt) (b := 2) rfl rfl (by omega) (by omega); have := kk_sub2 (x := p1) (y := 1) (a := p1.toInt) (b := 1) rfl rfl (by omega) (by omega); have := kk_add2 (x := i_4_0) (y := 1) (a := i_4_0.toInt) (b := 1) rfl rfl (by omega) (by omega); omega)), hP, hD, hS, lv_sub hl [0, 1, 2, 3, 4, 5] rfl⟩
    · have t_3 : p1.toInt = 1 := kk_eq c_3
      refine lv_iload_n hx hb dX6_workOutSums_16 rfl (lv_at hl 3 rfl) ?_
      refine lv_iload_n hx hb dX6_workOutSums_17 rfl (lv_at hl 1 rfl) ?_
      refine lv_isub hx hb dX6_workOutSums_18 ?_
      refine lv_iconst (v := 2) hx hb dX6_workOutSums_19 (by decide) ?_
      refine lv_icmp_lt (tgt := 34) hx hb dX6_workOutSums_20 (by decide) (fun c_13 => ?_) (fun c_13 => ?_)
      · have t_13 : (p0 - i_1_0).toInt < 2 := kk_lt c_13
        refine lv_ldc hx hb hown (hts _ (List.mem_of_getElem? (i := 1) rfl)) dX6_workOutSums_34 ?_
        refine lv_istore (lv' := [(4, .int 1000000000), (3, .int i_1_0), (0, .ref h0), (1, .int p0), (2, .int p1)]) hx hb dX6_workOutSums_36 hl (by decide) rfl (fun ls hl => ?_)
        refine lv_goto (tgt := 88) hx hb dX6_workOutSums_38 (by decide) ?_
        refine lv_aload_n hx hb dX6_workOutSums_88 rfl (lv_at hl 2 rfl) ?_
        refine va_get (D := (dC, dI)) (ci := 6) (v := .ref h2) (C := RX6) (T := TX6) (N := 5) hx hb hts (fun _ h => List.mem_cons_of_mem _ (List.mem_append_right _ h)) hown hK hP 0 rfl rfl 1 (by decide) (hts (.fieldLink RX6 16 "KinkStreet$Pieces" "sums" "[[I") (List.mem_of_getElem? (i := 3) rfl)) (fun _ h9 => h9) rfl dX6_workOutSums_89 ?_
        refine lv_iload_n hx hb dX6_workOutSums_92 rfl (lv_at hl 4 rfl) ?_
        have hi_14 : vp_in (p1 : Int32) 6 := (vp_in_iff.mpr ⟨by have := kk_sub2 (x := p0) (y := i_1_0) (a := p0.toInt) (b := i_1_0.toInt) rfl rfl (by omega) (by omega); omega, by have := kk_sub2 (x := p0) (y := i_1_0) (a := p0.toInt) (b := i_1_0.toInt) rfl rfl (by omega) (by omega); omega⟩)
        have hk_14 : (p1 : Int32).toNatClampNeg < 6 := Nat.not_le.mp fun q => hi_14 (Or.inr q)
        refine kk_aald hx hb hK hP 2 0 rfl rfl hi_14 dX6_workOutSums_93 ?_
        refine W.eq (g2 := F0 m 94 ls [.ref (h4 (p1 : Int32).toNatClampNeg)]) rfl ?_
        refine lv_iload_n hx hb dX6_workOutSums_94 rfl (lv_at hl 1 rfl) ?_
        refine lv_iload hx hb dX6_workOutSums_95 (lv_at hl 0 rfl) ?_
        refine va_iast hx hb hK hP hD hS _ 1 (kk_getr (kk_getr (kk_rowI hk_14))) rfl (vp_in_iff.mpr ⟨by have := kk_sub2 (x := p0) (y := i_1_0) (a := p0.toInt) (b := i_1_0.toInt) rfl rfl (by omega) (by omega); omega, by have := kk_sub2 (x := p0) (y := i_1_0) (a := p0.toInt) (b := i_1_0.toInt) rfl rfl (by omega) (by omega); omega⟩) dX6_workOutSums_97 (fun H locs hP hD hS => ?_)
        rw [kk_setr, kk_setr, kk_rowsI_set hk_14] at hP hD
        generalize kk_upF f_1_1 (p1 : Int32).toNatClampNeg (upd (f_1_1 (p1 : Int32).toNatClampNeg) (i_1_0 : Int32).toNatClampNeg 1000000000) = F_15 at hP hD
        have hP : va_P (dC, dI) vwCl (([(h0, .inr (6, [.ref h1, .ref h2, .ref h5, .ref h6, .int n0_pieceCount])), (h1, .inl (cAint, 40, .inr (.inr (.inr (.inr (fun j => some (h3 j))))))), (h2, .inl (cAint, 6, .inr (.inr (.inr (.inr (fun j => some (h4 j)))))))] : va_W) ++ (kk_rowsI h3 cint 41 F3 40 ++ (kk_rowsI h4 cint 41 F_15 6))) H := hP
        have hD : va_D A (([(h0, .inr (6, [.ref h1, .ref h2, .ref h5, .ref h6, .int n0_pieceCount])), (h1, .inl (cAint, 40, .inr (.inr (.inr (.inr (fun j => some (h3 j))))))), (h2, .inl (cAint, 6, .inr (.inr (.inr (.inr (fun j => some (h4 j)))))))] : va_W) ++ (kk_rowsI h3 cint 41 F3 40 ++ (kk_rowsI h4 cint 41 F_15 6))) := hD
        refine lv_iinc (v := (i_1_0 + 1)) (lv' := [(3, .int (i_1_0 + 1)), (4, .int 1000000000), (0, .ref h0), (1, .int p0), (2, .int p1)]) hx hb dX6_workOutSums_98 hl (k := 1) rfl (by first | rfl | decide) (by decide) rfl (fun ls hl => ?_)
        refine lv_goto (tgt := 2) hx hb dX6_workOutSums_101 (by decide) ?_
        exact ih_1 ((i_1_0 + 1), F_15) _ _ _ (by show ((41 : Int) - ((i_1_0 + 1)).toInt).toNat < ((41 : Int) - i_1_0.toInt).toNat; have := kk_sub2 (x := p0) (y := i_1_0) (a := p0.toInt) (b := i_1_0.toInt) rfl rfl (by omega) (by omega); have := kk_add2 (x := i_1_0) (y := 1) (a := i_1_0.toInt) (b := 1) rfl rfl (by omega) (by omega); exact kk_mu (by omega) (by omega)) ⟨(by show 0 ≤ ((i_1_0 + 1) : Int32).toInt ∧ ((i_1_0 + 1) : Int32).toInt ≤ 41; first | decide | (constructor <;> (have := kk_sub2 (x := p0) (y := i_1_0) (a := p0.toInt) (b := i_1_0.toInt) rfl rfl (by omega) (by omega); have := kk_add2 (x := i_1_0) (y := 1) (a := i_1_0.toInt) (b := 1) rfl rfl (by omega) (by omega); omega))), hP, hD, hS, lv_sub hl [0, 2, 3, 4] rfl⟩
      · have t_13 : 2 ≤ (p0 - i_1_0).toInt := kk_nlt c_13
        refine lv_aload_n hx hb dX6_workOutSums_23 rfl (lv_at hl 2 rfl) ?_
        refine va_get (D := (dC, dI)) (ci := 6) (v := .ref h1) (C := RX6) (T := TX6) (N := 5) hx hb hts (fun _ h => List.mem_cons_of_mem _ (List.mem_append_right _ h)) hown hK hP 0 rfl rfl 0 (by decide) (hts (.fieldLink RX6 11 "KinkStreet$Pieces" "spreads" "[[I") (List.mem_of_getElem? (i := 2) rfl)) (fun _ h9 => h9) rfl dX6_workOutSums_24 ?_
        refine lv_iload_n hx hb dX6_workOutSums_27 rfl (lv_at hl 1 rfl) ?_
        have hi_16 : vp_in (i_1_0 : Int32) 40 := (vp_in_iff.mpr ⟨by have := kk_sub2 (x := p0) (y := i_1_0) (a := p0.toInt) (b := i_1_0.toInt) rfl rfl (by omega) (by omega); omega, by have := kk_sub2 (x := p0) (y := i_1_0) (a := p0.toInt) (b := i_1_0.toInt) rfl rfl (by omega) (by omega); omega⟩)
        have hk_16 : (i_1_0 : Int32).toNatClampNeg < 40 := Nat.not_le.mp fun q => hi_16 (Or.inr q)
        refine kk_aald hx hb hK hP 1 0 rfl rfl hi_16 dX6_workOutSums_28 ?_
        refine W.eq (g2 := F0 m 29 ls [.ref (h3 (i_1_0 : Int32).toNatClampNeg)]) rfl ?_
        refine lv_iload_n hx hb dX6_workOutSums_29 rfl (lv_at hl 3 rfl) ?_
        refine va_iald hx hb hK hP _ 1 (kk_getr (kk_getl (kk_rowI hk_16))) rfl (vp_in_iff.mpr ⟨by have := kk_sub2 (x := p0) (y := i_1_0) (a := p0.toInt) (b := i_1_0.toInt) rfl rfl (by omega) (by omega); omega, by have := kk_sub2 (x := p0) (y := i_1_0) (a := p0.toInt) (b := i_1_0.toInt) rfl rfl (by omega) (by omega); omega⟩) dX6_workOutSums_30 ?_
        refine lv_topi (fun y_17 e_17 => ?_)
        clear e_17
        refine lv_goto (tgt := 36) hx hb dX6_workOutSums_31 (by decide) ?_
        refine lv_istore (lv' := [(4, .int y_17), (3, .int i_1_0), (0, .ref h0), (1, .int p0), (2, .int p1)]) hx hb dX6_workOutSums_36 hl (by decide) rfl (fun ls hl => ?_)
        refine lv_goto (tgt := 88) hx hb dX6_workOutSums_38 (by decide) ?_
        refine lv_aload_n hx hb dX6_workOutSums_88 rfl (lv_at hl 2 rfl) ?_
        refine va_get (D := (dC, dI)) (ci := 6) (v := .ref h2) (C := RX6) (T := TX6) (N := 5) hx hb hts (fun _ h => List.mem_cons_of_mem _ (List.mem_append_right _ h)) hown hK hP 0 rfl rfl 1 (by decide) (hts (.fieldLink RX6 16 "KinkStreet$Pieces" "sums" "[[I") (List.mem_of_getElem? (i := 3) rfl)) (fun _ h9 => h9) rfl dX6_workOutSums_89 ?_
        refine lv_iload_n hx hb dX6_workOutSums_92 rfl (lv_at hl 4 rfl) ?_
        have hi_18 : vp_in (p1 : Int32) 6 := (vp_in_iff.mpr ⟨by have := kk_sub2 (x := p0) (y := i_1_0) (a := p0.toInt) (b := i_1_0.toInt) rfl rfl (by omega) (by omega); omega, by have := kk_sub2 (x := p0) (y := i_1_0) (a := p0.toInt) (b := i_1_0.toInt) rfl rfl (by omega) (by omega); omega⟩)
        have hk_18 : (p1 : Int32).toNatClampNeg < 6 := Nat.not_le.mp fun q => hi_18 (Or.inr q)
        refine kk_aald hx hb hK hP 2 0 rfl rfl hi_18 dX6_workOutSums_93 ?_
        refine W.eq (g2 := F0 m 94 ls [.ref (h4 (p1 : Int32).toNatClampNeg)]) rfl ?_
        refine lv_iload_n hx hb dX6_workOutSums_94 rfl (lv_at hl 1 rfl) ?_
        refine lv_iload hx hb dX6_workOutSums_95 (lv_at hl 0 rfl) ?_
        refine va_iast hx hb hK hP hD hS _ 1 (kk_getr (kk_getr (kk_rowI hk_18))) rfl (vp_in_iff.mpr ⟨by have := kk_sub2 (x := p0) (y := i_1_0) (a := p0.toInt) (b := i_1_0.toInt) rfl rfl (by omega) (by omega); omega, by have := kk_sub2 (x := p0) (y := i_1_0) (a := p0.toInt) (b := i_1_0.toInt) rfl rfl (by omega) (by omega); omega⟩) dX6_workOutSums_97 (fun H locs hP hD hS => ?_)
        rw [kk_setr, kk_setr, kk_rowsI_set hk_18] at hP hD
        generalize kk_upF f_1_1 (p1 : Int32).toNatClampNeg (upd (f_1_1 (p1 : Int32).toNatClampNeg) (i_1_0 : Int32).toNatClampNeg y_17) = F_19 at hP hD
        have hP : va_P (dC, dI) vwCl (([(h0, .inr (6, [.ref h1, .ref h2, .ref h5, .ref h6, .int n0_pieceCount])), (h1, .inl (cAint, 40, .inr (.inr (.inr (.inr (fun j => some (h3 j))))))), (h2, .inl (cAint, 6, .inr (.inr (.inr (.inr (fun j => some (h4 j)))))))] : va_W) ++ (kk_rowsI h3 cint 41 F3 40 ++ (kk_rowsI h4 cint 41 F_19 6))) H := hP
        have hD : va_D A (([(h0, .inr (6, [.ref h1, .ref h2, .ref h5, .ref h6, .int n0_pieceCount])), (h1, .inl (cAint, 40, .inr (.inr (.inr (.inr (fun j => some (h3 j))))))), (h2, .inl (cAint, 6, .inr (.inr (.inr (.inr (fun j => some (h4 j)))))))] : va_W) ++ (kk_rowsI h3 cint 41 F3 40 ++ (kk_rowsI h4 cint 41 F_19 6))) := hD
        refine lv_iinc (v := (i_1_0 + 1)) (lv' := [(3, .int (i_1_0 + 1)), (4, .int y_17), (0, .ref h0), (1, .int p0), (2, .int p1)]) hx hb dX6_workOutSums_98 hl (k := 1) rfl (by first | rfl | decide) (by decide) rfl (fun ls hl => ?_)
        refine lv_goto (tgt := 2) hx hb dX6_workOutSums_101 (by decide) ?_
        exact ih_1 ((i_1_0 + 1), F_19) _ _ _ (by show ((41 : Int) - ((i_1_0 + 1)).toInt).toNat < ((41 : Int) - i_1_0.toInt).toNat; have := kk_sub2 (x := p0) (y := i_1_0) (a := p0.toInt) (b := i_1_0.toInt) rfl rfl (by omega) (by omega); have := kk_add2 (x := i_1_0) (y := 1) (a := i_1_0.toInt) (b := 1) rfl rfl (by omega) (by omega); exact kk_mu (by omega) (by omega)) ⟨(by show 0 ≤ ((i_1_0 + 1) : Int32).toInt ∧ ((i_1_0 + 1) : Int32).toInt ≤ 41; first | decide | (constructor <;> (have := kk_sub2 (x := p0) (y := i_1_0) (a := p0.toInt) (b := i_1_0.toInt) rfl rfl (by omega) (by omega); have := kk_add2 (x := i_1_0) (y := 1) (a := i_1_0.toInt) (b := 1) rfl rfl (by omega) (by omega); omega))), hP, hD, hS, lv_sub hl [0, 2, 3, 4] rfl⟩
