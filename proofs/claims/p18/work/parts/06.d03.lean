set_option maxHeartbeats 4000000 in
set_option maxRecDepth 100000 in
theorem g_X2_narrow_0 (l : Launch) (dC : Nat → ClassId) (dI : Nat → Nat → Nat) (h0 : Nat) (h1 : Nat) (h2 : Nat) (h3 : Nat → Nat) (h4 : Nat → Nat) (h5 : Nat) (h6 : Nat) (h7 : Nat) (h8 : Nat) (h9 : Nat) (h10 : Nat) (h11 : Nat) (cAlong clong : ClassId) (sz : Nat) (p1 : Int32) (tp1 : 0 ≤ p1.toInt ∧ p1.toInt ≤ 39) (n0_size : Int32) (n0_names : Int32) (n0_plots : Int32) (n0_ways : Int32) (F3 : Nat → Nat → Int64) (F4 : Nat → Nat → Int64) (tn0_size : 0 ≤ n0_size.toInt ∧ n0_size.toInt ≤ 10) (tn0_names : 1 ≤ n0_names.toInt ∧ n0_names.toInt ≤ 5) (tn0_plots : 0 ≤ n0_plots.toInt ∧ n0_plots.toInt ≤ 40) : Met l yX2_narrow wsX2_narrow ({ frames := 0, cells := 0, slots := 0, locals := 0 }) (va_Pc [.ref h0, .int 0, .int p1] (fun U => U.heap.size = sz ∧ va_P (dC, dI) vwCl (([(h0, Sum.inr (2, [Value.ref h5, Value.ref h6, Value.ref h7, Value.int n0_size, Value.ref h8, Value.int n0_names, Value.int n0_plots, Value.ref h9, Value.ref h1, Value.ref h2, Value.ref h10, Value.ref h11, Value.int n0_ways])), (h1, Sum.inl (cAlong, 25, Sum.inr (Sum.inr (Sum.inr (Sum.inr (fun j => some (h3 j))))))), (h2, Sum.inl (cAlong, 5, Sum.inr (Sum.inr (Sum.inr (Sum.inr (fun j => some (h4 j)))))))] : va_W) ++ (kk_rowsL h3 clong 40 F3 25 ++ (kk_rowsL h4 clong 5 F4 5))) U.heap ∧ va_K (dC, dI) vwCl [(cAlong, .array .long), (clong, .long)] U ∧ va_D (fun _ => True) (([(h0, Sum.inr (2, [Value.ref h5, Value.ref h6, Value.ref h7, Value.int n0_size, Value.ref h8, Value.int n0_names, Value.int n0_plots, Value.ref h9, Value.ref h1, Value.ref h2, Value.ref h10, Value.ref h11, Value.int n0_ways])), (h1, Sum.inl (cAlong, 25, Sum.inr (Sum.inr (Sum.inr (Sum.inr (fun j => some (h3 j))))))), (h2, Sum.inl (cAlong, 5, Sum.inr (Sum.inr (Sum.inr (Sum.inr (fun j => some (h4 j)))))))] : va_W) ++ (kk_rowsL h3 clong 40 F3 25 ++ (kk_rowsL h4 clong 5 F4 5))))) (va_Qi (fun (r : Int32) (_ : Unit) => (2 ≤ n0_names.toInt ∧ (0 : Int32) = r) ∨ ((1 : Int32) = r)) (fun (_ : Unit) t => ∃ (g4 : Nat → Nat → Int64), va_P (dC, dI) vwCl (([(h0, Sum.inr (2, [Value.ref h5, Value.ref h6, Value.ref h7, Value.int n0_size, Value.ref h8, Value.int n0_names, Value.int n0_plots, Value.ref h9, Value.ref h1, Value.ref h2, Value.ref h10, Value.ref h11, Value.int n0_ways])), (h1, Sum.inl (cAlong, 25, Sum.inr (Sum.inr (Sum.inr (Sum.inr (fun j => some (h3 j))))))), (h2, Sum.inl (cAlong, 5, Sum.inr (Sum.inr (Sum.inr (Sum.inr (fun j => some (h4 j)))))))] : va_W) ++ (kk_rowsL h3 clong 40 F3 25 ++ (kk_rowsL h4 clong 5 g4 5))) t.heap ∧ va_K (dC, dI) vwCl [] t ∧ va_D (va_A (([(h0, Sum.inr (2, [Value.ref h5, Value.ref h6, Value.ref h7, Value.int n0_size, Value.ref h8, Value.int n0_names, Value.int n0_plots, Value.ref h9, Value.ref h1, Value.ref h2, Value.ref h10, Value.ref h11, Value.int n0_ways])), (h1, Sum.inl (cAlong, 25, Sum.inr (Sum.inr (Sum.inr (Sum.inr (fun j => some (h3 j))))))), (h2, Sum.inl (cAlong, 5, Sum.inr (Sum.inr (Sum.inr (Sum.inr (fun j => some (h4 j)))))))] : va_W) ++ (kk_rowsL h3 clong 40 F3 25 ++ (kk_rowsL h4 clong 5 F4 5))) sz) (([(h0, Sum.inr (2, [Value.ref h5, Value.ref h6, Value.ref h7, Value.int n0_size, Value.ref h8, Value.int n0_names, Value.int n0_plots, Value.ref h9, Value.ref h1, Value.ref h2, Value.ref h10, Value.ref h11, Value.int n0_ways])), (h1, Sum.inl (cAlong, 25, Sum.inr (Sum.inr (Sum.inr (Sum.inr (fun j => some (h3 j))))))), (h2, Sum.inl (cAlong, 5, Sum.inr (Sum.inr (Sum.inr (Sum.inr (fun j => some (h4 j)))))))] : va_W) ++ (kk_rowsL h3 clong 40 F3 25 ++ (kk_rowsL h4 clong 5 g4 5)))) (va_A (([(h0, Sum.inr (2, [Value.ref h5, Value.ref h6, Value.ref h7, Value.int n0_size, Value.ref h8, Value.int n0_names, Value.int n0_plots, Value.ref h9, Value.ref h1, Value.ref h2, Value.ref h10, Value.ref h11, Value.int n0_ways])), (h1, Sum.inl (cAlong, 25, Sum.inr (Sum.inr (Sum.inr (Sum.inr (fun j => some (h3 j))))))), (h2, Sum.inl (cAlong, 5, Sum.inr (Sum.inr (Sum.inr (Sum.inr (fun j => some (h4 j)))))))] : va_W) ++ (kk_rowsL h3 clong 40 F3 25 ++ (kk_rowsL h4 clong 5 F4 5))) sz)) 0 0 (va_A (([(h0, Sum.inr (2, [Value.ref h5, Value.ref h6, Value.ref h7, Value.int n0_size, Value.ref h8, Value.int n0_names, Value.int n0_plots, Value.ref h9, Value.ref h1, Value.ref h2, Value.ref h10, Value.ref h11, Value.int n0_ways])), (h1, Sum.inl (cAlong, 25, Sum.inr (Sum.inr (Sum.inr (Sum.inr (fun j => some (h3 j))))))), (h2, Sum.inl (cAlong, 5, Sum.inr (Sum.inr (Sum.inr (Sum.inr (fun j => some (h4 j)))))))] : va_W) ++ (kk_rowsL h3 clong 40 F3 25 ++ (kk_rowsL h4 clong 5 F4 5))) sz) := by
  refine Met.ofW (cc := cX2_narrow) (maxL := 6) (ret := (some .boolean)) (by decide) rfl ?_
  intro p e s m args below meth c s₁ B hml hv
  obtain ⟨rfl, hsz, hP, hK, hD0⟩ := hv
  have hx := B.exec
  have hb := B.bytes
  have hr := B.returns
  have hts := atoms_spec (ws := wsX2_narrow) B.pre
  have hown : s.vm.findClass RX2 = some m.cls := findClass_of_methodNamed B.named
  have hlocks := B.notSynchronized
  subst hsz
  have hD := hD0.self (sz := s.heap.size)
  generalize hAe : va_A (([(h0, Sum.inr (2, [Value.ref h5, Value.ref h6, Value.ref h7, Value.int n0_size, Value.ref h8, Value.int n0_names, Value.int n0_plots, Value.ref h9, Value.ref h1, Value.ref h2, Value.ref h10, Value.ref h11, Value.int n0_ways])), (h1, Sum.inl (cAlong, 25, Sum.inr (Sum.inr (Sum.inr (Sum.inr (fun j => some (h3 j))))))), (h2, Sum.inl (cAlong, 5, Sum.inr (Sum.inr (Sum.inr (Sum.inr (fun j => some (h4 j)))))))] : va_W) ++ (kk_rowsL h3 clong 40 F3 25 ++ (kk_rowsL h4 clong 5 F4 5))) s.heap.size = A at hD ⊢
  have hA : ∀ q : Nat, s.heap.size ≤ q → A q := fun q h => by rw [← hAe]; exact Or.inr h
  have hS : va_S A s.heap s.heap [] := va_S.rf
  have hP : va_P (dC, dI) vwCl (([(h0, Sum.inr (2, [Value.ref h5, Value.ref h6, Value.ref h7, Value.int n0_size, Value.ref h8, Value.int n0_names, Value.int n0_plots, Value.ref h9, Value.ref h1, Value.ref h2, Value.ref h10, Value.ref h11, Value.int n0_ways])), (h1, Sum.inl (cAlong, 25, Sum.inr (Sum.inr (Sum.inr (Sum.inr (fun j => some (h3 j))))))), (h2, Sum.inl (cAlong, 5, Sum.inr (Sum.inr (Sum.inr (Sum.inr (fun j => some (h4 j)))))))] : va_W) ++ (kk_rowsL h3 clong 40 F3 25 ++ (kk_rowsL h4 clong 5 F4 5))) s.heap := hP
  have hl := lv_entry ([.ref h0, .int 0, .int p1]) (n := 6) (Nat.le_of_ble_eq_true rfl)
  rw [lg_entry_eq]
  generalize (lg_sl ([.ref h0, .int 0, .int p1]) ++ List.replicate (6 - (lg_sl ([.ref h0, .int 0, .int p1])).length) Slot.unset).toArray = ls at hl ⊢
  have hl : lv_has ls 6 [(0, .ref h0), (1, .int 0), (2, .int p1)] := hl
  refine lv_iload_n hx hb dX2_narrow_0 rfl (lv_at hl 1 rfl) ?_
  refine lv_iconst (v := 1) hx hb dX2_narrow_1 (by decide) ?_
  refine lv_iadd hx hb dX2_narrow_2 ?_
  refine lv_topi (fun y_1 e_1 => ?_)
  obtain rfl : y_1 = 1 := e_1.trans (by decide)
  refine lv_istore_n (lv' := [(3, .int 1), (0, .ref h0), (1, .int 0), (2, .int p1)]) hx hb dX2_narrow_3 rfl hl (by decide) rfl (fun ls hl => ?_)
  refine kk_loop (σ := Int32 × (Nat → Nat → Int64)) (fun x H locs ls => (1 ≤ x.1.toInt ∧ x.1.toInt ≤ 5) ∧ va_P (dC, dI) vwCl (([(h0, Sum.inr (2, [Value.ref h5, Value.ref h6, Value.ref h7, Value.int n0_size, Value.ref h8, Value.int n0_names, Value.int n0_plots, Value.ref h9, Value.ref h1, Value.ref h2, Value.ref h10, Value.ref h11, Value.int n0_ways])), (h1, Sum.inl (cAlong, 25, Sum.inr (Sum.inr (Sum.inr (Sum.inr (fun j => some (h3 j))))))), (h2, Sum.inl (cAlong, 5, Sum.inr (Sum.inr (Sum.inr (Sum.inr (fun j => some (h4 j)))))))] : va_W) ++ (kk_rowsL h3 clong 40 F3 25 ++ (kk_rowsL h4 clong 5 x.2 5))) H ∧ va_D A (([(h0, Sum.inr (2, [Value.ref h5, Value.ref h6, Value.ref h7, Value.int n0_size, Value.ref h8, Value.int n0_names, Value.int n0_plots, Value.ref h9, Value.ref h1, Value.ref h2, Value.ref h10, Value.ref h11, Value.int n0_ways])), (h1, Sum.inl (cAlong, 25, Sum.inr (Sum.inr (Sum.inr (Sum.inr (fun j => some (h3 j))))))), (h2, Sum.inl (cAlong, 5, Sum.inr (Sum.inr (Sum.inr (Sum.inr (fun j => some (h4 j)))))))] : va_W) ++ (kk_rowsL h3 clong 40 F3 25 ++ (kk_rowsL h4 clong 5 x.2 5))) ∧ va_S A s.heap H locs ∧ lv_has ls 6 [(3, .int x.1), (0, .ref h0), (1, .int 0), (2, .int p1)]) (fun x => ((5 : Int) - x.1.toInt).toNat) ?_ (1, F4) _ _ _ ⟨(by show 1 ≤ (1 : Int32).toInt ∧ (1 : Int32).toInt ≤ 5; first | decide | (constructor <;> (omega))), hP, hD, hS, hl⟩
  rintro ⟨i_2_0, f_2_1⟩ H locs ls ⟨t_2_0, hP, hD, hS, hl⟩ ih_2
  have t_2_0 : (1 ≤ i_2_0.toInt ∧ i_2_0.toInt ≤ 5) := t_2_0
  have hl : lv_has ls 6 [(3, .int i_2_0), (0, .ref h0), (1, .int 0), (2, .int p1)] := hl
  have hP : va_P (dC, dI) vwCl (([(h0, Sum.inr (2, [Value.ref h5, Value.ref h6, Value.ref h7, Value.int n0_size, Value.ref h8, Value.int n0_names, Value.int n0_plots, Value.ref h9, Value.ref h1, Value.ref h2, Value.ref h10, Value.ref h11, Value.int n0_ways])), (h1, Sum.inl (cAlong, 25, Sum.inr (Sum.inr (Sum.inr (Sum.inr (fun j => some (h3 j))))))), (h2, Sum.inl (cAlong, 5, Sum.inr (Sum.inr (Sum.inr (Sum.inr (fun j => some (h4 j)))))))] : va_W) ++ (kk_rowsL h3 clong 40 F3 25 ++ (kk_rowsL h4 clong 5 f_2_1 5))) H := hP
  have hD : va_D A (([(h0, Sum.inr (2, [Value.ref h5, Value.ref h6, Value.ref h7, Value.int n0_size, Value.ref h8, Value.int n0_names, Value.int n0_plots, Value.ref h9, Value.ref h1, Value.ref h2, Value.ref h10, Value.ref h11, Value.int n0_ways])), (h1, Sum.inl (cAlong, 25, Sum.inr (Sum.inr (Sum.inr (Sum.inr (fun j => some (h3 j))))))), (h2, Sum.inl (cAlong, 5, Sum.inr (Sum.inr (Sum.inr (Sum.inr (fun j => some (h4 j)))))))] : va_W) ++ (kk_rowsL h3 clong 40 F3 25 ++ (kk_rowsL h4 clong 5 f_2_1 5))) := hD
  refine lv_iload_n hx hb dX2_narrow_4 rfl (lv_at hl 0 rfl) ?_
  refine lv_aload_n hx hb dX2_narrow_5 rfl (lv_at hl 1 rfl) ?_
  refine va_get (D := (dC, dI)) (ci := 2) (v := .int n0_names) (C := RX2) (T := TX2) (N := 13) hx hb hts (fun _ h => List.mem_cons_of_mem _ (List.mem_append_right _ h)) hown hK hP 0 rfl rfl 5 (by decide) (hts (.fieldLink RX2 49 "KinkStreet$Deeds" "names" "I") (List.mem_of_getElem? (i := 1) rfl)) (fun _ h9 => h9) rfl dX2_narrow_6 ?_
  refine lv_icmp_ge (tgt := 62) hx hb dX2_narrow_9 (by decide) (fun c_3 => ?_) (fun c_3 => ?_)
  · have t_3 : n0_names.toInt ≤ i_2_0.toInt := kk_le c_3
    refine lv_iconst (v := 1) hx hb dX2_narrow_62 (by decide) ?_
    have hP9 := hP.part (cx := [(h0, Sum.inr (2, [Value.ref h5, Value.ref h6, Value.ref h7, Value.int n0_size, Value.ref h8, Value.int n0_names, Value.int n0_plots, Value.ref h9, Value.ref h1, Value.ref h2, Value.ref h10, Value.ref h11, Value.int n0_ways])), (h1, Sum.inl (cAlong, 25, Sum.inr (Sum.inr (Sum.inr (Sum.inr (fun j => some (h3 j))))))), (h2, Sum.inl (cAlong, 5, Sum.inr (Sum.inr (Sum.inr (Sum.inr (fun j => some (h4 j)))))))]) [0, 1, 2] rfl
    have hD9 := hD.part (cx := [(h0, Sum.inr (2, [Value.ref h5, Value.ref h6, Value.ref h7, Value.int n0_size, Value.ref h8, Value.int n0_names, Value.int n0_plots, Value.ref h9, Value.ref h1, Value.ref h2, Value.ref h10, Value.ref h11, Value.int n0_ways])), (h1, Sum.inl (cAlong, 25, Sum.inr (Sum.inr (Sum.inr (Sum.inr (fun j => some (h3 j))))))), (h2, Sum.inl (cAlong, 5, Sum.inr (Sum.inr (Sum.inr (Sum.inr (fun j => some (h4 j)))))))]) [0, 1, 2] (by decide) rfl
    have hK9 := hK.sub (tys' := []) [] rfl
    exact W.zret (v := 1) hx hb hr rfl (fun t ht hW => ⟨⟨1, (), rfl, Or.inr (rfl), f_2_1, by rw [ht]; exact hP9, va_K.moved hW.alike hK9, hD9⟩, hS.F ht⟩) hS.2.2 dX2_narrow_63
  · have t_3 : i_2_0.toInt < n0_names.toInt := kk_nle c_3
    refine lv_aload_n hx hb dX2_narrow_12 rfl (lv_at hl 1 rfl) ?_
    refine va_get (D := (dC, dI)) (ci := 2) (v := .ref h2) (C := RX2) (T := TX2) (N := 13) hx hb hts (fun _ h => List.mem_cons_of_mem _ (List.mem_append_right _ h)) hown hK hP 0 rfl rfl 9 (by decide) (hts (.fieldLink RX2 32 "KinkStreet$Deeds" "open" "[[J") (List.mem_of_getElem? (i := 2) rfl)) (fun _ h9 => h9) rfl dX2_narrow_13 ?_
    refine lv_iload_n hx hb dX2_narrow_16 rfl (lv_at hl 2 rfl) ?_
    have hi_4 : vp_in (0 : Int32) 5 := (by unfold vp_in; decide)
    have hk_4 : (0 : Int32).toNatClampNeg < 5 := Nat.not_le.mp fun q => hi_4 (Or.inr q)
    refine kk_aald hx hb hK hP 2 0 rfl rfl hi_4 dX2_narrow_17 ?_
    refine W.eq (g2 := F0 m 18 ls [.ref (h4 (0 : Int32).toNatClampNeg)]) rfl ?_
    refine lv_iload_n hx hb dX2_narrow_18 rfl (lv_at hl 0 rfl) ?_
    refine va_lald hx hb hK hP _ 1 (kk_getr (kk_getr (kk_rowL hk_4))) rfl (vp_in_iff.mpr ⟨by omega, by omega⟩) dX2_narrow_19 ?_
    refine lv_topl (fun y_5 e_5 => ?_)
    clear e_5
    refine lv_aload_n hx hb dX2_narrow_20 rfl (lv_at hl 1 rfl) ?_
    refine va_get (D := (dC, dI)) (ci := 2) (v := .ref h1) (C := RX2) (T := TX2) (N := 13) hx hb hts (fun _ h => List.mem_cons_of_mem _ (List.mem_append_right _ h)) hown hK hP 0 rfl rfl 8 (by decide) (hts (.fieldLink RX2 29 "KinkStreet$Deeds" "fits" "[[J") (List.mem_of_getElem? (i := 3) rfl)) (fun _ h9 => h9) rfl dX2_narrow_21 ?_
    refine lv_iload_n hx hb dX2_narrow_24 rfl (lv_at hl 2 rfl) ?_
    refine lv_iconst (v := 5) hx hb dX2_narrow_25 (by decide) ?_
    refine lv_imul hx hb dX2_narrow_26 ?_
    refine lv_topi (fun y_6 e_6 => ?_)
    obtain rfl : y_6 = 0 := e_6.trans (by decide)
    refine lv_iload_n hx hb dX2_narrow_27 rfl (lv_at hl 0 rfl) ?_
    refine lv_iadd hx hb dX2_narrow_28 ?_
    have hi_7 : vp_in ((0 + i_2_0) : Int32) 25 := (vp_in_iff.mpr ⟨by have := kk_add2 (x := 0) (y := i_2_0) (a := 0) (b := i_2_0.toInt) rfl rfl (by omega) (by omega); omega, by have := kk_add2 (x := 0) (y := i_2_0) (a := 0) (b := i_2_0.toInt) rfl rfl (by omega) (by omega); omega⟩)
    have hk_7 : ((0 + i_2_0) : Int32).toNatClampNeg < 25 := Nat.not_le.mp fun q => hi_7 (Or.inr q)
    refine kk_aald hx hb hK hP 1 0 rfl rfl hi_7 dX2_narrow_29 ?_
    refine W.eq (g2 := F0 m 30 ls [.ref (h3 ((0 + i_2_0) : Int32).toNatClampNeg), .long y_5]) rfl ?_
    refine lv_iload_n hx hb dX2_narrow_30 rfl (lv_at hl 3 rfl) ?_
    refine va_lald hx hb hK hP _ 1 (kk_getr (kk_getl (kk_rowL hk_7))) rfl (vp_in_iff.mpr ⟨by have := kk_add2 (x := 0) (y := i_2_0) (a := 0) (b := i_2_0.toInt) rfl rfl (by omega) (by omega); omega, by have := kk_add2 (x := 0) (y := i_2_0) (a := 0) (b := i_2_0.toInt) rfl rfl (by omega) (by omega); omega⟩) dX2_narrow_31 ?_
    refine lv_topl (fun y_8 e_8 => ?_)
    clear e_8
    refine lv_land hx hb dX2_narrow_32 ?_
    refine lv_topl (fun y_9 e_9 => ?_)
    clear e_9
    refine lv_lstore (lv' := [(4, .long y_9), (3, .int i_2_0), (0, .ref h0), (1, .int 0), (2, .int p1)]) hx hb dX2_narrow_33 hl (by decide) rfl (fun ls hl => ?_)
    refine lv_aload_n hx hb dX2_narrow_35 rfl (lv_at hl 2 rfl) ?_
    refine va_get (D := (dC, dI)) (ci := 2) (v := .ref h2) (C := RX2) (T := TX2) (N := 13) hx hb hts (fun _ h => List.mem_cons_of_mem _ (List.mem_append_right _ h)) hown hK hP 0 rfl rfl 9 (by decide) (hts (.fieldLink RX2 32 "KinkStreet$Deeds" "open" "[[J") (List.mem_of_getElem? (i := 2) rfl)) (fun _ h9 => h9) rfl dX2_narrow_36 ?_
    refine lv_iload_n hx hb dX2_narrow_39 rfl (lv_at hl 3 rfl) ?_
    refine lv_iconst (v := 1) hx hb dX2_narrow_40 (by decide) ?_
    refine lv_iadd hx hb dX2_narrow_41 ?_
    refine lv_topi (fun y_10 e_10 => ?_)
    obtain rfl : y_10 = 1 := e_10.trans (by decide)
    have hi_11 : vp_in (1 : Int32) 5 := (by unfold vp_in; decide)
    have hk_11 : (1 : Int32).toNatClampNeg < 5 := Nat.not_le.mp fun q => hi_11 (Or.inr q)
    refine kk_aald hx hb hK hP 2 0 rfl rfl hi_11 dX2_narrow_42 ?_
    refine W.eq (g2 := F0 m 43 ls [.ref (h4 (1 : Int32).toNatClampNeg)]) rfl ?_
    refine lv_iload_n hx hb dX2_narrow_43 rfl (lv_at hl 1 rfl) ?_
    refine lv_lload hx hb dX2_narrow_44 (lv_at hl 0 rfl) ?_
    refine va_last hx hb hK hP hD hS _ 1 (kk_getr (kk_getr (kk_rowL hk_11))) rfl (vp_in_iff.mpr ⟨by have := kk_add2 (x := 0) (y := i_2_0) (a := 0) (b := i_2_0.toInt) rfl rfl (by omega) (by omega); omega, by have := kk_add2 (x := 0) (y := i_2_0) (a := 0) (b := i_2_0.toInt) rfl rfl (by omega) (by omega); omega⟩) dX2_narrow_46 (fun H locs hP hD hS => ?_)
    rw [kk_setr, kk_setr, kk_rowsL_set hk_11] at hP hD
    generalize kk_upF f_2_1 (1 : Int32).toNatClampNeg (vp_updL (f_2_1 (1 : Int32).toNatClampNeg) (i_2_0 : Int32).toNatClampNeg y_9) = F_12 at hP hD
    have hP : va_P (dC, dI) vwCl (([(h0, Sum.inr (2, [Value.ref h5, Value.ref h6, Value.ref h7, Value.int n0_size, Value.ref h8, Value.int n0_names, Value.int n0_plots, Value.ref h9, Value.ref h1, Value.ref h2, Value.ref h10, Value.ref h11, Value.int n0_ways])), (h1, Sum.inl (cAlong, 25, Sum.inr (Sum.inr (Sum.inr (Sum.inr (fun j => some (h3 j))))))), (h2, Sum.inl (cAlong, 5, Sum.inr (Sum.inr (Sum.inr (Sum.inr (fun j => some (h4 j)))))))] : va_W) ++ (kk_rowsL h3 clong 40 F3 25 ++ (kk_rowsL h4 clong 5 F_12 5))) H := hP
    have hD : va_D A (([(h0, Sum.inr (2, [Value.ref h5, Value.ref h6, Value.ref h7, Value.int n0_size, Value.ref h8, Value.int n0_names, Value.int n0_plots, Value.ref h9, Value.ref h1, Value.ref h2, Value.ref h10, Value.ref h11, Value.int n0_ways])), (h1, Sum.inl (cAlong, 25, Sum.inr (Sum.inr (Sum.inr (Sum.inr (fun j => some (h3 j))))))), (h2, Sum.inl (cAlong, 5, Sum.inr (Sum.inr (Sum.inr (Sum.inr (fun j => some (h4 j)))))))] : va_W) ++ (kk_rowsL h3 clong 40 F3 25 ++ (kk_rowsL h4 clong 5 F_12 5))) := hD
    refine lv_lload hx hb dX2_narrow_47 (lv_at hl 0 rfl) ?_
    refine lv_lconst (v := 0) hx hb dX2_narrow_49 (by decide) ?_
    refine W.lcmp hx hb dX2_narrow_50 ?_
    refine lv_if_ne (tgt := 56) hx hb dX2_narrow_51 (by decide) (fun _ => ?_) (fun _ => ?_)
    · skip
      refine lv_iinc (v := (i_2_0 + 1)) (lv' := [(3, .int (i_2_0 + 1)), (4, .long y_9), (0, .ref h0), (1, .int 0), (2, .int p1)]) hx hb dX2_narrow_56 hl (k := 1) rfl (by first | rfl | decide) (by decide) rfl (fun ls hl => ?_)
      refine lv_goto (tgt := 4) hx hb dX2_narrow_59 (by decide) ?_
      exact ih_2 ((i_2_0 + 1), F_12) _ _ _ (by show ((5 : Int) - ((i_2_0 + 1)).toInt).toNat < ((5 : Int) - i_2_0.toInt).toNat; have := kk_add2 (x := 0) (y := i_2_0) (a := 0) (b := i_2_0.toInt) rfl rfl (by omega) (by omega); have := kk_add2 (x := i_2_0) (y := 1) (a := i_2_0.toInt) (b := 1) rfl rfl (by omega) (by omega); exact kk_mu (by omega) (by omega)) ⟨(by show 1 ≤ ((i_2_0 + 1) : Int32).toInt ∧ ((i_2_0 + 1) : Int32).toInt ≤ 5; first | decide | (constructor <;> (have := kk_add2 (x := 0) (y := i_2_0) (a := 0) (b := i_2_0.toInt) rfl rfl (by omega) (by omega); have := kk_add2 (x := i_2_0) (y := 1) (a := i_2_0.toInt) (b := 1) rfl rfl (by omega) (by omega); omega))), hP, hD, hS, lv_sub hl [0, 2, 3, 4] rfl⟩
    · skip
      refine lv_iconst (v := 0) hx hb dX2_narrow_54 (by decide) ?_
      have hP9 := hP.part (cx := [(h0, Sum.inr (2, [Value.ref h5, Value.ref h6, Value.ref h7, Value.int n0_size, Value.ref h8, Value.int n0_names, Value.int n0_plots, Value.ref h9, Value.ref h1, Value.ref h2, Value.ref h10, Value.ref h11, Value.int n0_ways])), (h1, Sum.inl (cAlong, 25, Sum.inr (Sum.inr (Sum.inr (Sum.inr (fun j => some (h3 j))))))), (h2, Sum.inl (cAlong, 5, Sum.inr (Sum.inr (Sum.inr (Sum.inr (fun j => some (h4 j)))))))]) [0, 1, 2] rfl
      have hD9 := hD.part (cx := [(h0, Sum.inr (2, [Value.ref h5, Value.ref h6, Value.ref h7, Value.int n0_size, Value.ref h8, Value.int n0_names, Value.int n0_plots, Value.ref h9, Value.ref h1, Value.ref h2, Value.ref h10, Value.ref h11, Value.int n0_ways])), (h1, Sum.inl (cAlong, 25, Sum.inr (Sum.inr (Sum.inr (Sum.inr (fun j => some (h3 j))))))), (h2, Sum.inl (cAlong, 5, Sum.inr (Sum.inr (Sum.inr (Sum.inr (fun j => some (h4 j)))))))]) [0, 1, 2] (by decide) rfl
      have hK9 := hK.sub (tys' := []) [] rfl
      exact W.zret (v := 0) hx hb hr rfl (fun t ht hW => ⟨⟨0, (), rfl, Or.inl ⟨by first | assumption | (have := kk_add2 (x := 0) (y := i_2_0) (a := 0) (b := i_2_0.toInt) rfl rfl (by omega) (by omega); omega), rfl⟩, F_12, by rw [ht]; exact hP9, va_K.moved hW.alike hK9, hD9⟩, hS.F ht⟩) hS.2.2 dX2_narrow_55
set_option maxHeartbeats 4000000 in
set_option maxRecDepth 100000 in
theorem g_X2_narrow_1 (l : Launch) (dC : Nat → ClassId) (dI : Nat → Nat → Nat) (h0 : Nat) (h1 : Nat) (h2 : Nat) (h3 : Nat → Nat) (h4 : Nat → Nat) (h5 : Nat) (h6 : Nat) (h7 : Nat) (h8 : Nat) (h9 : Nat) (h10 : Nat) (h11 : Nat) (cAlong clong : ClassId) (sz : Nat) (p1 : Int32) (tp1 : 0 ≤ p1.toInt ∧ p1.toInt ≤ 39) (n0_size : Int32) (n0_names : Int32) (n0_plots : Int32) (n0_ways : Int32) (F3 : Nat → Nat → Int64) (F4 : Nat → Nat → Int64) (tn0_size : 0 ≤ n0_size.toInt ∧ n0_size.toInt ≤ 10) (tn0_names : 1 ≤ n0_names.toInt ∧ n0_names.toInt ≤ 5) (tn0_plots : 0 ≤ n0_plots.toInt ∧ n0_plots.toInt ≤ 40) : Met l yX2_narrow wsX2_narrow ({ frames := 0, cells := 0, slots := 0, locals := 0 }) (va_Pc [.ref h0, .int 1, .int p1] (fun U => U.heap.size = sz ∧ va_P (dC, dI) vwCl (([(h0, Sum.inr (2, [Value.ref h5, Value.ref h6, Value.ref h7, Value.int n0_size, Value.ref h8, Value.int n0_names, Value.int n0_plots, Value.ref h9, Value.ref h1, Value.ref h2, Value.ref h10, Value.ref h11, Value.int n0_ways])), (h1, Sum.inl (cAlong, 25, Sum.inr (Sum.inr (Sum.inr (Sum.inr (fun j => some (h3 j))))))), (h2, Sum.inl (cAlong, 5, Sum.inr (Sum.inr (Sum.inr (Sum.inr (fun j => some (h4 j)))))))] : va_W) ++ (kk_rowsL h3 clong 40 F3 25 ++ (kk_rowsL h4 clong 5 F4 5))) U.heap ∧ va_K (dC, dI) vwCl [(cAlong, .array .long), (clong, .long)] U ∧ va_D (fun _ => True) (([(h0, Sum.inr (2, [Value.ref h5, Value.ref h6, Value.ref h7, Value.int n0_size, Value.ref h8, Value.int n0_names, Value.int n0_plots, Value.ref h9, Value.ref h1, Value.ref h2, Value.ref h10, Value.ref h11, Value.int n0_ways])), (h1, Sum.inl (cAlong, 25, Sum.inr (Sum.inr (Sum.inr (Sum.inr (fun j => some (h3 j))))))), (h2, Sum.inl (cAlong, 5, Sum.inr (Sum.inr (Sum.inr (Sum.inr (fun j => some (h4 j)))))))] : va_W) ++ (kk_rowsL h3 clong 40 F3 25 ++ (kk_rowsL h4 clong 5 F4 5))))) (va_Qi (fun (r : Int32) (_ : Unit) => (3 ≤ n0_names.toInt ∧ (0 : Int32) = r) ∨ ((1 : Int32) = r)) (fun (_ : Unit) t => ∃ (g4 : Nat → Nat → Int64), va_P (dC, dI) vwCl (([(h0, Sum.inr (2, [Value.ref h5, Value.ref h6, Value.ref h7, Value.int n0_size, Value.ref h8, Value.int n0_names, Value.int n0_plots, Value.ref h9, Value.ref h1, Value.ref h2, Value.ref h10, Value.ref h11, Value.int n0_ways])), (h1, Sum.inl (cAlong, 25, Sum.inr (Sum.inr (Sum.inr (Sum.inr (fun j => some (h3 j))))))), (h2, Sum.inl (cAlong, 5, Sum.inr (Sum.inr (Sum.inr (Sum.inr (fun j => some (h4 j)))))))] : va_W) ++ (kk_rowsL h3 clong 40 F3 25 ++ (kk_rowsL h4 clong 5 g4 5))) t.heap ∧ va_K (dC, dI) vwCl [] t ∧ va_D (va_A (([(h0, Sum.inr (2, [Value.ref h5, Value.ref h6, Value.ref h7, Value.int n0_size, Value.ref h8, Value.int n0_names, Value.int n0_plots, Value.ref h9, Value.ref h1, Value.ref h2, Value.ref h10, Value.ref h11, Value.int n0_ways])), (h1, Sum.inl (cAlong, 25, Sum.inr (Sum.inr (Sum.inr (Sum.inr (fun j => some (h3 j))))))), (h2, Sum.inl (cAlong, 5, Sum.inr (Sum.inr (Sum.inr (Sum.inr (fun j => some (h4 j)))))))] : va_W) ++ (kk_rowsL h3 clong 40 F3 25 ++ (kk_rowsL h4 clong 5 F4 5))) sz) (([(h0, Sum.inr (2, [Value.ref h5, Value.ref h6, Value.ref h7, Value.int n0_size, Value.ref h8, Value.int n0_names, Value.int n0_plots, Value.ref h9, Value.ref h1, Value.ref h2, Value.ref h10, Value.ref h11, Value.int n0_ways])), (h1, Sum.inl (cAlong, 25, Sum.inr (Sum.inr (Sum.inr (Sum.inr (fun j => some (h3 j))))))), (h2, Sum.inl (cAlong, 5, Sum.inr (Sum.inr (Sum.inr (Sum.inr (fun j => some (h4 j)))))))] : va_W) ++ (kk_rowsL h3 clong 40 F3 25 ++ (kk_rowsL h4 clong 5 g4 5)))) (va_A (([(h0, Sum.inr (2, [Value.ref h5, Value.ref h6, Value.ref h7, Value.int n0_size, Value.ref h8, Value.int n0_names, Value.int n0_plots, Value.ref h9, Value.ref h1, Value.ref h2, Value.ref h10, Value.ref h11, Value.int n0_ways])), (h1, Sum.inl (cAlong, 25, Sum.inr (Sum.inr (Sum.inr (Sum.inr (fun j => some (h3 j))))))), (h2, Sum.inl (cAlong, 5, Sum.inr (Sum.inr (Sum.inr (Sum.inr (fun j => some (h4 j)))))))] : va_W) ++ (kk_rowsL h3 clong 40 F3 25 ++ (kk_rowsL h4 clong 5 F4 5))) sz)) 0 0 (va_A (([(h0, Sum.inr (2, [Value.ref h5, Value.ref h6, Value.ref h7, Value.int n0_size, Value.ref h8, Value.int n0_names, Value.int n0_plots, Value.ref h9, Value.ref h1, Value.ref h2, Value.ref h10, Value.ref h11, Value.int n0_ways])), (h1, Sum.inl (cAlong, 25, Sum.inr (Sum.inr (Sum.inr (Sum.inr (fun j => some (h3 j))))))), (h2, Sum.inl (cAlong, 5, Sum.inr (Sum.inr (Sum.inr (Sum.inr (fun j => some (h4 j)))))))] : va_W) ++ (kk_rowsL h3 clong 40 F3 25 ++ (kk_rowsL h4 clong 5 F4 5))) sz) := by
  refine Met.ofW (cc := cX2_narrow) (maxL := 6) (ret := (some .boolean)) (by decide) rfl ?_
  intro p e s m args below meth c s₁ B hml hv
  obtain ⟨rfl, hsz, hP, hK, hD0⟩ := hv
  have hx := B.exec
  have hb := B.bytes
  have hr := B.returns
  have hts := atoms_spec (ws := wsX2_narrow) B.pre
  have hown : s.vm.findClass RX2 = some m.cls := findClass_of_methodNamed B.named
  have hlocks := B.notSynchronized
  subst hsz
  have hD := hD0.self (sz := s.heap.size)
  generalize hAe : va_A (([(h0, Sum.inr (2, [Value.ref h5, Value.ref h6, Value.ref h7, Value.int n0_size, Value.ref h8, Value.int n0_names, Value.int n0_plots, Value.ref h9, Value.ref h1, Value.ref h2, Value.ref h10, Value.ref h11, Value.int n0_ways])), (h1, Sum.inl (cAlong, 25, Sum.inr (Sum.inr (Sum.inr (Sum.inr (fun j => some (h3 j))))))), (h2, Sum.inl (cAlong, 5, Sum.inr (Sum.inr (Sum.inr (Sum.inr (fun j => some (h4 j)))))))] : va_W) ++ (kk_rowsL h3 clong 40 F3 25 ++ (kk_rowsL h4 clong 5 F4 5))) s.heap.size = A at hD ⊢
  have hA : ∀ q : Nat, s.heap.size ≤ q → A q := fun q h => by rw [← hAe]; exact Or.inr h
  have hS : va_S A s.heap s.heap [] := va_S.rf
  have hP : va_P (dC, dI) vwCl (([(h0, Sum.inr (2, [Value.ref h5, Value.ref h6, Value.ref h7, Value.int n0_size, Value.ref h8, Value.int n0_names, Value.int n0_plots, Value.ref h9, Value.ref h1, Value.ref h2, Value.ref h10, Value.ref h11, Value.int n0_ways])), (h1, Sum.inl (cAlong, 25, Sum.inr (Sum.inr (Sum.inr (Sum.inr (fun j => some (h3 j))))))), (h2, Sum.inl (cAlong, 5, Sum.inr (Sum.inr (Sum.inr (Sum.inr (fun j => some (h4 j)))))))] : va_W) ++ (kk_rowsL h3 clong 40 F3 25 ++ (kk_rowsL h4 clong 5 F4 5))) s.heap := hP
  have hl := lv_entry ([.ref h0, .int 1, .int p1]) (n := 6) (Nat.le_of_ble_eq_true rfl)
  rw [lg_entry_eq]
  generalize (lg_sl ([.ref h0, .int 1, .int p1]) ++ List.replicate (6 - (lg_sl ([.ref h0, .int 1, .int p1])).length) Slot.unset).toArray = ls at hl ⊢
  have hl : lv_has ls 6 [(0, .ref h0), (1, .int 1), (2, .int p1)] := hl
  refine lv_iload_n hx hb dX2_narrow_0 rfl (lv_at hl 1 rfl) ?_
  refine lv_iconst (v := 1) hx hb dX2_narrow_1 (by decide) ?_
  refine lv_iadd hx hb dX2_narrow_2 ?_
  refine lv_topi (fun y_1 e_1 => ?_)
  obtain rfl : y_1 = 2 := e_1.trans (by decide)
  refine lv_istore_n (lv' := [(3, .int 2), (0, .ref h0), (1, .int 1), (2, .int p1)]) hx hb dX2_narrow_3 rfl hl (by decide) rfl (fun ls hl => ?_)
  refine kk_loop (σ := Int32 × (Nat → Nat → Int64)) (fun x H locs ls => (2 ≤ x.1.toInt ∧ x.1.toInt ≤ 5) ∧ va_P (dC, dI) vwCl (([(h0, Sum.inr (2, [Value.ref h5, Value.ref h6, Value.ref h7, Value.int n0_size, Value.ref h8, Value.int n0_names, Value.int n0_plots, Value.ref h9, Value.ref h1, Value.ref h2, Value.ref h10, Value.ref h11, Value.int n0_ways])), (h1, Sum.inl (cAlong, 25, Sum.inr (Sum.inr (Sum.inr (Sum.inr (fun j => some (h3 j))))))), (h2, Sum.inl (cAlong, 5, Sum.inr (Sum.inr (Sum.inr (Sum.inr (fun j => some (h4 j)))))))] : va_W) ++ (kk_rowsL h3 clong 40 F3 25 ++ (kk_rowsL h4 clong 5 x.2 5))) H ∧ va_D A (([(h0, Sum.inr (2, [Value.ref h5, Value.ref h6, Value.ref h7, Value.int n0_size, Value.ref h8, Value.int n0_names, Value.int n0_plots, Value.ref h9, Value.ref h1, Value.ref h2, Value.ref h10, Value.ref h11, Value.int n0_ways])), (h1, Sum.inl (cAlong, 25, Sum.inr (Sum.inr (Sum.inr (Sum.inr (fun j => some (h3 j))))))), (h2, Sum.inl (cAlong, 5, Sum.inr (Sum.inr (Sum.inr (Sum.inr (fun j => some (h4 j)))))))] : va_W) ++ (kk_rowsL h3 clong 40 F3 25 ++ (kk_rowsL h4 clong 5 x.2 5))) ∧ va_S A s.heap H locs ∧ lv_has ls 6 [(3, .int x.1), (0, .ref h0), (1, .int 1), (2, .int p1)]) (fun x => ((5 : Int) - x.1.toInt).toNat) ?_ (2, F4) _ _ _ ⟨(by show 2 ≤ (2 : Int32).toInt ∧ (2 : Int32).toInt ≤ 5; first | decide | (constructor <;> (omega))), hP, hD, hS, hl⟩
  rintro ⟨i_2_0, f_2_1⟩ H locs ls ⟨t_2_0, hP, hD, hS, hl⟩ ih_2
  have t_2_0 : (2 ≤ i_2_0.toInt ∧ i_2_0.toInt ≤ 5) := t_2_0
  have hl : lv_has ls 6 [(3, .int i_2_0), (0, .ref h0), (1, .int 1), (2, .int p1)] := hl
  have hP : va_P (dC, dI) vwCl (([(h0, Sum.inr (2, [Value.ref h5, Value.ref h6, Value.ref h7, Value.int n0_size, Value.ref h8, Value.int n0_names, Value.int n0_plots, Value.ref h9, Value.ref h1, Value.ref h2, Value.ref h10, Value.ref h11, Value.int n0_ways])), (h1, Sum.inl (cAlong, 25, Sum.inr (Sum.inr (Sum.inr (Sum.inr (fun j => some (h3 j))))))), (h2, Sum.inl (cAlong, 5, Sum.inr (Sum.inr (Sum.inr (Sum.inr (fun j => some (h4 j)))))))] : va_W) ++ (kk_rowsL h3 clong 40 F3 25 ++ (kk_rowsL h4 clong 5 f_2_1 5))) H := hP
  have hD : va_D A (([(h0, Sum.inr (2, [Value.ref h5, Value.ref h6, Value.ref h7, Value.int n0_size, Value.ref h8, Value.int n0_names, Value.int n0_plots, Value.ref h9, Value.ref h1, Value.ref h2, Value.ref h10, Value.ref h11, Value.int n0_ways])), (h1, Sum.inl (cAlong, 25, Sum.inr (Sum.inr (Sum.inr (Sum.inr (fun j => some (h3 j))))))), (h2, Sum.inl (cAlong, 5, Sum.inr (Sum.inr (Sum.inr (Sum.inr (fun j => some (h4 j)))))))] : va_W) ++ (kk_rowsL h3 clong 40 F3 25 ++ (kk_rowsL h4 clong 5 f_2_1 5))) := hD
  refine lv_iload_n hx hb dX2_narrow_4 rfl (lv_at hl 0 rfl) ?_
  refine lv_aload_n hx hb dX2_narrow_5 rfl (lv_at hl 1 rfl) ?_
  refine va_get (D := (dC, dI)) (ci := 2) (v := .int n0_names) (C := RX2) (T := TX2) (N := 13) hx hb hts (fun _ h => List.mem_cons_of_mem _ (List.mem_append_right _ h)) hown hK hP 0 rfl rfl 5 (by decide) (hts (.fieldLink RX2 49 "KinkStreet$Deeds" "names" "I") (List.mem_of_getElem? (i := 1) rfl)) (fun _ h9 => h9) rfl dX2_narrow_6 ?_
  refine lv_icmp_ge (tgt := 62) hx hb dX2_narrow_9 (by decide) (fun c_3 => ?_) (fun c_3 => ?_)
  · have t_3 : n0_names.toInt ≤ i_2_0.toInt := kk_le c_3
    refine lv_iconst (v := 1) hx hb dX2_narrow_62 (by decide) ?_
    have hP9 := hP.part (cx := [(h0, Sum.inr (2, [Value.ref h5, Value.ref h6, Value.ref h7, Value.int n0_size, Value.ref h8, Value.int n0_names, Value.int n0_plots, Value.ref h9, Value.ref h1, Value.ref h2, Value.ref h10, Value.ref h11, Value.int n0_ways])), (h1, Sum.inl (cAlong, 25, Sum.inr (Sum.inr (Sum.inr (Sum.inr (fun j => some (h3 j))))))), (h2, Sum.inl (cAlong, 5, Sum.inr (Sum.inr (Sum.inr (Sum.inr (fun j => some (h4 j)))))))]) [0, 1, 2] rfl
    have hD9 := hD.part (cx := [(h0, Sum.inr (2, [Value.ref h5, Value.ref h6, Value.ref h7, Value.int n0_size, Value.ref h8, Value.int n0_names, Value.int n0_plots, Value.ref h9, Value.ref h1, Value.ref h2, Value.ref h10, Value.ref h11, Value.int n0_ways])), (h1, Sum.inl (cAlong, 25, Sum.inr (Sum.inr (Sum.inr (Sum.inr (fun j => some (h3 j))))))), (h2, Sum.inl (cAlong, 5, Sum.inr (Sum.inr (Sum.inr (Sum.inr (fun j => some (h4 j)))))))]) [0, 1, 2] (by decide) rfl
    have hK9 := hK.sub (tys' := []) [] rfl
    exact W.zret (v := 1) hx hb hr rfl (fun t ht hW => ⟨⟨1, (), rfl, Or.inr (rfl), f_2_1, by rw [ht]; exact hP9, va_K.moved hW.alike hK9, hD9⟩, hS.F ht⟩) hS.2.2 dX2_narrow_63
  · have t_3 : i_2_0.toInt < n0_names.toInt := kk_nle c_3
    refine lv_aload_n hx hb dX2_narrow_12 rfl (lv_at hl 1 rfl) ?_
    refine va_get (D := (dC, dI)) (ci := 2) (v := .ref h2) (C := RX2) (T := TX2) (N := 13) hx hb hts (fun _ h => List.mem_cons_of_mem _ (List.mem_append_right _ h)) hown hK hP 0 rfl rfl 9 (by decide) (hts (.fieldLink RX2 32 "KinkStreet$Deeds" "open" "[[J") (List.mem_of_getElem? (i := 2) rfl)) (fun _ h9 => h9) rfl dX2_narrow_13 ?_
    refine lv_iload_n hx hb dX2_narrow_16 rfl (lv_at hl 2 rfl) ?_
    have hi_4 : vp_in (1 : Int32) 5 := (by unfold vp_in; decide)
    have hk_4 : (1 : Int32).toNatClampNeg < 5 := Nat.not_le.mp fun q => hi_4 (Or.inr q)
    refine kk_aald hx hb hK hP 2 0 rfl rfl hi_4 dX2_narrow_17 ?_
    refine W.eq (g2 := F0 m 18 ls [.ref (h4 (1 : Int32).toNatClampNeg)]) rfl ?_
    refine lv_iload_n hx hb dX2_narrow_18 rfl (lv_at hl 0 rfl) ?_
    refine va_lald hx hb hK hP _ 1 (kk_getr (kk_getr (kk_rowL hk_4))) rfl (vp_in_iff.mpr ⟨by omega, by omega⟩) dX2_narrow_19 ?_
    refine lv_topl (fun y_5 e_5 => ?_)
    clear e_5
    refine lv_aload_n hx hb dX2_narrow_20 rfl (lv_at hl 1 rfl) ?_
    refine va_get (D := (dC, dI)) (ci := 2) (v := .ref h1) (C := RX2) (T := TX2) (N := 13) hx hb hts (fun _ h => List.mem_cons_of_mem _ (List.mem_append_right _ h)) hown hK hP 0 rfl rfl 8 (by decide) (hts (.fieldLink RX2 29 "KinkStreet$Deeds" "fits" "[[J") (List.mem_of_getElem? (i := 3) rfl)) (fun _ h9 => h9) rfl dX2_narrow_21 ?_
    refine lv_iload_n hx hb dX2_narrow_24 rfl (lv_at hl 2 rfl) ?_
    refine lv_iconst (v := 5) hx hb dX2_narrow_25 (by decide) ?_
    refine lv_imul hx hb dX2_narrow_26 ?_
    refine lv_topi (fun y_6 e_6 => ?_)
    obtain rfl : y_6 = 5 := e_6.trans (by decide)
    refine lv_iload_n hx hb dX2_narrow_27 rfl (lv_at hl 0 rfl) ?_
    refine lv_iadd hx hb dX2_narrow_28 ?_
    have hi_7 : vp_in ((5 + i_2_0) : Int32) 25 := (vp_in_iff.mpr ⟨by have := kk_add2 (x := 5) (y := i_2_0) (a := 5) (b := i_2_0.toInt) rfl rfl (by omega) (by omega); omega, by have := kk_add2 (x := 5) (y := i_2_0) (a := 5) (b := i_2_0.toInt) rfl rfl (by omega) (by omega); omega⟩)
    have hk_7 : ((5 + i_2_0) : Int32).toNatClampNeg < 25 := Nat.not_le.mp fun q => hi_7 (Or.inr q)
    refine kk_aald hx hb hK hP 1 0 rfl rfl hi_7 dX2_narrow_29 ?_
    refine W.eq (g2 := F0 m 30 ls [.ref (h3 ((5 + i_2_0) : Int32).toNatClampNeg), .long y_5]) rfl ?_
    refine lv_iload_n hx hb dX2_narrow_30 rfl (lv_at hl 3 rfl) ?_
    refine va_lald hx hb hK hP _ 1 (kk_getr (kk_getl (kk_rowL hk_7))) rfl (vp_in_iff.mpr ⟨by have := kk_add2 (x := 5) (y := i_2_0) (a := 5) (b := i_2_0.toInt) rfl rfl (by omega) (by omega); omega, by have := kk_add2 (x := 5) (y := i_2_0) (a := 5) (b := i_2_0.toInt) rfl rfl (by omega) (by omega); omega⟩) dX2_narrow_31 ?_
    refine lv_topl (fun y_8 e_8 => ?_)
    clear e_8
    refine lv_land hx hb dX2_narrow_32 ?_
    refine lv_topl (fun y_9 e_9 => ?_)
    clear e_9
    refine lv_lstore (lv' := [(4, .long y_9), (3, .int i_2_0), (0, .ref h0), (1, .int 1), (2, .int p1)]) hx hb dX2_narrow_33 hl (by decide) rfl (fun ls hl => ?_)
    refine lv_aload_n hx hb dX2_narrow_35 rfl (lv_at hl 2 rfl) ?_
    refine va_get (D := (dC, dI)) (ci := 2) (v := .ref h2) (C := RX2) (T := TX2) (N := 13) hx hb hts (fun _ h => List.mem_cons_of_mem _ (List.mem_append_right _ h)) hown hK hP 0 rfl rfl 9 (by decide) (hts (.fieldLink RX2 32 "KinkStreet$Deeds" "open" "[[J") (List.mem_of_getElem? (i := 2) rfl)) (fun _ h9 => h9) rfl dX2_narrow_36 ?_
    refine lv_iload_n hx hb dX2_narrow_39 rfl (lv_at hl 3 rfl) ?_
    refine lv_iconst (v := 1) hx hb dX2_narrow_40 (by decide) ?_
    refine lv_iadd hx hb dX2_narrow_41 ?_
    refine lv_topi (fun y_10 e_10 => ?_)
    obtain rfl : y_10 = 2 := e_10.trans (by decide)
    have hi_11 : vp_in (2 : Int32) 5 := (by unfold vp_in; decide)
    have hk_11 : (2 : Int32).toNatClampNeg < 5 := Nat.not_le.mp fun q => hi_11 (Or.inr q)
    refine kk_aald hx hb hK hP 2 0 rfl rfl hi_11 dX2_narrow_42 ?_
    refine W.eq (g2 := F0 m 43 ls [.ref (h4 (2 : Int32).toNatClampNeg)]) rfl ?_
    refine lv_iload_n hx hb dX2_narrow_43 rfl (lv_at hl 1 rfl) ?_
    refine lv_lload hx hb dX2_narrow_44 (lv_at hl 0 rfl) ?_
    refine va_last hx hb hK hP hD hS _ 1 (kk_getr (kk_getr (kk_rowL hk_11))) rfl (vp_in_iff.mpr ⟨by have := kk_add2 (x := 5) (y := i_2_0) (a := 5) (b := i_2_0.toInt) rfl rfl (by omega) (by omega); omega, by have := kk_add2 (x := 5) (y := i_2_0) (a := 5) (b := i_2_0.toInt) rfl rfl (by omega) (by omega); omega⟩) dX2_narrow_46 (fun H locs hP hD hS => ?_)
    rw [kk_setr, kk_setr, kk_rowsL_set hk_11] at hP hD
    generalize kk_upF f_2_1 (2 : Int32).toNatClampNeg (vp_updL (f_2_1 (2 : Int32).toNatClampNeg) (i_2_0 : Int32).toNatClampNeg y_9) = F_12 at hP hD
    have hP : va_P (dC, dI) vwCl (([(h0, Sum.inr (2, [Value.ref h5, Value.ref h6, Value.ref h7, Value.int n0_size, Value.ref h8, Value.int n0_names, Value.int n0_plots, Value.ref h9, Value.ref h1, Value.ref h2, Value.ref h10, Value.ref h11, Value.int n0_ways])), (h1, Sum.inl (cAlong, 25, Sum.inr (Sum.inr (Sum.inr (Sum.inr (fun j => some (h3 j))))))), (h2, Sum.inl (cAlong, 5, Sum.inr (Sum.inr (Sum.inr (Sum.inr (fun j => some (h4 j)))))))] : va_W) ++ (kk_rowsL h3 clong 40 F3 25 ++ (kk_rowsL h4 clong 5 F_12 5))) H := hP
    have hD : va_D A (([(h0, Sum.inr (2, [Value.ref h5, Value.ref h6, Value.ref h7, Value.int n0_size, Value.ref h8, Value.int n0_names, Value.int n0_plots, Value.ref h9, Value.ref h1, Value.ref h2, Value.ref h10, Value.ref h11, Value.int n0_ways])), (h1, Sum.inl (cAlong, 25, Sum.inr (Sum.inr (Sum.inr (Sum.inr (fun j => some (h3 j))))))), (h2, Sum.inl (cAlong, 5, Sum.inr (Sum.inr (Sum.inr (Sum.inr (fun j => some (h4 j)))))))] : va_W) ++ (kk_rowsL h3 clong 40 F3 25 ++ (kk_rowsL h4 clong 5 F_12 5))) := hD
    refine lv_lload hx hb dX2_narrow_47 (lv_at hl 0 rfl) ?_
    refine lv_lconst (v := 0) hx hb dX2_narrow_49 (by decide) ?_
    refine W.lcmp hx hb dX2_narrow_50 ?_
    refine lv_if_ne (tgt := 56) hx hb dX2_narrow_51 (by decide) (fun _ => ?_) (fun _ => ?_)
    · skip
      refine lv_iinc (v := (i_2_0 + 1)) (lv' := [(3, .int (i_2_0 + 1)), (4, .long y_9), (0, .ref h0), (1, .int 1), (2, .int p1)]) hx hb dX2_narrow_56 hl (k := 1) rfl (by first | rfl | decide) (by decide) rfl (fun ls hl => ?_)
      refine lv_goto (tgt := 4) hx hb dX2_narrow_59 (by decide) ?_
      exact ih_2 ((i_2_0 + 1), F_12) _ _ _ (by show ((5 : Int) - ((i_2_0 + 1)).toInt).toNat < ((5 : Int) - i_2_0.toInt).toNat; have := kk_add2 (x := 5) (y := i_2_0) (a := 5) (b := i_2_0.toInt) rfl rfl (by omega) (by omega); have := kk_add2 (x := i_2_0) (y := 1) (a := i_2_0.toInt) (b := 1) rfl rfl (by omega) (by omega); exact kk_mu (by omega) (by omega)) ⟨(by show 2 ≤ ((i_2_0 + 1) : Int32).toInt ∧ ((i_2_0 + 1) : Int32).toInt ≤ 5; first | decide | (constructor <;> (have := kk_add2 (x := 5) (y := i_2_0) (a := 5) (b := i_2_0.toInt) rfl rfl (by omega) (by omega); have := kk_add2 (x := i_2_0) (y := 1) (a := i_2_0.toInt) (b := 1) rfl rfl (by omega) (by omega); omega))), hP, hD, hS, lv_sub hl [0, 2, 3, 4] rfl⟩
    · skip
      refine lv_iconst (v := 0) hx hb dX2_narrow_54 (by decide) ?_
      have hP9 := hP.part (cx := [(h0, Sum.inr (2, [Value.ref h5, Value.ref h6, Value.ref h7, Value.int n0_size, Value.ref h8, Value.int n0_names, Value.int n0_plots, Value.ref h9, Value.ref h1, Value.ref h2, Value.ref h10, Value.ref h11, Value.int n0_ways])), (h1, Sum.inl (cAlong, 25, Sum.inr (Sum.inr (Sum.inr (Sum.inr (fun j => some (h3 j))))))), (h2, Sum.inl (cAlong, 5, Sum.inr (Sum.inr (Sum.inr (Sum.inr (fun j => some (h4 j)))))))]) [0, 1, 2] rfl
      have hD9 := hD.part (cx := [(h0, Sum.inr (2, [Value.ref h5, Value.ref h6, Value.ref h7, Value.int n0_size, Value.ref h8, Value.int n0_names, Value.int n0_plots, Value.ref h9, Value.ref h1, Value.ref h2, Value.ref h10, Value.ref h11, Value.int n0_ways])), (h1, Sum.inl (cAlong, 25, Sum.inr (Sum.inr (Sum.inr (Sum.inr (fun j => some (h3 j))))))), (h2, Sum.inl (cAlong, 5, Sum.inr (Sum.inr (Sum.inr (Sum.inr (fun j => some (h4 j)))))))]) [0, 1, 2] (by decide) rfl
      have hK9 := hK.sub (tys' := []) [] rfl
      exact W.zret (v := 0) hx hb hr rfl (fun t ht hW => ⟨⟨0, (), rfl, Or.inl ⟨by first | assumption | (have := kk_add2 (x := 5) (y := i_2_0) (a := 5) (b := i_2_0.toInt) rfl rfl (by omega) (by omega); omega), rfl⟩, F_12, by rw [ht]; exact hP9, va_K.moved hW.alike hK9, hD9⟩, hS.F ht⟩) hS.2.2 dX2_narrow_55
set_option maxHeartbeats 4000000 in
set_option maxRecDepth 100000 in
theorem g_X2_narrow_2 (l : Launch) (dC : Nat → ClassId) (dI : Nat → Nat → Nat) (h0 : Nat) (h1 : Nat) (h2 : Nat) (h3 : Nat → Nat) (h4 : Nat → Nat) (h5 : Nat) (h6 : Nat) (h7 : Nat) (h8 : Nat) (h9 : Nat) (h10 : Nat) (h11 : Nat) (cAlong clong : ClassId) (sz : Nat) (p1 : Int32) (tp1 : 0 ≤ p1.toInt ∧ p1.toInt ≤ 39) (n0_size : Int32) (n0_names : Int32) (n0_plots : Int32) (n0_ways : Int32) (F3 : Nat → Nat → Int64) (F4 : Nat → Nat → Int64) (tn0_size : 0 ≤ n0_size.toInt ∧ n0_size.toInt ≤ 10) (tn0_names : 1 ≤ n0_names.toInt ∧ n0_names.toInt ≤ 5) (tn0_plots : 0 ≤ n0_plots.toInt ∧ n0_plots.toInt ≤ 40) : Met l yX2_narrow wsX2_narrow ({ frames := 0, cells := 0, slots := 0, locals := 0 }) (va_Pc [.ref h0, .int 2, .int p1] (fun U => U.heap.size = sz ∧ va_P (dC, dI) vwCl (([(h0, Sum.inr (2, [Value.ref h5, Value.ref h6, Value.ref h7, Value.int n0_size, Value.ref h8, Value.int n0_names, Value.int n0_plots, Value.ref h9, Value.ref h1, Value.ref h2, Value.ref h10, Value.ref h11, Value.int n0_ways])), (h1, Sum.inl (cAlong, 25, Sum.inr (Sum.inr (Sum.inr (Sum.inr (fun j => some (h3 j))))))), (h2, Sum.inl (cAlong, 5, Sum.inr (Sum.inr (Sum.inr (Sum.inr (fun j => some (h4 j)))))))] : va_W) ++ (kk_rowsL h3 clong 40 F3 25 ++ (kk_rowsL h4 clong 5 F4 5))) U.heap ∧ va_K (dC, dI) vwCl [(cAlong, .array .long), (clong, .long)] U ∧ va_D (fun _ => True) (([(h0, Sum.inr (2, [Value.ref h5, Value.ref h6, Value.ref h7, Value.int n0_size, Value.ref h8, Value.int n0_names, Value.int n0_plots, Value.ref h9, Value.ref h1, Value.ref h2, Value.ref h10, Value.ref h11, Value.int n0_ways])), (h1, Sum.inl (cAlong, 25, Sum.inr (Sum.inr (Sum.inr (Sum.inr (fun j => some (h3 j))))))), (h2, Sum.inl (cAlong, 5, Sum.inr (Sum.inr (Sum.inr (Sum.inr (fun j => some (h4 j)))))))] : va_W) ++ (kk_rowsL h3 clong 40 F3 25 ++ (kk_rowsL h4 clong 5 F4 5))))) (va_Qi (fun (r : Int32) (_ : Unit) => (4 ≤ n0_names.toInt ∧ (0 : Int32) = r) ∨ ((1 : Int32) = r)) (fun (_ : Unit) t => ∃ (g4 : Nat → Nat → Int64), va_P (dC, dI) vwCl (([(h0, Sum.inr (2, [Value.ref h5, Value.ref h6, Value.ref h7, Value.int n0_size, Value.ref h8, Value.int n0_names, Value.int n0_plots, Value.ref h9, Value.ref h1, Value.ref h2, Value.ref h10, Value.ref h11, Value.int n0_ways])), (h1, Sum.inl (cAlong, 25, Sum.inr (Sum.inr (Sum.inr (Sum.inr (fun j => some (h3 j))))))), (h2, Sum.inl (cAlong, 5, Sum.inr (Sum.inr (Sum.inr (Sum.inr (fun j => some (h4 j)))))))] : va_W) ++ (kk_rowsL h3 clong 40 F3 25 ++ (kk_rowsL h4 clong 5 g4 5))) t.heap ∧ va_K (dC, dI) vwCl [] t ∧ va_D (va_A (([(h0, Sum.inr (2, [Value.ref h5, Value.ref h6, Value.ref h7, Value.int n0_size, Value.ref h8, Value.int n0_names, Value.int n0_plots, Value.ref h9, Value.ref h1, Value.ref h2, Value.ref h10, Value.ref h11, Value.int n0_ways])), (h1, Sum.inl (cAlong, 25, Sum.inr (Sum.inr (Sum.inr (Sum.inr (fun j => some (h3 j))))))), (h2, Sum.inl (cAlong, 5, Sum.inr (Sum.inr (Sum.inr (Sum.inr (fun j => some (h4 j)))))))] : va_W) ++ (kk_rowsL h3 clong 40 F3 25 ++ (kk_rowsL h4 clong 5 F4 5))) sz) (([(h0, Sum.inr (2, [Value.ref h5, Value.ref h6, Value.ref h7, Value.int n0_size, Value.ref h8, Value.int n0_names, Value.int n0_plots, Value.ref h9, Value.ref h1, Value.ref h2, Value.ref h10, Value.ref h11, Value.int n0_ways])), (h1, Sum.inl (cAlong, 25, Sum.inr (Sum.inr (Sum.inr (Sum.inr (fun j => some (h3 j))))))), (h2, Sum.inl (cAlong, 5, Sum.inr (Sum.inr (Sum.inr (Sum.inr (fun j => some (h4 j)))))))] : va_W) ++ (kk_rowsL h3 clong 40 F3 25 ++ (kk_rowsL h4 clong 5 g4 5)))) (va_A (([(h0, Sum.inr (2, [Value.ref h5, Value.ref h6, Value.ref h7, Value.int n0_size, Value.ref h8, Value.int n0_names, Value.int n0_plots, Value.ref h9, Value.ref h1, Value.ref h2, Value.ref h10, Value.ref h11, Value.int n0_ways])), (h1, Sum.inl (cAlong, 25, Sum.inr (Sum.inr (Sum.inr (Sum.inr (fun j => some (h3 j))))))), (h2, Sum.inl (cAlong, 5, Sum.inr (Sum.inr (Sum.inr (Sum.inr (fun j => some (h4 j)))))))] : va_W) ++ (kk_rowsL h3 clong 40 F3 25 ++ (kk_rowsL h4 clong 5 F4 5))) sz)) 0 0 (va_A (([(h0, Sum.inr (2, [Value.ref h5, Value.ref h6, Value.ref h7, Value.int n0_size, Value.ref h8, Value.int n0_names, Value.int n0_plots, Value.ref h9, Value.ref h1, Value.ref h2, Value.ref h10, Value.ref h11, Value.int n0_ways])), (h1, Sum.inl (cAlong, 25, Sum.inr (Sum.inr (Sum.inr (Sum.inr (fun j => some (h3 j))))))), (h2, Sum.inl (cAlong, 5, Sum.inr (Sum.inr (Sum.inr (Sum.inr (fun j => some (h4 j)))))))] : va_W) ++ (kk_rowsL h3 clong 40 F3 25 ++ (kk_rowsL h4 clong 5 F4 5))) sz) := by
  refine Met.ofW (cc := cX2_narrow) (maxL := 6) (ret := (some .boolean)) (by decide) rfl ?_
  intro p e s m args below meth c s₁ B hml hv
  obtain ⟨rfl, hsz, hP, hK, hD0⟩ := hv
  have hx := B.exec
  have hb := B.bytes
  have hr := B.returns
  have hts := atoms_spec (ws := wsX2_narrow) B.pre
  have hown : s.vm.findClass RX2 = some m.cls := findClass_of_methodNamed B.named
  have hlocks := B.notSynchronized
  subst hsz
  have hD := hD0.self (sz := s.heap.size)
  generalize hAe : va_A (([(h0, Sum.inr (2, [Value.ref h5, Value.ref h6, Value.ref h7, Value.int n0_size, Value.ref h8, Value.int n0_names, Value.int n0_plots, Value.ref h9, Value.ref h1, Value.ref h2, Value.ref h10, Value.ref h11, Value.int n0_ways])), (h1, Sum.inl (cAlong, 25, Sum.inr (Sum.inr (Sum.inr (Sum.inr (fun j => some (h3 j))))))), (h2, Sum.inl (cAlong, 5, Sum.inr (Sum.inr (Sum.inr (Sum.inr (fun j => some (h4 j)))))))] : va_W) ++ (kk_rowsL h3 clong 40 F3 25 ++ (kk_rowsL h4 clong 5 F4 5))) s.heap.size = A at hD ⊢
  have hA : ∀ q : Nat, s.heap.size ≤ q → A q := fun q h => by rw [← hAe]; exact Or.inr h
  have hS : va_S A s.heap s.heap [] := va_S.rf
  have hP : va_P (dC, dI) vwCl (([(h0, Sum.inr (2, [Value.ref h5, Value.ref h6, Value.ref h7, Value.int n0_size, Value.ref h8, Value.int n0_names, Value.int n0_plots, Value.ref h9, Value.ref h1, Value.ref h2, Value.ref h10, Value.ref h11, Value.int n0_ways])), (h1, Sum.inl (cAlong, 25, Sum.inr (Sum.inr (Sum.inr (Sum.inr (fun j => some (h3 j))))))), (h2, Sum.inl (cAlong, 5, Sum.inr (Sum.inr (Sum.inr (Sum.inr (fun j => some (h4 j)))))))] : va_W) ++ (kk_rowsL h3 clong 40 F3 25 ++ (kk_rowsL h4 clong 5 F4 5))) s.heap := hP
  have hl := lv_entry ([.ref h0, .int 2, .int p1]) (n := 6) (Nat.le_of_ble_eq_true rfl)
  rw [lg_entry_eq]
  generalize (lg_sl ([.ref h0, .int 2, .int p1]) ++ List.replicate (6 - (lg_sl ([.ref h0, .int 2, .int p1])).length) Slot.unset).toArray = ls at hl ⊢
  have hl : lv_has ls 6 [(0, .ref h0), (1, .int 2), (2, .int p1)] := hl
  refine lv_iload_n hx hb dX2_narrow_0 rfl (lv_at hl 1 rfl) ?_
  refine lv_iconst (v := 1) hx hb dX2_narrow_1 (by decide) ?_
  refine lv_iadd hx hb dX2_narrow_2 ?_
  refine lv_topi (fun y_1 e_1 => ?_)
  obtain rfl : y_1 = 3 := e_1.trans (by decide)
  refine lv_istore_n (lv' := [(3, .int 3), (0, .ref h0), (1, .int 2), (2, .int p1)]) hx hb dX2_narrow_3 rfl hl (by decide) rfl (fun ls hl => ?_)
  refine kk_loop (σ := Int32 × (Nat → Nat → Int64)) (fun x H locs ls => (3 ≤ x.1.toInt ∧ x.1.toInt ≤ 5) ∧ va_P (dC, dI) vwCl (([(h0, Sum.inr (2, [Value.ref h5, Value.ref h6, Value.ref h7, Value.int n0_size, Value.ref h8, Value.int n0_names, Value.int n0_plots, Value.ref h9, Value.ref h1, Value.ref h2, Value.ref h10, Value.ref h11, Value.int n0_ways])), (h1, Sum.inl (cAlong, 25, Sum.inr (Sum.inr (Sum.inr (Sum.inr (fun j => some (h3 j))))))), (h2, Sum.inl (cAlong, 5, Sum.inr (Sum.inr (Sum.inr (Sum.inr (fun j => some (h4 j)))))))] : va_W) ++ (kk_rowsL h3 clong 40 F3 25 ++ (kk_rowsL h4 clong 5 x.2 5))) H ∧ va_D A (([(h0, Sum.inr (2, [Value.ref h5, Value.ref h6, Value.ref h7, Value.int n0_size, Value.ref h8, Value.int n0_names, Value.int n0_plots, Value.ref h9, Value.ref h1, Value.ref h2, Value.ref h10, Value.ref h11, Value.int n0_ways])), (h1, Sum.inl (cAlong, 25, Sum.inr (Sum.inr (Sum.inr (Sum.inr (fun j => some (h3 j))))))), (h2, Sum.inl (cAlong, 5, Sum.inr (Sum.inr (Sum.inr (Sum.inr (fun j => some (h4 j)))))))] : va_W) ++ (kk_rowsL h3 clong 40 F3 25 ++ (kk_rowsL h4 clong 5 x.2 5))) ∧ va_S A s.heap H locs ∧ lv_has ls 6 [(3, .int x.1), (0, .ref h0), (1, .int 2), (2, .int p1)]) (fun x => ((5 : Int) - x.1.toInt).toNat) ?_ (3, F4) _ _ _ ⟨(by show 3 ≤ (3 : Int32).toInt ∧ (3 : Int32).toInt ≤ 5; first | decide | (constructor <;> (omega))), hP, hD, hS, hl⟩
  rintro ⟨i_2_0, f_2_1⟩ H locs ls ⟨t_2_0, hP, hD, hS, hl⟩ ih_2
  have t_2_0 : (3 ≤ i_2_0.toInt ∧ i_2_0.toInt ≤ 5) := t_2_0
  have hl : lv_has ls 6 [(3, .int i_2_0), (0, .ref h0), (1, .int 2), (2, .int p1)] := hl
  have hP : va_P (dC, dI) vwCl (([(h0, Sum.inr (2, [Value.ref h5, Value.ref h6, Value.ref h7, Value.int n0_size, Value.ref h8, Value.int n0_names, Value.int n0_plots, Value.ref h9, Value.ref h1, Value.ref h2, Value.ref h10, Value.ref h11, Value.int n0_ways])), (h1, Sum.inl (cAlong, 25, Sum.inr (Sum.inr (Sum.inr (Sum.inr (fun j => some (h3 j))))))), (h2, Sum.inl (cAlong, 5, Sum.inr (Sum.inr (Sum.inr (Sum.inr (fun j => some (h4 j)))))))] : va_W) ++ (kk_rowsL h3 clong 40 F3 25 ++ (kk_rowsL h4 clong 5 f_2_1 5))) H := hP
  have hD : va_D A (([(h0, Sum.inr (2, [Value.ref h5, Value.ref h6, Value.ref h7, Value.int n0_size, Value.ref h8, Value.int n0_names, Value.int n0_plots, Value.ref h9, Value.ref h1, Value.ref h2, Value.ref h10, Value.ref h11, Value.int n0_ways])), (h1, Sum.inl (cAlong, 25, Sum.inr (Sum.inr (Sum.inr (Sum.inr (fun j => some (h3 j))))))), (h2, Sum.inl (cAlong, 5, Sum.inr (Sum.inr (Sum.inr (Sum.inr (fun j => some (h4 j)))))))] : va_W) ++ (kk_rowsL h3 clong 40 F3 25 ++ (kk_rowsL h4 clong 5 f_2_1 5))) := hD
  refine lv_iload_n hx hb dX2_narrow_4 rfl (lv_at hl 0 rfl) ?_
  refine lv_aload_n hx hb dX2_narrow_5 rfl (lv_at hl 1 rfl) ?_
  refine va_get (D := (dC, dI)) (ci := 2) (v := .int n0_names) (C := RX2) (T := TX2) (N := 13) hx hb hts (fun _ h => List.mem_cons_of_mem _ (List.mem_append_right _ h)) hown hK hP 0 rfl rfl 5 (by decide) (hts (.fieldLink RX2 49 "KinkStreet$Deeds" "names" "I") (List.mem_of_getElem? (i := 1) rfl)) (fun _ h9 => h9) rfl dX2_narrow_6 ?_
  refine lv_icmp_ge (tgt := 62) hx hb dX2_narrow_9 (by decide) (fun c_3 => ?_) (fun c_3 => ?_)
  · have t_3 : n0_names.toInt ≤ i_2_0.toInt := kk_le c_3
    refine lv_iconst (v := 1) hx hb dX2_narrow_62 (by decide) ?_
    have hP9 := hP.part (cx := [(h0, Sum.inr (2, [Value.ref h5, Value.ref h6, Value.ref h7, Value.int n0_size, Value.ref h8, Value.int n0_names, Value.int n0_plots, Value.ref h9, Value.ref h1, Value.ref h2, Value.ref h10, Value.ref h11, Value.int n0_ways])), (h1, Sum.inl (cAlong, 25, Sum.inr (Sum.inr (Sum.inr (Sum.inr (fun j => some (h3 j))))))), (h2, Sum.inl (cAlong, 5, Sum.inr (Sum.inr (Sum.inr (Sum.inr (fun j => some (h4 j)))))))]) [0, 1, 2] rfl
    have hD9 := hD.part (cx := [(h0, Sum.inr (2, [Value.ref h5, Value.ref h6, Value.ref h7, Value.int n0_size, Value.ref h8, Value.int n0_names, Value.int n0_plots, Value.ref h9, Value.ref h1, Value.ref h2, Value.ref h10, Value.ref h11, Value.int n0_ways])), (h1, Sum.inl (cAlong, 25, Sum.inr (Sum.inr (Sum.inr (Sum.inr (fun j => some (h3 j))))))), (h2, Sum.inl (cAlong, 5, Sum.inr (Sum.inr (Sum.inr (Sum.inr (fun j => some (h4 j)))))))]) [0, 1, 2] (by decide) rfl
    have hK9 := hK.sub (tys' := []) [] rfl
    exact W.zret (v := 1) hx hb hr rfl (fun t ht hW => ⟨⟨1, (), rfl, Or.inr (rfl), f_2_1, by rw [ht]; exact hP9, va_K.moved hW.alike hK9, hD9⟩, hS.F ht⟩) hS.2.2 dX2_narrow_63
  · have t_3 : i_2_0.toInt < n0_names.toInt := kk_nle c_3
    refine lv_aload_n hx hb dX2_narrow_12 rfl (lv_at hl 1 rfl) ?_
    refine va_get (D := (dC, dI)) (ci := 2) (v := .ref h2) (C := RX2) (T := TX2) (N := 13) hx hb hts (fun _ h => List.mem_cons_of_mem _ (List.mem_append_right _ h)) hown hK hP 0 rfl rfl 9 (by decide) (hts (.fieldLink RX2 32 "KinkStreet$Deeds" "open" "[[J") (List.mem_of_getElem? (i := 2) rfl)) (fun _ h9 => h9) rfl dX2_narrow_13 ?_
    refine lv_iload_n hx hb dX2_narrow_16 rfl (lv_at hl 2 rfl) ?_
    have hi_4 : vp_in (2 : Int32) 5 := (by unfold vp_in; decide)
    have hk_4 : (2 : Int32).toNatClampNeg < 5 := Nat.not_le.mp fun q => hi_4 (Or.inr q)
    refine kk_aald hx hb hK hP 2 0 rfl rfl hi_4 dX2_narrow_17 ?_
    refine W.eq (g2 := F0 m 18 ls [.ref (h4 (2 : Int32).toNatClampNeg)]) rfl ?_
    refine lv_iload_n hx hb dX2_narrow_18 rfl (lv_at hl 0 rfl) ?_
    refine va_lald hx hb hK hP _ 1 (kk_getr (kk_getr (kk_rowL hk_4))) rfl (vp_in_iff.mpr ⟨by omega, by omega⟩) dX2_narrow_19 ?_
    refine lv_topl (fun y_5 e_5 => ?_)
    clear e_5
    refine lv_aload_n hx hb dX2_narrow_20 rfl (lv_at hl 1 rfl) ?_
    refine va_get (D := (dC, dI)) (ci := 2) (v := .ref h1) (C := RX2) (T := TX2) (N := 13) hx hb hts (fun _ h => List.mem_cons_of_mem _ (List.mem_append_right _ h)) hown hK hP 0 rfl rfl 8 (by decide) (hts (.fieldLink RX2 29 "KinkStreet$Deeds" "fits" "[[J") (List.mem_of_getElem? (i := 3) rfl)) (fun _ h9 => h9) rfl dX2_narrow_21 ?_
    refine lv_iload_n hx hb dX2_narrow_24 rfl (lv_at hl 2 rfl) ?_
    refine lv_iconst (v := 5) hx hb dX2_narrow_25 (by decide) ?_
    refine lv_imul hx hb dX2_narrow_26 ?_
    refine lv_topi (fun y_6 e_6 => ?_)
    obtain rfl : y_6 = 10 := e_6.trans (by decide)
    refine lv_iload_n hx hb dX2_narrow_27 rfl (lv_at hl 0 rfl) ?_
    refine lv_iadd hx hb dX2_narrow_28 ?_
    have hi_7 : vp_in ((10 + i_2_0) : Int32) 25 := (vp_in_iff.mpr ⟨by have := kk_add2 (x := 10) (y := i_2_0) (a := 10) (b := i_2_0.toInt) rfl rfl (by omega) (by omega); omega, by have := kk_add2 (x := 10) (y := i_2_0) (a := 10) (b := i_2_0.toInt) rfl rfl (by omega) (by omega); omega⟩)
    have hk_7 : ((10 + i_2_0) : Int32).toNatClampNeg < 25 := Nat.not_le.mp fun q => hi_7 (Or.inr q)
    refine kk_aald hx hb hK hP 1 0 rfl rfl hi_7 dX2_narrow_29 ?_
    refine W.eq (g2 := F0 m 30 ls [.ref (h3 ((10 + i_2_0) : Int32).toNatClampNeg), .long y_5]) rfl ?_
    refine lv_iload_n hx hb dX2_narrow_30 rfl (lv_at hl 3 rfl) ?_
    refine va_lald hx hb hK hP _ 1 (kk_getr (kk_getl (kk_rowL hk_7))) rfl (vp_in_iff.mpr ⟨by have := kk_add2 (x := 10) (y := i_2_0) (a := 10) (b := i_2_0.toInt) rfl rfl (by omega) (by omega); omega, by have := kk_add2 (x := 10) (y := i_2_0) (a := 10) (b := i_2_0.toInt) rfl rfl (by omega) (by omega); omega⟩) dX2_narrow_31 ?_
    refine lv_topl (fun y_8 e_8 => ?_)
    clear e_8
    refine lv_land hx hb dX2_narrow_32 ?_
    refine lv_topl (fun y_9 e_9 => ?_)
    clear e_9
    refine lv_lstore (lv' := [(4, .long y_9), (3, .int i_2_0), (0, .ref h0), (1, .int 2), (2, .int p1)]) hx hb dX2_narrow_33 hl (by decide) rfl (fun ls hl => ?_)
    refine lv_aload_n hx hb dX2_narrow_35 rfl (lv_at hl 2 rfl) ?_
    refine va_get (D := (dC, dI)) (ci := 2) (v := .ref h2) (C := RX2) (T := TX2) (N := 13) hx hb hts (fun _ h => List.mem_cons_of_mem _ (List.mem_append_right _ h)) hown hK hP 0 rfl rfl 9 (by decide) (hts (.fieldLink RX2 32 "KinkStreet$Deeds" "open" "[[J") (List.mem_of_getElem? (i := 2) rfl)) (fun _ h9 => h9) rfl dX2_narrow_36 ?_
    refine lv_iload_n hx hb dX2_narrow_39 rfl (lv_at hl 3 rfl) ?_
    refine lv_iconst (v := 1) hx hb dX2_narrow_40 (by decide) ?_
    refine lv_iadd hx hb dX2_narrow_41 ?_
    refine lv_topi (fun y_10 e_10 => ?_)
    obtain rfl : y_10 = 3 := e_10.trans (by decide)
    have hi_11 : vp_in (3 : Int32) 5 := (by unfold vp_in; decide)
    have hk_11 : (3 : Int32).toNatClampNeg < 5 := Nat.not_le.mp fun q => hi_11 (Or.inr q)
    refine kk_aald hx hb hK hP 2 0 rfl rfl hi_11 dX2_narrow_42 ?_
    refine W.eq (g2 := F0 m 43 ls [.ref (h4 (3 : Int32).toNatClampNeg)]) rfl ?_
    refine lv_iload_n hx hb dX2_narrow_43 rfl (lv_at hl 1 rfl) ?_
    refine lv_lload hx hb dX2_narrow_44 (lv_at hl 0 rfl) ?_
    refine va_last hx hb hK hP hD hS _ 1 (kk_getr (kk_getr (kk_rowL hk_11))) rfl (vp_in_iff.mpr ⟨by have := kk_add2 (x := 10) (y := i_2_0) (a := 10) (b := i_2_0.toInt) rfl rfl (by omega) (by omega); omega, by have := kk_add2 (x := 10) (y := i_2_0) (a := 10) (b := i_2_0.toInt) rfl rfl (by omega) (by omega); omega⟩) dX2_narrow_46 (fun H locs hP hD hS => ?_)
    rw [kk_setr, kk_setr, kk_rowsL_set hk_11] at hP hD
    generalize kk_upF f_2_1 (3 : Int32).toNatClampNeg (vp_updL (f_2_1 (3 : Int32).toNatClampNeg) (i_2_0 : Int32).toNatClampNeg y_9) = F_12 at hP hD
    have hP : va_P (dC, dI) vwCl (([(h0, Sum.inr (2, [Value.ref h5, Value.ref h6, Value.ref h7, Value.int n0_size, Value.ref h8, Value.int n0_names, Value.int n0_plots, Value.ref h9, Value.ref h1, Value.ref h2, Value.ref h10, Value.ref h11, Value.int n0_ways])), (h1, Sum.inl (cAlong, 25, Sum.inr (Sum.inr (Sum.inr (Sum.inr (fun j => some (h3 j))))))), (h2, Sum.inl (cAlong, 5, Sum.inr (Sum.inr (Sum.inr (Sum.inr (fun j => some (h4 j)))))))] : va_W) ++ (kk_rowsL h3 clong 40 F3 25 ++ (kk_rowsL h4 clong 5 F_12 5))) H := hP
    have hD : va_D A (([(h0, Sum.inr (2, [Value.ref h5, Value.ref h6, Value.ref h7, Value.int n0_size, Value.ref h8, Value.int n0_names, Value.int n0_plots, Value.ref h9, Value.ref h1, Value.ref h2, Value.ref h10, Value.ref h11, Value.int n0_ways])), (h1, Sum.inl (cAlong, 25, Sum.inr (Sum.inr (Sum.inr (Sum.inr (fun j => some (h3 j))))))), (h2, Sum.inl (cAlong, 5, Sum.inr (Sum.inr (Sum.inr (Sum.inr (fun j => some (h4 j)))))))] : va_W) ++ (kk_rowsL h3 clong 40 F3 25 ++ (kk_rowsL h4 clong 5 F_12 5))) := hD
    refine lv_lload hx hb dX2_narrow_47 (lv_at hl 0 rfl) ?_
    refine lv_lconst (v := 0) hx hb dX2_narrow_49 (by decide) ?_
    refine W.lcmp hx hb dX2_narrow_50 ?_
    refine lv_if_ne (tgt := 56) hx hb dX2_narrow_51 (by decide) (fun _ => ?_) (fun _ => ?_)
    · skip
      refine lv_iinc (v := (i_2_0 + 1)) (lv' := [(3, .int (i_2_0 + 1)), (4, .long y_9), (0, .ref h0), (1, .int 2), (2, .int p1)]) hx hb dX2_narrow_56 hl (k := 1) rfl (by first | rfl | decide) (by decide) rfl (fun ls hl => ?_)
      refine lv_goto (tgt := 4) hx hb dX2_narrow_59 (by decide) ?_
      exact ih_2 ((i_2_0 + 1), F_12) _ _ _ (by show ((5 : Int) - ((i_2_0 + 1)).toInt).toNat < ((5 : Int) - i_2_0.toInt).toNat; have := kk_add2 (x := 10) (y := i_2_0) (a := 10) (b := i_2_0.toInt) rfl rfl (by omega) (by omega); have := kk_add2 (x := i_2_0) (y := 1) (a := i_2_0.toInt) (b := 1) rfl rfl (by omega) (by omega); exact kk_mu (by omega) (by omega)) ⟨(by show 3 ≤ ((i_2_0 + 1) : Int32).toInt ∧ ((i_2_0 + 1) : Int32).toInt ≤ 5; first | decide | (constructor <;> (have := kk_add2 (x := 10) (y := i_2_0) (a := 10) (b := i_2_0.toInt) rfl rfl (by omega) (by omega); have := kk_add2 (x := i_2_0) (y := 1) (a := i_2_0.toInt) (b := 1) rfl rfl (by omega) (by omega); omega))), hP, hD, hS, lv_sub hl [0, 2, 3, 4] rfl⟩
    · skip
      refine lv_iconst (v := 0) hx hb dX2_narrow_54 (by decide) ?_
      have hP9 := hP.part (cx := [(h0, Sum.inr (2, [Value.ref h5, Value.ref h6, Value.ref h7, Value.int n0_size, Value.ref h8, Value.int n0_names, Value.int n0_plots, Value.ref h9, Value.ref h1, Value.ref h2, Value.ref h10, Value.ref h11, Value.int n0_ways])), (h1, Sum.inl (cAlong, 25, Sum.inr (Sum.inr (Sum.inr (Sum.inr (fun j => some (h3 j))))))), (h2, Sum.inl (cAlong, 5, Sum.inr (Sum.inr (Sum.inr (Sum.inr (fun j => some (h4 j)))))))]) [0, 1, 2] rfl
      have hD9 := hD.part (cx := [(h0, Sum.inr (2, [Value.ref h5, Value.ref h6, Value.ref h7, Value.int n0_size, Value.ref h8, Value.int n0_names, Value.int n0_plots, Value.ref h9, Value.ref h1, Value.ref h2, Value.ref h10, Value.ref h11, Value.int n0_ways])), (h1, Sum.inl (cAlong, 25, Sum.inr (Sum.inr (Sum.inr (Sum.inr (fun j => some (h3 j))))))), (h2, Sum.inl (cAlong, 5, Sum.inr (Sum.inr (Sum.inr (Sum.inr (fun j => some (h4 j)))))))]) [0, 1, 2] (by decide) rfl
      have hK9 := hK.sub (tys' := []) [] rfl
      exact W.zret (v := 0) hx hb hr rfl (fun t ht hW => ⟨⟨0, (), rfl, Or.inl ⟨by first | assumption | (have := kk_add2 (x := 10) (y := i_2_0) (a := 10) (b := i_2_0.toInt) rfl rfl (by omega) (by omega); omega), rfl⟩, F_12, by rw [ht]; exact hP9, va_K.moved hW.alike hK9, hD9⟩, hS.F ht⟩) hS.2.2 dX2_narrow_55
