set_option maxHeartbeats 4000000 in
set_option maxRecDepth 100000 in
theorem g_X2_narrow_0 (l : Launch) (dC : Nat → ClassId) (dI : Nat → Nat → Nat) (h0 : Nat) (h1 : Nat) (h2 : Nat) (h3 : Nat → Nat) (h4 : Nat → Nat) (h5 : Nat) (h6 : Nat) (h7 : Nat) (h8 : Nat) (h9 : Nat) (h10 : Nat) (h11 : Nat) (cAlong clong : ClassId) (sz : Nat) (p1 : Int32) (tp1 : 0 ≤ p1.toInt ∧ p1.toInt ≤ 39) (n0_size : Int32) (n0_names : Int32) (n0_plots : Int32) (n0_ways : Int32) (F3 : Nat → Nat → Int64) (F4 : Nat → Nat → Int64) (tn0_size : 0 ≤ n0_size.toInt ∧ n0_size.toInt ≤ 10) (tn0_names : 1 ≤ n0_names.toInt ∧ n0_names.toInt ≤ 5) (tn0_plots : 0 ≤ n0_plots.toInt ∧ n0_plots.toInt ≤ 40) : Met l yX2_narrow wsX2_narrow ({ frames := 0, cells := 0, slots := 0, locals := 0 }) (va_Pc [.ref h0, .int 0, .int p1] (fun U => U.heap.size = sz ∧ va_P (dC, dI) vwCl (([(h0, Sum.inr (2, [Value.ref h5, Value.ref h6, Value.ref h7, Value.int n0_size, Value.ref h8, Value.int n0_names, Value.int n0_plots, Value.ref h9, Value.ref h1, Value.ref h2, Value.ref h10, Value.ref h11, Value.int n0_ways])), (h1, Sum.inl (cAlong, 25, Sum.inr (Sum.inr (Sum.inr (Sum.inr (fun j => some (h3 j))))))), (h2, Sum.inl (cAlong, 5, Sum.inr (Sum.inr (Sum.inr (Sum.inr (fun j => some (h4 j)))))))] : va_W) ++ (kk_rowsL h3 clong 40 F3 25 ++ (kk_rowsL h4 clong 5 F4 5))) U.heap ∧ va_K (dC, dI) vwCl [(cAlong, .array .long), (clong, .long)] U ∧ va_D (fun _ => True) (([(h0, Sum.inr (2, [Value.ref h5, Value.ref h6, Value.ref h7, Value.int n0_size, Value.ref h8, Value.int n0_names, Value.int n0_plots, Value.ref h9, Value.ref h1, Value.ref h2, Value.ref h10, Value.ref h11, Value.int n0_ways])), (h1, Sum.inl (cAlong, 25, Sum.inr (Sum.inr (Sum.inr (Sum.inr (fun j => some (h3 j))))))), (h2, Sum.inl (cAlong, 5, Sum.inr (Sum.inr (Sum.inr (Sum.inr (fun j => some (h4 j)))))))] : va_W) ++ (kk_rowsL h3 clong 40 F3 25 ++ (kk_rowsL h4 clong 5 F4 5))))) (va_Qi (fun (r : Int32) (_ : Unit) => (2 ≤ n0_names.toInt ∧ (0 : Int32) = r) ∨ ((1 : Int32) = r)) (fun (_ : Unit) t => ∃ (g4 : Nat → Nat → Int64), va_P (dC, dI) vwCl (([(h0, Sum.inr (2, [Value.ref h5, Value.ref h6, Value.ref h7, Value.int n0_size, Value.ref h8, Value.int n0_names, Value.int n0_plots, Value.ref h9, Value.ref h1, Value.ref h2, Value.ref h10, Value.ref h11, Value.int n0_ways])), (h1, Sum.inl (cAlong, 25, Sum.inr (Sum.inr (Sum.inr (Sum.inr (fun j => some (h3 j))))))), (h2, Sum.inl (cAlong, 5, Sum.inr (Sum.inr (Sum.inr (Sum.inr (fun j => some (h4 j)))))))] : va_W) ++ (kk_rowsL h3 clong 40 F3 25 ++ (kk_rowsL h4 clong 5 g4 5))) t.heap ∧ va_K (dC, dI) vwCl [] t ∧ va_D (va_A (([(h0, Sum.inr (2, [Value.ref h5, Value.ref h6, Value.ref h7, Value.int n0_size, Value.ref h8, Value.int n0_names, Value.int n0_plots, Value.ref h9, Value.ref h1, Value.ref h2, Value.ref h10, Value.ref h11, Value.int n0_ways])), (h1, Sum.inl (cAlong, 25, Sum.inr (Sum.inr (Sum.inr (Sum.inr (fun j => some (h3 j))))))), (h2, Sum.inl (cAlong, 5, Sum.inr (Sum.inr (Sum.inr (Sum.inr (fun j => some (h4 j)))))))] : va_W) ++ (kk_rowsL h3 clong 40 F3 25 ++ (kk_rowsL h4 clong 5 F4 5))) sz) (([(h0, Sum.inr (2, [Value.ref h5, Value.ref h6, Value.ref h7, Value.int n0_size, Value.ref h8, Value.int n0_names, Value.int n0_plots, Value.ref h9, Value.ref h1, Value.ref h2, Value.ref h10, Value.ref h11, Value.int n0_ways])), (h1, Sum.inl (cAlong, 25, Sum.inr (Sum.inr (Sum.inr (Sum.inr (fun j => some (h3 j))))))), (h2, Sum.inl (cAlong, 5, Sum.inr (Sum.inr (Sum.inr (Sum.inr (fun j => some (h4 j)))))))] : va_W) ++ (kk_rowsL h3 clong 40 F3 25 ++ (kk_rowsL h4 clong 5 g4 5)))) (va_A (([(h0, Sum.inr (2, [Value.ref h5, Value.ref h6, Value.ref h7, Value.int n0_size, Value.ref h8, Value.int n0_names, Value.int n0_plots, Value.ref h9, Value.ref h1, Value.ref h2, Value.ref h10, Value.ref h11, Value.int n0_ways])), (h1, Sum.inl (cAlong, 25, Sum.inr (Sum.inr (Sum.inr (Sum.inr (fun j => some (h3 j))))))), (h2, Sum.inl (cAlong, 5, Sum.inr (Sum.inr (Sum.inr (Sum.inr (fun j => some (h4 j)))))))] : va_W) ++ (kk_rowsL h3 clong 40 F3 25 ++ (kk_rowsL h4 clong 5 F4 5))) sz)) 0 0 (va_A (([(h0, Sum.inr (2, [Value.ref h5, Value.ref h6, Value.ref h7, Value.int n0_size, Value.ref h8, Value.int n0_names, Value.int n0_plots, Value.ref h9, Value.ref h1, Value.ref h2, Value.ref h10, Value.ref h11, Value.int n0_ways])), (h1, Sum.inl (cAlong, 25, Sum.inr (Sum.inr (Sum.inr (Sum.inr (fun j => some (h3 j))))))), (h2, Sum.inl (cAlong, 5, Sum.inr (Sum.inr (Sum.inr (Sum.inr (fun j => some (h4 j)))))))] : va_W) ++ (kk_rowsL h3 clong 40 F3 25 ++ (kk_rowsL h4 clong 5 F4 5))) sz) := by
  refine Met.ofW (cc := cX2_narrow) (maxL := 6) (ret := (some .boolean)) (by decide) rfl ?_
  intro p e s m args below meth c s₁ B hml hv
  obtain ⟨rfl, hsz, hP, hK, hD0⟩ := hv
  have hx := B.exec
  have hb := B.bytes
  have hr := B.returns
  have hts := atoms_spec (ws := wsX2_narrow) B.pre
  have hown : s.vm.findClass RX2 = some m.cls := findClass_of_methodNamed B.named
  have hlocks := B.notSynchronized
  subst hsz
  have hD := hD0.self (sz := s.heap.size)
  generalize hAe : va_A (([(h0, Sum.inr (2, [Value.ref h5, Value.ref h6, Value.ref h7, Value.int n0_size, Value.ref h8, Value.int n0_names, Value.int n0_plots, Value.ref h9, Value.ref h1, Value.ref h2, Value.ref h10, Value.ref h11, Value.int n0_ways])), (h1, Sum.inl (cAlong, 25, Sum.inr (Sum.inr (Sum.inr (Sum.inr (fun j => some (h3 j))))))), (h2, Sum.inl (cAlong, 5, Sum.inr (Sum.inr (Sum.inr (Sum.inr (fun j => some (h4 j)))))))] : va_W) ++ (kk_rowsL h3 clong 40 F3 25 ++ (kk_rowsL h4 clong 5 F4 5))) s.heap.size = A at hD ⊢
  have hA : ∀ q : Nat, s.heap.size ≤ q → A q := fun q h => by rw [← hAe]; exact Or.inr h
  have hS : va_S A s.heap s.heap [] := va_S.rf
  have hP : va_P (dC, dI) vwCl (([(h0, Sum.inr (2, [Value.ref h5, Value.ref h6, Value.ref h7, Value.int n0_size, Value.ref h8, Value.int n0_names, Value.int n0_plots, Value.ref h9, Value.ref h1, Value.ref h2, Value.ref h10, Value.ref h11, Value.int n0_ways])), (h1, Sum.inl (cAlong, 25, Sum.inr (Sum.inr (Sum.inr (Sum.inr (fun j => some (h3 j))))))), (h2, Sum.inl (cAlong, 5, Sum.inr (Sum.inr (Sum.inr (Sum.inr (fun j => some (h4 j)))))))] : va_W) ++ (kk_rowsL h3 clong 40 F3 25 ++ (kk_rowsL h4 clong 5 F4 5))) s.heap := hP
  have hl := lv_entry ([.ref h0, .int 0, .int p1]) (n := 6) (Nat.le_of_ble_eq_true rfl)
  rw [lg_entry_eq]
  generalize (lg_sl ([.ref h0, .int 0, .int p1]) ++ List.replicate (6 - (lg_sl ([.ref h0, .int 0, .int p1])).length) Slot.unset).toArray = ls at hl ⊢
  have hl : lv_has ls 6 [(0, .ref h0), (1, .int 0), (2, .int p1)] := hl
  refine lv_iload_n hx hb dX2_narrow_0 rfl (lv_at hl 1 rfl) ?_
  refine lv_iconst (v := 1) hx hb dX2_narrow_1 (by decide) ?_
  refine lv_iadd hx hb dX2_narrow_2 ?_
  refine lv_topi (fun y_1 e_1 => ?_)
  obtain rfl : y_1 = 1 := e_1.trans (by decide)
  refine lv_istore_n (lv' := [(3, .int 1), (0, .ref h0), (1, .int 0), (2, .int p1)]) hx hb dX2_narrow_3 rfl hl (by decide) rfl (fun ls hl => ?_)
  refine kk_loop (σ := Int32 × (Nat → Nat → Int64)) (fun x H locs ls => (1 ≤ x.1.toInt ∧ x.1.toInt ≤ 5) ∧ va_P (dC, dI) vwCl (([(h0, Sum.inr (2, [Value.ref h5, Value.ref h6, Value.ref h7, Value.int n0_size, Value.ref h8, Value.int n0_names, Value.int n0_plots, Value.ref h9, Value.ref h1, Value.ref h2, Value.ref h10, Value.ref h11, Value.int n0_ways])), (h1, Sum.inl (cAlong, 25, Sum.inr (Sum.inr (Sum.inr (Sum.inr (fun j => some (h3 j))))))), (h2, Sum.inl (cAlong, 5, Sum.inr (Sum.inr (Sum.inr (Sum.inr (fun j => some (h4 j)))))))] : va_W) ++ (kk_rowsL h3 clong 40 F3 25 ++ (kk_rowsL h4 clong 5 x.2 5))) H ∧ va_D A (([(h0, Sum.inr (2, [Value.ref h5, Value.ref h6, Value.ref h7, Value.int n0_size, Value.ref h8, Value.int n0_names, Value.int n0_plots, Value.ref h9, Value.ref h1, Value.ref h2, Value.ref h10, Value.ref h11, Value.int n0_ways])), (h1, Sum.inl (cAlong, 25, Sum.inr (Sum.inr (Sum.inr (Sum.inr (fun j => some (h3 j))))))), (h2, Sum.inl (cAlong, 5, Sum.inr (Sum.inr (Sum.inr (Sum.inr (fun j => some (h4 j)))))))] : va_W) ++ (kk_rowsL h3 clong 40 F3 25 ++ (kk_rowsL h4 clong 5 x.2 5))) ∧ va_S A s.heap H locs ∧ lv_has ls 6 [(3, .int x.1), (0, .ref h0), (1, .int 0), (2, .int p1)]) (fun x => ((5 : Int) - x.1.toInt).toNat) ?_ (1, F4) _ _ _ ⟨(by show 1 ≤ (1 : Int32).toInt ∧ (1 : Int32).toInt ≤ 5; first | decide | (constructor <;> (omega))), hP, hD, hS, hl⟩
  rintro ⟨i_2_0, f_2_1⟩ H locs ls ⟨t_2_0, hP, hD, hS, hl⟩ ih_2
  have t_2_0 : (1 ≤ i_2_0.toInt ∧ i_2_0.toInt ≤ 5) := t_2_0
  have hl : lv_has ls 6 [(3, .int i_2_0), (0, .ref h0), (1, .int 0), (2, .int p1)] := hl
  have hP : va_P (dC, dI) vwCl (([(h0, Sum.inr (2, [Value.ref h5, Value.ref h6, Value.ref h7, Value.int n0_size, Value.ref h8, Value.int n0_names, Value.int n0_plots, Value.ref h9, Value.ref h1, Value.ref h2, Value.ref h10, Value.ref h11, Value.int n0_ways])), (h1, Sum.inl (cAlong, 25, Sum.inr (Sum.inr (Sum.inr (Sum.inr (fun j => some (h3 j))))))), (h2, Sum.inl (cAlong, 5, Sum.inr (Sum.inr (Sum.inr (Sum.inr (fun j => some (h4 j)))))))] : va_W) ++ (kk_rowsL h3 clong 40 F3 25 ++ (kk_rowsL h4 clong 5 f_2_1 5))) H := hP
  have hD : va_D A (([(h0, Sum.inr (2, [Value.ref h5, Value.ref h6, Value.ref h7, Value.int n0_size, Value.ref h8, Value.int n0_names, Value.int n0_plots, Value.ref h9, Value.ref h1, Value.ref h2, Value.ref h10, Value.ref h11, Value.int n0_ways])), (h1, Sum.inl (cAlong, 25, Sum.inr (Sum.inr (Sum.inr (Sum.inr (fun j => some (h3 j))))))), (h2, Sum.inl (cAlong, 5, Sum.inr (Sum.inr (Sum.inr (Sum.inr (fun j => some (h4 j)))))))] : va_W) ++ (kk_rowsL h3 clong 40 F3 25 ++ (kk_rowsL h4 clong 5 f_2_1 5))) := hD
  refine lv_iload_n hx hb dX2_narrow_4 rfl (lv_at hl 0 rfl) ?_
  refine lv_aload_n hx hb dX2_narrow_5 rfl (lv_at hl 1 rfl) ?_
  refine va_get (D := (dC, dI)) (ci := 2) (v := .int n0_names) (C := RX2) (T := TX2) (N := 13) hx hb hts (fun _ h => List.mem_cons_of_mem _ (List.mem_append_right _ h)) hown hK hP 0 rfl rfl 5 (by decide) (hts (.fieldLink RX2 49 "KinkStreet$Deeds" "names" "I") (List.mem_of_getElem? (i := 1) rfl)) (fun _ h9 => h9) rfl dX2_narrow_6 ?_
  refine lv_icmp_ge (tgt := 62) hx hb dX2_narrow_9 (by decide) (fun c_3 => ?_) (fun c_3 => ?_)
  · have t_3 : n0_names.toInt ≤ i_2_0.toInt := kk_le c_3
    refine lv_iconst (v := 1) hx hb dX2_narrow_62 (by decide) ?_
    have hP9 := hP.part (cx := [(h0, Sum.inr (2, [Value.ref h5, Value.ref h6, Value.ref h7, Value.int n0_size, Value.ref h8, Value.int n0_names, Value.int n0_plots, Value.ref h9, Value.ref h1, Value.ref h2, Value.ref h10, Value.ref h11, Value.int n0_ways])), (h1, Sum.inl (cAlong, 25, Sum.inr (Sum.inr (Sum.inr (Sum.inr (fun j => some (h3 j))))))), (h2, Sum.inl (cAlong, 5, Sum.inr (Sum.inr (Sum.inr (Sum.inr (fun j => some (h4 j)))))))]) [0, 1, 2] rfl
    have hD9 := hD.part (cx := [(h0, Sum.inr (2, [Value.ref h5, Value.ref h6, Value.ref h7, Value.int n0_size, Value.ref h8, Value.int n0_names, Value.int n0_plots, Value.ref h9, Value.ref h1, Value.ref h2, Value.ref h10, Value.ref h11, Value.int n0_ways])), (h1, Sum.inl (cAlong, 25, Sum.inr (Sum.inr (Sum.inr (Sum.inr (fun j => some (h3 j))))))), (h2, Sum.inl (cAlong, 5, Sum.inr (Sum.inr (Sum.inr (Sum.inr (fun j => some (h4 j)))))))]) [0, 1, 2] (by decide) rfl
    have hK9 := hK.sub (tys' := []) [] rfl
    exact W.zret (v := 1) hx hb hr rfl (fun t ht hW => ⟨⟨1, (), rfl, Or.inr (rfl), f_2_1, by rw [ht]; exact hP9, va_K.moved hW.alike hK9, hD9⟩, hS.F ht⟩) hS.2.2 dX2_narrow_63
  · have t_3 : i_2_0.toInt < n0_names.toInt := kk_nle c_3
    refine lv_aload_n hx hb dX2_narrow_12 rfl (lv_at hl 1 rfl) ?_
    refine va_get (D := (dC, dI)) (ci := 2) (v := .ref h2) (C := RX2) (T := TX2) (N := 13) hx hb hts (fun _ h => List.mem_cons_of_mem _ (List.mem_append_right _ h)) hown hK hP 0 rfl rfl 9 (by decide) (hts (.fieldLink RX2 32 "KinkStreet$Deeds" "open" "[[J") (List.mem_of_getElem? (i := 2) rfl)) (fun _ h9 => h9) rfl dX2_narrow_13 ?_
    refine lv_iload_n hx hb dX2_narrow_16 rfl (lv_at hl 2 rfl) ?_
    have hi_4 : vp_in (0 : Int32) 5 := (by unfold vp_in; decide)
    have hk_4 : (0 : Int32).toNatClampNeg < 5 := Nat.not_le.mp fun q => hi_4 (Or.inr q)
    refine kk_aald hx hb hK hP 2 0 rfl rfl hi_4 dX2_narrow_17 ?_
    refine W.eq (g2 := F0 m 18 ls [.ref (h4 (0 : Int32).toNatClampNeg)]) rfl ?_
    refine lv_iload_n hx hb dX2_narrow_18 rfl (lv_at hl 0 rfl) ?_
    refine va_lald hx hb hK hP _ 1 (kk_getr (kk_getr (kk_rowL hk_4))) rfl (vp_in_iff.mpr ⟨by omega, by omega⟩) dX2_narrow_19 ?_
    refine lv_topl (fun y_5 e_5 => ?_)
    clear e_5
    refine lv_aload_n hx hb dX2_narrow_20 rfl (lv_at hl 1 rfl) ?_
    refine va_get (D := (dC, dI)) (ci := 2) (v := .ref h1) (C := RX2) (T := TX2) (N := 13) hx hb hts (fun _ h => List.mem_cons_of_mem _ (List.mem_append_right _ h)) hown hK hP 0 rfl rfl 8 (by decide) (hts (.fieldLink RX2 29 "KinkStreet$Deeds" "fits" "[[J") (List.mem_of_getElem? (i := 3) rfl)) (fun _ h9 => h9) rfl dX2_narrow_21 ?_
    refine lv_iload_n hx hb dX2_narrow_24 rfl (lv_at hl 2 rfl) ?_
    refine lv_iconst (v := 5) hx hb dX2_narrow_25 (by decide) ?_
    refine lv_imul hx hb dX2_narrow_26 ?_
    refine lv_topi (fun y_6 e_6 => ?_)
    obtain rfl : y_6 = 0 := e_6.trans (by decide)
    refine lv_iload_n hx hb dX2_narrow_27 rfl (lv_at hl 0 rfl) ?_
    refine lv_iadd hx hb dX2_narrow_28 ?_
    have hi_7 : vp_in ((0 + i_2_0) : Int32) 25 := (vp_in_iff.mpr ⟨by have := kk_add2 (x := 0) (y := i_2_0) (a := 0) (b := i_2_0.toInt) rfl rfl (by omega) (by omega); omega, by have := kk_add2 (x := 0) (y := i_2_0) (a := 0) (b := i_2_0.toInt) rfl rfl (by omega) (by omega); omega⟩)
    have hk_7 : ((0 + i_2_0) : Int32).toNatClampNeg < 25 := Nat.not_le.mp fun q => hi_7 (Or.inr q)
    refine kk_aald hx hb hK hP 1 0 rfl rfl hi_7 dX2_narrow_29 ?_
    refine W.eq (g2 := F0 m 30 ls [.ref (h3 ((0 + i_2_0) : Int32).toNatClampNeg), .long y_5]) rfl ?_
    refine lv_iload_n hx hb dX2_narrow_30 rfl (lv_at hl 3 rfl) ?_
    refine va_lald hx hb hK hP _ 1 (kk_getr (kk_getl (kk_rowL hk_7))) rfl (vp_in_iff.mpr ⟨by have := kk_add2 (x := 0) (y := i_2_0) (a := 0) (b := i_2_0.toInt) rfl rfl (by omega) (by omega); omega, by have := kk_add2 (x := 0) (y := i_2_0) (a := 0) (b := i_2_0.toInt) rfl rfl (by omega) (by omega); omega⟩) dX2_narrow_31 ?_
    refine lv_topl (fun y_8 e_8 => ?_)
    clear e_8
    refine lv_land hx hb dX2_narrow_32 ?_
    refine lv_topl (fun y_9 e_9 => ?_)
    clear e_9
    refine lv_lstore (lv' := [(4, .long y_9), (3, .int i_2_0), (0, .ref h0), (1, .int 0), (2, .int p1)]) hx hb dX2_narrow_33 hl (by decide) rfl (fun ls hl => ?_)
    refine lv_aload_n hx hb dX2_narrow_35 rfl (lv_at hl 2 rfl) ?_
    refine va_get (D := (dC, dI)) (ci := 2) (v := .ref h2) (C := RX2) (T := TX2) (N := 13) hx hb hts (fun _ h => List.mem_cons_of_mem _ (List.mem_append_right _ h)) hown hK hP 0 rfl rfl 9 (by decide) (hts (.fieldLink RX2 32 "KinkStreet$Deeds" "open" "[[J") (List.mem_of_getElem? (i := 2) rfl)) (fun _ h9 => h9) rfl dX2_narrow_36 ?_
    refine lv_iload_n hx hb dX2_narrow_39 rfl (lv_at hl 3 rfl) ?_
    refine lv_iconst (v := 1) hx hb dX2_narrow_40 (by decide) ?_
    refine lv_iadd hx hb dX2_narrow_41 ?_
    refine lv_topi (fun y_10 e_10 => ?_)
    obtain rfl : y_10 = 1 := e_10.trans (by decide)
    have hi_11 : vp_in (1 : Int32) 5 := (by unfold vp_in; decide)
    have hk_11 : (1 : Int32).toNatClampNeg < 5 := Nat.not_le.mp fun q => hi_11 (Or.inr q)
    refine kk_aald hx hb hK hP 2 0 rfl rfl hi_11 dX2_narrow_42 ?_
    refine W.eq (g2 := F0 m 43 ls [.ref (h4 (1 : Int32).toNatClampNeg)]) rfl ?_
    refine lv_iload_n hx hb dX2_narrow_43 rfl (lv_at hl 1 rfl) ?_
    refine lv_lload hx hb dX2_narrow_44 (lv_at hl 0 rfl) ?_
    refine va_last hx hb hK hP hD hS _ 1 (kk_getr (kk_getr (kk_rowL hk_11))) rfl (vp_in_iff.mpr ⟨by have := kk_add2 (x := 0) (y := i_2_0) (a := 0) (b := i_2_0.toInt) rfl rfl (by omega) (by omega); omega, by have := kk_add2 (x := 0) (y := i_2_0) (a := 0) (b := i_2_0.toInt) rfl rfl (by omega) (by omega); omega⟩) dX2_narrow_46 (fun H locs hP hD hS => ?_)
    rw [kk_setr, kk_setr, kk_rowsL_set hk_11] at hP hD
    generalize kk_upF f_2_1 (1 : Int32).toNatClampNeg (vp_updL (f_2_1 (1 : Int32).toNatClampNeg) (i_2_0 : Int32).toNatClampNeg y_9) = F_12 at hP hD
    have hP : va_P (dC, dI) vwCl (([(h0, Sum.inr (2, [Value.ref h5, Value.ref h6, Value.ref h7, Value.int n0_size, Value.ref h8, Value.int n0_names, Value.int n0_plots, Value.ref h9, Value.ref h1, Value.ref h2, Value.ref h10, Value.ref h11, Value.int n0_ways])), (h1, Sum.inl (cAlong, 25, Sum.inr (Sum.inr (Sum.inr (Sum.inr (fun j => some (h3 j))))))), (h2, Sum.inl (cAlong, 5, Sum.inr (Sum.inr (Sum.inr (Sum.inr (fun j => some (h4 j)))))))] : va_W) ++ (kk_rowsL h3 clong 40 F3 25 ++ (kk_rowsL h4 clong 5 F_12 5))) H := hP
    have hD : va_D A (([(h0, Sum.inr (2, [Value.ref h5, Value.ref h6, Value.ref h7, Value.int n0_size, Value.ref h8, Value.int n0_names, Value.int n0_plots, Value.ref h9, Value.ref h1, Value.ref h2, Value.ref h10, Value.ref h11, Value.int n0_ways])), (h1, Sum.inl (cAlong, 25, Sum.inr (Sum.inr (Sum.inr (Sum.inr (fun j => some (h3 j))))))), (h2, Sum.inl (cAlong, 5, Sum.inr (Sum.inr (Sum.inr (Sum.inr (fun j => some (h4 j)))))))] : va_W) ++ (kk_rowsL h3 clong 40 F3 25 ++ (kk_rowsL h4 clong 5 F_12 5))) := hD
    refine lv_lload hx hb dX2_narrow_47 (lv_at hl 0 rfl) ?_
    refine lv_lconst (v := 0) hx hb dX2_narrow_49 (by decide) ?_
    refine W.lcmp hx hb dX2_narrow_50 ?_
    refine lv_if_ne (tgt := 56) hx hb dX2_narrow_51 (by decide) (fun _ => ?_) (fun _ => ?_)
    · skip
      refine lv_iinc (v := (i_2_0 + 1)) (lv' := [(3, .int (i_2_0 + 1)), (4, .long y_9), (0, .ref h0), (1, .int 0), (2, .int p1)]) hx hb dX2_narrow_56 hl (k := 1) rfl (by first | rfl | decide) (by decide) rfl (fun ls hl => ?_)
      refine lv_goto (tgt := 4) hx hb dX2_narrow_59 (by decide) ?_
      exact ih_2 ((i_2_0 + 1), F_12) _ _ _ (by show ((5 : Int) - ((i_2_0 + 1)).toInt).toNat < ((5 : Int) - i_2_0.toInt).toNat; have := kk_add2 (x := 0) (y := i_2_0) (a := 0) (b := i_2_0.toInt) rfl rfl (by omega) (by omega); have := kk_add2 (x := i_2_0) (y := 1) (a := i_2_0.toInt) (b := 1) rfl rfl (by omega) (by omega); exact kk_mu (by omega) (by omega)) ⟨(by show 1 ≤ ((i_2_0 + 1) : Int32).toInt ∧ ((i_2_0 + 1) : Int32).toInt ≤ 5; first | decide | (constructor <;> (have := kk_add2 (x := 0) (y := i_2_0) (a := 0) (b := i_2_0.toInt) rfl rfl (by omega) (by omega); have := kk_add2 (x := i_2_0) (y := 1) (a := i_2_0.toInt) (b := 1) rfl rfl (by omega) (by omega); omega))), hP, hD, hS, lv_sub hl [0, 2, 3, 4] rfl⟩
    · skip
      refine lv_iconst (v := 0) hx hb dX2_narrow_54 (by decide) ?_
      have hP9 := hP.part (cx := [(h0, Sum.inr (2, [Value.ref h5, Value.ref h6, Value.ref h7, Value.int n0_size, Value.ref h8, Value.int n0_names, Value.int n0_plots, Value.ref h9, Value.ref h1, Value.ref h2, Value.ref h10, Value.ref h11, Value.int n0_ways])), (h1, Sum.inl (cAlong, 25, Sum.inr (Sum.inr (Sum.inr (Sum.inr (fun j => some (h3 j))))))), (h2, Sum.inl (cAlong, 5, Sum.inr (Sum.inr (Sum.inr (Sum.inr (fun j => some (h4 j)))))))]) [0, 1, 2] rfl
      have hD9 := hD.part (cx := [(h0, Sum.inr (2, [Value.ref h5, Value.ref h6, Value.ref h7, Value.int n0_size, Value.ref h8, Value.int n0_names, Value.int n0_plots, Value.ref h9, Value.ref h1, Value.ref h2, Value.ref h10, Value.ref h11, Value.int n0_ways])), (h1, Sum.inl (cAlong, 25, Sum.inr (Sum.inr (Sum.inr (Sum.inr (fun j => some (h3 j))))))), (h2, Sum.inl (cAlong, 5, Sum.inr (Sum.inr (Sum.inr (Sum.inr (fun j => some (h4 j)))))))]) [0, 1, 2] (by decide) rfl
      have hK9 := hK.sub (tys' := []) [] rfl
      exact W.zret (v := 0) hx hb hr rfl (fun t ht hW => ⟨⟨0, (), rfl, Or.inl ⟨by first | assumption | (have := kk_add2 (x := 0) (y := i_2_0) (a := 0) (b := i_2_0.toInt) rfl rfl (by omega) (by omega); omega), rfl⟩, F_12, by rw [ht]; exact hP9, va_K.moved hW.alike hK9, hD9⟩, hS.F ht⟩) hS.2.2 dX2_narrow_55
set_option maxHeartbeats 4000000 in
set_option maxRecDepth 100000 in
theorem g_X2_narrow_1 (l : Launch) (dC : Nat → ClassId) (dI : Nat → Nat → Nat) (h0 : Nat) (h1 : Nat) (h2 : Nat) (h3 : Nat → Nat) (h4 : Nat → Nat) (h5 : Nat) (h6 : Nat) (h7 : Nat) (h8 : Nat) (h9 : Nat) (h10 : Nat) (h11 : Nat) (cAlong clong : ClassId) (sz : Nat) (p1 : Int32) (tp1 : 0 ≤ p1.toInt ∧ p1.toInt ≤ 39) (n0_size : Int32) (n0_names : Int32) (n0_plots : Int32) (n0_ways : Int32) (F3 : Nat → Nat → Int64) (F4 : Nat → Nat → Int64) (tn0_size : 0 ≤ n0_size.toInt ∧ n0_size.toInt ≤ 10) (tn0_names : 1 ≤ n0_names.toInt ∧ n0_names.toInt ≤ 5) (tn0_plots : 0 ≤ n0_plots.toInt ∧ n0_plots.toInt ≤ 40) : Met l yX2_narrow wsX2_narrow ({ frames := 0, cells := 0, slots := 0, locals := 0 }) (va_Pc [.ref h0, .int 1, .int p1] (fun U => U.heap.size = sz ∧ va_P (dC, dI) vwCl (([(h0, Sum.inr (2, [Value.ref h5, Value.ref h6, Value.ref h7, Value.int n0_size, Value.ref h8, Value.int n0_names, Value.int n0_plots, Value.ref h9, Value.ref h1, Value.ref h2, Value.ref h10, Value.ref h11, Value.int n0_ways])), (h1, Sum.inl (cAlong, 25, Sum.inr (Sum.inr (Sum.inr (Sum.inr (fun j => some (h3 j))))))), (h2, Sum.inl (cAlong, 5, Sum.inr (Sum.inr (Sum.inr (Sum.inr (fun j => some (h4 j)))))))] : va_W) ++ (kk_rowsL h3 clong 40 F3 25 ++ (kk_rowsL h4 clong 5 F4 5))) U.heap ∧ va_K (dC, dI) vwCl [(cAlong, .array .long), (clong, .long)] U ∧ va_D (fun _ => True) (([(h0, Sum.inr (2, [Value.ref h5, Value.ref h6, Value.ref h7, Value.int n0_size, Value.ref h8, Value.int n0_names, Value.int n0_plots, Value.ref h9, Value.ref h1, Value.ref h2, Value.ref h10, Value.ref h11, Value.int n0_ways])), (h1, Sum.inl (cAlong, 25, Sum.inr (Sum.inr (Sum.inr (Sum.inr (fun j => some (h3 j))))))), (h2, Sum.inl (cAlong, 5, Sum.inr (Sum.inr (Sum.inr (Sum.inr (fun j => some (h4 j)))))))] : va_W) ++ (kk_rowsL h3 clong 40 F3 25 ++ (kk_rowsL h4 clong 5 F4 5))))) (va_Qi (fun (r : Int32) (_ : Unit) => (3 ≤ n0_names.toInt ∧ (0 : Int32) = r) ∨ ((1 : Int32) = r)) (fun (_ : Unit) t => ∃ (g4 : Nat → Nat → Int64), va_P (dC, dI) vwCl (([(h0, Sum.inr (2, [Value.ref h5, Value.ref h6, Value.ref h7, Value.int n0_size, Value.ref h8, Value.int n0_names, Value.int n0_plots, Value.ref h9, Value.ref h1, Value.ref h2, Value.ref h10, Value.ref h11, Value.int n0_ways])), (h1, Sum.inl (cAlong, 25, Sum.inr (Sum.inr (Sum.inr (Sum.inr (fun j => some (h3 j))))))), (h2, Sum.inl (cAlong, 5, Sum.inr (Sum.inr (Sum.inr (Sum.inr (fun j => some (h4 j)))))))] : va_W) ++ (kk_rowsL h3 clong 40 F3 25 ++ (kk_rowsL h4 clong 5 g4 5))) t.heap ∧ va_K (dC, dI) vwCl [] t ∧ va_D (va_A (([(h0, Sum.inr (2, [Value.ref h5, Value.ref h6, Value.ref h7, Value.int n0_size, Value.ref h8, Value.int n0_names, Value.int n0_plots, Value.ref h9, Value.ref h1, Value.ref h2, Value.ref h10, Value.ref h11, Value.int n0_ways])), (h1, Sum.inl (cAlong, 25, Sum.inr (Sum.inr (Sum.inr (Sum.inr (fun j => some (h3 j))))))), (h2, Sum.inl (cAlong, 5, Sum.inr (Sum.inr (Sum.inr (Sum.inr (fun j => some (h4 j)))))))] : va_W) ++ (kk_rowsL h3 clong 40 F3 25 ++ (kk_rowsL h4 clong 5 F4 5))) sz) (([(h0, Sum.inr (2, [Value.ref h5, Value.ref h6, Value.ref h7, Value.int n0_size, Value.ref h8, Value.int n0_names, Value.int n0_plots, Value.ref h9, Value.ref h1, Value.ref h2, Value.ref h10, Value.ref h11, Value.int n0_ways])), (h1, Sum.inl (cAlong, 25, Sum.inr (Sum.inr (Sum.inr (Sum.inr (fun j => some (h3 j))))))), (h2, Sum.inl (cAlong, 5, Sum.inr (Sum.inr (Sum.inr (Sum.inr (fun j => some (h4 j)))))))] : va_W) ++ (kk_rowsL h3 clong 40 F3 25 ++ (kk_rowsL h4 clong 5 g4 5)))) (va_A (([(h0, Sum.inr (2, [Value.ref h5, Value.ref h6, Value.ref h7, Value.int n0_size, Value.ref h8, Value.int n0_names, Value.int n0_plots, Value.ref h9, Value.ref h1, Value.ref h2, Value.ref h10, Value.ref h11, Value.int n0_ways])), (h1, Sum.inl (cAlong, 25, Sum.inr (Sum.inr (Sum.inr (Sum.inr (fun j => some (h3 j))))))), (h2, Sum.inl (cAlong, 5, Sum.inr (Sum.inr (Sum.inr (Sum.inr (fun j => some (h4 j)))))))] : va_W) ++ (kk_rowsL h3 clong 40 F3 25 ++ (kk_rowsL h4 clong 5 F4 5))) sz)) 0 0 (va_A (([(h0, Sum.inr (2, [Value.ref h5, Value.ref h6, Value.ref h7, Value.int n0_size, Value.ref h8, Value.int n0_names, Value.int n0_plots, Value.ref h9, Value.ref h1, Value.ref h2, Value.ref h10, Value.ref h11, Value.int n0_ways])), (h1, Sum.inl (cAlong, 25, Sum.inr (Sum.inr (Sum.inr (Sum.inr (fun j => some (h3 j))))))), (h2, Sum.inl (cAlong, 5, Sum.inr (Sum.inr (Sum.inr (Sum.inr (fun j => some (h4 j)))))))] : va_W) ++ (kk_rowsL h3 clong 40 F3 25 ++ (kk_rowsL h4 clong 5 F4 5))) sz) := by
  refine Met.ofW (cc := cX2_narrow) (maxL := 6) (ret := (some .boolean)) (by decide) rfl ?_
  intro p e s m args below meth c s₁ B hml hv
  obtain ⟨rfl, hsz, hP, hK, hD0⟩ := hv
  have hx := B.exec
  have hb := B.bytes
  have hr := B.returns
  have hts := atoms_spec (ws := wsX2_narrow) B.pre
  have hown : s.vm.findClass RX2 = some m.cls := findClass_of_methodNamed B.named
  have hlocks := B.notSynchronized
  subst hsz
  have hD := hD0.self (sz := s.heap.size)
  generalize hAe : va_A (([(h0, Sum.inr (2, [Value.ref h5, Value.ref h6, Value.ref h7, Value.int n0_size, Value.ref h8, Value.int n0_names, Value.int n0_plots, Value.ref h9, Value.ref h1, Value.ref h2, Value.ref h10, Value.ref h11, Value.int n0_ways])), (h1, Sum.inl (cAlong, 25, Sum.inr (Sum.inr (Sum.inr (Sum.inr (fun j => some (h3 j))))))), (h2, Sum.inl (cAlong, 5, Sum.inr (Sum.inr (Sum.inr (Sum.inr (fun j => some (h4 j)))))))] : va_W) ++ (kk_rowsL h3 clong 40 F3 25 ++ (kk_rowsL h4 clong 5 F4 5))) s.heap.size = A at hD ⊢
  have hA : ∀ q : Nat, s.heap.size ≤ q → A q := fun q h => by rw [← hAe]; exact Or.inr h
  have hS : va_S A s.heap s.heap [] := va_S.rf
  have hP : va_P (dC, dI) vwCl (([(h0, Sum.inr (2, [Value.ref h5, Value.ref h6, Value.ref h7, Value.int n0_size, Value.ref h8, Value.int n0_names, Value.int n0_plots, Value.ref h9, Value.ref h1, Value.ref h2, Value.ref h10, Value.ref h11, Value.int n0_ways])), (h1, Sum.inl (cAlong, 25, Sum.inr (Sum.inr (Sum.inr (Sum.inr (fun j => some (h3 j))))))), (h2, Sum.inl (cAlong, 5, Sum.inr (Sum.inr (Sum.inr (Sum.inr (fun j => some (h4 j)))))))] : va_W) ++ (kk_rowsL h3 clong 40 F3 25 ++ (kk_rowsL h4 clong 5 F4 5))) s.heap := hP
  have hl := lv_entry ([.ref h0, .int 1, .int p1]) (n := 6) (Nat.le_of_ble_eq_true rfl)
  rw [lg_entry_eq]
  generalize (lg_sl ([.ref h0, .int 1, .int p1]) ++ List.replicate (6 - (lg_sl ([.ref h0, .int 1, .int p1])).length) Slot.unset).toArray = ls at hl ⊢
  have hl : lv_has ls 6 [(0, .ref h0), (1, .int 1), (2, .int p1)] := hl
  refine lv_iload_n hx hb dX2_narrow_0 rfl (lv_at hl 1 rfl) ?_
  refine lv_iconst (v := 1) hx hb dX2_narrow_1 (by decide) ?_
  refine lv_iadd hx hb dX2_narrow_2 ?_
  refine lv_topi (fun y_1 e_1 => ?_)
  obtain rfl : y_1 = 2 := e_1.trans (by decide)
  refine lv_istore_n (lv' := [(3, .int 2), (0, .ref h0), (1, .int 1), (2, .int p1)]) hx hb dX2_narrow_3 rfl hl (by decide) rfl (fun ls hl => ?_)
  refine kk_loop (σ := Int32 × (Nat → Nat → Int64)) (fun x H locs ls => (2 ≤ x.1.toInt ∧ x.1.toInt ≤ 5) ∧ va_P (dC, dI) vwCl (([(h0, Sum.inr (2, [Value.ref h5, Value.ref h6, Value.ref h7, Value.int n0_size, Value.ref h8, Value.int n0_names, Value.int n0_plots, Value.ref h9, Value.ref h1, Value.ref h2, Value.ref h10, Value.ref h11, Value.int n0_ways])), (h1, Sum.inl (cAlong, 25, Sum.inr (Sum.inr (Sum.inr (Sum.inr (fun j => some (h3 j))))))), (h2, Sum.inl (cAlong, 5, Sum.inr (Sum.inr (Sum.inr (Sum.inr (fun j => some (h4 j)))))))] : va_W) ++ (kk_rowsL h3 clong 40 F3 25 ++ (kk_rowsL h4 clong 5 x.2 5))) H ∧ va_D A (([(h0, Sum.inr (2, [Value.ref h5, Value.ref h6, Value.ref h7, Value.int n0_size, Value.ref h8, Value.int n0_names, Value.int n0_plots, Value.ref h9, Value.ref h1, Value.ref h2, Value.ref h10, Value.ref h11, Value.int n0_ways])), (h1, Sum.inl (cAlong, 25, Sum.inr (Sum.inr (Sum.inr (Sum.inr (fun j => some (h3 j))))))), (h2, Sum.inl (cAlong, 5, Sum.inr (Sum.inr (Sum.inr (Sum.inr (fun j => some (h4 j)))))))] : va_W) ++ (kk_rowsL h3 clong 40 F3 25 ++ (kk_rowsL h4 clong 5 x.2 5))) ∧ va_S A s.heap H locs ∧ lv_has ls 6 [(3, .int x.1), (0, .ref h0), (1, .int 1), (2, .int p1)]) (fun x => ((5 : Int) - x.1.toInt).toNat) ?_ (2, F4) _ _ _ ⟨(by show 2 ≤ (2 : Int32).toInt ∧ (2 : Int32).toInt ≤ 5; first | decide | (constructor <;> (omega))), hP, hD, hS, hl⟩
  rintro ⟨i_2_0, f_2_1⟩ H locs ls ⟨t_2_0, hP, hD, hS, hl⟩ ih_2
  have t_2_0 : (2 ≤ i_2_0.toInt ∧ i_2_0.toInt ≤ 5) := t_2_0
  have hl : lv_has ls 6 [(3, .int i_2_0), (0, .ref h0), (1, .int 1), (2, .int p1)] := hl
  have hP : va_P (dC, dI) vwCl (([(h0, Sum.inr (2, [Value.ref h5, Value.ref h6, Value.ref h7, Value.int n0_size, Value.ref h8, Value.int n0_names, Value.int n0_plots, Value.ref h9, Value.ref h1, Value.ref h2, Value.ref h10, Value.ref h11, Value.int n0_ways])), (h1, Sum.inl (cAlong, 25, Sum.inr (Sum.inr (Sum.inr (Sum.inr (fun j => some (h3 j))))))), (h2, Sum.inl (cAlong, 5, Sum.inr (Sum.inr (Sum.inr (Sum.inr (fun j => some (h4 j)))))))] : va_W) ++ (kk_rowsL h3 clong 40 F3 25 ++ (kk_rowsL h4 clong 5 f_2_1 5))) H := hP
  have hD : va_D A (([(h0, Sum.inr (2, [Value.ref h5, Value.ref h6, Value.ref h7, Value.int n0_size, Value.ref h8, Value.int n0_names, Value.int n0_plots, Value.ref h9, Value.ref h1, Value.ref h2, Value.ref h10, Value.ref h11, Value.int n0_ways])), (h1, Sum.inl (cAlong, 25, Sum.inr (Sum.inr (Sum.inr (Sum.inr (fun j => some (h3 j))))))), (h2, Sum.inl (cAlong, 5, Sum.inr (Sum.inr (Sum.inr (Sum.inr (fun j => some (h4 j)))))))] : va_W) ++ (kk_rowsL h3 clong 40 F3 25 ++ (kk_rowsL h4 clong 5 f_2_1 5))) := hD
  refine lv_iload_n hx hb dX2_narrow_4 rfl (lv_at hl 0 rfl) ?_
  refine lv_aload_n hx hb dX2_narrow_5 rfl (lv_at hl 1 rfl) ?_
  refine va_get (D := (dC, dI)) (ci := 2) (v := .int n0_names) (C := RX2) (T := TX2) (N := 13) hx hb hts (fun _ h => List.mem_cons_of_mem _ (List.mem_append_right _ h)) hown hK hP 0 rfl rfl 5 (by decide) (hts (.fieldLink RX2 49 "KinkStreet$Deeds" "names" "I") (List.mem_of_getElem? (i := 1) rfl)) (fun _ h9 => h9) rfl dX2_narrow_6 ?_
  refine lv_icmp_ge (tgt := 62) hx hb dX2_narrow_9 (by decide) (fun c_3 => ?_) (fun c_3 => ?_)
  · have t_3 : n0_names.toInt ≤ i_2_0.toInt := kk_le c_3
    refine lv_iconst (v := 1) hx hb dX2_narrow_62 (by decide) ?_
    have hP9 := hP.part (cx := [(h0, Sum.inr (2, [Value.ref h5, Value.ref h6, Value.ref h7, Value.int n0_size, Value.ref h8, Value.int n0_names, Value.int n0_plots, Value.ref h9, Value.ref h1, Value.ref h2, Value.ref h10, Value.ref h11, Value.int n0_ways])), (h1, Sum.inl (cAlong, 25, Sum.inr (Sum.inr (Sum.inr (Sum.inr (fun j => some (h3 j))))))), (h2, Sum.inl (cAlong, 5, Sum.inr (Sum.inr (Sum.inr (Sum.inr (fun j => some (h4 j)))))))]) [0, 1, 2] rfl
    have hD9 := hD.part (cx := [(h0, Sum.inr (2, [Value.ref h5, Value.ref h6, Value.ref h7, Value.int n0_size, Value.ref h8, Value.int n0_names, Value.int n0_plots, Value.ref h9, Value.ref h1, Value.ref h2, Value.ref h10, Value.ref h11, Value.int n0_ways])), (h1, Sum.inl (cAlong, 25, Sum.inr (Sum.inr (Sum.inr (Sum.inr (fun j => some (h3 j))))))), (h2, Sum.inl (cAlong, 5, Sum.inr (Sum.inr (Sum.inr (Sum.inr (fun j => some (h4 j)))))))]) [0, 1, 2] (by decide) rfl
    have hK9 := hK.sub (tys' := []) [] rfl
    exact W.zret (v := 1) hx hb hr rfl (fun t ht hW => ⟨⟨1, (), rfl, Or.inr (rfl), f_2_1, by rw [ht]; exact hP9, va_K.moved hW.alike hK9, hD9⟩, hS.F ht⟩) hS.2.2 dX2_narrow_63
  · have t_3 : i_2_0.toInt < n0_names.toInt := kk_nle c_3
    refine lv_aload_n hx hb dX2_narrow_12 rfl (lv_at hl 1 rfl) ?_
    refine va_get (D := (dC, dI)) (ci := 2) (v := .ref h2) (C := RX2) (T := TX2) (N := 13) hx hb hts (fun _ h => List.mem_cons_of_mem _ (List.mem_append_right _ h)) hown hK hP 0 rfl rfl 9 (by decide) (hts (.fieldLink RX2 32 "KinkStreet$Deeds" "open" "[[J") (List.mem_of_getElem? (i := 2) rfl)) (fun _ h9 => h9) rfl dX2_narrow_13 ?_
    refine lv_iload_n hx hb dX2_narrow_16 rfl (lv_at hl 2 rfl) ?_
    have hi_4 : vp_in (1 : Int32) 5 := (by unfold vp_in; decide)
    have hk_4 : (1 : Int32).toNatClampNeg < 5 := Nat.not_le.mp fun q => hi_4 (Or.inr q)
    refine kk_aald hx hb hK hP 2 0 rfl rfl hi_4 dX2_narrow_17 ?_
    refine W.eq (g2 := F0 m 18 ls [.ref (h4 (1 : Int32).toNatClampNeg)]) rfl ?_
    refine lv_iload_n hx hb dX2_narrow_18 rfl (lv_at hl 0 rfl) ?_
    refine va_lald hx hb hK hP _ 1 (kk_getr (kk_getr (kk_rowL hk_4))) rfl (vp_in_iff.mpr ⟨by omega, by omega⟩) dX2_narrow_19 ?_
    refine lv_topl (fun y_5 e_5 => ?_)
    clear e_5
    refine lv_aload_n hx hb dX2_narrow_20 rfl (lv_at hl 1 rfl) ?_
    refine va_get (D := (dC, dI)) (ci := 2) (v := .ref h1) (C := RX2) (T := TX2) (N := 13) hx hb hts (fun _ h => List.mem_cons_of_mem _ (List.mem_append_right _ h)) hown hK hP 0 rfl rfl 8 (by decide) (hts (.fieldLink RX2 29 "KinkStreet$Deeds" "fits" "[[J") (List.mem_of_getElem? (i := 3) rfl)) (fun _ h9 => h9) rfl dX2_narrow_21 ?_
    refine lv_iload_n hx hb dX2_narrow_24 rfl (lv_at hl 2 rfl) ?_
    refine lv_iconst (v := 5) hx hb dX2_narrow_25 (by decide) ?_
    refine lv_imul hx hb dX2_narrow_26 ?_
    refine lv_topi (fun y_6 e_6 => ?_)
    obtain rfl : y_6 = 5 := e_6.trans (by decide)
    refine lv_iload_n hx hb dX2_narrow_27 rfl (lv_at hl 0 rfl) ?_
    refine lv_iadd hx hb dX2_narrow_28 ?_
    have hi_7 : vp_in ((5 + i_2_0) : Int32) 25 := (vp_in_iff.mpr ⟨by have := kk_add2 (x := 5) (y := i_2_0) (a := 5) (b := i_2_0.toInt) rfl rfl (by omega) (by omega); omega, by have := kk_add2 (x := 5) (y := i_2_0) (a := 5) (b := i_2_0.toInt) rfl rfl (by omega) (by omega); omega⟩)
    have hk_7 : ((5 + i_2_0) : Int32).toNatClampNeg < 25 := Nat.not_le.mp fun q => hi_7 (Or.inr q)
    refine kk_aald hx hb hK hP 1 0 rfl rfl hi_7 dX2_narrow_29 ?_
    refine W.eq (g2 := F0 m 30 ls [.ref (h3 ((5 + i_2_0) : Int32).toNatClampNeg), .long y_5]) rfl ?_
    refine lv_iload_n hx hb dX2_narrow_30 rfl (lv_at hl 3 rfl) ?_
    refine va_lald hx hb hK hP _ 1 (kk_getr (kk_getl (kk_rowL hk_7))) rfl (vp_in_iff.mpr ⟨by have := kk_add2 (x := 5) (y := i_2_0) (a := 5) (b := i_2_0.toInt) rfl rfl (by omega) (by omega); omega, by have := kk_add2 (x := 5) (y := i_2_0) (a := 5) (b := i_2_0.toInt) rfl rfl (by omega) (by omega); omega⟩) dX2_narrow_31 ?_
    refine lv_topl (fun y_8 e_8 => ?_)
    clear e_8
    refine lv_land hx hb dX2_narrow_32 ?_
    refine lv_topl (fun y_9 e_9 => ?_)
    clear e_9
    refine lv_lstore (lv' := [(4, .long y_9), (3, .int i_2_0), (0, .ref h0), (1, .int 1), (2, .int p1)]) hx hb dX2_narrow_33 hl (by decide) rfl (fun ls hl => ?_)
    refine lv_aload_n hx hb dX2_narrow_35 rfl (lv_at hl 2 rfl) ?_
    refine va_get (D := (dC, dI)) (ci := 2) (v := .ref h2) (C := RX2) (T := TX2) (N := 13) hx hb hts (fun _ h => List.mem_cons_of_mem _ (List.mem_append_right _ h)) hown hK hP 0 rfl rfl 9 (by decide) (hts (.fieldLink RX2 32 "KinkStreet$Deeds" "open" "[[J") (List.mem_of_getElem? (i := 2) rfl)) (fun _ h9 => h9) rfl dX2_narrow_36 ?_
    refine lv_iload_n hx hb dX2_narrow_39 rfl (lv_at hl 3 rfl) ?_
    refine lv_iconst (v := 1) hx hb dX2_narrow_40 (by decide) ?_
    refine lv_iadd hx hb dX2_narrow_41 ?_
    refine lv_topi (fun y_10 e_10 => ?_)
    obtain rfl : y_10 = 2 := e_10.trans (by decide)
    have hi_11 : vp_in (2 : Int32) 5 := (by unfold vp_in; decide)
    have hk_11 : (2 : Int32).toNatClampNeg < 5 := Nat.not_le.mp fun q => hi_11 (Or.inr q)
    refine kk_aald hx hb hK hP 2 0 rfl rfl hi_11 dX2_narrow_42 ?_
    refine W.eq (g2 := F0 m 43 ls [.ref (h4 (2 : Int32).toNatClampNeg)]) rfl ?_
    refine lv_iload_n hx hb dX2_narrow_43 rfl (lv_at hl 1 rfl) ?_
    refine lv_lload hx hb dX2_narrow_44 (lv_at hl 0 rfl) ?_
    refine va_last hx hb hK hP hD hS _ 1 (kk_getr (kk_getr (kk_rowL hk_11))) rfl (vp_in_iff.mpr ⟨by have := kk_add2 (x := 5) (y := i_2_0) (a := 5) (b := i_2_0.toInt) rfl rfl (by omega) (by omega); omega, by have := kk_add2 (x := 5) (y := i_2_0) (a := 5) (b := i_2_0.toInt) rfl rfl (by omega) (by omega); omega⟩) dX2_narrow_46 (fun H locs hP hD hS => ?_)
    rw [kk_setr, kk_setr, kk_rowsL_set hk_11] at hP hD
    generalize kk_upF f_2_1 (2 : Int32).toNatClampNeg (vp_updL (f_2_1 (2 : Int32).toNatClampNeg) (i_2_0 : Int32).toNatClampNeg y_9) = F_12 at hP hD
    have hP : va_P (dC, dI) vwCl (([(h0, Sum.inr (2, [Value.ref h5, Value.ref h6, Value.ref h7, Value.int n0_size, Value.ref h8, Value.int n0_names, Value.int n0_plots, Value.ref h9, Value.ref h1, Value.ref h2, Value.ref h10, Value.ref h11, Value.int n0_ways])), (h1, Sum.inl (cAlong, 25, Sum.inr (Sum.inr (Sum.inr (Sum.inr (fun j => some (h3 j))))))), (h2, Sum.inl (cAlong, 5, Sum.inr (Sum.inr (Sum.inr (Sum.inr (fun j => some (h4 j)))))))] : va_W) ++ (kk_rowsL h3 clong 40 F3 25 ++ (kk_rowsL h4 clong 5 F_12 5))) H := hP
    have hD : va_D A (([(h0, Sum.inr (2, [Value.ref h5, Value.ref h6, Value.ref h7, Value.int n0_size, Value.ref h8, Value.int n0_names, Value.int n0_plots, Value.ref h9, Value.ref h1, Value.ref h2, Value.ref h10, Value.ref h11, Value.int n0_ways])), (h1, Sum.inl (cAlong, 25, Sum.inr (Sum.inr (Sum.inr (Sum.inr (fun j => some (h3 j))))))), (h2, Sum.inl (cAlong, 5, Sum.inr (Sum.inr (Sum.inr (Sum.inr (fun j => some (h4 j)))))))] : va_W) ++ (kk_rowsL h3 clong 40 F3 25 ++ (kk_rowsL h4 clong 5 F_12 5))) := hD
    refine lv_lload hx hb dX2_narrow_47 (lv_at hl 0 rfl) ?_
    refine lv_lconst (v := 0) hx hb dX2_narrow_49 (by decide) ?_
    refine W.lcmp hx hb dX2_narrow_50 ?_
    refine lv_if_ne (tgt := 56) hx hb dX2_narrow_51 (by decide) (fun _ => ?_) (fun _ => ?_)
    · skip
      refine lv_iinc (v := (i_2_0 + 1)) (lv' := [(3, .int (i_2_0 + 1)), (4, .long y_9), (0, .ref h0), (1, .int 1), (2, .int p1)]) hx hb dX2_narrow_56 hl (k := 1) rfl (by first | rfl | decide) (by decide) rfl (fun ls hl => ?_)
      refine lv_goto (tgt := 4) hx hb dX2_narrow_59 (by decide) ?_
      exact ih_2 ((i_2_0 + 1), F_12) _ _ _ (by show ((5 : Int) - ((i_2_0 + 1)).toInt).toNat < ((5 : Int) - i_2_0.toInt).toNat; have := kk_add2 (x := 5) (y := i_2_0) (a := 5) (b := i_2_0.toInt) rfl rfl (by omega) (by omega); have := kk_add2 (x := i_2_0) (y := 1) (a := i_2_0.toInt) (b := 1) rfl rfl (by omega) (by omega); exact kk_mu (by omega) (by omega)) ⟨(by show 2 ≤ ((i_2_0 + 1) : Int32).toInt ∧ ((i_2_0 + 1) : Int32).toInt ≤ 5; first | decide | (constructor <;> (have := kk_add2 (x := 5) (y := i_2_0) (a := 5) (b := i_2_0.toInt) rfl rfl (by omega) (by omega); have := kk_add2 (x := i_2_0) (y := 1) (a := i_2_0.toInt) (b := 1) rfl rfl (by omega) (by omega); omega))), hP, hD, hS, lv_sub hl [0, 2, 3, 4] rfl⟩
    · skip
      refine lv_iconst (v := 0) hx hb dX2_narrow_54 (by decide) ?_
      have hP9 := hP.part (cx := [(h0, Sum.inr (2, [Value.ref h5, Value.ref h6, Value.ref h7, Value.int n0_size, Value.ref h8, Value.int n0_names, Value.int n0_plots, Value.ref h9, Value.ref h1, Value.ref h2, Value.ref h10, Value.ref h11, Value.int n0_ways])), (h1, Sum.inl (cAlong, 25, Sum.inr (Sum.inr (Sum.inr (Sum.inr (fun j => some (h3 j))))))), (h2, Sum.inl (cAlong, 5, Sum.inr (Sum.inr (Sum.inr (Sum.inr (fun j => some (h4 j)))))))]) [0, 1, 2] rfl
      have hD9 := hD.part (cx := [(h0, Sum.inr (2, [Value.ref h5, Value.ref h6, Value.ref h7, Value.int n0_size, Value.ref h8, Value.int n0_names, Value.int n0_plots, Value.ref h9, Value.ref h1, Value.ref h2, Value.ref h10, Value.ref h11, Value.int n0_ways])), (h1, Sum.inl (cAlong, 25, Sum.inr (Sum.inr (Sum.inr (Sum.inr (fun j => some (h3 j))))))), (h2, Sum.inl (cAlong, 5, Sum.inr (Sum.inr (Sum.inr (Sum.inr (fun j => some (h4 j)))))))]) [0, 1, 2] (by decide) rfl
      have hK9 := hK.sub (tys' := []) [] rfl
      exact W.zret (v := 0) hx hb hr rfl (fun t ht hW => ⟨⟨0, (), rfl, Or.inl ⟨by first | assumption | (have := kk_add2 (x := 5) (y := i_2_0) (a := 5) (b := i_2_0.toInt) rfl rfl (by omega) (by omega); omega), rfl⟩, F_12, by rw [ht]; exact hP9, va_K.moved hW.alike hK9, hD9⟩, hS.F ht⟩) hS.2.2 dX2_narrow_55
set_option maxHeartbeats 4000000 in
set_option maxRecDepth 100000 in
theorem g_X2_narrow_2 (l : Launch) (dC : Nat → ClassId) (dI : Nat → Nat → Nat) (h0 : Nat) (h1 : Nat) (h2 : Nat) (h3 : Nat → Nat) (h4 : Nat → Nat) (h5 : Nat) (h6 : Nat) (h7 : Nat) (h8 : Nat) (h9 : Nat) (h10 : Nat) (h11 : Nat) (cAlong clong : ClassId) (sz : Nat) (p1 : Int32) (tp1 : 0 ≤ p1.toInt ∧ p1.toInt ≤ 39) (n0_size : Int32) (n0_names : Int32) (n0_plots : Int32) (n0_ways : Int32) (F3 : Nat → Nat → Int64) (F4 : Nat → Nat → Int64) (tn0_size : 0 ≤ n0_size.toInt ∧ n0_size.toInt ≤ 10) (tn0_names : 1 ≤ n0_names.toInt ∧ n0_names.toInt ≤ 5) (tn0_plots : 0 ≤ n0_plots.toInt ∧ n0_plots.toInt ≤ 40) : Met l yX2_narrow wsX2_narrow ({ frames := 0, cells := 0, slots := 0, locals := 0 }) (va_Pc [.ref h0, .int 2, .int p1] (fun U => U.heap.size = sz ∧ va_P (dC, dI) vwCl (([(h0, Sum.inr (2, [Value.ref h5, Value.ref h6, Value.ref h7, Value.int n0_size, Value.ref h8, Value.int n0_names, Value.int n0_plots, Value.ref h9, Value.ref h1, Value.ref h2, Value.ref h10, Value.ref h11, Value.int n0_ways])), (h1, Sum.inl (cAlong, 25, Sum.inr (Sum.inr (Sum.inr (Sum.inr (fun j => some (h3 j))))))), (h2, Sum.inl (cAlong, 5, Sum.inr (Sum.inr (Sum.inr (Sum.inr (fun j => some (h4 j)))))))] : va_W) ++ (kk_rowsL h3 clong 40 F3 25 ++ (kk_rowsL h4 clong 5 F4 5))) U.heap ∧ va_K (dC, dI) vwCl [(cAlong, .array .long), (clong, .long)] U ∧ va_D (fun _ => True) (([(h0, Sum.inr (2, [Value.ref h5, Value.ref h6, Value.ref h7, Value.int n0_size, Value.ref h8, Value.int n0_names, Value.int n0_plots, Value.ref h9, Value.ref h1, Value.ref h2, Value.ref h10, Value.ref h11, Value.int n0_ways])), (h1, Sum.inl (cAlong, 25, Sum.inr (Sum.inr (Sum.inr (Sum.inr (fun j => some (h3 j))))))), (h2, Sum.inl (cAlong, 5, Sum.inr (Sum.inr (Sum.inr (Sum.inr (fun j => some (h4 j)))))))] : va_W) ++ (kk_rowsL h3 clong 40 F3 25 ++ (kk_rowsL h4 clong 5 F4 5))))) (va_Qi (fun (r : Int32) (_ : Unit) => (4 ≤ n0_names.toInt ∧ (0 : Int32) = r) ∨ ((1 : Int32) = r)) (fun (_ : Unit) t => ∃ (g4 : Nat → Nat → Int64), va_P (dC, dI) vwCl (([(h0, Sum.inr (2, [Value.ref h5, Value.ref h6, Value.ref h7, Value.int n0_size, Value.ref h8, Value.int n0_names, Value.int n0_plots, Value.ref h9, Value.ref h1, Value.ref h2, Value.ref h10, Value.ref h11, Value.int n0_ways])), (h1, Sum.inl (cAlong, 25, Sum.inr (Sum.inr (Sum.inr (Sum.inr (fun j => some (h3 j))))))), (h2, Sum.inl (cAlong, 5, Sum.inr (Sum.inr (Sum.inr (Sum.inr (fun j => some (h4 j)))))))] : va_W) ++ (kk_rowsL h3 clong 40 F3 25 ++ (kk_rowsL h4 clong 5 g4 5))) t.heap ∧ va_K (dC, dI) vwCl [] t ∧ va_D (va_A (([(h0, Sum.inr (2, [Value.ref h5, Value.ref h6, Value.ref h7, Value.int n0_size, Value.ref h8, Value.int n0_names, Value.int n0_plots, Value.ref h9, Value.ref h1, Value.ref h2, Value.ref h10, Value.ref h11, Value.int n0_ways])), (h1, Sum.inl (cAlong, 25, Sum.inr (Sum.inr (Sum.inr (Sum.inr (fun j => some (h3 j))))))), (h2, Sum.inl (cAlong, 5, Sum.inr (Sum.inr (Sum.inr (Sum.inr (fun j => some (h4 j)))))))] : va_W) ++ (kk_rowsL h3 clong 40 F3 25 ++ (kk_rowsL h4 clong 5 F4 5))) sz) (([(h0, Sum.inr (2, [Value.ref h5, Value.ref h6, Value.ref h7, Value.int n0_size, Value.ref h8, Value.int n0_names, Value.int n0_plots, Value.ref h9, Value.ref h1, Value.ref h2, Value.ref h10, Value.ref h11, Value.int n0_ways])), (h1, Sum.inl (cAlong, 25, Sum.inr (Sum.inr (Sum.inr (Sum.inr (fun j => some (h3 j))))))), (h2, Sum.inl (cAlong, 5, Sum.inr (Sum.inr (Sum.inr (Sum.inr (fun j => some (h4 j)))))))] : va_W) ++ (kk_rowsL h3 clong 40 F3 25 ++ (kk_rowsL h4 clong 5 g4 5)))) (va_A (([(h0, Sum.inr (2, [Value.ref h5, Value.ref h6, Value.ref h7, Value.int n0_size, Value.ref h8, Value.int n0_names, Value.int n0_plots, Value.ref h9, Value.ref h1, Value.ref h2, Value.ref h10, Value.ref h11, Value.int n0_ways])), (h1, Sum.inl (cAlong, 25, Sum.inr (Sum.inr (Sum.inr (Sum.inr (fun j => some (h3 j))))))), (h2, Sum.inl (cAlong, 5, Sum.inr (Sum.inr (Sum.inr (Sum.inr (fun j => some (h4 j)))))))] : va_W) ++ (kk_rowsL h3 clong 40 F3 25 ++ (kk_rowsL h4 clong 5 F4 5))) sz)) 0 0 (va_A (([(h0, Sum.inr (2, [Value.ref h5, Value.ref h6, Value.ref h7, Value.int n0_size, Value.ref h8, Value.int n0_names, Value.int n0_plots, Value.ref h9, Value.ref h1, Value.ref h2, Value.ref h10, Value.ref h11, Value.int n0_ways])), (h1, Sum.inl (cAlong, 25, Sum.inr (Sum.inr (Sum.inr (Sum.inr (fun j => some (h3 j))))))), (h2, Sum.inl (cAlong, 5, Sum.inr (Sum.inr (Sum.inr (Sum.inr (fun j => some (h4 j)))))))] : va_W) ++ (kk_rowsL h3 clong 40 F3 25 ++ (kk_rowsL h4 clong 5 F4 5))) sz) := by
  refine Met.ofW (cc := cX2_narrow) (maxL := 6) (ret := (some .boolean)) (by decide) rfl ?_
  intro p e s m args below meth c s₁ B hml hv
  obtain ⟨rfl, hsz, hP, hK, hD0⟩ := hv
  have hx := B.exec
  have hb := B.bytes
  have hr := B.returns
  have hts := atoms_spec (ws := wsX2_narrow) B.pre
  have hown : s.vm.findClass RX2 = some m.cls := findClass_of_methodNamed B.named
  have hlocks := B.notSynchronized
  subst hsz
  have hD := hD0.self (sz := s.heap.size)
  generalize hAe : va_A (([(h0, Sum.inr (2, [Value.ref h5, Value.ref h6, Value.ref h7, Value.int n0_size, Value.ref h8, Value.int n0_names, Value.int n0_plots, Value.ref h9, Value.ref h1, Value.ref h2, Value.ref h10, Value.ref h11, Value.int n0_ways])), (h1, Sum.inl (cAlong, 25, Sum.inr (Sum.inr (Sum.inr (Sum.inr (fun j => some (h3 j))))))), (h2, Sum.inl (cAlong, 5, Sum.inr (Sum.inr (Sum.inr (Sum.inr (fun j => some (h4 j)))))))] : va_W) ++ (kk_rowsL h3 clong 40 F3 25 ++ (kk_rowsL h4 clong 5 F4 5))) s.heap.size = A at hD ⊢
  have hA : ∀ q : Nat, s.heap.size ≤ q → A q := fun q h => by rw [← hAe]; exact Or.inr h
  have hS : va_S A s.heap s.heap [] := va_S.rf
  have hP : va_P (dC, dI) vwCl (([(h0, Sum.inr (2, [Value.ref h5, Value.ref h6, Value.ref h7, Value.int n0_size, Value.ref h8, Value.int n0_names, Value.int n0_plots, Value.ref h9, Value.ref h1, Value.ref h2, Value.ref h10, Value.ref h11, Value.int n0_ways])), (h1, Sum.inl (cAlong, 25, Sum.inr (Sum.inr (Sum.inr (Sum.inr (fun j => some (h3 j))))))), (h2, Sum.inl (cAlong, 5, Sum.inr (Sum.inr (Sum.inr (Sum.inr (fun j => some (h4 j)))))))] : va_W) ++ (kk_rowsL h3 clong 40 F3 25 ++ (kk_rowsL h4 clong 5 F4 5))) s.heap := hP
  have hl := lv_entry ([.ref h0, .int 2, .int p1]) (n := 6) (Nat.le_of_ble_eq_true rfl)
  rw [lg_entry_eq]
  generalize (lg_sl ([.ref h0, .int 2, .int p1]) ++ List.replicate (6 - (lg_sl ([.ref h0, .int 2, .int p1])).length) Slot.unset).toArray = ls at hl ⊢
  have hl : lv_has ls 6 [(0, .ref h0), (1, .int 2), (2, .int p1)] := hl
  refine lv_iload_n hx hb dX2_narrow_0 rfl (lv_at hl 1 rfl) ?_
  refine lv_iconst (v := 1) hx hb dX2_narrow_1 (by decide) ?_
  refine lv_iadd hx hb dX2_narrow_2 ?_
  refine lv_topi (fun y_1 e_1 => ?_)
  obtain rfl : y_1 = 3 := e_1.trans (by decide)
  refine lv_istore_n (lv' := [(3, .int 3), (0, .ref h0), (1, .int 2), (2, .int p1)]) hx hb dX2_narrow_3 rfl hl (by decide) rfl (fun ls hl => ?_)
  refine kk_loop (σ := Int32 × (Nat → Nat → Int64)) (fun x H locs ls => (3 ≤ x.1.toInt ∧ x.1.toInt ≤ 5) ∧ va_P (dC, dI) vwCl (([(h0, Sum.inr (2, [Value.ref h5, Value.ref h6, Value.ref h7, Value.int n0_size, Value.ref h8, Value.int n0_names, Value.int n0_plots, Value.ref h9, Value.ref h1, Value.ref h2, Value.ref h10, Value.ref h11, Value.int n0_ways])), (h1, Sum.inl (cAlong, 25, Sum.inr (Sum.inr (Sum.inr (Sum.inr (fun j => some (h3 j))))))), (h2, Sum.inl (cAlong, 5, Sum.inr (Sum.inr (Sum.inr (Sum.inr (fun j => some (h4 j)))))))] : va_W) ++ (kk_rowsL h3 clong 40 F3 25 ++ (kk_rowsL h4 clong 5 x.2 5))) H ∧ va_D A (([(h0, Sum.inr (2, [Value.ref h5, Value.ref h6, Value.ref h7, Value.int n0_size, Value.ref h8, Value.int n0_names, Value.int n0_plots, Value.ref h9, Value.ref h1, Value.ref h2, Value.ref h10, Value.ref h11, Value.int n0_ways])), (h1, Sum.inl (cAlong, 25, Sum.inr (Sum.inr (Sum.inr (Sum.inr (fun j => some (h3 j))))))), (h2, Sum.inl (cAlong, 5, Sum.inr (Sum.inr (Sum.inr (Sum.inr (fun j => some (h4 j)))))))] : va_W) ++ (kk_rowsL h3 clong 40 F3 25 ++ (kk_rowsL h4 clong 5 x.2 5))) ∧ va_S A s.heap H locs ∧ lv_has ls 6 [(3, .int x.1), (0, .ref h0), (1, .int 2), (2, .int p1)]) (fun x => ((5 : Int) - x.1.toInt).toNat) ?_ (3, F4) _ _ _ ⟨(by show 3 ≤ (3 : Int32).toInt ∧ (3 : Int32).toInt ≤ 5; first | decide | (constructor <;> (omega))), hP, hD, hS, hl⟩
  rintro ⟨i_2_0, f_2_1⟩ H locs ls ⟨t_2_0, hP, hD, hS, hl⟩ ih_2
  have t_2_0 : (3 ≤ i_2_0.toInt ∧ i_2_0.toInt ≤ 5) := t_2_0
  have hl : lv_has ls 6 [(3, .int i_2_0), (0, .ref h0), (1, .int 2), (2, .int p1)] := hl
  have hP : va_P (dC, dI) vwCl (([(h0, Sum.inr (2, [Value.ref h5, Value.ref h6, Value.ref h7, Value.int n0_size, Value.ref h8, Value.int n0_names, Value.int n0_plots, Value.ref h9, Value.ref h1, Value.ref h2, Value.ref h10, Value.ref h11, Value.int n0_ways])), (h1, Sum.inl (cAlong, 25, Sum.inr (Sum.inr (Sum.inr (Sum.inr (fun j => some (h3 j))))))), (h2, Sum.inl (cAlong, 5, Sum.inr (Sum.inr (Sum.inr (Sum.inr (fun j => some (h4 j)))))))] : va_W) ++ (kk_rowsL h3 clong 40 F3 25 ++ (kk_rowsL h4 clong 5 f_2_1 5))) H := hP
  have hD : va_D A (([(h0, Sum.inr (2, [Value.ref h5, Value.ref h6, Value.ref h7, Value.int n0_size, Value.ref h8, Value.int n0_names, Value.int n0_plots, Value.ref h9, Value.ref h1, Value.ref h2, Value.ref h10, Value.ref h11, Value.int n0_ways])), (h1, Sum.inl (cAlong, 25, Sum.inr (Sum.inr (Sum.inr (Sum.inr (fun j => some (h3 j))))))), (h2, Sum.inl (cAlong, 5, Sum.inr (Sum.inr (Sum.inr (Sum.inr (fun j => some (h4 j)))))))] : va_W) ++ (kk_rowsL h3 clong 40 F3 25 ++ (kk_rowsL h4 clong 5 f_2_1 5))) := hD
  refine lv_iload_n hx hb dX2_narrow_4 rfl (lv_at hl 0 rfl) ?_
  refine lv_aload_n hx hb dX2_narrow_5 rfl (lv_at hl 1 rfl) ?_
  refine va_get (D := (dC, dI)) (ci := 2) (v := .int n0_names) (C := RX2) (T := TX2) (N := 13) hx hb hts (fun _ h => List.mem_cons_of_mem _ (List.mem_append_right _ h)) hown hK hP 0 rfl rfl 5 (by decide) (hts (.fieldLink RX2 49 "KinkStreet$Deeds" "names" "I") (List.mem_of_getElem? (i := 1) rfl)) (fun _ h9 => h9) rfl dX2_narrow_6 ?_
  refine lv_icmp_ge (tgt := 62) hx hb dX2_narrow_9 (by decide) (fun c_3 => ?_) (fun c_3 => ?_)
  · have t_3 : n0_names.toInt ≤ i_2_0.toInt := kk_le c_3
    refine lv_iconst (v := 1) hx hb dX2_narrow_62 (by decide) ?_
    have hP9 := hP.part (cx := [(h0, Sum.inr (2, [Value.ref h5, Value.ref h6, Value.ref h7, Value.int n0_size, Value.ref h8, Value.int n0_names, Value.int n0_plots, Value.ref h9, Value.ref h1, Value.ref h2, Value.ref h10, Value.ref h11, Value.int n0_ways])), (h1, Sum.inl (cAlong, 25, Sum.inr (Sum.inr (Sum.inr (Sum.inr (fun j => some (h3 j))))))), (h2, Sum.inl (cAlong, 5, Sum.inr (Sum.inr (Sum.inr (Sum.inr (fun j => some (h4 j)))))))]) [0, 1, 2] rfl
    have hD9 := hD.part (cx := [(h0, Sum.inr (2, [Value.ref h5, Value.ref h6, Value.ref h7, Value.int n0_size, Value.ref h8, Value.int n0_names, Value.int n0_plots, Value.ref h9, Value.ref h1, Value.ref h2, Value.ref h10, Value.ref h11, Value.int n0_ways])), (h1, Sum.inl (cAlong, 25, Sum.inr (Sum.inr (Sum.inr (Sum.inr (fun j => some (h3 j))))))), (h2, Sum.inl (cAlong, 5, Sum.inr (Sum.inr (Sum.inr (Sum.inr (fun j => some (h4 j)))))))]) [0, 1, 2] (by decide) rfl
    have hK9 := hK.sub (tys' := []) [] rfl
    exact W.zret (v := 1) hx hb hr rfl (fun t ht hW => ⟨⟨1, (), rfl, Or.inr (rfl), f_2_1, by rw [ht]; exact hP9, va_K.moved hW.alike hK9, hD9⟩, hS.F ht⟩) hS.2.2 dX2_narrow_63
  · have t_3 : i_2_0.toInt < n0_names.toInt := kk_nle c_3
    refine lv_aload_n hx hb dX2_narrow_12 rfl (lv_at hl 1 rfl) ?_
    refine va_get (D := (dC, dI)) (ci := 2) (v := .ref h2) (C := RX2) (T := TX2) (N := 13) hx hb hts (fun _ h => List.mem_cons_of_mem _ (List.mem_append_right _ h)) hown hK hP 0 rfl rfl 9 (by decide) (hts (.fieldLink RX2 32 "KinkStreet$Deeds" "open" "[[J") (List.mem_of_getElem? (i := 2) rfl)) (fun _ h9 => h9) rfl dX2_narrow_13 ?_
    refine lv_iload_n hx hb dX2_narrow_16 rfl (lv_at hl 2 rfl) ?_
    have hi_4 : vp_in (2 : Int32) 5 := (by unfold vp_in; decide)
    have hk_4 : (2 : Int32).toNatClampNeg < 5 := Nat.not_le.mp fun q => hi_4 (Or.inr q)
    refine kk_aald hx hb hK hP 2 0 rfl rfl hi_4 dX2_narrow_17 ?_
    refine W.eq (g2 := F0 m 18 ls [.ref (h4 (2 : Int32).toNatClampNeg)]) rfl ?_
    refine lv_iload_n hx hb dX2_narrow_18 rfl (lv_at hl 0 rfl) ?_
    refine va_lald hx hb hK hP _ 1 (kk_getr (kk_getr (kk_rowL hk_4))) rfl (vp_in_iff.mpr ⟨by omega, by omega⟩) dX2_narrow_19 ?_
    refine lv_topl (fun y_5 e_5 => ?_)
    clear e_5
    refine lv_aload_n hx hb dX2_narrow_20 rfl (lv_at hl 1 rfl) ?_
    refine va_get (D := (dC, dI)) (ci := 2) (v := .ref h1) (C := RX2) (T := TX2) (N := 13) hx hb hts (fun _ h => List.mem_cons_of_mem _ (List.mem_append_right _ h)) hown hK hP 0 rfl rfl 8 (by decide) (hts (.fieldLink RX2 29 "KinkStreet$Deeds" "fits" "[[J") (List.mem_of_getElem? (i := 3) rfl)) (fun _ h9 => h9) rfl dX2_narrow_21 ?_
    refine lv_iload_n hx hb dX2_narrow_24 rfl (lv_at hl 2 rfl) ?_
    refine lv_iconst (v := 5) hx hb dX2_narrow_25 (by decide) ?_
    refine lv_imul hx hb dX2_narrow_26 ?_
    refine lv_topi (fun y_6 e_6 => ?_)
    obtain rfl : y_6 = 10 := e_6.trans (by decide)
    refine lv_iload_n hx hb dX2_narrow_27 rfl (lv_at hl 0 rfl) ?_
    refine lv_iadd hx hb dX2_narrow_28 ?_
    have hi_7 : vp_in ((10 + i_2_0) : Int32) 25 := (vp_in_iff.mpr ⟨by have := kk_add2 (x := 10) (y := i_2_0) (a := 10) (b := i_2_0.toInt) rfl rfl (by omega) (by omega); omega, by have := kk_add2 (x := 10) (y := i_2_0) (a := 10) (b := i_2_0.toInt) rfl rfl (by omega) (by omega); omega⟩)
    have hk_7 : ((10 + i_2_0) : Int32).toNatClampNeg < 25 := Nat.not_le.mp fun q => hi_7 (Or.inr q)
    refine kk_aald hx hb hK hP 1 0 rfl rfl hi_7 dX2_narrow_29 ?_
    refine W.eq (g2 := F0 m 30 ls [.ref (h3 ((10 + i_2_0) : Int32).toNatClampNeg), .long y_5]) rfl ?_
    refine lv_iload_n hx hb dX2_narrow_30 rfl (lv_at hl 3 rfl) ?_
    refine va_lald hx hb hK hP _ 1 (kk_getr (kk_getl (kk_rowL hk_7))) rfl (vp_in_iff.mpr ⟨by have := kk_add2 (x := 10) (y := i_2_0) (a := 10) (b := i_2_0.toInt) rfl rfl (by omega) (by omega); omega, by have := kk_add2 (x := 10) (y := i_2_0) (a := 10) (b := i_2_0.toInt) rfl rfl (by omega) (by omega); omega⟩) dX2_narrow_31 ?_
    refine lv_topl (fun y_8 e_8 => ?_)
    clear e_8
    refine lv_land hx hb dX2_narrow_32 ?_
    refine lv_topl (fun y_9 e_9 => ?_)
    clear e_9
    refine lv_lstore (lv' := [(4, .long y_9), (3, .int i_2_0), (0, .ref h0), (1, .int 2), (2, .int p1)]) hx hb dX2_narrow_33 hl (by decide) rfl (fun ls hl => ?_)
    refine lv_aload_n hx hb dX2_narrow_35 rfl (lv_at hl 2 rfl) ?_
    refine va_get (D := (dC, dI)) (ci := 2) (v := .ref h2) (C := RX2) (T := TX2) (N := 13) hx hb hts (fun _ h => List.mem_cons_of_mem _ (List.mem_append_right _ h)) hown hK hP 0 rfl rfl 9 (by decide) (hts (.fieldLink RX2 32 "KinkStreet$Deeds" "open" "[[J") (List.mem_of_getElem? (i := 2) rfl)) (fun _ h9 => h9) rfl dX2_narrow_36 ?_
    refine lv_iload_n hx hb dX2_narrow_39 rfl (lv_at hl 3 rfl) ?_
    refine lv_iconst (v := 1) hx hb dX2_narrow_40 (by decide) ?_
    refine lv_iadd hx hb dX2_narrow_41 ?_
    refine lv_topi (fun y_10 e_10 => ?_)
    obtain rfl : y_10 = 3 := e_10.trans (by decide)
    have hi_11 : vp_in (3 : Int32) 5 := (by unfold vp_in; decide)
    have hk_11 : (3 : Int32).toNatClampNeg < 5 := Nat.not_le.mp fun q => hi_11 (Or.inr q)
    refine kk_aald hx hb hK hP 2 0 rfl rfl hi_11 dX2_narrow_42 ?_
    refine W.eq (g2 := F0 m 43 ls [.ref (h4 (3 : Int32).toNatClampNeg)]) rfl ?_
    refine lv_iload_n hx hb dX2_narrow_43 rfl (lv_at hl 1 rfl) ?_
    refine lv_lload hx hb dX2_narrow_44 (lv_at hl 0 rfl) ?_
    refine va_last hx hb hK hP hD hS _ 1 (kk_getr (kk_getr (kk_rowL hk_11))) rfl (vp_in_iff.mpr ⟨by have := kk_add2 (x := 10) (y := i_2_0) (a := 10) (b := i_2_0.toInt) rfl rfl (by omega) (by omega); omega, by have := kk_add2 (x := 10) (y := i_2_0) (a := 10) (b := i_2_0.toInt) rfl rfl (by omega) (by omega); omega⟩) dX2_narrow_46 (fun H locs hP hD hS => ?_)
    rw [kk_setr, kk_setr, kk_rowsL_set hk_11] at hP hD
    generalize kk_upF f_2_1 (3 : Int32).toNatClampNeg (vp_updL (f_2_1 (3 : Int32).toNatClampNeg) (i_2_0 : Int32).toNatClampNeg y_9) = F_12 at hP hD
    have hP : va_P (dC, dI) vwCl (([(h0, Sum.inr (2, [Value.ref h5, Value.ref h6, Value.ref h7, Value.int n0_size, Value.ref h8, Value.int n0_names, Value.int n0_plots, Value.ref h9, Value.ref h1, Value.ref h2, Value.ref h10, Value.ref h11, Value.int n0_ways])), (h1, Sum.inl (cAlong, 25, Sum.inr (Sum.inr (Sum.inr (Sum.inr (fun j => some (h3 j))))))), (h2, Sum.inl (cAlong, 5, Sum.inr (Sum.inr (Sum.inr (Sum.inr (fun j => some (h4 j)))))))] : va_W) ++ (kk_rowsL h3 clong 40 F3 25 ++ (kk_rowsL h4 clong 5 F_12 5))) H := hP
    have hD : va_D A (([(h0, Sum.inr (2, [Value.ref h5, Value.ref h6, Value.ref h7, Value.int n0_size, Value.ref h8, Value.int n0_names, Value.int n0_plots, Value.ref h9, Value.ref h1, Value.ref h2, Value.ref h10, Value.ref h11, Value.int n0_ways])), (h1, Sum.inl (cAlong, 25, Sum.inr (Sum.inr (Sum.inr (Sum.inr (fun j => some (h3 j))))))), (h2, Sum.inl (cAlong, 5, Sum.inr (Sum.inr (Sum.inr (Sum.inr (fun j => some (h4 j)))))))] : va_W) ++ (kk_rowsL h3 clong 40 F3 25 ++ (kk_rowsL h4 clong 5 F_12 5))) := hD
    refine lv_lload hx hb dX2_narrow_47 (lv_at hl 0 rfl) ?_
    refine lv_lconst (v := 0) hx hb dX2_narrow_49 (by decide) ?_
    refine W.lcmp hx hb dX2_narrow_50 ?_
    refine lv_if_ne (tgt := 56) hx hb dX2_narrow_51 (by decide) (fun _ => ?_) (fun _ => ?_)
    · skip
      refine lv_iinc (v := (i_2_0 + 1)) (lv' := [(3, .int (i_2_0 + 1)), (4, .long y_9), (0, .ref h0), (1, .int 2), (2, .int p1)]) hx hb dX2_narrow_56 hl (k := 1) rfl (by first | rfl | decide) (by decide) rfl (fun ls hl => ?_)
      refine lv_goto (tgt := 4) hx hb dX2_narrow_59 (by decide) ?_
      exact ih_2 ((i_2_0 + 1), F_12) _ _ _ (by show ((5 : Int) - ((i_2_0 + 1)).toInt).toNat < ((5 : Int) - i_2_0.toInt).toNat; have := kk_add2 (x := 10) (y := i_2_0) (a := 10) (b := i_2_0.toInt) rfl rfl (by omega) (by omega); have := kk_add2 (x := i_2_0) (y := 1) (a := i_2_0.toInt) (b := 1) rfl rfl (by omega) (by omega); exact kk_mu (by omega) (by omega)) ⟨(by show 3 ≤ ((i_2_0 + 1) : Int32).toInt ∧ ((i_2_0 + 1) : Int32).toInt ≤ 5; first | decide | (constructor <;> (have := kk_add2 (x := 10) (y := i_2_0) (a := 10) (b := i_2_0.toInt) rfl rfl (by omega) (by omega); have := kk_add2 (x := i_2_0) (y := 1) (a := i_2_0.toInt) (b := 1) rfl rfl (by omega) (by omega); omega))), hP, hD, hS, lv_sub hl [0, 2, 3, 4] rfl⟩
    · skip
      refine lv_iconst (v := 0) hx hb dX2_narrow_54 (by decide) ?_
      have hP9 := hP.part (cx := [(h0, Sum.inr (2, [Value.ref h5, Value.ref h6, Value.ref h7, Value.int n0_size, Value.ref h8, Value.int n0_names, Value.int n0_plots, Value.ref h9, Value.ref h1, Value.ref h2, Value.ref h10, Value.ref h11, Value.int n0_ways])), (h1, Sum.inl (cAlong, 25, Sum.inr (Sum.inr (Sum.inr (Sum.inr (fun j => some (h3 j))))))), (h2, Sum.inl (cAlong, 5, Sum.inr (Sum.inr (Sum.inr (Sum.inr (fun j => some (h4 j)))))))]) [0, 1, 2] rfl
      have hD9 := hD.part (cx := [(h0, Sum.inr (2, [Value.ref h5, Value.ref h6, Value.ref h7, Value.int n0_size, Value.ref h8, Value.int n0_names, Value.int n0_plots, Value.ref h9, Value.ref h1, Value.ref h2, Value.ref h10, Value.ref h11, Value.int n0_ways])), (h1, Sum.inl (cAlong, 25, Sum.inr (Sum.inr (Sum.inr (Sum.inr (fun j => some (h3 j))))))), (h2, Sum.inl (cAlong, 5, Sum.inr (Sum.inr (Sum.inr (Sum.inr (fun j => some (h4 j)))))))]) [0, 1, 2] (by decide) rfl
      have hK9 := hK.sub (tys' := []) [] rfl
      exact W.zret (v := 0) hx hb hr rfl (fun t ht hW => ⟨⟨0, (), rfl, Or.inl ⟨by first | assumption | (have := kk_add2 (x := 10) (y := i_2_0) (a := 10) (b := i_2_0.toInt) rfl rfl (by omega) (by omega); omega), rfl⟩, F_12, by rw [ht]; exact hP9, va_K.moved hW.alike hK9, hD9⟩, hS.F ht⟩) hS.2.2 dX2_narrow_55
set_option maxHeartbeats 4000000 in
set_option maxRecDepth 100000 in
theorem g_X2_narrow_3 (l : Launch) (dC : Nat → ClassId) (dI : Nat → Nat → Nat) (h0 : Nat) (h1 : Nat) (h2 : Nat) (h3 : Nat → Nat) (h4 : Nat → Nat) (h5 : Nat) (h6 : Nat) (h7 : Nat) (h8 : Nat) (h9 : Nat) (h10 : Nat) (h11 : Nat) (cAlong clong : ClassId) (sz : Nat) (p1 : Int32) (tp1 : 0 ≤ p1.toInt ∧ p1.toInt ≤ 39) (n0_size : Int32) (n0_names : Int32) (n0_plots : Int32) (n0_ways : Int32) (F3 : Nat → Nat → Int64) (F4 : Nat → Nat → Int64) (tn0_size : 0 ≤ n0_size.toInt ∧ n0_size.toInt ≤ 10) (tn0_names : 1 ≤ n0_names.toInt ∧ n0_names.toInt ≤ 5) (tn0_plots : 0 ≤ n0_plots.toInt ∧ n0_plots.toInt ≤ 40) : Met l yX2_narrow wsX2_narrow ({ frames := 0, cells := 0, slots := 0, locals := 0 }) (va_Pc [.ref h0, .int 3, .int p1] (fun U => U.heap.size = sz ∧ va_P (dC, dI) vwCl (([(h0, Sum.inr (2, [Value.ref h5, Value.ref h6, Value.ref h7, Value.int n0_size, Value.ref h8, Value.int n0_names, Value.int n0_plots, Value.ref h9, Value.ref h1, Value.ref h2, Value.ref h10, Value.ref h11, Value.int n0_ways])), (h1, Sum.inl (cAlong, 25, Sum.inr (Sum.inr (Sum.inr (Sum.inr (fun j => some (h3 j))))))), (h2, Sum.inl (cAlong, 5, Sum.inr (Sum.inr (Sum.inr (Sum.inr (fun j => some (h4 j)))))))] : va_W) ++ (kk_rowsL h3 clong 40 F3 25 ++ (kk_rowsL h4 clong 5 F4 5))) U.heap ∧ va_K (dC, dI) vwCl [(cAlong, .array .long), (clong, .long)] U ∧ va_D (fun _ => True) (([(h0, Sum.inr (2, [Value.ref h5, Value.ref h6, Value.ref h7, Value.int n0_size, Value.ref h8, Value.int n0_names, Value.int n0_plots, Value.ref h9, Value.ref h1, Value.ref h2, Value.ref h10, Value.ref h11, Value.int n0_ways])), (h1, Sum.inl (cAlong, 25, Sum.inr (Sum.inr (Sum.inr (Sum.inr (fun j => some (h3 j))))))), (h2, Sum.inl (cAlong, 5, Sum.inr (Sum.inr (Sum.inr (Sum.inr (fun j => some (h4 j)))))))] : va_W) ++ (kk_rowsL h3 clong 40 F3 25 ++ (kk_rowsL h4 clong 5 F4 5))))) (va_Qi (fun (r : Int32) (_ : Unit) => (5 ≤ n0_names.toInt ∧ (0 : Int32) = r) ∨ ((1 : Int32) = r)) (fun (_ : Unit) t => ∃ (g4 : Nat → Nat → Int64), va_P (dC, dI) vwCl (([(h0, Sum.inr (2, [Value.ref h5, Value.ref h6, Value.ref h7, Value.int n0_size, Value.ref h8, Value.int n0_names, Value.int n0_plots, Value.ref h9, Value.ref h1, Value.ref h2, Value.ref h10, Value.ref h11, Value.int n0_ways])), (h1, Sum.inl (cAlong, 25, Sum.inr (Sum.inr (Sum.inr (Sum.inr (fun j => some (h3 j))))))), (h2, Sum.inl (cAlong, 5, Sum.inr (Sum.inr (Sum.inr (Sum.inr (fun j => some (h4 j)))))))] : va_W) ++ (kk_rowsL h3 clong 40 F3 25 ++ (kk_rowsL h4 clong 5 g4 5))) t.heap ∧ va_K (dC, dI) vwCl [] t ∧ va_D (va_A (([(h0, Sum.inr (2, [Value.ref h5, Value.ref h6, Value.ref h7, Value.int n0_size, Value.ref h8, Value.int n0_names, Value.int n0_plots, Value.ref h9, Value.ref h1, Value.ref h2, Value.ref h10, Value.ref h11, Value.int n0_ways])), (h1, Sum.inl (cAlong, 25, Sum.inr (Sum.inr (Sum.inr (Sum.inr (fun j => some (h3 j))))))), (h2, Sum.inl (cAlong, 5, Sum.inr (Sum.inr (Sum.inr (Sum.inr (fun j => some (h4 j)))))))] : va_W) ++ (kk_rowsL h3 clong 40 F3 25 ++ (kk_rowsL h4 clong 5 F4 5))) sz) (([(h0, Sum.inr (2, [Value.ref h5, Value.ref h6, Value.ref h7, Value.int n0_size, Value.ref h8, Value.int n0_names, Value.int n0_plots, Value.ref h9, Value.ref h1, Value.ref h2, Value.ref h10, Value.ref h11, Value.int n0_ways])), (h1, Sum.inl (cAlong, 25, Sum.inr (Sum.inr (Sum.inr (Sum.inr (fun j => some (h3 j))))))), (h2, Sum.inl (cAlong, 5, Sum.inr (Sum.inr (Sum.inr (Sum.inr (fun j => some (h4 j)))))))] : va_W) ++ (kk_rowsL h3 clong 40 F3 25 ++ (kk_rowsL h4 clong 5 g4 5)))) (va_A (([(h0, Sum.inr (2, [Value.ref h5, Value.ref h6, Value.ref h7, Value.int n0_size, Value.ref h8, Value.int n0_names, Value.int n0_plots, Value.ref h9, Value.ref h1, Value.ref h2, Value.ref h10, Value.ref h11, Value.int n0_ways])), (h1, Sum.inl (cAlong, 25, Sum.inr (Sum.inr (Sum.inr (Sum.inr (fun j => some (h3 j))))))), (h2, Sum.inl (cAlong, 5, Sum.inr (Sum.inr (Sum.inr (Sum.inr (fun j => some (h4 j)))))))] : va_W) ++ (kk_rowsL h3 clong 40 F3 25 ++ (kk_rowsL h4 clong 5 F4 5))) sz)) 0 0 (va_A (([(h0, Sum.inr (2, [Value.ref h5, Value.ref h6, Value.ref h7, Value.int n0_size, Value.ref h8, Value.int n0_names, Value.int n0_plots, Value.ref h9, Value.ref h1, Value.ref h2, Value.ref h10, Value.ref h11, Value.int n0_ways])), (h1, Sum.inl (cAlong, 25, Sum.inr (Sum.inr (Sum.inr (Sum.inr (fun j => some (h3 j))))))), (h2, Sum.inl (cAlong, 5, Sum.inr (Sum.inr (Sum.inr (Sum.inr (fun j => some (h4 j)))))))] : va_W) ++ (kk_rowsL h3 clong 40 F3 25 ++ (kk_rowsL h4 clong 5 F4 5))) sz) := by
  refine Met.ofW (cc := cX2_narrow) (maxL := 6) (ret := (some .boolean)) (by decide) rfl ?_
  intro p e s m args below meth c s₁ B hml hv
  obtain ⟨rfl, hsz, hP, hK, hD0⟩ := hv
  have hx := B.exec
  have hb := B.bytes
  have hr := B.returns
  have hts := atoms_spec (ws := wsX2_narrow) B.pre
  have hown : s.vm.findClass RX2 = some m.cls := findClass_of_methodNamed B.named
  have hlocks := B.notSynchronized
  subst hsz
  have hD := hD0.self (sz := s.heap.size)
  generalize hAe : va_A (([(h0, Sum.inr (2, [Value.ref h5, Value.ref h6, Value.ref h7, Value.int n0_size, Value.ref h8, Value.int n0_names, Value.int n0_plots, Value.ref h9, Value.ref h1, Value.ref h2, Value.ref h10, Value.ref h11, Value.int n0_ways])), (h1, Sum.inl (cAlong, 25, Sum.inr (Sum.inr (Sum.inr (Sum.inr (fun j => some (h3 j))))))), (h2, Sum.inl (cAlong, 5, Sum.inr (Sum.inr (Sum.inr (Sum.inr (fun j => some (h4 j)))))))] : va_W) ++ (kk_rowsL h3 clong 40 F3 25 ++ (kk_rowsL h4 clong 5 F4 5))) s.heap.size = A at hD ⊢
  have hA : ∀ q : Nat, s.heap.size ≤ q → A q := fun q h => by rw [← hAe]; exact Or.inr h
  have hS : va_S A s.heap s.heap [] := va_S.rf
  have hP : va_P (dC, dI) vwCl (([(h0, Sum.inr (2, [Value.ref h5, Value.ref h6, Value.ref h7, Value.int n0_size, Value.ref h8, Value.int n0_names, Value.int n0_plots, Value.ref h9, Value.ref h1, Value.ref h2, Value.ref h10, Value.ref h11, Value.int n0_ways])), (h1, Sum.inl (cAlong, 25, Sum.inr (Sum.inr (Sum.inr (Sum.inr (fun j => some (h3 j))))))), (h2, Sum.inl (cAlong, 5, Sum.inr (Sum.inr (Sum.inr (Sum.inr (fun j => some (h4 j)))))))] : va_W) ++ (kk_rowsL h3 clong 40 F3 25 ++ (kk_rowsL h4 clong 5 F4 5))) s.heap := hP
  have hl := lv_entry ([.ref h0, .int 3, .int p1]) (n := 6) (Nat.le_of_ble_eq_true rfl)
  rw [lg_entry_eq]
  generalize (lg_sl ([.ref h0, .int 3, .int p1]) ++ List.replicate (6 - (lg_sl ([.ref h0, .int 3, .int p1])).length) Slot.unset).toArray = ls at hl ⊢
  have hl : lv_has ls 6 [(0, .ref h0), (1, .int 3), (2, .int p1)] := hl
  refine lv_iload_n hx hb dX2_narrow_0 rfl (lv_at hl 1 rfl) ?_
  refine lv_iconst (v := 1) hx hb dX2_narrow_1 (by decide) ?_
  refine lv_iadd hx hb dX2_narrow_2 ?_
  refine lv_topi (fun y_1 e_1 => ?_)
  obtain rfl : y_1 = 4 := e_1.trans (by decide)
  refine lv_istore_n (lv' := [(3, .int 4), (0, .ref h0), (1, .int 3), (2, .int p1)]) hx hb dX2_narrow_3 rfl hl (by decide) rfl (fun ls hl => ?_)
  refine kk_loop (σ := Int32 × (Nat → Nat → Int64)) (fun x H locs ls => (4 ≤ x.1.toInt ∧ x.1.toInt ≤ 5) ∧ va_P (dC, dI) vwCl (([(h0, Sum.inr (2, [Value.ref h5, Value.ref h6, Value.ref h7, Value.int n0_size, Value.ref h8, Value.int n0_names, Value.int n0_plots, Value.ref h9, Value.ref h1, Value.ref h2, Value.ref h10, Value.ref h11, Value.int n0_ways])), (h1, Sum.inl (cAlong, 25, Sum.inr (Sum.inr (Sum.inr (Sum.inr (fun j => some (h3 j))))))), (h2, Sum.inl (cAlong, 5, Sum.inr (Sum.inr (Sum.inr (Sum.inr (fun j => some (h4 j)))))))] : va_W) ++ (kk_rowsL h3 clong 40 F3 25 ++ (kk_rowsL h4 clong 5 x.2 5))) H ∧ va_D A (([(h0, Sum.inr (2, [Value.ref h5, Value.ref h6, Value.ref h7, Value.int n0_size, Value.ref h8, Value.int n0_names, Value.int n0_plots, Value.ref h9, Value.ref h1, Value.ref h2, Value.ref h10, Value.ref h11, Value.int n0_ways])), (h1, Sum.inl (cAlong, 25, Sum.inr (Sum.inr (Sum.inr (Sum.inr (fun j => some (h3 j))))))), (h2, Sum.inl (cAlong, 5, Sum.inr (Sum.inr (Sum.inr (Sum.inr (fun j => some (h4 j)))))))] : va_W) ++ (kk_rowsL h3 clong 40 F3 25 ++ (kk_rowsL h4 clong 5 x.2 5))) ∧ va_S A s.heap H locs ∧ lv_has ls 6 [(3, .int x.1), (0, .ref h0), (1, .int 3), (2, .int p1)]) (fun x => ((5 : Int) - x.1.toInt).toNat) ?_ (4, F4) _ _ _ ⟨(by show 4 ≤ (4 : Int32).toInt ∧ (4 : Int32).toInt ≤ 5; first | decide | (constructor <;> (omega))), hP, hD, hS, hl⟩
  rintro ⟨i_2_0, f_2_1⟩ H locs ls ⟨t_2_0, hP, hD, hS, hl⟩ ih_2
  have t_2_0 : (4 ≤ i_2_0.toInt ∧ i_2_0.toInt ≤ 5) := t_2_0
  have hl : lv_has ls 6 [(3, .int i_2_0), (0, .ref h0), (1, .int 3), (2, .int p1)] := hl
  have hP : va_P (dC, dI) vwCl (([(h0, Sum.inr (2, [Value.ref h5, Value.ref h6, Value.ref h7, Value.int n0_size, Value.ref h8, Value.int n0_names, Value.int n0_plots, Value.ref h9, Value.ref h1, Value.ref h2, Value.ref h10, Value.ref h11, Value.int n0_ways])), (h1, Sum.inl (cAlong, 25, Sum.inr (Sum.inr (Sum.inr (Sum.inr (fun j => some (h3 j))))))), (h2, Sum.inl (cAlong, 5, Sum.inr (Sum.inr (Sum.inr (Sum.inr (fun j => some (h4 j)))))))] : va_W) ++ (kk_rowsL h3 clong 40 F3 25 ++ (kk_rowsL h4 clong 5 f_2_1 5))) H := hP
  have hD : va_D A (([(h0, Sum.inr (2, [Value.ref h5, Value.ref h6, Value.ref h7, Value.int n0_size, Value.ref h8, Value.int n0_names, Value.int n0_plots, Value.ref h9, Value.ref h1, Value.ref h2, Value.ref h10, Value.ref h11, Value.int n0_ways])), (h1, Sum.inl (cAlong, 25, Sum.inr (Sum.inr (Sum.inr (Sum.inr (fun j => some (h3 j))))))), (h2, Sum.inl (cAlong, 5, Sum.inr (Sum.inr (Sum.inr (Sum.inr (fun j => some (h4 j)))))))] : va_W) ++ (kk_rowsL h3 clong 40 F3 25 ++ (kk_rowsL h4 clong 5 f_2_1 5))) := hD
  refine lv_iload_n hx hb dX2_narrow_4 rfl (lv_at hl 0 rfl) ?_
  refine lv_aload_n hx hb dX2_narrow_5 rfl (lv_at hl 1 rfl) ?_
  refine va_get (D := (dC, dI)) (ci := 2) (v := .int n0_names) (C := RX2) (T := TX2) (N := 13) hx hb hts (fun _ h => List.mem_cons_of_mem _ (List.mem_append_right _ h)) hown hK hP 0 rfl rfl 5 (by decide) (hts (.fieldLink RX2 49 "KinkStreet$Deeds" "names" "I") (List.mem_of_getElem? (i := 1) rfl)) (fun _ h9 => h9) rfl dX2_narrow_6 ?_
  refine lv_icmp_ge (tgt := 62) hx hb dX2_narrow_9 (by decide) (fun c_3 => ?_) (fun c_3 => ?_)
  · have t_3 : n0_names.toInt ≤ i_2_0.toInt := kk_le c_3
    refine lv_iconst (v := 1) hx hb dX2_narrow_62 (by decide) ?_
    have hP9 := hP.part (cx := [(h0, Sum.inr (2, [Value.ref h5, Value.ref h6, Value.ref h7, Value.int n0_size, Value.ref h8, Value.int n0_names, Value.int n0_plots, Value.ref h9, Value.ref h1, Value.ref h2, Value.ref h10, Value.ref h11, Value.int n0_ways])), (h1, Sum.inl (cAlong, 25, Sum.inr (Sum.inr (Sum.inr (Sum.inr (fun j => some (h3 j))))))), (h2, Sum.inl (cAlong, 5, Sum.inr (Sum.inr (Sum.inr (Sum.inr (fun j => some (h4 j)))))))]) [0, 1, 2] rfl
    have hD9 := hD.part (cx := [(h0, Sum.inr (2, [Value.ref h5, Value.ref h6, Value.ref h7, Value.int n0_size, Value.ref h8, Value.int n0_names, Value.int n0_plots, Value.ref h9, Value.ref h1, Value.ref h2, Value.ref h10, Value.ref h11, Value.int n0_ways])), (h1, Sum.inl (cAlong, 25, Sum.inr (Sum.inr (Sum.inr (Sum.inr (fun j => some (h3 j))))))), (h2, Sum.inl (cAlong, 5, Sum.inr (Sum.inr (Sum.inr (Sum.inr (fun j => some (h4 j)))))))]) [0, 1, 2] (by decide) rfl
    have hK9 := hK.sub (tys' := []) [] rfl
    exact W.zret (v := 1) hx hb hr rfl (fun t ht hW => ⟨⟨1, (), rfl, Or.inr (rfl), f_2_1, by rw [ht]; exact hP9, va_K.moved hW.alike hK9, hD9⟩, hS.F ht⟩) hS.2.2 dX2_narrow_63
  · have t_3 : i_2_0.toInt < n0_names.toInt := kk_nle c_3
    refine lv_aload_n hx hb dX2_narrow_12 rfl (lv_at hl 1 rfl) ?_
    refine va_get (D := (dC, dI)) (ci := 2) (v := .ref h2) (C := RX2) (T := TX2) (N := 13) hx hb hts (fun _ h => List.mem_cons_of_mem _ (List.mem_append_right _ h)) hown hK hP 0 rfl rfl 9 (by decide) (hts (.fieldLink RX2 32 "KinkStreet$Deeds" "open" "[[J") (List.mem_of_getElem? (i := 2) rfl)) (fun _ h9 => h9) rfl dX2_narrow_13 ?_
    refine lv_iload_n hx hb dX2_narrow_16 rfl (lv_at hl 2 rfl) ?_
    have hi_4 : vp_in (3 : Int32) 5 := (by unfold vp_in; decide)
    have hk_4 : (3 : Int32).toNatClampNeg < 5 := Nat.not_le.mp fun q => hi_4 (Or.inr q)
    refine kk_aald hx hb hK hP 2 0 rfl rfl hi_4 dX2_narrow_17 ?_
    refine W.eq (g2 := F0 m 18 ls [.ref (h4 (3 : Int32).toNatClampNeg)]) rfl ?_
    refine lv_iload_n hx hb dX2_narrow_18 rfl (lv_at hl 0 rfl) ?_
    refine va_lald hx hb hK hP _ 1 (kk_getr (kk_getr (kk_rowL hk_4))) rfl (vp_in_iff.mpr ⟨by omega, by omega⟩) dX2_narrow_19 ?_
    refine lv_topl (fun y_5 e_5 => ?_)
    clear e_5
    refine lv_aload_n hx hb dX2_narrow_20 rfl (lv_at hl 1 rfl) ?_
    refine va_get (D := (dC, dI)) (ci := 2) (v := .ref h1) (C := RX2) (T := TX2) (N := 13) hx hb hts (fun _ h => List.mem_cons_of_mem _ (List.mem_append_right _ h)) hown hK hP 0 rfl rfl 8 (by decide) (hts (.fieldLink RX2 29 "KinkStreet$Deeds" "fits" "[[J") (List.mem_of_getElem? (i := 3) rfl)) (fun _ h9 => h9) rfl dX2_narrow_21 ?_
    refine lv_iload_n hx hb dX2_narrow_24 rfl (lv_at hl 2 rfl) ?_
    refine lv_iconst (v := 5) hx hb dX2_narrow_25 (by decide) ?_
    refine lv_imul hx hb dX2_narrow_26 ?_
    refine lv_topi (fun y_6 e_6 => ?_)
    obtain rfl : y_6 = 15 := e_6.trans (by decide)
    refine lv_iload_n hx hb dX2_narrow_27 rfl (lv_at hl 0 rfl) ?_
    refine lv_iadd hx hb dX2_narrow_28 ?_
    have hi_7 : vp_in ((15 + i_2_0) : Int32) 25 := (vp_in_iff.mpr ⟨by have := kk_add2 (x := 15) (y := i_2_0) (a := 15) (b := i_2_0.toInt) rfl rfl (by omega) (by omega); omega, by have := kk_add2 (x := 15) (y := i_2_0) (a := 15) (b := i_2_0.toInt) rfl rfl (by omega) (by omega); omega⟩)
    have hk_7 : ((15 + i_2_0) : Int32).toNatClampNeg < 25 := Nat.not_le.mp fun q => hi_7 (Or.inr q)
    refine kk_aald hx hb hK hP 1 0 rfl rfl hi_7 dX2_narrow_29 ?_
    refine W.eq (g2 := F0 m 30 ls [.ref (h3 ((15 + i_2_0) : Int32).toNatClampNeg), .long y_5]) rfl ?_
    refine lv_iload_n hx hb dX2_narrow_30 rfl (lv_at hl 3 rfl) ?_
    refine va_lald hx hb hK hP _ 1 (kk_getr (kk_getl (kk_rowL hk_7))) rfl (vp_in_iff.mpr ⟨by have := kk_add2 (x := 15) (y := i_2_0) (a := 15) (b := i_2_0.toInt) rfl rfl (by omega) (by omega); omega, by have := kk_add2 (x := 15) (y := i_2_0) (a := 15) (b := i_2_0.toInt) rfl rfl (by omega) (by omega); omega⟩) dX2_narrow_31 ?_
    refine lv_topl (fun y_8 e_8 => ?_)
    clear e_8
    refine lv_land hx hb dX2_narrow_32 ?_
    refine lv_topl (fun y_9 e_9 => ?_)
    clear e_9
    refine lv_lstore (lv' := [(4, .long y_9), (3, .int i_2_0), (0, .ref h0), (1, .int 3), (2, .int p1)]) hx hb dX2_narrow_33 hl (by decide) rfl (fun ls hl => ?_)
    refine lv_aload_n hx hb dX2_narrow_35 rfl (lv_at hl 2 rfl) ?_
    refine va_get (D := (dC, dI)) (ci := 2) (v := .ref h2) (C := RX2) (T := TX2) (N := 13) hx hb hts (fun _ h => List.mem_cons_of_mem _ (List.mem_append_right _ h)) hown hK hP 0 rfl rfl 9 (by decide) (hts (.fieldLink RX2 32 "KinkStreet$Deeds" "open" "[[J") (List.mem_of_getElem? (i := 2) rfl)) (fun _ h9 => h9) rfl dX2_narrow_36 ?_
    refine lv_iload_n hx hb dX2_narrow_39 rfl (lv_at hl 3 rfl) ?_
    refine lv_iconst (v := 1) hx hb dX2_narrow_40 (by decide) ?_
    refine lv_iadd hx hb dX2_narrow_41 ?_
    refine lv_topi (fun y_10 e_10 => ?_)
    obtain rfl : y_10 = 4 := e_10.trans (by decide)
    have hi_11 : vp_in (4 : Int32) 5 := (by unfold vp_in; decide)
    have hk_11 : (4 : Int32).toNatClampNeg < 5 := Nat.not_le.mp fun q => hi_11 (Or.inr q)
    refine kk_aald hx hb hK hP 2 0 rfl rfl hi_11 dX2_narrow_42 ?_
    refine W.eq (g2 := F0 m 43 ls [.ref (h4 (4 : Int32).toNatClampNeg)]) rfl ?_
    refine lv_iload_n hx hb dX2_narrow_43 rfl (lv_at hl 1 rfl) ?_
    refine lv_lload hx hb dX2_narrow_44 (lv_at hl 0 rfl) ?_
    refine va_last hx hb hK hP hD hS _ 1 (kk_getr (kk_getr (kk_rowL hk_11))) rfl (vp_in_iff.mpr ⟨by have := kk_add2 (x := 15) (y := i_2_0) (a := 15) (b := i_2_0.toInt) rfl rfl (by omega) (by omega); omega, by have := kk_add2 (x := 15) (y := i_2_0) (a := 15) (b := i_2_0.toInt) rfl rfl (by omega) (by omega); omega⟩) dX2_narrow_46 (fun H locs hP hD hS => ?_)
    rw [kk_setr, kk_setr, kk_rowsL_set hk_11] at hP hD
    generalize kk_upF f_2_1 (4 : Int32).toNatClampNeg (vp_updL (f_2_1 (4 : Int32).toNatClampNeg) (i_2_0 : Int32).toNatClampNeg y_9) = F_12 at hP hD
    have hP : va_P (dC, dI) vwCl (([(h0, Sum.inr (2, [Value.ref h5, Value.ref h6, Value.ref h7, Value.int n0_size, Value.ref h8, Value.int n0_names, Value.int n0_plots, Value.ref h9, Value.ref h1, Value.ref h2, Value.ref h10, Value.ref h11, Value.int n0_ways])), (h1, Sum.inl (cAlong, 25, Sum.inr (Sum.inr (Sum.inr (Sum.inr (fun j => some (h3 j))))))), (h2, Sum.inl (cAlong, 5, Sum.inr (Sum.inr (Sum.inr (Sum.inr (fun j => some (h4 j)))))))] : va_W) ++ (kk_rowsL h3 clong 40 F3 25 ++ (kk_rowsL h4 clong 5 F_12 5))) H := hP
    have hD : va_D A (([(h0, Sum.inr (2, [Value.ref h5, Value.ref h6, Value.ref h7, Value.int n0_size, Value.ref h8, Value.int n0_names, Value.int n0_plots, Value.ref h9, Value.ref h1, Value.ref h2, Value.ref h10, Value.ref h11, Value.int n0_ways])), (h1, Sum.inl (cAlong, 25, Sum.inr (Sum.inr (Sum.inr (Sum.inr (fun j => some (h3 j))))))), (h2, Sum.inl (cAlong, 5, Sum.inr (Sum.inr (Sum.inr (Sum.inr (fun j => some (h4 j)))))))] : va_W) ++ (kk_rowsL h3 clong 40 F3 25 ++ (kk_rowsL h4 clong 5 F_12 5))) := hD
    refine lv_lload hx hb dX2_narrow_47 (lv_at hl 0 rfl) ?_
    refine lv_lconst (v := 0) hx hb dX2_narrow_49 (by decide) ?_
    refine W.lcmp hx hb dX2_narrow_50 ?_
    refine lv_if_ne (tgt := 56) hx hb dX2_narrow_51 (by decide) (fun _ => ?_) (fun _ => ?_)
    · skip
      refine lv_iinc (v := (i_2_0 + 1)) (lv' := [(3, .int (i_2_0 + 1)), (4, .long y_9), (0, .ref h0), (1, .int 3), (2, .int p1)]) hx hb dX2_narrow_56 hl (k := 1) rfl (by first | rfl | decide) (by decide) rfl (fun ls hl => ?_)
      refine lv_goto (tgt := 4) hx hb dX2_narrow_59 (by decide) ?_
      exact ih_2 ((i_2_0 + 1), F_12) _ _ _ (by show ((5 : Int) - ((i_2_0 + 1)).toInt).toNat < ((5 : Int) - i_2_0.toInt).toNat; have := kk_add2 (x := 15) (y := i_2_0) (a := 15) (b := i_2_0.toInt) rfl rfl (by omega) (by omega); have := kk_add2 (x := i_2_0) (y := 1) (a := i_2_0.toInt) (b := 1) rfl rfl (by omega) (by omega); exact kk_mu (by omega) (by omega)) ⟨(by show 4 ≤ ((i_2_0 + 1) : Int32).toInt ∧ ((i_2_0 + 1) : Int32).toInt ≤ 5; first | decide | (constructor <;> (have := kk_add2 (x := 15) (y := i_2_0) (a := 15) (b := i_2_0.toInt) rfl rfl (by omega) (by omega); have := kk_add2 (x := i_2_0) (y := 1) (a := i_2_0.toInt) (b := 1) rfl rfl (by omega) (by omega); omega))), hP, hD, hS, lv_sub hl [0, 2, 3, 4] rfl⟩
    · skip
      refine lv_iconst (v := 0) hx hb dX2_narrow_54 (by decide) ?_
      have hP9 := hP.part (cx := [(h0, Sum.inr (2, [Value.ref h5, Value.ref h6, Value.ref h7, Value.int n0_size, Value.ref h8, Value.int n0_names, Value.int n0_plots, Value.ref h9, Value.ref h1, Value.ref h2, Value.ref h10, Value.ref h11, Value.int n0_ways])), (h1, Sum.inl (cAlong, 25, Sum.inr (Sum.inr (Sum.inr (Sum.inr (fun j => some (h3 j))))))), (h2, Sum.inl (cAlong, 5, Sum.inr (Sum.inr (Sum.inr (Sum.inr (fun j => some (h4 j)))))))]) [0, 1, 2] rfl
      have hD9 := hD.part (cx := [(h0, Sum.inr (2, [Value.ref h5, Value.ref h6, Value.ref h7, Value.int n0_size, Value.ref h8, Value.int n0_names, Value.int n0_plots, Value.ref h9, Value.ref h1, Value.ref h2, Value.ref h10, Value.ref h11, Value.int n0_ways])), (h1, Sum.inl (cAlong, 25, Sum.inr (Sum.inr (Sum.inr (Sum.inr (fun j => some (h3 j))))))), (h2, Sum.inl (cAlong, 5, Sum.inr (Sum.inr (Sum.inr (Sum.inr (fun j => some (h4 j)))))))]) [0, 1, 2] (by decide) rfl
      have hK9 := hK.sub (tys' := []) [] rfl
      exact W.zret (v := 0) hx hb hr rfl (fun t ht hW => ⟨⟨0, (), rfl, Or.inl ⟨by first | assumption | (have := kk_add2 (x := 15) (y := i_2_0) (a := 15) (b := i_2_0.toInt) rfl rfl (by omega) (by omega); omega), rfl⟩, F_12, by rw [ht]; exact hP9, va_K.moved hW.alike hK9, hD9⟩, hS.F ht⟩) hS.2.2 dX2_narrow_55
set_option maxHeartbeats 4000000 in
set_option maxRecDepth 100000 in
theorem g_J13_bitCount_95d88_0 (l : Launch) (dC : Nat → ClassId) (dI : Nat → Nat → Nat) (sz : Nat) (v0 : Int64) (xv0 : Int) (exv0 : v0.toInt = xv0) : Met l yJ13_bitCount_95d88 wsJ13_bitCount_95d88 ({ frames := 0, cells := 0, slots := 0, locals := 0 }) (va_Pc [.long v0] (fun U => U.heap.size = sz ∧ va_P (dC, dI) vwCl [] U.heap ∧ va_K (dC, dI) vwCl [] U ∧ va_D (fun _ => True) [])) (va_Qi (fun (r : Int32) (_ : Unit) => True) (fun (_ : Unit) t => va_P (dC, dI) vwCl [] t.heap ∧ va_K (dC, dI) vwCl [] t ∧ va_D (va_A [] sz) []) (va_A [] sz)) 0 0 (va_A [] sz) := by
  refine Met.ofW (cc := cJ13_bitCount_95d88) (maxL := 2) (ret := (some .int)) (by decide) rfl ?_
  intro p e s m args below meth c s₁ B hml hv
  obtain ⟨rfl, hsz, hP, hK, hD0⟩ := hv
  have hx := B.exec
  have hb := B.bytes
  have hr := B.returns
  have hts := atoms_spec (ws := wsJ13_bitCount_95d88) B.pre
  have hown : s.vm.findClass RJ13 = some m.cls := findClass_of_methodNamed B.named
  have hlocks := B.notSynchronized
  subst hsz
  have hD := hD0.self (sz := s.heap.size)
  generalize hAe : va_A [] s.heap.size = A at hD ⊢
  have hA : ∀ q : Nat, s.heap.size ≤ q → A q := fun q h => by rw [← hAe]; exact Or.inr h
  have hS : va_S A s.heap s.heap [] := va_S.rf
  have hP : va_P (dC, dI) vwCl [] s.heap := hP
  have hl := lv_entry ([.long v0]) (n := 2) (Nat.le_of_ble_eq_true rfl)
  rw [lg_entry_eq]
  generalize (lg_sl ([.long v0]) ++ List.replicate (2 - (lg_sl ([.long v0])).length) Slot.unset).toArray = ls at hl ⊢
  have hl : lv_has ls 2 [(0, .long v0)] := hl
  refine lv_lload_n hx hb dJ13_bitCount_95d88_0 rfl (lv_at hl 0 rfl) ?_
  refine lv_lload_n hx hb dJ13_bitCount_95d88_1 rfl (lv_at hl 0 rfl) ?_
  refine lv_iconst (v := 1) hx hb dJ13_bitCount_95d88_2 (by decide) ?_
  refine lv_lushr hx hb dJ13_bitCount_95d88_3 rfl ?_
  refine lv_topl (fun y_1 e_1 => ?_)
  clear e_1
  refine lv_ldc2 hx hb hown (hts _ (List.mem_of_getElem? (i := 1) rfl)) dJ13_bitCount_95d88_4 ?_
  refine lv_land hx hb dJ13_bitCount_95d88_7 ?_
  refine lv_topl (fun y_2 e_2 => ?_)
  clear e_2
  refine lv_lsub hx hb dJ13_bitCount_95d88_8 ?_
  refine lv_topl (fun y_3 e_3 => ?_)
  clear e_3
  refine lv_lstore_n (lv' := [(0, .long y_3)]) hx hb dJ13_bitCount_95d88_9 rfl hl (by decide) rfl (fun ls hl => ?_)
  refine lv_lload_n hx hb dJ13_bitCount_95d88_10 rfl (lv_at hl 0 rfl) ?_
  refine lv_ldc2 hx hb hown (hts _ (List.mem_of_getElem? (i := 2) rfl)) dJ13_bitCount_95d88_11 ?_
  refine lv_land hx hb dJ13_bitCount_95d88_14 ?_
  refine lv_topl (fun y_4 e_4 => ?_)
  clear e_4
  refine lv_lload_n hx hb dJ13_bitCount_95d88_15 rfl (lv_at hl 0 rfl) ?_
  refine lv_iconst (v := 2) hx hb dJ13_bitCount_95d88_16 (by decide) ?_
  refine lv_lushr hx hb dJ13_bitCount_95d88_17 rfl ?_
  refine lv_topl (fun y_5 e_5 => ?_)
  clear e_5
  refine lv_ldc2 hx hb hown (hts _ (List.mem_of_getElem? (i := 2) rfl)) dJ13_bitCount_95d88_18 ?_
  refine lv_land hx hb dJ13_bitCount_95d88_21 ?_
  refine lv_topl (fun y_6 e_6 => ?_)
  clear e_6
  refine lv_ladd hx hb dJ13_bitCount_95d88_22 ?_
  refine lv_topl (fun y_7 e_7 => ?_)
  clear e_7
  refine lv_lstore_n (lv' := [(0, .long y_7)]) hx hb dJ13_bitCount_95d88_23 rfl hl (by decide) rfl (fun ls hl => ?_)
  refine lv_lload_n hx hb dJ13_bitCount_95d88_24 rfl (lv_at hl 0 rfl) ?_
  refine lv_lload_n hx hb dJ13_bitCount_95d88_25 rfl (lv_at hl 0 rfl) ?_
  refine lv_iconst (v := 4) hx hb dJ13_bitCount_95d88_26 (by decide) ?_
  refine lv_lushr hx hb dJ13_bitCount_95d88_27 rfl ?_
  refine lv_topl (fun y_8 e_8 => ?_)
  clear e_8
  refine lv_ladd hx hb dJ13_bitCount_95d88_28 ?_
  refine lv_topl (fun y_9 e_9 => ?_)
  clear e_9
  refine lv_ldc2 hx hb hown (hts _ (List.mem_of_getElem? (i := 3) rfl)) dJ13_bitCount_95d88_29 ?_
  refine lv_land hx hb dJ13_bitCount_95d88_32 ?_
  refine lv_topl (fun y_10 e_10 => ?_)
  clear e_10
  refine lv_lstore_n (lv' := [(0, .long y_10)]) hx hb dJ13_bitCount_95d88_33 rfl hl (by decide) rfl (fun ls hl => ?_)
  refine lv_lload_n hx hb dJ13_bitCount_95d88_34 rfl (lv_at hl 0 rfl) ?_
  refine lv_lload_n hx hb dJ13_bitCount_95d88_35 rfl (lv_at hl 0 rfl) ?_
  refine lv_bipush (v := 8) hx hb dJ13_bitCount_95d88_36 (by decide) ?_
  refine lv_lushr hx hb dJ13_bitCount_95d88_38 rfl ?_
  refine lv_topl (fun y_11 e_11 => ?_)
  clear e_11
  refine lv_ladd hx hb dJ13_bitCount_95d88_39 ?_
  refine lv_topl (fun y_12 e_12 => ?_)
  clear e_12
  refine lv_lstore_n (lv' := [(0, .long y_12)]) hx hb dJ13_bitCount_95d88_40 rfl hl (by decide) rfl (fun ls hl => ?_)
  refine lv_lload_n hx hb dJ13_bitCount_95d88_41 rfl (lv_at hl 0 rfl) ?_
  refine lv_lload_n hx hb dJ13_bitCount_95d88_42 rfl (lv_at hl 0 rfl) ?_
  refine lv_bipush (v := 16) hx hb dJ13_bitCount_95d88_43 (by decide) ?_
  refine lv_lushr hx hb dJ13_bitCount_95d88_45 rfl ?_
  refine lv_topl (fun y_13 e_13 => ?_)
  clear e_13
  refine lv_ladd hx hb dJ13_bitCount_95d88_46 ?_
  refine lv_topl (fun y_14 e_14 => ?_)
  clear e_14
  refine lv_lstore_n (lv' := [(0, .long y_14)]) hx hb dJ13_bitCount_95d88_47 rfl hl (by decide) rfl (fun ls hl => ?_)
  refine lv_lload_n hx hb dJ13_bitCount_95d88_48 rfl (lv_at hl 0 rfl) ?_
  refine lv_lload_n hx hb dJ13_bitCount_95d88_49 rfl (lv_at hl 0 rfl) ?_
  refine lv_bipush (v := 32) hx hb dJ13_bitCount_95d88_50 (by decide) ?_
  refine lv_lushr hx hb dJ13_bitCount_95d88_52 rfl ?_
  refine lv_topl (fun y_15 e_15 => ?_)
  clear e_15
  refine lv_ladd hx hb dJ13_bitCount_95d88_53 ?_
  refine lv_topl (fun y_16 e_16 => ?_)
  clear e_16
  refine lv_lstore_n (lv' := [(0, .long y_16)]) hx hb dJ13_bitCount_95d88_54 rfl hl (by decide) rfl (fun ls hl => ?_)
  refine lv_lload_n hx hb dJ13_bitCount_95d88_55 rfl (lv_at hl 0 rfl) ?_
  refine lv_l2i hx hb dJ13_bitCount_95d88_56 rfl ?_
  refine lv_topi (fun y_17 e_17 => ?_)
  clear e_17
  refine lv_bipush (v := 127) hx hb dJ13_bitCount_95d88_57 (by decide) ?_
  refine lv_iand hx hb dJ13_bitCount_95d88_59 ?_
  refine lv_topi (fun y_18 e_18 => ?_)
  clear e_18
  obtain ⟨hP9, hD9⟩ := kk_leafout (wc := []) hP hD [] (by decide) rfl
  have hK9 := hK.sub (tys' := []) [] rfl
  exact W.iret (v := y_18) hx hb hr (fun t ht hW => ⟨⟨y_18, (), rfl, trivial, by rw [ht]; exact hP9, va_K.moved hW.alike hK9, hD9⟩, hS.F ht⟩) hS.2.2 dJ13_bitCount_95d88_60
set_option maxHeartbeats 4000000 in
set_option maxRecDepth 100000 in
theorem g_J6_numberOfTrailingZeros_0f7a4_0 (l : Launch) (dC : Nat → ClassId) (dI : Nat → Nat → Nat) (sz : Nat) (p0 : Int32) : Met l yJ6_numberOfTrailingZeros_0f7a4 wsJ6_numberOfTrailingZeros_0f7a4 ({ frames := 0, cells := 0, slots := 0, locals := 0 }) (va_Pc [.int p0] (fun U => U.heap.size = sz ∧ va_P (dC, dI) vwCl [] U.heap ∧ va_K (dC, dI) vwCl [] U ∧ va_D (fun _ => True) [])) (va_Qi (fun (r : Int32) (_ : Unit) => True) (fun (_ : Unit) t => va_P (dC, dI) vwCl [] t.heap ∧ va_K (dC, dI) vwCl [] t ∧ va_D (va_A [] sz) []) (va_A [] sz)) 0 0 (va_A [] sz) := by
  refine Met.ofW (cc := cJ6_numberOfTrailingZeros_0f7a4) (maxL := 2) (ret := (some .int)) (by decide) rfl ?_
  intro p e s m args below meth c s₁ B hml hv
  obtain ⟨rfl, hsz, hP, hK, hD0⟩ := hv
  have hx := B.exec
  have hb := B.bytes
  have hr := B.returns
  have hts := atoms_spec (ws := wsJ6_numberOfTrailingZeros_0f7a4) B.pre
  have hown : s.vm.findClass RJ6 = some m.cls := findClass_of_methodNamed B.named
  have hlocks := B.notSynchronized
  subst hsz
  have hD := hD0.self (sz := s.heap.size)
  generalize hAe : va_A [] s.heap.size = A at hD ⊢
  have hA : ∀ q : Nat, s.heap.size ≤ q → A q := fun q h => by rw [← hAe]; exact Or.inr h
  have hS : va_S A s.heap s.heap [] := va_S.rf
  have hP : va_P (dC, dI) vwCl [] s.heap := hP
  have hl := lv_entry ([.int p0]) (n := 2) (Nat.le_of_ble_eq_true rfl)
  rw [lg_entry_eq]
  generalize (lg_sl ([.int p0]) ++ List.replicate (2 - (lg_sl ([.int p0])).length) Slot.unset).toArray = ls at hl ⊢
  have hl : lv_has ls 2 [(0, .int p0)] := hl
  refine lv_iload_n hx hb dJ6_numberOfTrailingZeros_0f7a4_0 rfl (lv_at hl 0 rfl) ?_
  refine lv_iconst (v := (-1)) hx hb dJ6_numberOfTrailingZeros_0f7a4_1 (by decide) ?_
  refine lv_ixor hx hb dJ6_numberOfTrailingZeros_0f7a4_2 ?_
  refine lv_topi (fun y_1 e_1 => ?_)
  clear e_1
  refine lv_iload_n hx hb dJ6_numberOfTrailingZeros_0f7a4_3 rfl (lv_at hl 0 rfl) ?_
  refine lv_iconst (v := 1) hx hb dJ6_numberOfTrailingZeros_0f7a4_4 (by decide) ?_
  refine lv_isub hx hb dJ6_numberOfTrailingZeros_0f7a4_5 ?_
  refine lv_iand hx hb dJ6_numberOfTrailingZeros_0f7a4_6 ?_
  refine lv_topi (fun y_2 e_2 => ?_)
  clear e_2
  refine lv_istore_n (lv' := [(0, .int y_2)]) hx hb dJ6_numberOfTrailingZeros_0f7a4_7 rfl hl (by decide) rfl (fun ls hl => ?_)
  refine lv_iload_n hx hb dJ6_numberOfTrailingZeros_0f7a4_8 rfl (lv_at hl 0 rfl) ?_
  refine lv_if_gt (tgt := 17) hx hb dJ6_numberOfTrailingZeros_0f7a4_9 (by decide) (fun c_3 => ?_) (fun c_3 => ?_)
  · have t_3 : 0 < y_2.toInt := kk_lt c_3
    refine lv_iconst (v := 1) hx hb dJ6_numberOfTrailingZeros_0f7a4_17 (by decide) ?_
    refine lv_istore_n (lv' := [(1, .int 1), (0, .int y_2)]) hx hb dJ6_numberOfTrailingZeros_0f7a4_18 rfl hl (by decide) rfl (fun ls hl => ?_)
    refine lv_iload_n hx hb dJ6_numberOfTrailingZeros_0f7a4_19 rfl (lv_at hl 1 rfl) ?_
    refine lv_ldcw hx hb hown (hts _ (List.mem_of_getElem? (i := 1) rfl)) dJ6_numberOfTrailingZeros_0f7a4_20 ?_
    refine lv_icmp_le (tgt := 34) hx hb dJ6_numberOfTrailingZeros_0f7a4_23 (by decide) (fun c_4 => ?_) (fun c_4 => ?_)
    · have t_4 : y_2.toInt ≤ 65536 := kk_le c_4
      refine lv_iload_n hx hb dJ6_numberOfTrailingZeros_0f7a4_34 rfl (lv_at hl 1 rfl) ?_
      refine lv_sipush (v := 256) hx hb dJ6_numberOfTrailingZeros_0f7a4_35 (by decide) ?_
      refine lv_icmp_le (tgt := 49) hx hb dJ6_numberOfTrailingZeros_0f7a4_38 (by decide) (fun c_5 => ?_) (fun c_5 => ?_)
      · have t_5 : y_2.toInt ≤ 256 := kk_le c_5
        refine lv_iload_n hx hb dJ6_numberOfTrailingZeros_0f7a4_49 rfl (lv_at hl 1 rfl) ?_
        refine lv_bipush (v := 16) hx hb dJ6_numberOfTrailingZeros_0f7a4_50 (by decide) ?_
        refine lv_icmp_le (tgt := 62) hx hb dJ6_numberOfTrailingZeros_0f7a4_52 (by decide) (fun c_6 => ?_) (fun c_6 => ?_)
        · have t_6 : y_2.toInt ≤ 16 := kk_le c_6
          refine lv_iload_n hx hb dJ6_numberOfTrailingZeros_0f7a4_62 rfl (lv_at hl 1 rfl) ?_
          refine lv_iconst (v := 4) hx hb dJ6_numberOfTrailingZeros_0f7a4_63 (by decide) ?_
          refine lv_icmp_le (tgt := 74) hx hb dJ6_numberOfTrailingZeros_0f7a4_64 (by decide) (fun c_7 => ?_) (fun c_7 => ?_)
          · have t_7 : y_2.toInt ≤ 4 := kk_le c_7
            refine lv_iload_n hx hb dJ6_numberOfTrailingZeros_0f7a4_74 rfl (lv_at hl 0 rfl) ?_
            refine lv_iload_n hx hb dJ6_numberOfTrailingZeros_0f7a4_75 rfl (lv_at hl 1 rfl) ?_
            refine lv_iconst (v := 1) hx hb dJ6_numberOfTrailingZeros_0f7a4_76 (by decide) ?_
            refine lv_iushr hx hb dJ6_numberOfTrailingZeros_0f7a4_77 rfl ?_
            refine lv_topi (fun y_8 e_8 => ?_)
            clear e_8
            refine lv_iadd hx hb dJ6_numberOfTrailingZeros_0f7a4_78 ?_
            obtain ⟨hP9, hD9⟩ := kk_leafout (wc := []) hP hD [] (by decide) rfl
            have hK9 := hK.sub (tys' := []) [] rfl
            exact W.iret (v := (1 + y_8)) hx hb hr (fun t ht hW => ⟨⟨(1 + y_8), (), rfl, trivial, by rw [ht]; exact hP9, va_K.moved hW.alike hK9, hD9⟩, hS.F ht⟩) hS.2.2 dJ6_numberOfTrailingZeros_0f7a4_79
          · have t_7 : 4 < y_2.toInt := kk_nle c_7
            refine lv_iinc (v := 3) (lv' := [(1, .int 3), (0, .int y_2)]) hx hb dJ6_numberOfTrailingZeros_0f7a4_67 hl (k := 0) rfl (by first | rfl | decide) (by decide) rfl (fun ls hl => ?_)
            refine lv_iload_n hx hb dJ6_numberOfTrailingZeros_0f7a4_70 rfl (lv_at hl 1 rfl) ?_
            refine lv_iconst (v := 2) hx hb dJ6_numberOfTrailingZeros_0f7a4_71 (by decide) ?_
            refine lv_iushr hx hb dJ6_numberOfTrailingZeros_0f7a4_72 rfl ?_
            refine lv_topi (fun y_9 e_9 => ?_)
            clear e_9
            refine lv_istore_n (lv' := [(0, .int y_9), (1, .int 3)]) hx hb dJ6_numberOfTrailingZeros_0f7a4_73 rfl hl (by decide) rfl (fun ls hl => ?_)
            refine lv_iload_n hx hb dJ6_numberOfTrailingZeros_0f7a4_74 rfl (lv_at hl 1 rfl) ?_
            refine lv_iload_n hx hb dJ6_numberOfTrailingZeros_0f7a4_75 rfl (lv_at hl 0 rfl) ?_
            refine lv_iconst (v := 1) hx hb dJ6_numberOfTrailingZeros_0f7a4_76 (by decide) ?_
            refine lv_iushr hx hb dJ6_numberOfTrailingZeros_0f7a4_77 rfl ?_
            refine lv_topi (fun y_10 e_10 => ?_)
            clear e_10
            refine lv_iadd hx hb dJ6_numberOfTrailingZeros_0f7a4_78 ?_
            obtain ⟨hP9, hD9⟩ := kk_leafout (wc := []) hP hD [] (by decide) rfl
            have hK9 := hK.sub (tys' := []) [] rfl
            exact W.iret (v := (3 + y_10)) hx hb hr (fun t ht hW => ⟨⟨(3 + y_10), (), rfl, trivial, by rw [ht]; exact hP9, va_K.moved hW.alike hK9, hD9⟩, hS.F ht⟩) hS.2.2 dJ6_numberOfTrailingZeros_0f7a4_79
        · have t_6 : 16 < y_2.toInt := kk_nle c_6
          refine lv_iinc (v := 5) (lv' := [(1, .int 5), (0, .int y_2)]) hx hb dJ6_numberOfTrailingZeros_0f7a4_55 hl (k := 0) rfl (by first | rfl | decide) (by decide) rfl (fun ls hl => ?_)
          refine lv_iload_n hx hb dJ6_numberOfTrailingZeros_0f7a4_58 rfl (lv_at hl 1 rfl) ?_
          refine lv_iconst (v := 4) hx hb dJ6_numberOfTrailingZeros_0f7a4_59 (by decide) ?_
          refine lv_iushr hx hb dJ6_numberOfTrailingZeros_0f7a4_60 rfl ?_
          refine lv_topi (fun y_11 e_11 => ?_)
          clear e_11
          refine lv_istore_n (lv' := [(0, .int y_11), (1, .int 5)]) hx hb dJ6_numberOfTrailingZeros_0f7a4_61 rfl hl (by decide) rfl (fun ls hl => ?_)
          refine lv_iload_n hx hb dJ6_numberOfTrailingZeros_0f7a4_62 rfl (lv_at hl 0 rfl) ?_
          refine lv_iconst (v := 4) hx hb dJ6_numberOfTrailingZeros_0f7a4_63 (by decide) ?_
          refine lv_icmp_le (tgt := 74) hx hb dJ6_numberOfTrailingZeros_0f7a4_64 (by decide) (fun c_12 => ?_) (fun c_12 => ?_)
          · have t_12 : y_11.toInt ≤ 4 := kk_le c_12
            refine lv_iload_n hx hb dJ6_numberOfTrailingZeros_0f7a4_74 rfl (lv_at hl 1 rfl) ?_
            refine lv_iload_n hx hb dJ6_numberOfTrailingZeros_0f7a4_75 rfl (lv_at hl 0 rfl) ?_
            refine lv_iconst (v := 1) hx hb dJ6_numberOfTrailingZeros_0f7a4_76 (by decide) ?_
            refine lv_iushr hx hb dJ6_numberOfTrailingZeros_0f7a4_77 rfl ?_
            refine lv_topi (fun y_13 e_13 => ?_)
            clear e_13
            refine lv_iadd hx hb dJ6_numberOfTrailingZeros_0f7a4_78 ?_
            obtain ⟨hP9, hD9⟩ := kk_leafout (wc := []) hP hD [] (by decide) rfl
            have hK9 := hK.sub (tys' := []) [] rfl
            exact W.iret (v := (5 + y_13)) hx hb hr (fun t ht hW => ⟨⟨(5 + y_13), (), rfl, trivial, by rw [ht]; exact hP9, va_K.moved hW.alike hK9, hD9⟩, hS.F ht⟩) hS.2.2 dJ6_numberOfTrailingZeros_0f7a4_79
          · have t_12 : 4 < y_11.toInt := kk_nle c_12
            refine lv_iinc (v := 7) (lv' := [(1, .int 7), (0, .int y_11)]) hx hb dJ6_numberOfTrailingZeros_0f7a4_67 hl (k := 1) rfl (by first | rfl | decide) (by decide) rfl (fun ls hl => ?_)
            refine lv_iload_n hx hb dJ6_numberOfTrailingZeros_0f7a4_70 rfl (lv_at hl 1 rfl) ?_
            refine lv_iconst (v := 2) hx hb dJ6_numberOfTrailingZeros_0f7a4_71 (by decide) ?_
            refine lv_iushr hx hb dJ6_numberOfTrailingZeros_0f7a4_72 rfl ?_
            refine lv_topi (fun y_14 e_14 => ?_)
            clear e_14
            refine lv_istore_n (lv' := [(0, .int y_14), (1, .int 7)]) hx hb dJ6_numberOfTrailingZeros_0f7a4_73 rfl hl (by decide) rfl (fun ls hl => ?_)
            refine lv_iload_n hx hb dJ6_numberOfTrailingZeros_0f7a4_74 rfl (lv_at hl 1 rfl) ?_
            refine lv_iload_n hx hb dJ6_numberOfTrailingZeros_0f7a4_75 rfl (lv_at hl 0 rfl) ?_
            refine lv_iconst (v := 1) hx hb dJ6_numberOfTrailingZeros_0f7a4_76 (by decide) ?_
            refine lv_iushr hx hb dJ6_numberOfTrailingZeros_0f7a4_77 rfl ?_
            refine lv_topi (fun y_15 e_15 => ?_)
            clear e_15
            refine lv_iadd hx hb dJ6_numberOfTrailingZeros_0f7a4_78 ?_
            obtain ⟨hP9, hD9⟩ := kk_leafout (wc := []) hP hD [] (by decide) rfl
            have hK9 := hK.sub (tys' := []) [] rfl
            exact W.iret (v := (7 + y_15)) hx hb hr (fun t ht hW => ⟨⟨(7 + y_15), (), rfl, trivial, by rw [ht]; exact hP9, va_K.moved hW.alike hK9, hD9⟩, hS.F ht⟩) hS.2.2 dJ6_numberOfTrailingZeros_0f7a4_79
      · have t_5 : 256 < y_2.toInt := kk_nle c_5
        refine lv_iinc (v := 9) (lv' := [(1, .int 9), (0, .int y_2)]) hx hb dJ6_numberOfTrailingZeros_0f7a4_41 hl (k := 0) rfl (by first | rfl | decide) (by decide) rfl (fun ls hl => ?_)
        refine lv_iload_n hx hb dJ6_numberOfTrailingZeros_0f7a4_44 rfl (lv_at hl 1 rfl) ?_
        refine lv_bipush (v := 8) hx hb dJ6_numberOfTrailingZeros_0f7a4_45 (by decide) ?_
        refine lv_iushr hx hb dJ6_numberOfTrailingZeros_0f7a4_47 rfl ?_
        refine lv_topi (fun y_16 e_16 => ?_)
        clear e_16
        refine lv_istore_n (lv' := [(0, .int y_16), (1, .int 9)]) hx hb dJ6_numberOfTrailingZeros_0f7a4_48 rfl hl (by decide) rfl (fun ls hl => ?_)
        refine lv_iload_n hx hb dJ6_numberOfTrailingZeros_0f7a4_49 rfl (lv_at hl 0 rfl) ?_
        refine lv_bipush (v := 16) hx hb dJ6_numberOfTrailingZeros_0f7a4_50 (by decide) ?_
        refine lv_icmp_le (tgt := 62) hx hb dJ6_numberOfTrailingZeros_0f7a4_52 (by decide) (fun c_17 => ?_) (fun c_17 => ?_)
        · have t_17 : y_16.toInt ≤ 16 := kk_le c_17
          refine lv_iload_n hx hb dJ6_numberOfTrailingZeros_0f7a4_62 rfl (lv_at hl 0 rfl) ?_
          refine lv_iconst (v := 4) hx hb dJ6_numberOfTrailingZeros_0f7a4_63 (by decide) ?_
          refine lv_icmp_le (tgt := 74) hx hb dJ6_numberOfTrailingZeros_0f7a4_64 (by decide) (fun c_18 => ?_) (fun c_18 => ?_)
          · have t_18 : y_16.toInt ≤ 4 := kk_le c_18
            refine lv_iload_n hx hb dJ6_numberOfTrailingZeros_0f7a4_74 rfl (lv_at hl 1 rfl) ?_
            refine lv_iload_n hx hb dJ6_numberOfTrailingZeros_0f7a4_75 rfl (lv_at hl 0 rfl) ?_
            refine lv_iconst (v := 1) hx hb dJ6_numberOfTrailingZeros_0f7a4_76 (by decide) ?_
            refine lv_iushr hx hb dJ6_numberOfTrailingZeros_0f7a4_77 rfl ?_
            refine lv_topi (fun y_19 e_19 => ?_)
            clear e_19
            refine lv_iadd hx hb dJ6_numberOfTrailingZeros_0f7a4_78 ?_
            obtain ⟨hP9, hD9⟩ := kk_leafout (wc := []) hP hD [] (by decide) rfl
            have hK9 := hK.sub (tys' := []) [] rfl
            exact W.iret (v := (9 + y_19)) hx hb hr (fun t ht hW => ⟨⟨(9 + y_19), (), rfl, trivial, by rw [ht]; exact hP9, va_K.moved hW.alike hK9, hD9⟩, hS.F ht⟩) hS.2.2 dJ6_numberOfTrailingZeros_0f7a4_79
          · have t_18 : 4 < y_16.toInt := kk_nle c_18
            refine lv_iinc (v := 11) (lv' := [(1, .int 11), (0, .int y_16)]) hx hb dJ6_numberOfTrailingZeros_0f7a4_67 hl (k := 1) rfl (by first | rfl | decide) (by decide) rfl (fun ls hl => ?_)
            refine lv_iload_n hx hb dJ6_numberOfTrailingZeros_0f7a4_70 rfl (lv_at hl 1 rfl) ?_
            refine lv_iconst (v := 2) hx hb dJ6_numberOfTrailingZeros_0f7a4_71 (by decide) ?_
            refine lv_iushr hx hb dJ6_numberOfTrailingZeros_0f7a4_72 rfl ?_
            refine lv_topi (fun y_20 e_20 => ?_)
            clear e_20
            refine lv_istore_n (lv' := [(0, .int y_20), (1, .int 11)]) hx hb dJ6_numberOfTrailingZeros_0f7a4_73 rfl hl (by decide) rfl (fun ls hl => ?_)
            refine lv_iload_n hx hb dJ6_numberOfTrailingZeros_0f7a4_74 rfl (lv_at hl 1 rfl) ?_
            refine lv_iload_n hx hb dJ6_numberOfTrailingZeros_0f7a4_75 rfl (lv_at hl 0 rfl) ?_
            refine lv_iconst (v := 1) hx hb dJ6_numberOfTrailingZeros_0f7a4_76 (by decide) ?_
            refine lv_iushr hx hb dJ6_numberOfTrailingZeros_0f7a4_77 rfl ?_
            refine lv_topi (fun y_21 e_21 => ?_)
            clear e_21
            refine lv_iadd hx hb dJ6_numberOfTrailingZeros_0f7a4_78 ?_
            obtain ⟨hP9, hD9⟩ := kk_leafout (wc := []) hP hD [] (by decide) rfl
            have hK9 := hK.sub (tys' := []) [] rfl
            exact W.iret (v := (11 + y_21)) hx hb hr (fun t ht hW => ⟨⟨(11 + y_21), (), rfl, trivial, by rw [ht]; exact hP9, va_K.moved hW.alike hK9, hD9⟩, hS.F ht⟩) hS.2.2 dJ6_numberOfTrailingZeros_0f7a4_79
        · have t_17 : 16 < y_16.toInt := kk_nle c_17
          refine lv_iinc (v := 13) (lv' := [(1, .int 13), (0, .int y_16)]) hx hb dJ6_numberOfTrailingZeros_0f7a4_55 hl (k := 1) rfl (by first | rfl | decide) (by decide) rfl (fun ls hl => ?_)
          refine lv_iload_n hx hb dJ6_numberOfTrailingZeros_0f7a4_58 rfl (lv_at hl 1 rfl) ?_
          refine lv_iconst (v := 4) hx hb dJ6_numberOfTrailingZeros_0f7a4_59 (by decide) ?_
          refine lv_iushr hx hb dJ6_numberOfTrailingZeros_0f7a4_60 rfl ?_
          refine lv_topi (fun y_22 e_22 => ?_)
          clear e_22
          refine lv_istore_n (lv' := [(0, .int y_22), (1, .int 13)]) hx hb dJ6_numberOfTrailingZeros_0f7a4_61 rfl hl (by decide) rfl (fun ls hl => ?_)
          refine lv_iload_n hx hb dJ6_numberOfTrailingZeros_0f7a4_62 rfl (lv_at hl 0 rfl) ?_
          refine lv_iconst (v := 4) hx hb dJ6_numberOfTrailingZeros_0f7a4_63 (by decide) ?_
          refine lv_icmp_le (tgt := 74) hx hb dJ6_numberOfTrailingZeros_0f7a4_64 (by decide) (fun c_23 => ?_) (fun c_23 => ?_)
          · have t_23 : y_22.toInt ≤ 4 := kk_le c_23
            refine lv_iload_n hx hb dJ6_numberOfTrailingZeros_0f7a4_74 rfl (lv_at hl 1 rfl) ?_
            refine lv_iload_n hx hb dJ6_numberOfTrailingZeros_0f7a4_75 rfl (lv_at hl 0 rfl) ?_
            refine lv_iconst (v := 1) hx hb dJ6_numberOfTrailingZeros_0f7a4_76 (by decide) ?_
            refine lv_iushr hx hb dJ6_numberOfTrailingZeros_0f7a4_77 rfl ?_
            refine lv_topi (fun y_24 e_24 => ?_)
            clear e_24
            refine lv_iadd hx hb dJ6_numberOfTrailingZeros_0f7a4_78 ?_
            obtain ⟨hP9, hD9⟩ := kk_leafout (wc := []) hP hD [] (by decide) rfl
            have hK9 := hK.sub (tys' := []) [] rfl
            exact W.iret (v := (13 + y_24)) hx hb hr (fun t ht hW => ⟨⟨(13 + y_24), (), rfl, trivial, by rw [ht]; exact hP9, va_K.moved hW.alike hK9, hD9⟩, hS.F ht⟩) hS.2.2 dJ6_numberOfTrailingZeros_0f7a4_79
          · have t_23 : 4 < y_22.toInt := kk_nle c_23
            refine lv_iinc (v := 15) (lv' := [(1, .int 15), (0, .int y_22)]) hx hb dJ6_numberOfTrailingZeros_0f7a4_67 hl (k := 1) rfl (by first | rfl | decide) (by decide) rfl (fun ls hl => ?_)
            refine lv_iload_n hx hb dJ6_numberOfTrailingZeros_0f7a4_70 rfl (lv_at hl 1 rfl) ?_
            refine lv_iconst (v := 2) hx hb dJ6_numberOfTrailingZeros_0f7a4_71 (by decide) ?_
            refine lv_iushr hx hb dJ6_numberOfTrailingZeros_0f7a4_72 rfl ?_
            refine lv_topi (fun y_25 e_25 => ?_)
            clear e_25
            refine lv_istore_n (lv' := [(0, .int y_25), (1, .int 15)]) hx hb dJ6_numberOfTrailingZeros_0f7a4_73 rfl hl (by decide) rfl (fun ls hl => ?_)
            refine lv_iload_n hx hb dJ6_numberOfTrailingZeros_0f7a4_74 rfl (lv_at hl 1 rfl) ?_
            refine lv_iload_n hx hb dJ6_numberOfTrailingZeros_0f7a4_75 rfl (lv_at hl 0 rfl) ?_
            refine lv_iconst (v := 1) hx hb dJ6_numberOfTrailingZeros_0f7a4_76 (by decide) ?_
            refine lv_iushr hx hb dJ6_numberOfTrailingZeros_0f7a4_77 rfl ?_
            refine lv_topi (fun y_26 e_26 => ?_)
            clear e_26
            refine lv_iadd hx hb dJ6_numberOfTrailingZeros_0f7a4_78 ?_
            obtain ⟨hP9, hD9⟩ := kk_leafout (wc := []) hP hD [] (by decide) rfl
            have hK9 := hK.sub (tys' := []) [] rfl
            exact W.iret (v := (15 + y_26)) hx hb hr (fun t ht hW => ⟨⟨(15 + y_26), (), rfl, trivial, by rw [ht]; exact hP9, va_K.moved hW.alike hK9, hD9⟩, hS.F ht⟩) hS.2.2 dJ6_numberOfTrailingZeros_0f7a4_79
    · have t_4 : 65536 < y_2.toInt := kk_nle c_4
      refine lv_iinc (v := 17) (lv' := [(1, .int 17), (0, .int y_2)]) hx hb dJ6_numberOfTrailingZeros_0f7a4_26 hl (k := 0) rfl (by first | rfl | decide) (by decide) rfl (fun ls hl => ?_)
      refine lv_iload_n hx hb dJ6_numberOfTrailingZeros_0f7a4_29 rfl (lv_at hl 1 rfl) ?_
      refine lv_bipush (v := 16) hx hb dJ6_numberOfTrailingZeros_0f7a4_30 (by decide) ?_
      refine lv_iushr hx hb dJ6_numberOfTrailingZeros_0f7a4_32 rfl ?_
      refine lv_topi (fun y_27 e_27 => ?_)
      clear e_27
      refine lv_istore_n (lv' := [(0, .int y_27), (1, .int 17)]) hx hb dJ6_numberOfTrailingZeros_0f7a4_33 rfl hl (by decide) rfl (fun ls hl => ?_)
      refine lv_iload_n hx hb dJ6_numberOfTrailingZeros_0f7a4_34 rfl (lv_at hl 0 rfl) ?_
      refine lv_sipush (v := 256) hx hb dJ6_numberOfTrailingZeros_0f7a4_35 (by decide) ?_
      refine lv_icmp_le (tgt := 49) hx hb dJ6_numberOfTrailingZeros_0f7a4_38 (by decide) (fun c_28 => ?_) (fun c_28 => ?_)
      · have t_28 : y_27.toInt ≤ 256 := kk_le c_28
        refine lv_iload_n hx hb dJ6_numberOfTrailingZeros_0f7a4_49 rfl (lv_at hl 0 rfl) ?_
        refine lv_bipush (v := 16) hx hb dJ6_numberOfTrailingZeros_0f7a4_50 (by decide) ?_
        refine lv_icmp_le (tgt := 62) hx hb dJ6_numberOfTrailingZeros_0f7a4_52 (by decide) (fun c_29 => ?_) (fun c_29 => ?_)
        · have t_29 : y_27.toInt ≤ 16 := kk_le c_29
          refine lv_iload_n hx hb dJ6_numberOfTrailingZeros_0f7a4_62 rfl (lv_at hl 0 rfl) ?_
          refine lv_iconst (v := 4) hx hb dJ6_numberOfTrailingZeros_0f7a4_63 (by decide) ?_
          refine lv_icmp_le (tgt := 74) hx hb dJ6_numberOfTrailingZeros_0f7a4_64 (by decide) (fun c_30 => ?_) (fun c_30 => ?_)
          · have t_30 : y_27.toInt ≤ 4 := kk_le c_30
            refine lv_iload_n hx hb dJ6_numberOfTrailingZeros_0f7a4_74 rfl (lv_at hl 1 rfl) ?_
            refine lv_iload_n hx hb dJ6_numberOfTrailingZeros_0f7a4_75 rfl (lv_at hl 0 rfl) ?_
            refine lv_iconst (v := 1) hx hb dJ6_numberOfTrailingZeros_0f7a4_76 (by decide) ?_
            refine lv_iushr hx hb dJ6_numberOfTrailingZeros_0f7a4_77 rfl ?_
            refine lv_topi (fun y_31 e_31 => ?_)
            clear e_31
            refine lv_iadd hx hb dJ6_numberOfTrailingZeros_0f7a4_78 ?_
            obtain ⟨hP9, hD9⟩ := kk_leafout (wc := []) hP hD [] (by decide) rfl
            have hK9 := hK.sub (tys' := []) [] rfl
            exact W.iret (v := (17 + y_31)) hx hb hr (fun t ht hW => ⟨⟨(17 + y_31), (), rfl, trivial, by rw [ht]; exact hP9, va_K.moved hW.alike hK9, hD9⟩, hS.F ht⟩) hS.2.2 dJ6_numberOfTrailingZeros_0f7a4_79
          · have t_30 : 4 < y_27.toInt := kk_nle c_30
            refine lv_iinc (v := 19) (lv' := [(1, .int 19), (0, .int y_27)]) hx hb dJ6_numberOfTrailingZeros_0f7a4_67 hl (k := 1) rfl (by first | rfl | decide) (by decide) rfl (fun ls hl => ?_)
            refine lv_iload_n hx hb dJ6_numberOfTrailingZeros_0f7a4_70 rfl (lv_at hl 1 rfl) ?_
            refine lv_iconst (v := 2) hx hb dJ6_numberOfTrailingZeros_0f7a4_71 (by decide) ?_
            refine lv_iushr hx hb dJ6_numberOfTrailingZeros_0f7a4_72 rfl ?_
            refine lv_topi (fun y_32 e_32 => ?_)
            clear e_32
            refine lv_istore_n (lv' := [(0, .int y_32), (1, .int 19)]) hx hb dJ6_numberOfTrailingZeros_0f7a4_73 rfl hl (by decide) rfl (fun ls hl => ?_)
            refine lv_iload_n hx hb dJ6_numberOfTrailingZeros_0f7a4_74 rfl (lv_at hl 1 rfl) ?_
            refine lv_iload_n hx hb dJ6_numberOfTrailingZeros_0f7a4_75 rfl (lv_at hl 0 rfl) ?_
            refine lv_iconst (v := 1) hx hb dJ6_numberOfTrailingZeros_0f7a4_76 (by decide) ?_
            refine lv_iushr hx hb dJ6_numberOfTrailingZeros_0f7a4_77 rfl ?_
            refine lv_topi (fun y_33 e_33 => ?_)
            clear e_33
            refine lv_iadd hx hb dJ6_numberOfTrailingZeros_0f7a4_78 ?_
            obtain ⟨hP9, hD9⟩ := kk_leafout (wc := []) hP hD [] (by decide) rfl
            have hK9 := hK.sub (tys' := []) [] rfl
            exact W.iret (v := (19 + y_33)) hx hb hr (fun t ht hW => ⟨⟨(19 + y_33), (), rfl, trivial, by rw [ht]; exact hP9, va_K.moved hW.alike hK9, hD9⟩, hS.F ht⟩) hS.2.2 dJ6_numberOfTrailingZeros_0f7a4_79
        · have t_29 : 16 < y_27.toInt := kk_nle c_29
          refine lv_iinc (v := 21) (lv' := [(1, .int 21), (0, .int y_27)]) hx hb dJ6_numberOfTrailingZeros_0f7a4_55 hl (k := 1) rfl (by first | rfl | decide) (by decide) rfl (fun ls hl => ?_)
          refine lv_iload_n hx hb dJ6_numberOfTrailingZeros_0f7a4_58 rfl (lv_at hl 1 rfl) ?_
          refine lv_iconst (v := 4) hx hb dJ6_numberOfTrailingZeros_0f7a4_59 (by decide) ?_
          refine lv_iushr hx hb dJ6_numberOfTrailingZeros_0f7a4_60 rfl ?_
          refine lv_topi (fun y_34 e_34 => ?_)
          clear e_34
          refine lv_istore_n (lv' := [(0, .int y_34), (1, .int 21)]) hx hb dJ6_numberOfTrailingZeros_0f7a4_61 rfl hl (by decide) rfl (fun ls hl => ?_)
          refine lv_iload_n hx hb dJ6_numberOfTrailingZeros_0f7a4_62 rfl (lv_at hl 0 rfl) ?_
          refine lv_iconst (v := 4) hx hb dJ6_numberOfTrailingZeros_0f7a4_63 (by decide) ?_
          refine lv_icmp_le (tgt := 74) hx hb dJ6_numberOfTrailingZeros_0f7a4_64 (by decide) (fun c_35 => ?_) (fun c_35 => ?_)
          · have t_35 : y_34.toInt ≤ 4 := kk_le c_35
            refine lv_iload_n hx hb dJ6_numberOfTrailingZeros_0f7a4_74 rfl (lv_at hl 1 rfl) ?_
            refine lv_iload_n hx hb dJ6_numberOfTrailingZeros_0f7a4_75 rfl (lv_at hl 0 rfl) ?_
            refine lv_iconst (v := 1) hx hb dJ6_numberOfTrailingZeros_0f7a4_76 (by decide) ?_
            refine lv_iushr hx hb dJ6_numberOfTrailingZeros_0f7a4_77 rfl ?_
            refine lv_topi (fun y_36 e_36 => ?_)
            clear e_36
            refine lv_iadd hx hb dJ6_numberOfTrailingZeros_0f7a4_78 ?_
            obtain ⟨hP9, hD9⟩ := kk_leafout (wc := []) hP hD [] (by decide) rfl
            have hK9 := hK.sub (tys' := []) [] rfl
            exact W.iret (v := (21 + y_36)) hx hb hr (fun t ht hW => ⟨⟨(21 + y_36), (), rfl, trivial, by rw [ht]; exact hP9, va_K.moved hW.alike hK9, hD9⟩, hS.F ht⟩) hS.2.2 dJ6_numberOfTrailingZeros_0f7a4_79
          · have t_35 : 4 < y_34.toInt := kk_nle c_35
            refine lv_iinc (v := 23) (lv' := [(1, .int 23), (0, .int y_34)]) hx hb dJ6_numberOfTrailingZeros_0f7a4_67 hl (k := 1) rfl (by first | rfl | decide) (by decide) rfl (fun ls hl => ?_)
            refine lv_iload_n hx hb dJ6_numberOfTrailingZeros_0f7a4_70 rfl (lv_at hl 1 rfl) ?_
            refine lv_iconst (v := 2) hx hb dJ6_numberOfTrailingZeros_0f7a4_71 (by decide) ?_
            refine lv_iushr hx hb dJ6_numberOfTrailingZeros_0f7a4_72 rfl ?_
            refine lv_topi (fun y_37 e_37 => ?_)
            clear e_37
            refine lv_istore_n (lv' := [(0, .int y_37), (1, .int 23)]) hx hb dJ6_numberOfTrailingZeros_0f7a4_73 rfl hl (by decide) rfl (fun ls hl => ?_)
            refine lv_iload_n hx hb dJ6_numberOfTrailingZeros_0f7a4_74 rfl (lv_at hl 1 rfl) ?_
            refine lv_iload_n hx hb dJ6_numberOfTrailingZeros_0f7a4_75 rfl (lv_at hl 0 rfl) ?_
            refine lv_iconst (v := 1) hx hb dJ6_numberOfTrailingZeros_0f7a4_76 (by decide) ?_
            refine lv_iushr hx hb dJ6_numberOfTrailingZeros_0f7a4_77 rfl ?_
            refine lv_topi (fun y_38 e_38 => ?_)
            clear e_38
            refine lv_iadd hx hb dJ6_numberOfTrailingZeros_0f7a4_78 ?_
            obtain ⟨hP9, hD9⟩ := kk_leafout (wc := []) hP hD [] (by decide) rfl
            have hK9 := hK.sub (tys' := []) [] rfl
            exact W.iret (v := (23 + y_38)) hx hb hr (fun t ht hW => ⟨⟨(23 + y_38), (), rfl, trivial, by rw [ht]; exact hP9, va_K.moved hW.alike hK9, hD9⟩, hS.F ht⟩) hS.2.2 dJ6_numberOfTrailingZeros_0f7a4_79
      · have t_28 : 256 < y_27.toInt := kk_nle c_28
        refine lv_iinc (v := 25) (lv' := [(1, .int 25), (0, .int y_27)]) hx hb dJ6_numberOfTrailingZeros_0f7a4_41 hl (k := 1) rfl (by first | rfl | decide) (by decide) rfl (fun ls hl => ?_)
        refine lv_iload_n hx hb dJ6_numberOfTrailingZeros_0f7a4_44 rfl (lv_at hl 1 rfl) ?_
        refine lv_bipush (v := 8) hx hb dJ6_numberOfTrailingZeros_0f7a4_45 (by decide) ?_
        refine lv_iushr hx hb dJ6_numberOfTrailingZeros_0f7a4_47 rfl ?_
        refine lv_topi (fun y_39 e_39 => ?_)
        clear e_39
        refine lv_istore_n (lv' := [(0, .int y_39), (1, .int 25)]) hx hb dJ6_numberOfTrailingZeros_0f7a4_48 rfl hl (by decide) rfl (fun ls hl => ?_)
        refine lv_iload_n hx hb dJ6_numberOfTrailingZeros_0f7a4_49 rfl (lv_at hl 0 rfl) ?_
        refine lv_bipush (v := 16) hx hb dJ6_numberOfTrailingZeros_0f7a4_50 (by decide) ?_
        refine lv_icmp_le (tgt := 62) hx hb dJ6_numberOfTrailingZeros_0f7a4_52 (by decide) (fun c_40 => ?_) (fun c_40 => ?_)
        · have t_40 : y_39.toInt ≤ 16 := kk_le c_40
          refine lv_iload_n hx hb dJ6_numberOfTrailingZeros_0f7a4_62 rfl (lv_at hl 0 rfl) ?_
          refine lv_iconst (v := 4) hx hb dJ6_numberOfTrailingZeros_0f7a4_63 (by decide) ?_
          refine lv_icmp_le (tgt := 74) hx hb dJ6_numberOfTrailingZeros_0f7a4_64 (by decide) (fun c_41 => ?_) (fun c_41 => ?_)
          · have t_41 : y_39.toInt ≤ 4 := kk_le c_41
            refine lv_iload_n hx hb dJ6_numberOfTrailingZeros_0f7a4_74 rfl (lv_at hl 1 rfl) ?_
            refine lv_iload_n hx hb dJ6_numberOfTrailingZeros_0f7a4_75 rfl (lv_at hl 0 rfl) ?_
            refine lv_iconst (v := 1) hx hb dJ6_numberOfTrailingZeros_0f7a4_76 (by decide) ?_
            refine lv_iushr hx hb dJ6_numberOfTrailingZeros_0f7a4_77 rfl ?_
            refine lv_topi (fun y_42 e_42 => ?_)
            clear e_42
            refine lv_iadd hx hb dJ6_numberOfTrailingZeros_0f7a4_78 ?_
            obtain ⟨hP9, hD9⟩ := kk_leafout (wc := []) hP hD [] (by decide) rfl
            have hK9 := hK.sub (tys' := []) [] rfl
            exact W.iret (v := (25 + y_42)) hx hb hr (fun t ht hW => ⟨⟨(25 + y_42), (), rfl, trivial, by rw [ht]; exact hP9, va_K.moved hW.alike hK9, hD9⟩, hS.F ht⟩) hS.2.2 dJ6_numberOfTrailingZeros_0f7a4_79
          · have t_41 : 4 < y_39.toInt := kk_nle c_41
            refine lv_iinc (v := 27) (lv' := [(1, .int 27), (0, .int y_39)]) hx hb dJ6_numberOfTrailingZeros_0f7a4_67 hl (k := 1) rfl (by first | rfl | decide) (by decide) rfl (fun ls hl => ?_)
            refine lv_iload_n hx hb dJ6_numberOfTrailingZeros_0f7a4_70 rfl (lv_at hl 1 rfl) ?_
            refine lv_iconst (v := 2) hx hb dJ6_numberOfTrailingZeros_0f7a4_71 (by decide) ?_
            refine lv_iushr hx hb dJ6_numberOfTrailingZeros_0f7a4_72 rfl ?_
            refine lv_topi (fun y_43 e_43 => ?_)
            clear e_43
            refine lv_istore_n (lv' := [(0, .int y_43), (1, .int 27)]) hx hb dJ6_numberOfTrailingZeros_0f7a4_73 rfl hl (by decide) rfl (fun ls hl => ?_)
            refine lv_iload_n hx hb dJ6_numberOfTrailingZeros_0f7a4_74 rfl (lv_at hl 1 rfl) ?_
            refine lv_iload_n hx hb dJ6_numberOfTrailingZeros_0f7a4_75 rfl (lv_at hl 0 rfl) ?_
            refine lv_iconst (v := 1) hx hb dJ6_numberOfTrailingZeros_0f7a4_76 (by decide) ?_
            refine lv_iushr hx hb dJ6_numberOfTrailingZeros_0f7a4_77 rfl ?_
            refine lv_topi (fun y_44 e_44 => ?_)
            clear e_44
            refine lv_iadd hx hb dJ6_numberOfTrailingZeros_0f7a4_78 ?_
            obtain ⟨hP9, hD9⟩ := kk_leafout (wc := []) hP hD [] (by decide) rfl
            have hK9 := hK.sub (tys' := []) [] rfl
            exact W.iret (v := (27 + y_44)) hx hb hr (fun t ht hW => ⟨⟨(27 + y_44), (), rfl, trivial, by rw [ht]; exact hP9, va_K.moved hW.alike hK9, hD9⟩, hS.F ht⟩) hS.2.2 dJ6_numberOfTrailingZeros_0f7a4_79
        · have t_40 : 16 < y_39.toInt := kk_nle c_40
          refine lv_iinc (v := 29) (lv' := [(1, .int 29), (0, .int y_39)]) hx hb dJ6_numberOfTrailingZeros_0f7a4_55 hl (k := 1) rfl (by first | rfl | decide) (by decide) rfl (fun ls hl => ?_)
          refine lv_iload_n hx hb dJ6_numberOfTrailingZeros_0f7a4_58 rfl (lv_at hl 1 rfl) ?_
          refine lv_iconst (v := 4) hx hb dJ6_numberOfTrailingZeros_0f7a4_59 (by decide) ?_
          refine lv_iushr hx hb dJ6_numberOfTrailingZeros_0f7a4_60 rfl ?_
          refine lv_topi (fun y_45 e_45 => ?_)
          clear e_45
          refine lv_istore_n (lv' := [(0, .int y_45), (1, .int 29)]) hx hb dJ6_numberOfTrailingZeros_0f7a4_61 rfl hl (by decide) rfl (fun ls hl => ?_)
          refine lv_iload_n hx hb dJ6_numberOfTrailingZeros_0f7a4_62 rfl (lv_at hl 0 rfl) ?_
          refine lv_iconst (v := 4) hx hb dJ6_numberOfTrailingZeros_0f7a4_63 (by decide) ?_
          refine lv_icmp_le (tgt := 74) hx hb dJ6_numberOfTrailingZeros_0f7a4_64 (by decide) (fun c_46 => ?_) (fun c_46 => ?_)
          · have t_46 : y_45.toInt ≤ 4 := kk_le c_46
            refine lv_iload_n hx hb dJ6_numberOfTrailingZeros_0f7a4_74 rfl (lv_at hl 1 rfl) ?_
            refine lv_iload_n hx hb dJ6_numberOfTrailingZeros_0f7a4_75 rfl (lv_at hl 0 rfl) ?_
            refine lv_iconst (v := 1) hx hb dJ6_numberOfTrailingZeros_0f7a4_76 (by decide) ?_
            refine lv_iushr hx hb dJ6_numberOfTrailingZeros_0f7a4_77 rfl ?_
            refine lv_topi (fun y_47 e_47 => ?_)
            clear e_47
            refine lv_iadd hx hb dJ6_numberOfTrailingZeros_0f7a4_78 ?_
            obtain ⟨hP9, hD9⟩ := kk_leafout (wc := []) hP hD [] (by decide) rfl
            have hK9 := hK.sub (tys' := []) [] rfl
            exact W.iret (v := (29 + y_47)) hx hb hr (fun t ht hW => ⟨⟨(29 + y_47), (), rfl, trivial, by rw [ht]; exact hP9, va_K.moved hW.alike hK9, hD9⟩, hS.F ht⟩) hS.2.2 dJ6_numberOfTrailingZeros_0f7a4_79
          · have t_46 : 4 < y_45.toInt := kk_nle c_46
            refine lv_iinc (v := 31) (lv' := [(1, .int 31), (0, .int y_45)]) hx hb dJ6_numberOfTrailingZeros_0f7a4_67 hl (k := 1) rfl (by first | rfl | decide) (by decide) rfl (fun ls hl => ?_)
            refine lv_iload_n hx hb dJ6_numberOfTrailingZeros_0f7a4_70 rfl (lv_at hl 1 rfl) ?_
            refine lv_iconst (v := 2) hx hb dJ6_numberOfTrailingZeros_0f7a4_71 (by decide) ?_
            refine lv_iushr hx hb dJ6_numberOfTrailingZeros_0f7a4_72 rfl ?_
            refine lv_topi (fun y_48 e_48 => ?_)
            clear e_48
            refine lv_istore_n (lv' := [(0, .int y_48), (1, .int 31)]) hx hb dJ6_numberOfTrailingZeros_0f7a4_73 rfl hl (by decide) rfl (fun ls hl => ?_)
            refine lv_iload_n hx hb dJ6_numberOfTrailingZeros_0f7a4_74 rfl (lv_at hl 1 rfl) ?_
            refine lv_iload_n hx hb dJ6_numberOfTrailingZeros_0f7a4_75 rfl (lv_at hl 0 rfl) ?_
            refine lv_iconst (v := 1) hx hb dJ6_numberOfTrailingZeros_0f7a4_76 (by decide) ?_
            refine lv_iushr hx hb dJ6_numberOfTrailingZeros_0f7a4_77 rfl ?_
            refine lv_topi (fun y_49 e_49 => ?_)
            clear e_49
            refine lv_iadd hx hb dJ6_numberOfTrailingZeros_0f7a4_78 ?_
            obtain ⟨hP9, hD9⟩ := kk_leafout (wc := []) hP hD [] (by decide) rfl
            have hK9 := hK.sub (tys' := []) [] rfl
            exact W.iret (v := (31 + y_49)) hx hb hr (fun t ht hW => ⟨⟨(31 + y_49), (), rfl, trivial, by rw [ht]; exact hP9, va_K.moved hW.alike hK9, hD9⟩, hS.F ht⟩) hS.2.2 dJ6_numberOfTrailingZeros_0f7a4_79
  · have t_3 : y_2.toInt ≤ 0 := kk_nlt c_3
    refine lv_iload_n hx hb dJ6_numberOfTrailingZeros_0f7a4_12 rfl (lv_at hl 0 rfl) ?_
    refine lv_bipush (v := 32) hx hb dJ6_numberOfTrailingZeros_0f7a4_13 (by decide) ?_
    refine lv_iand hx hb dJ6_numberOfTrailingZeros_0f7a4_15 ?_
    refine lv_topi (fun y_50 e_50 => ?_)
    clear e_50
    obtain ⟨hP9, hD9⟩ := kk_leafout (wc := []) hP hD [] (by decide) rfl
    have hK9 := hK.sub (tys' := []) [] rfl
    exact W.iret (v := y_50) hx hb hr (fun t ht hW => ⟨⟨y_50, (), rfl, trivial, by rw [ht]; exact hP9, va_K.moved hW.alike hK9, hD9⟩, hS.F ht⟩) hS.2.2 dJ6_numberOfTrailingZeros_0f7a4_16
set_option maxHeartbeats 4000000 in
set_option maxRecDepth 100000 in
theorem g_J13_numberOfTrailingZeros_95d88_0 (l : Launch) (dC : Nat → ClassId) (dI : Nat → Nat → Nat) (sz : Nat) (v0 : Int64) (xv0 : Int) (exv0 : v0.toInt = xv0) : Met l yJ13_numberOfTrailingZeros_95d88 wsJ13_numberOfTrailingZeros_95d88 ({ frames := 1, cells := 0, slots := 0, locals := 21 }) (va_Pc [.long v0] (fun U => U.heap.size = sz ∧ va_P (dC, dI) vwCl [] U.heap ∧ va_K (dC, dI) vwCl [] U ∧ va_D (fun _ => True) [])) (va_Qi (fun (r : Int32) (_ : Unit) => True) (fun (_ : Unit) t => va_P (dC, dI) vwCl [] t.heap ∧ va_K (dC, dI) vwCl [] t ∧ va_D (va_A [] sz) []) (va_A [] sz)) 0 0 (va_A [] sz) := by
  refine Met.ofW (cc := cJ13_numberOfTrailingZeros_95d88) (maxL := 3) (ret := (some .int)) (by decide) rfl ?_
  intro p e s m args below meth c s₁ B hml hv
  obtain ⟨rfl, hsz, hP, hK, hD0⟩ := hv
  have hx := B.exec
  have hb := B.bytes
  have hr := B.returns
  have hts := atoms_spec (ws := wsJ13_numberOfTrailingZeros_95d88) B.pre
  have hown : s.vm.findClass RJ13 = some m.cls := findClass_of_methodNamed B.named
  have hlocks := B.notSynchronized
  subst hsz
  have hD := hD0.self (sz := s.heap.size)
  generalize hAe : va_A [] s.heap.size = A at hD ⊢
  have hA : ∀ q : Nat, s.heap.size ≤ q → A q := fun q h => by rw [← hAe]; exact Or.inr h
  have hS : va_S A s.heap s.heap [] := va_S.rf
  have hP : va_P (dC, dI) vwCl [] s.heap := hP
  have hl := lv_entry ([.long v0]) (n := 3) (Nat.le_of_ble_eq_true rfl)
  rw [lg_entry_eq]
  generalize (lg_sl ([.long v0]) ++ List.replicate (3 - (lg_sl ([.long v0])).length) Slot.unset).toArray = ls at hl ⊢
  have hl : lv_has ls 3 [(0, .long v0)] := hl
  refine lv_lload_n hx hb dJ13_numberOfTrailingZeros_95d88_0 rfl (lv_at hl 0 rfl) ?_
  refine lv_l2i hx hb dJ13_numberOfTrailingZeros_95d88_1 rfl ?_
  refine lv_topi (fun y_1 e_1 => ?_)
  clear e_1
  refine lv_istore_n (lv' := [(2, .int y_1), (0, .long v0)]) hx hb dJ13_numberOfTrailingZeros_95d88_2 rfl hl (by decide) rfl (fun ls hl => ?_)
  refine lv_iload_n hx hb dJ13_numberOfTrailingZeros_95d88_3 rfl (lv_at hl 0 rfl) ?_
  refine lv_if_ne (tgt := 21) hx hb dJ13_numberOfTrailingZeros_95d88_4 (by decide) (fun c_2 => ?_) (fun c_2 => ?_)
  · have t_2 : y_1.toInt ≠ 0 := kk_ne c_2
    refine lv_iload_n hx hb dJ13_numberOfTrailingZeros_95d88_21 rfl (lv_at hl 0 rfl) ?_
    obtain ⟨hPc, hDc, hFc⟩ := kk_cutout (wc := []) hP hD hS hA [] (by decide) rfl
    have hKc := hK.sub (tys' := []) [] rfl
    refine va_calli (va_runS (As := [.int y_1]) (rest := []) ⟨hx, hb, hml, hown, hts⟩ (g_J6_numberOfTrailingZeros_0f7a4_0 l dC dI s.heap.size y_1) (va_cwS 1 hts gJ13_numberOfTrailingZeros_95d88_J6_numberOfTrailingZeros_0f7a4 rfl rfl rfl (by decide +kernel) ⟨Nat.le_of_ble_eq_true rfl, Nat.le_of_ble_eq_true rfl⟩) ⟨fun a U g mk q => by obtain ⟨q0, q1, qP, qK, qD⟩ := q; exact ⟨q0, q1, qP, va_K.moved (u := U) (U := U.calling g mk a) (Vm.Alike.refl U.vm) qK, qD⟩, fun U hU hW => ⟨rfl, by rw [hU], by rw [hU]; exact hPc, va_K.moved hW.alike hKc, hDc.weaken (fun _ _ _ _ => trivial)⟩⟩ rfl rfl hl.1 rfl (lv_room (Nat.le_of_ble_eq_true rfl)) dJ13_numberOfTrailingZeros_95d88_22 ⟨Nat.le_of_ble_eq_true rfl, Nat.le_of_ble_eq_true rfl⟩) hS (fun q _ h => hFc q h) hFc (fun r_3 u t H1 locs ht hvm hw hB hz1 hk1 hS => ?_)
    obtain ⟨hP1, hK1, hD1⟩ := hB
    rw [ht] at hP1
    have hK1 := va_K.moved hvm.symm hK1
    obtain ⟨hP, hD⟩ := va_join (wr := []) (w1 := []) hP hD [] [] rfl rfl (by decide) (by decide) hk1 hFc hP1 hD1
    generalize H1 = H at hP hS ⊢
    have hP : va_P (dC, dI) vwCl [] H := hP
    have hD : va_D A [] := hD
    obtain ⟨hP9, hD9⟩ := kk_leafout (wc := []) hP hD [] (by decide) rfl
    have hK9 := hK.sub (tys' := []) [] rfl
    exact W.iret (v := r_3) hx hb hr (fun t ht hW => ⟨⟨r_3, (), rfl, trivial, by rw [ht]; exact hP9, va_K.moved hW.alike hK9, hD9⟩, hS.F ht⟩) hS.2.2 dJ13_numberOfTrailingZeros_95d88_25
  · have t_2 : y_1.toInt = 0 := kk_eq c_2
    refine lv_bipush (v := 32) hx hb dJ13_numberOfTrailingZeros_95d88_7 (by decide) ?_
    refine lv_lload_n hx hb dJ13_numberOfTrailingZeros_95d88_9 rfl (lv_at hl 1 rfl) ?_
    refine lv_bipush (v := 32) hx hb dJ13_numberOfTrailingZeros_95d88_10 (by decide) ?_
    refine lv_lushr hx hb dJ13_numberOfTrailingZeros_95d88_12 rfl ?_
    refine lv_topl (fun y_4 e_4 => ?_)
    clear e_4
    refine lv_l2i hx hb dJ13_numberOfTrailingZeros_95d88_13 rfl ?_
    refine lv_topi (fun y_5 e_5 => ?_)
    clear e_5
    obtain ⟨hPc, hDc, hFc⟩ := kk_cutout (wc := []) hP hD hS hA [] (by decide) rfl
    have hKc := hK.sub (tys' := []) [] rfl
    refine va_calli (va_runS (As := [.int y_5]) (rest := [.int 32]) ⟨hx, hb, hml, hown, hts⟩ (g_J6_numberOfTrailingZeros_0f7a4_0 l dC dI s.heap.size y_5) (va_cwS 1 hts gJ13_numberOfTrailingZeros_95d88_J6_numberOfTrailingZeros_0f7a4 rfl rfl rfl (by decide +kernel) ⟨Nat.le_of_ble_eq_true rfl, Nat.le_of_ble_eq_true rfl⟩) ⟨fun a U g mk q => by obtain ⟨q0, q1, qP, qK, qD⟩ := q; exact ⟨q0, q1, qP, va_K.moved (u := U) (U := U.calling g mk a) (Vm.Alike.refl U.vm) qK, qD⟩, fun U hU hW => ⟨rfl, by rw [hU], by rw [hU]; exact hPc, va_K.moved hW.alike hKc, hDc.weaken (fun _ _ _ _ => trivial)⟩⟩ rfl rfl hl.1 rfl (lv_room (Nat.le_of_ble_eq_true rfl)) dJ13_numberOfTrailingZeros_95d88_14 ⟨Nat.le_of_ble_eq_true rfl, Nat.le_of_ble_eq_true rfl⟩) hS (fun q _ h => hFc q h) hFc (fun r_6 u t H1 locs ht hvm hw hB hz1 hk1 hS => ?_)
    obtain ⟨hP1, hK1, hD1⟩ := hB
    rw [ht] at hP1
    have hK1 := va_K.moved hvm.symm hK1
    obtain ⟨hP, hD⟩ := va_join (wr := []) (w1 := []) hP hD [] [] rfl rfl (by decide) (by decide) hk1 hFc hP1 hD1
    generalize H1 = H at hP hS ⊢
    have hP : va_P (dC, dI) vwCl [] H := hP
    have hD : va_D A [] := hD
    refine lv_iadd hx hb dJ13_numberOfTrailingZeros_95d88_17 ?_
    refine lv_goto (tgt := 25) hx hb dJ13_numberOfTrailingZeros_95d88_18 (by decide) ?_
    obtain ⟨hP9, hD9⟩ := kk_leafout (wc := []) hP hD [] (by decide) rfl
    have hK9 := hK.sub (tys' := []) [] rfl
    exact W.iret (v := (32 + r_6)) hx hb hr (fun t ht hW => ⟨⟨(32 + r_6), (), rfl, trivial, by rw [ht]; exact hP9, va_K.moved hW.alike hK9, hD9⟩, hS.F ht⟩) hS.2.2 dJ13_numberOfTrailingZeros_95d88_25
set_option maxHeartbeats 4000000 in
set_option maxRecDepth 100000 in
theorem g_X2_countWays_0 (l : Launch) (dC : Nat → ClassId) (dI : Nat → Nat → Nat) (h0 : Nat) (h1 : Nat) (h2 : Nat) (h3 : Nat) (h4 : Nat) (h5 : Nat → Nat) (h6 : Nat → Nat) (h7 : Nat) (h8 : Nat) (h9 : Nat) (h10 : Nat) (h11 : Nat) (cAlong cint clong : ClassId) (sz : Nat) (n0_size : Int32) (n0_names : Int32) (n0_plots : Int32) (n0_ways : Int32) (f3 : Nat → Int32) (f4 : Nat → Int32) (F5 : Nat → Nat → Int64) (F6 : Nat → Nat → Int64) (tn0_size : 0 ≤ n0_size.toInt ∧ n0_size.toInt ≤ 10) (tn0_names : 1 ≤ n0_names.toInt ∧ n0_names.toInt ≤ 5) (tn0_plots : 0 ≤ n0_plots.toInt ∧ n0_plots.toInt ≤ 40) : Met l yX2_countWays wsX2_countWays ({ frames := 2, cells := 0, slots := 0, locals := 48 }) (va_Pc [.ref h0, .int 4] (fun U => U.heap.size = sz ∧ va_P (dC, dI) vwCl (([(h0, Sum.inr (2, [Value.ref h7, Value.ref h8, Value.ref h9, Value.int n0_size, Value.ref h10, Value.int n0_names, Value.int n0_plots, Value.ref h11, Value.ref h1, Value.ref h2, Value.ref h3, Value.ref h4, Value.int n0_ways])), (h1, Sum.inl (cAlong, 25, Sum.inr (Sum.inr (Sum.inr (Sum.inr (fun j => some (h5 j))))))), (h2, Sum.inl (cAlong, 5, Sum.inr (Sum.inr (Sum.inr (Sum.inr (fun j => some (h6 j))))))), (h3, Sum.inl (cint, 5, Sum.inl f3)), (h4, Sum.inl (cint, 5, Sum.inl f4))] : va_W) ++ (kk_rowsL h5 clong 40 F5 25 ++ (kk_rowsL h6 clong 5 F6 5))) U.heap ∧ va_K (dC, dI) vwCl [(cAlong, .array .long), (cint, .int), (clong, .long)] U ∧ va_D (fun _ => True) (([(h0, Sum.inr (2, [Value.ref h7, Value.ref h8, Value.ref h9, Value.int n0_size, Value.ref h10, Value.int n0_names, Value.int n0_plots, Value.ref h11, Value.ref h1, Value.ref h2, Value.ref h3, Value.ref h4, Value.int n0_ways])), (h1, Sum.inl (cAlong, 25, Sum.inr (Sum.inr (Sum.inr (Sum.inr (fun j => some (h5 j))))))), (h2, Sum.inl (cAlong, 5, Sum.inr (Sum.inr (Sum.inr (Sum.inr (fun j => some (h6 j))))))), (h3, Sum.inl (cint, 5, Sum.inl f3)), (h4, Sum.inl (cint, 5, Sum.inl f4))] : va_W) ++ (kk_rowsL h5 clong 40 F5 25 ++ (kk_rowsL h6 clong 5 F6 5))))) (va_Qv (fun (_ : Unit) => True) (fun (_ : Unit) t => ∃ (m0_ways : Int32) (g3 : Nat → Int32) (g4 : Nat → Int32), va_P (dC, dI) vwCl (([(h0, Sum.inr (2, [Value.ref h7, Value.ref h8, Value.ref h9, Value.int n0_size, Value.ref h10, Value.int n0_names, Value.int n0_plots, Value.ref h11, Value.ref h1, Value.ref h2, Value.ref h3, Value.ref h4, Value.int m0_ways])), (h1, Sum.inl (cAlong, 25, Sum.inr (Sum.inr (Sum.inr (Sum.inr (fun j => some (h5 j))))))), (h2, Sum.inl (cAlong, 5, Sum.inr (Sum.inr (Sum.inr (Sum.inr (fun j => some (h6 j))))))), (h3, Sum.inl (cint, 5, Sum.inl g3)), (h4, Sum.inl (cint, 5, Sum.inl g4))] : va_W) ++ (kk_rowsL h5 clong 40 F5 25 ++ (kk_rowsL h6 clong 5 F6 5))) t.heap ∧ va_K (dC, dI) vwCl [] t ∧ va_D (va_A (([(h0, Sum.inr (2, [Value.ref h7, Value.ref h8, Value.ref h9, Value.int n0_size, Value.ref h10, Value.int n0_names, Value.int n0_plots, Value.ref h11, Value.ref h1, Value.ref h2, Value.ref h3, Value.ref h4, Value.int n0_ways])), (h1, Sum.inl (cAlong, 25, Sum.inr (Sum.inr (Sum.inr (Sum.inr (fun j => some (h5 j))))))), (h2, Sum.inl (cAlong, 5, Sum.inr (Sum.inr (Sum.inr (Sum.inr (fun j => some (h6 j))))))), (h3, Sum.inl (cint, 5, Sum.inl f3)), (h4, Sum.inl (cint, 5, Sum.inl f4))] : va_W) ++ (kk_rowsL h5 clong 40 F5 25 ++ (kk_rowsL h6 clong 5 F6 5))) sz) (([(h0, Sum.inr (2, [Value.ref h7, Value.ref h8, Value.ref h9, Value.int n0_size, Value.ref h10, Value.int n0_names, Value.int n0_plots, Value.ref h11, Value.ref h1, Value.ref h2, Value.ref h3, Value.ref h4, Value.int m0_ways])), (h1, Sum.inl (cAlong, 25, Sum.inr (Sum.inr (Sum.inr (Sum.inr (fun j => some (h5 j))))))), (h2, Sum.inl (cAlong, 5, Sum.inr (Sum.inr (Sum.inr (Sum.inr (fun j => some (h6 j))))))), (h3, Sum.inl (cint, 5, Sum.inl g3)), (h4, Sum.inl (cint, 5, Sum.inl g4))] : va_W) ++ (kk_rowsL h5 clong 40 F5 25 ++ (kk_rowsL h6 clong 5 F6 5)))) (va_A (([(h0, Sum.inr (2, [Value.ref h7, Value.ref h8, Value.ref h9, Value.int n0_size, Value.ref h10, Value.int n0_names, Value.int n0_plots, Value.ref h11, Value.ref h1, Value.ref h2, Value.ref h3, Value.ref h4, Value.int n0_ways])), (h1, Sum.inl (cAlong, 25, Sum.inr (Sum.inr (Sum.inr (Sum.inr (fun j => some (h5 j))))))), (h2, Sum.inl (cAlong, 5, Sum.inr (Sum.inr (Sum.inr (Sum.inr (fun j => some (h6 j))))))), (h3, Sum.inl (cint, 5, Sum.inl f3)), (h4, Sum.inl (cint, 5, Sum.inl f4))] : va_W) ++ (kk_rowsL h5 clong 40 F5 25 ++ (kk_rowsL h6 clong 5 F6 5))) sz)) 0 0 (va_A (([(h0, Sum.inr (2, [Value.ref h7, Value.ref h8, Value.ref h9, Value.int n0_size, Value.ref h10, Value.int n0_names, Value.int n0_plots, Value.ref h11, Value.ref h1, Value.ref h2, Value.ref h3, Value.ref h4, Value.int n0_ways])), (h1, Sum.inl (cAlong, 25, Sum.inr (Sum.inr (Sum.inr (Sum.inr (fun j => some (h5 j))))))), (h2, Sum.inl (cAlong, 5, Sum.inr (Sum.inr (Sum.inr (Sum.inr (fun j => some (h6 j))))))), (h3, Sum.inl (cint, 5, Sum.inl f3)), (h4, Sum.inl (cint, 5, Sum.inl f4))] : va_W) ++ (kk_rowsL h5 clong 40 F5 25 ++ (kk_rowsL h6 clong 5 F6 5))) sz) := by
  refine Met.ofW (cc := cX2_countWays) (maxL := 4) (ret := none) (by decide) rfl ?_
  intro p e s m args below meth c s₁ B hml hv
  obtain ⟨rfl, hsz, hP, hK, hD0⟩ := hv
  have hx := B.exec
  have hb := B.bytes
  have hr := B.returns
  have hts := atoms_spec (ws := wsX2_countWays) B.pre
  have hown : s.vm.findClass RX2 = some m.cls := findClass_of_methodNamed B.named
  have hlocks := B.notSynchronized
  subst hsz
  have hD := hD0.self (sz := s.heap.size)
  generalize hAe : va_A (([(h0, Sum.inr (2, [Value.ref h7, Value.ref h8, Value.ref h9, Value.int n0_size, Value.ref h10, Value.int n0_names, Value.int n0_plots, Value.ref h11, Value.ref h1, Value.ref h2, Value.ref h3, Value.ref h4, Value.int n0_ways])), (h1, Sum.inl (cAlong, 25, Sum.inr (Sum.inr (Sum.inr (Sum.inr (fun j => some (h5 j))))))), (h2, Sum.inl (cAlong, 5, Sum.inr (Sum.inr (Sum.inr (Sum.inr (fun j => some (h6 j))))))), (h3, Sum.inl (cint, 5, Sum.inl f3)), (h4, Sum.inl (cint, 5, Sum.inl f4))] : va_W) ++ (kk_rowsL h5 clong 40 F5 25 ++ (kk_rowsL h6 clong 5 F6 5))) s.heap.size = A at hD ⊢
  have hA : ∀ q : Nat, s.heap.size ≤ q → A q := fun q h => by rw [← hAe]; exact Or.inr h
  have hS : va_S A s.heap s.heap [] := va_S.rf
  have hP : va_P (dC, dI) vwCl (([(h0, Sum.inr (2, [Value.ref h7, Value.ref h8, Value.ref h9, Value.int n0_size, Value.ref h10, Value.int n0_names, Value.int n0_plots, Value.ref h11, Value.ref h1, Value.ref h2, Value.ref h3, Value.ref h4, Value.int n0_ways])), (h1, Sum.inl (cAlong, 25, Sum.inr (Sum.inr (Sum.inr (Sum.inr (fun j => some (h5 j))))))), (h2, Sum.inl (cAlong, 5, Sum.inr (Sum.inr (Sum.inr (Sum.inr (fun j => some (h6 j))))))), (h3, Sum.inl (cint, 5, Sum.inl f3)), (h4, Sum.inl (cint, 5, Sum.inl f4))] : va_W) ++ (kk_rowsL h5 clong 40 F5 25 ++ (kk_rowsL h6 clong 5 F6 5))) s.heap := hP
  have hl := lv_entry ([.ref h0, .int 4]) (n := 4) (Nat.le_of_ble_eq_true rfl)
  rw [lg_entry_eq]
  generalize (lg_sl ([.ref h0, .int 4]) ++ List.replicate (4 - (lg_sl ([.ref h0, .int 4])).length) Slot.unset).toArray = ls at hl ⊢
  have hl : lv_has ls 4 [(0, .ref h0), (1, .int 4)] := hl
  refine lv_aload_n hx hb dX2_countWays_0 rfl (lv_at hl 0 rfl) ?_
  refine va_get (D := (dC, dI)) (ci := 2) (v := .ref h2) (C := RX2) (T := TX2) (N := 13) hx hb hts (fun _ h => List.mem_cons_of_mem _ (List.mem_append_right _ h)) hown hK hP 0 rfl rfl 9 (by decide) (hts (.fieldLink RX2 32 "KinkStreet$Deeds" "open" "[[J") (List.mem_of_getElem? (i := 1) rfl)) (fun _ h9 => h9) rfl dX2_countWays_1 ?_
  refine lv_iload_n hx hb dX2_countWays_4 rfl (lv_at hl 1 rfl) ?_
  have hi_1 : vp_in (4 : Int32) 5 := (by unfold vp_in; decide)
  have hk_1 : (4 : Int32).toNatClampNeg < 5 := Nat.not_le.mp fun q => hi_1 (Or.inr q)
  refine kk_aald hx hb hK hP 2 0 rfl rfl hi_1 dX2_countWays_5 ?_
  refine W.eq (g2 := F0 m 6 ls [.ref (h6 (4 : Int32).toNatClampNeg)]) rfl ?_
  refine lv_iload_n hx hb dX2_countWays_6 rfl (lv_at hl 1 rfl) ?_
  refine va_lald hx hb hK hP _ 2 (kk_getr (kk_getr (kk_rowL hk_1))) rfl (by unfold vp_in; decide) dX2_countWays_7 ?_
  refine lv_topl (fun y_2 e_2 => ?_)
  clear e_2
  refine lv_lstore_n (lv' := [(2, .long y_2), (0, .ref h0), (1, .int 4)]) hx hb dX2_countWays_8 rfl hl (by decide) rfl (fun ls hl => ?_)
  refine lv_lload_n hx hb dX2_countWays_9 rfl (lv_at hl 0 rfl) ?_
  refine lv_lconst (v := 0) hx hb dX2_countWays_10 (by decide) ?_
  refine W.lcmp hx hb dX2_countWays_11 ?_
  refine lv_if_ne (tgt := 16) hx hb dX2_countWays_12 (by decide) (fun _ => ?_) (fun _ => ?_)
  · skip
    refine lv_aload_n hx hb dX2_countWays_16 rfl (lv_at hl 1 rfl) ?_
    refine va_get (D := (dC, dI)) (ci := 2) (v := .int n0_ways) (C := RX2) (T := TX2) (N := 13) hx hb hts (fun _ h => List.mem_cons_of_mem _ (List.mem_append_right _ h)) hown hK hP 0 rfl rfl 12 (by decide) (hts (.fieldLink RX2 70 "KinkStreet$Deeds" "ways" "I") (List.mem_of_getElem? (i := 2) rfl)) (fun _ h9 => h9) rfl dX2_countWays_17 ?_
    refine lv_if_ne (tgt := 47) hx hb dX2_countWays_20 (by decide) (fun c_3 => ?_) (fun c_3 => ?_)
    · have t_3 : n0_ways.toInt ≠ 0 := kk_ne c_3
      refine lv_aload_n hx hb dX2_countWays_47 rfl (lv_at hl 1 rfl) ?_
      refine lv_ldc hx hb hown (hts _ (List.mem_of_getElem? (i := 9) rfl)) dX2_countWays_48 ?_
      refine lv_aload_n hx hb dX2_countWays_50 rfl (lv_at hl 1 rfl) ?_
      refine va_get (D := (dC, dI)) (ci := 2) (v := .int n0_ways) (C := RX2) (T := TX2) (N := 13) hx hb hts (fun _ h => List.mem_cons_of_mem _ (List.mem_append_right _ h)) hown hK hP 0 rfl rfl 12 (by decide) (hts (.fieldLink RX2 70 "KinkStreet$Deeds" "ways" "I") (List.mem_of_getElem? (i := 2) rfl)) (fun _ h9 => h9) rfl dX2_countWays_51 ?_
      refine lv_lload_n hx hb dX2_countWays_54 rfl (lv_at hl 0 rfl) ?_
      obtain ⟨hPc, hDc, hFc⟩ := kk_cutout (wc := []) hP hD hS hA [] (by decide) rfl
      have hKc := hK.sub (tys' := []) [] rfl
      refine va_calli (va_runS (As := [.long y_2]) (rest := [.int n0_ways, .int 1000000, .ref h0]) ⟨hx, hb, hml, hown, hts⟩ (g_J13_bitCount_95d88_0 l dC dI s.heap.size y_2 (y_2.toInt) rfl) (va_cwS 1 hts gX2_countWays_J13_bitCount_95d88 rfl rfl rfl (by decide +kernel) ⟨Nat.le_of_ble_eq_true rfl, Nat.le_of_ble_eq_true rfl⟩) ⟨fun a U g mk q => by obtain ⟨q0, q1, qP, qK, qD⟩ := q; exact ⟨q0, q1, qP, va_K.moved (u := U) (U := U.calling g mk a) (Vm.Alike.refl U.vm) qK, qD⟩, fun U hU hW => ⟨rfl, by rw [hU], by rw [hU]; exact hPc, va_K.moved hW.alike hKc, hDc.weaken (fun _ _ _ _ => trivial)⟩⟩ rfl rfl hl.1 rfl (lv_room (Nat.le_of_ble_eq_true rfl)) dX2_countWays_55 ⟨Nat.le_of_ble_eq_true rfl, Nat.le_of_ble_eq_true rfl⟩) hS (fun q _ h => hFc q h) hFc (fun r_4 u t H1 locs ht hvm hw hB hz1 hk1 hS => ?_)
      obtain ⟨hP1, hK1, hD1⟩ := hB
      rw [ht] at hP1
      have hK1 := va_K.moved hvm.symm hK1
      obtain ⟨hP, hD⟩ := va_joinQ (cx := []) (wr := [(h0, Sum.inr (2, [Value.ref h7, Value.ref h8, Value.ref h9, Value.int n0_size, Value.ref h10, Value.int n0_names, Value.int n0_plots, Value.ref h11, Value.ref h1, Value.ref h2, Value.ref h3, Value.ref h4, Value.int n0_ways])), (h1, Sum.inl (cAlong, 25, Sum.inr (Sum.inr (Sum.inr (Sum.inr (fun j => some (h5 j))))))), (h2, Sum.inl (cAlong, 5, Sum.inr (Sum.inr (Sum.inr (Sum.inr (fun j => some (h6 j))))))), (h3, Sum.inl (cint, 5, Sum.inl f3)), (h4, Sum.inl (cint, 5, Sum.inl f4))]) (w1 := []) hP hD [] [0, 1, 2, 3, 4] rfl rfl (by decide) (by decide) hk1 hFc hP1 hD1
      generalize H1 = H at hP hS ⊢
      have hP : va_P (dC, dI) vwCl (([(h0, Sum.inr (2, [Value.ref h7, Value.ref h8, Value.ref h9, Value.int n0_size, Value.ref h10, Value.int n0_names, Value.int n0_plots, Value.ref h11, Value.ref h1, Value.ref h2, Value.ref h3, Value.ref h4, Value.int n0_ways])), (h1, Sum.inl (cAlong, 25, Sum.inr (Sum.inr (Sum.inr (Sum.inr (fun j => some (h5 j))))))), (h2, Sum.inl (cAlong, 5, Sum.inr (Sum.inr (Sum.inr (Sum.inr (fun j => some (h6 j))))))), (h3, Sum.inl (cint, 5, Sum.inl f3)), (h4, Sum.inl (cint, 5, Sum.inl f4))] : va_W) ++ (kk_rowsL h5 clong 40 F5 25 ++ (kk_rowsL h6 clong 5 F6 5))) H := hP
      have hD : va_D A (([(h0, Sum.inr (2, [Value.ref h7, Value.ref h8, Value.ref h9, Value.int n0_size, Value.ref h10, Value.int n0_names, Value.int n0_plots, Value.ref h11, Value.ref h1, Value.ref h2, Value.ref h3, Value.ref h4, Value.int n0_ways])), (h1, Sum.inl (cAlong, 25, Sum.inr (Sum.inr (Sum.inr (Sum.inr (fun j => some (h5 j))))))), (h2, Sum.inl (cAlong, 5, Sum.inr (Sum.inr (Sum.inr (Sum.inr (fun j => some (h6 j))))))), (h3, Sum.inl (cint, 5, Sum.inl f3)), (h4, Sum.inl (cint, 5, Sum.inl f4))] : va_W) ++ (kk_rowsL h5 clong 40 F5 25 ++ (kk_rowsL h6 clong 5 F6 5))) := hD
      refine lv_iadd hx hb dX2_countWays_58 ?_
      refine va_mmin hx hb (hml.trans hl.1.symm) hown (hts (.methodLink RX2 61 Lib.Math.min.name) (List.mem_of_getElem? (i := 10) rfl)) (hts (.static Lib.Math.min.name) (List.mem_of_getElem? (i := 11) rfl)) (hts (.initialized "java/lang/Math") (List.mem_of_getElem? (i := 12) rfl)) (hts (.code Lib.Math.min.name Lib.Math.min.code 2 (some .int)) (List.mem_of_getElem? (i := 13) rfl)) (Nat.le_of_ble_eq_true rfl) (Nat.le_of_ble_eq_true rfl) (Nat.le_of_ble_eq_true rfl) (Nat.le_of_ble_eq_true rfl) dX2_countWays_59 ?_
      refine lv_topi (fun y_5 e_5 => ?_)
      have t_5 : y_5.toInt ≤ 1000000 ∧ y_5.toInt ≤ (n0_ways + r_4).toInt ∧ (y_5.toInt = 1000000 ∨ y_5.toInt = (n0_ways + r_4).toInt) := by rw [e_5]; exact kk_min _ _
      clear e_5
      refine va_put (D := (dC, dI)) (ci := 2) (v := .int y_5) (ty := .int) (C := RX2) (T := TX2) (N := 13) hx hb hts (fun _ h => List.mem_cons_of_mem _ (List.mem_append_right _ h)) tyX2 tyX2_ok nmX2 hown hK hP hD hS 0 rfl rfl 12 (by decide) (hts (.fieldLink RX2 70 "KinkStreet$Deeds" "ways" "I") (List.mem_of_getElem? (i := 2) rfl)) (fun _ h9 => h9) rfl (by decide +kernel) rfl rfl (Nat.le_of_ble_eq_true rfl) dX2_countWays_62 (fun H locs hP hD hS => ?_)
      have hP : va_P (dC, dI) vwCl (([(h0, Sum.inr (2, [Value.ref h7, Value.ref h8, Value.ref h9, Value.int n0_size, Value.ref h10, Value.int n0_names, Value.int n0_plots, Value.ref h11, Value.ref h1, Value.ref h2, Value.ref h3, Value.ref h4, Value.int y_5])), (h1, Sum.inl (cAlong, 25, Sum.inr (Sum.inr (Sum.inr (Sum.inr (fun j => some (h5 j))))))), (h2, Sum.inl (cAlong, 5, Sum.inr (Sum.inr (Sum.inr (Sum.inr (fun j => some (h6 j))))))), (h3, Sum.inl (cint, 5, Sum.inl f3)), (h4, Sum.inl (cint, 5, Sum.inl f4))] : va_W) ++ (kk_rowsL h5 clong 40 F5 25 ++ (kk_rowsL h6 clong 5 F6 5))) H := hP
      have hD : va_D A (([(h0, Sum.inr (2, [Value.ref h7, Value.ref h8, Value.ref h9, Value.int n0_size, Value.ref h10, Value.int n0_names, Value.int n0_plots, Value.ref h11, Value.ref h1, Value.ref h2, Value.ref h3, Value.ref h4, Value.int y_5])), (h1, Sum.inl (cAlong, 25, Sum.inr (Sum.inr (Sum.inr (Sum.inr (fun j => some (h5 j))))))), (h2, Sum.inl (cAlong, 5, Sum.inr (Sum.inr (Sum.inr (Sum.inr (fun j => some (h6 j))))))), (h3, Sum.inl (cint, 5, Sum.inl f3)), (h4, Sum.inl (cint, 5, Sum.inl f4))] : va_W) ++ (kk_rowsL h5 clong 40 F5 25 ++ (kk_rowsL h6 clong 5 F6 5))) := hD
      have hP9 := hP.part (cx := [(h0, Sum.inr (2, [Value.ref h7, Value.ref h8, Value.ref h9, Value.int n0_size, Value.ref h10, Value.int n0_names, Value.int n0_plots, Value.ref h11, Value.ref h1, Value.ref h2, Value.ref h3, Value.ref h4, Value.int y_5])), (h1, Sum.inl (cAlong, 25, Sum.inr (Sum.inr (Sum.inr (Sum.inr (fun j => some (h5 j))))))), (h2, Sum.inl (cAlong, 5, Sum.inr (Sum.inr (Sum.inr (Sum.inr (fun j => some (h6 j))))))), (h3, Sum.inl (cint, 5, Sum.inl f3)), (h4, Sum.inl (cint, 5, Sum.inl f4))]) [0, 1, 2, 3, 4] rfl
      have hD9 := hD.part (cx := [(h0, Sum.inr (2, [Value.ref h7, Value.ref h8, Value.ref h9, Value.int n0_size, Value.ref h10, Value.int n0_names, Value.int n0_plots, Value.ref h11, Value.ref h1, Value.ref h2, Value.ref h3, Value.ref h4, Value.int y_5])), (h1, Sum.inl (cAlong, 25, Sum.inr (Sum.inr (Sum.inr (Sum.inr (fun j => some (h5 j))))))), (h2, Sum.inl (cAlong, 5, Sum.inr (Sum.inr (Sum.inr (Sum.inr (fun j => some (h6 j))))))), (h3, Sum.inl (cint, 5, Sum.inl f3)), (h4, Sum.inl (cint, 5, Sum.inl f4))]) [0, 1, 2, 3, 4] (by decide) rfl
      have hK9 := hK.sub (tys' := []) [] rfl
      exact W.vret hx hb hr (fun t ht hW => ⟨⟨(), rfl, trivial, y_5, f3, f4, by rw [ht]; exact hP9, va_K.moved hW.alike hK9, hD9⟩, hS.F ht⟩) hS.2.2 dX2_countWays_65
    · have t_3 : n0_ways.toInt = 0 := kk_eq c_3
      refine lv_aload_n hx hb dX2_countWays_23 rfl (lv_at hl 1 rfl) ?_
      refine va_get (D := (dC, dI)) (ci := 2) (v := .ref h3) (C := RX2) (T := TX2) (N := 13) hx hb hts (fun _ h => List.mem_cons_of_mem _ (List.mem_append_right _ h)) hown hK hP 0 rfl rfl 10 (by decide) (hts (.fieldLink RX2 35 "KinkStreet$Deeds" "tried" "[I") (List.mem_of_getElem? (i := 3) rfl)) (fun _ h9 => h9) rfl dX2_countWays_24 ?_
      refine lv_iload_n hx hb dX2_countWays_27 rfl (lv_at hl 2 rfl) ?_
      refine lv_lload_n hx hb dX2_countWays_28 rfl (lv_at hl 0 rfl) ?_
      obtain ⟨hPc, hDc, hFc⟩ := kk_cutout (wc := []) hP hD hS hA [] (by decide) rfl
      have hKc := hK.sub (tys' := []) [] rfl
      refine va_calli (va_runS (As := [.long y_2]) (rest := [.int 4, .ref h3]) ⟨hx, hb, hml, hown, hts⟩ (g_J13_numberOfTrailingZeros_95d88_0 l dC dI s.heap.size y_2 (y_2.toInt) rfl) (va_cwS 1 hts gX2_countWays_J13_numberOfTrailingZeros_95d88 rfl rfl rfl (by decide +kernel) ⟨Nat.le_of_ble_eq_true rfl, Nat.le_of_ble_eq_true rfl⟩) ⟨fun a U g mk q => by obtain ⟨q0, q1, qP, qK, qD⟩ := q; exact ⟨q0, q1, qP, va_K.moved (u := U) (U := U.calling g mk a) (Vm.Alike.refl U.vm) qK, qD⟩, fun U hU hW => ⟨rfl, by rw [hU], by rw [hU]; exact hPc, va_K.moved hW.alike hKc, hDc.weaken (fun _ _ _ _ => trivial)⟩⟩ rfl rfl hl.1 rfl (lv_room (Nat.le_of_ble_eq_true rfl)) dX2_countWays_29 ⟨Nat.le_of_ble_eq_true rfl, Nat.le_of_ble_eq_true rfl⟩) hS (fun q _ h => hFc q h) hFc (fun r_6 u t H1 locs ht hvm hw hB hz1 hk1 hS => ?_)
      obtain ⟨hP1, hK1, hD1⟩ := hB
      rw [ht] at hP1
      have hK1 := va_K.moved hvm.symm hK1
      obtain ⟨hP, hD⟩ := va_joinQ (cx := []) (wr := [(h0, Sum.inr (2, [Value.ref h7, Value.ref h8, Value.ref h9, Value.int n0_size, Value.ref h10, Value.int n0_names, Value.int n0_plots, Value.ref h11, Value.ref h1, Value.ref h2, Value.ref h3, Value.ref h4, Value.int n0_ways])), (h1, Sum.inl (cAlong, 25, Sum.inr (Sum.inr (Sum.inr (Sum.inr (fun j => some (h5 j))))))), (h2, Sum.inl (cAlong, 5, Sum.inr (Sum.inr (Sum.inr (Sum.inr (fun j => some (h6 j))))))), (h3, Sum.inl (cint, 5, Sum.inl f3)), (h4, Sum.inl (cint, 5, Sum.inl f4))]) (w1 := []) hP hD [] [0, 1, 2, 3, 4] rfl rfl (by decide) (by decide) hk1 hFc hP1 hD1
      generalize H1 = H at hP hS ⊢
      have hP : va_P (dC, dI) vwCl (([(h0, Sum.inr (2, [Value.ref h7, Value.ref h8, Value.ref h9, Value.int n0_size, Value.ref h10, Value.int n0_names, Value.int n0_plots, Value.ref h11, Value.ref h1, Value.ref h2, Value.ref h3, Value.ref h4, Value.int n0_ways])), (h1, Sum.inl (cAlong, 25, Sum.inr (Sum.inr (Sum.inr (Sum.inr (fun j => some (h5 j))))))), (h2, Sum.inl (cAlong, 5, Sum.inr (Sum.inr (Sum.inr (Sum.inr (fun j => some (h6 j))))))), (h3, Sum.inl (cint, 5, Sum.inl f3)), (h4, Sum.inl (cint, 5, Sum.inl f4))] : va_W) ++ (kk_rowsL h5 clong 40 F5 25 ++ (kk_rowsL h6 clong 5 F6 5))) H := hP
      have hD : va_D A (([(h0, Sum.inr (2, [Value.ref h7, Value.ref h8, Value.ref h9, Value.int n0_size, Value.ref h10, Value.int n0_names, Value.int n0_plots, Value.ref h11, Value.ref h1, Value.ref h2, Value.ref h3, Value.ref h4, Value.int n0_ways])), (h1, Sum.inl (cAlong, 25, Sum.inr (Sum.inr (Sum.inr (Sum.inr (fun j => some (h5 j))))))), (h2, Sum.inl (cAlong, 5, Sum.inr (Sum.inr (Sum.inr (Sum.inr (fun j => some (h6 j))))))), (h3, Sum.inl (cint, 5, Sum.inl f3)), (h4, Sum.inl (cint, 5, Sum.inl f4))] : va_W) ++ (kk_rowsL h5 clong 40 F5 25 ++ (kk_rowsL h6 clong 5 F6 5))) := hD
      refine va_iast hx hb hK hP hD hS 3 1 rfl rfl (by unfold vp_in; decide) dX2_countWays_32 (fun H locs hP hD hS => ?_)
      generalize upd f3 (4 : Int32).toNatClampNeg r_6 = f_7 at hP hD
      have hP : va_P (dC, dI) vwCl (([(h0, Sum.inr (2, [Value.ref h7, Value.ref h8, Value.ref h9, Value.int n0_size, Value.ref h10, Value.int n0_names, Value.int n0_plots, Value.ref h11, Value.ref h1, Value.ref h2, Value.ref h3, Value.ref h4, Value.int n0_ways])), (h1, Sum.inl (cAlong, 25, Sum.inr (Sum.inr (Sum.inr (Sum.inr (fun j => some (h5 j))))))), (h2, Sum.inl (cAlong, 5, Sum.inr (Sum.inr (Sum.inr (Sum.inr (fun j => some (h6 j))))))), (h3, Sum.inl (cint, 5, Sum.inl f_7)), (h4, Sum.inl (cint, 5, Sum.inl f4))] : va_W) ++ (kk_rowsL h5 clong 40 F5 25 ++ (kk_rowsL h6 clong 5 F6 5))) H := hP
      have hD : va_D A (([(h0, Sum.inr (2, [Value.ref h7, Value.ref h8, Value.ref h9, Value.int n0_size, Value.ref h10, Value.int n0_names, Value.int n0_plots, Value.ref h11, Value.ref h1, Value.ref h2, Value.ref h3, Value.ref h4, Value.int n0_ways])), (h1, Sum.inl (cAlong, 25, Sum.inr (Sum.inr (Sum.inr (Sum.inr (fun j => some (h5 j))))))), (h2, Sum.inl (cAlong, 5, Sum.inr (Sum.inr (Sum.inr (Sum.inr (fun j => some (h6 j))))))), (h3, Sum.inl (cint, 5, Sum.inl f_7)), (h4, Sum.inl (cint, 5, Sum.inl f4))] : va_W) ++ (kk_rowsL h5 clong 40 F5 25 ++ (kk_rowsL h6 clong 5 F6 5))) := hD
      refine lv_aload_n hx hb dX2_countWays_33 rfl (lv_at hl 1 rfl) ?_
      refine va_get (D := (dC, dI)) (ci := 2) (v := .ref h3) (C := RX2) (T := TX2) (N := 13) hx hb hts (fun _ h => List.mem_cons_of_mem _ (List.mem_append_right _ h)) hown hK hP 0 rfl rfl 10 (by decide) (hts (.fieldLink RX2 35 "KinkStreet$Deeds" "tried" "[I") (List.mem_of_getElem? (i := 3) rfl)) (fun _ h9 => h9) rfl dX2_countWays_34 ?_
      refine lv_iconst (v := 0) hx hb dX2_countWays_37 (by decide) ?_
      refine lv_aload_n hx hb dX2_countWays_38 rfl (lv_at hl 1 rfl) ?_
      refine va_get (D := (dC, dI)) (ci := 2) (v := .ref h4) (C := RX2) (T := TX2) (N := 13) hx hb hts (fun _ h => List.mem_cons_of_mem _ (List.mem_append_right _ h)) hown hK hP 0 rfl rfl 11 (by decide) (hts (.fieldLink RX2 38 "KinkStreet$Deeds" "found" "[I") (List.mem_of_getElem? (i := 4) rfl)) (fun _ h9 => h9) rfl dX2_countWays_39 ?_
      refine lv_iconst (v := 0) hx hb dX2_countWays_42 (by decide) ?_
      refine lv_iconst (v := 5) hx hb dX2_countWays_43 (by decide) ?_
      refine va_copyi (sp := 0) (dp := 0) (n := 5) hx hb (hml.trans hl.1.symm) hown (hts (.methodLink RX2 118 arraycopyName) (List.mem_of_getElem? (i := 5) rfl)) (hts (.native arraycopyName) (List.mem_of_getElem? (i := 6) rfl)) (hts (.static arraycopyName) (List.mem_of_getElem? (i := 7) rfl)) (hts (.initialized "java/lang/System") (List.mem_of_getElem? (i := 8) rfl)) hK hP hD hS 3 4 1 1 rfl rfl rfl rfl rfl (by decide) (by decide) (by decide) (by decide) (by decide) (fun _ _ => rfl) (Nat.le_of_ble_eq_true rfl) (Nat.le_of_ble_eq_true rfl) dX2_countWays_44 (fun H locs hP hD hS => ?_)
      generalize va_cpy f_7 f4 (0 : Int32).toNatClampNeg (0 : Int32).toNatClampNeg (5 : Int32).toNatClampNeg = f_8 at hP hD
      have hP : va_P (dC, dI) vwCl (([(h0, Sum.inr (2, [Value.ref h7, Value.ref h8, Value.ref h9, Value.int n0_size, Value.ref h10, Value.int n0_names, Value.int n0_plots, Value.ref h11, Value.ref h1, Value.ref h2, Value.ref h3, Value.ref h4, Value.int n0_ways])), (h1, Sum.inl (cAlong, 25, Sum.inr (Sum.inr (Sum.inr (Sum.inr (fun j => some (h5 j))))))), (h2, Sum.inl (cAlong, 5, Sum.inr (Sum.inr (Sum.inr (Sum.inr (fun j => some (h6 j))))))), (h3, Sum.inl (cint, 5, Sum.inl f_7)), (h4, Sum.inl (cint, 5, Sum.inl f_8))] : va_W) ++ (kk_rowsL h5 clong 40 F5 25 ++ (kk_rowsL h6 clong 5 F6 5))) H := hP
      have hD : va_D A (([(h0, Sum.inr (2, [Value.ref h7, Value.ref h8, Value.ref h9, Value.int n0_size, Value.ref h10, Value.int n0_names, Value.int n0_plots, Value.ref h11, Value.ref h1, Value.ref h2, Value.ref h3, Value.ref h4, Value.int n0_ways])), (h1, Sum.inl (cAlong, 25, Sum.inr (Sum.inr (Sum.inr (Sum.inr (fun j => some (h5 j))))))), (h2, Sum.inl (cAlong, 5, Sum.inr (Sum.inr (Sum.inr (Sum.inr (fun j => some (h6 j))))))), (h3, Sum.inl (cint, 5, Sum.inl f_7)), (h4, Sum.inl (cint, 5, Sum.inl f_8))] : va_W) ++ (kk_rowsL h5 clong 40 F5 25 ++ (kk_rowsL h6 clong 5 F6 5))) := hD
      refine lv_aload_n hx hb dX2_countWays_47 rfl (lv_at hl 1 rfl) ?_
      refine lv_ldc hx hb hown (hts _ (List.mem_of_getElem? (i := 9) rfl)) dX2_countWays_48 ?_
      refine lv_aload_n hx hb dX2_countWays_50 rfl (lv_at hl 1 rfl) ?_
      refine va_get (D := (dC, dI)) (ci := 2) (v := .int n0_ways) (C := RX2) (T := TX2) (N := 13) hx hb hts (fun _ h => List.mem_cons_of_mem _ (List.mem_append_right _ h)) hown hK hP 0 rfl rfl 12 (by decide) (hts (.fieldLink RX2 70 "KinkStreet$Deeds" "ways" "I") (List.mem_of_getElem? (i := 2) rfl)) (fun _ h9 => h9) rfl dX2_countWays_51 ?_
      refine lv_lload_n hx hb dX2_countWays_54 rfl (lv_at hl 0 rfl) ?_
      obtain ⟨hPc, hDc, hFc⟩ := kk_cutout (wc := []) hP hD hS hA [] (by decide) rfl
      have hKc := hK.sub (tys' := []) [] rfl
      refine va_calli (va_runS (As := [.long y_2]) (rest := [.int n0_ways, .int 1000000, .ref h0]) ⟨hx, hb, hml, hown, hts⟩ (g_J13_bitCount_95d88_0 l dC dI H.size y_2 (y_2.toInt) rfl) (va_cwS 1 hts gX2_countWays_J13_bitCount_95d88 rfl rfl rfl (by decide +kernel) ⟨Nat.le_of_ble_eq_true rfl, Nat.le_of_ble_eq_true rfl⟩) ⟨fun a U g mk q => by obtain ⟨q0, q1, qP, qK, qD⟩ := q; exact ⟨q0, q1, qP, va_K.moved (u := U) (U := U.calling g mk a) (Vm.Alike.refl U.vm) qK, qD⟩, fun U hU hW => ⟨rfl, by rw [hU], by rw [hU]; exact hPc, va_K.moved hW.alike hKc, hDc.weaken (fun _ _ _ _ => trivial)⟩⟩ rfl rfl hl.1 rfl (lv_room (Nat.le_of_ble_eq_true rfl)) dX2_countWays_55 ⟨Nat.le_of_ble_eq_true rfl, Nat.le_of_ble_eq_true rfl⟩) hS (fun q _ h => hFc q h) hFc (fun r_9 u t H1 locs ht hvm hw hB hz1 hk1 hS => ?_)
      obtain ⟨hP1, hK1, hD1⟩ := hB
      rw [ht] at hP1
      have hK1 := va_K.moved hvm.symm hK1
      obtain ⟨hP, hD⟩ := va_joinQ (cx := []) (wr := [(h0, Sum.inr (2, [Value.ref h7, Value.ref h8, Value.ref h9, Value.int n0_size, Value.ref h10, Value.int n0_names, Value.int n0_plots, Value.ref h11, Value.ref h1, Value.ref h2, Value.ref h3, Value.ref h4, Value.int n0_ways])), (h1, Sum.inl (cAlong, 25, Sum.inr (Sum.inr (Sum.inr (Sum.inr (fun j => some (h5 j))))))), (h2, Sum.inl (cAlong, 5, Sum.inr (Sum.inr (Sum.inr (Sum.inr (fun j => some (h6 j))))))), (h3, Sum.inl (cint, 5, Sum.inl f_7)), (h4, Sum.inl (cint, 5, Sum.inl f_8))]) (w1 := []) hP hD [] [0, 1, 2, 3, 4] rfl rfl (by decide) (by decide) hk1 hFc hP1 hD1
      generalize H1 = H at hP hS ⊢
      have hP : va_P (dC, dI) vwCl (([(h0, Sum.inr (2, [Value.ref h7, Value.ref h8, Value.ref h9, Value.int n0_size, Value.ref h10, Value.int n0_names, Value.int n0_plots, Value.ref h11, Value.ref h1, Value.ref h2, Value.ref h3, Value.ref h4, Value.int n0_ways])), (h1, Sum.inl (cAlong, 25, Sum.inr (Sum.inr (Sum.inr (Sum.inr (fun j => some (h5 j))))))), (h2, Sum.inl (cAlong, 5, Sum.inr (Sum.inr (Sum.inr (Sum.inr (fun j => some (h6 j))))))), (h3, Sum.inl (cint, 5, Sum.inl f_7)), (h4, Sum.inl (cint, 5, Sum.inl f_8))] : va_W) ++ (kk_rowsL h5 clong 40 F5 25 ++ (kk_rowsL h6 clong 5 F6 5))) H := hP
      have hD : va_D A (([(h0, Sum.inr (2, [Value.ref h7, Value.ref h8, Value.ref h9, Value.int n0_size, Value.ref h10, Value.int n0_names, Value.int n0_plots, Value.ref h11, Value.ref h1, Value.ref h2, Value.ref h3, Value.ref h4, Value.int n0_ways])), (h1, Sum.inl (cAlong, 25, Sum.inr (Sum.inr (Sum.inr (Sum.inr (fun j => some (h5 j))))))), (h2, Sum.inl (cAlong, 5, Sum.inr (Sum.inr (Sum.inr (Sum.inr (fun j => some (h6 j))))))), (h3, Sum.inl (cint, 5, Sum.inl f_7)), (h4, Sum.inl (cint, 5, Sum.inl f_8))] : va_W) ++ (kk_rowsL h5 clong 40 F5 25 ++ (kk_rowsL h6 clong 5 F6 5))) := hD
      refine lv_iadd hx hb dX2_countWays_58 ?_
      refine va_mmin hx hb (hml.trans hl.1.symm) hown (hts (.methodLink RX2 61 Lib.Math.min.name) (List.mem_of_getElem? (i := 10) rfl)) (hts (.static Lib.Math.min.name) (List.mem_of_getElem? (i := 11) rfl)) (hts (.initialized "java/lang/Math") (List.mem_of_getElem? (i := 12) rfl)) (hts (.code Lib.Math.min.name Lib.Math.min.code 2 (some .int)) (List.mem_of_getElem? (i := 13) rfl)) (Nat.le_of_ble_eq_true rfl) (Nat.le_of_ble_eq_true rfl) (Nat.le_of_ble_eq_true rfl) (Nat.le_of_ble_eq_true rfl) dX2_countWays_59 ?_
      refine lv_topi (fun y_10 e_10 => ?_)
      have t_10 : y_10.toInt ≤ 1000000 ∧ y_10.toInt ≤ (n0_ways + r_9).toInt ∧ (y_10.toInt = 1000000 ∨ y_10.toInt = (n0_ways + r_9).toInt) := by rw [e_10]; exact kk_min _ _
      clear e_10
      refine va_put (D := (dC, dI)) (ci := 2) (v := .int y_10) (ty := .int) (C := RX2) (T := TX2) (N := 13) hx hb hts (fun _ h => List.mem_cons_of_mem _ (List.mem_append_right _ h)) tyX2 tyX2_ok nmX2 hown hK hP hD hS 0 rfl rfl 12 (by decide) (hts (.fieldLink RX2 70 "KinkStreet$Deeds" "ways" "I") (List.mem_of_getElem? (i := 2) rfl)) (fun _ h9 => h9) rfl (by decide +kernel) rfl rfl (Nat.le_of_ble_eq_true rfl) dX2_countWays_62 (fun H locs hP hD hS => ?_)
      have hP : va_P (dC, dI) vwCl (([(h0, Sum.inr (2, [Value.ref h7, Value.ref h8, Value.ref h9, Value.int n0_size, Value.ref h10, Value.int n0_names, Value.int n0_plots, Value.ref h11, Value.ref h1, Value.ref h2, Value.ref h3, Value.ref h4, Value.int y_10])), (h1, Sum.inl (cAlong, 25, Sum.inr (Sum.inr (Sum.inr (Sum.inr (fun j => some (h5 j))))))), (h2, Sum.inl (cAlong, 5, Sum.inr (Sum.inr (Sum.inr (Sum.inr (fun j => some (h6 j))))))), (h3, Sum.inl (cint, 5, Sum.inl f_7)), (h4, Sum.inl (cint, 5, Sum.inl f_8))] : va_W) ++ (kk_rowsL h5 clong 40 F5 25 ++ (kk_rowsL h6 clong 5 F6 5))) H := hP
      have hD : va_D A (([(h0, Sum.inr (2, [Value.ref h7, Value.ref h8, Value.ref h9, Value.int n0_size, Value.ref h10, Value.int n0_names, Value.int n0_plots, Value.ref h11, Value.ref h1, Value.ref h2, Value.ref h3, Value.ref h4, Value.int y_10])), (h1, Sum.inl (cAlong, 25, Sum.inr (Sum.inr (Sum.inr (Sum.inr (fun j => some (h5 j))))))), (h2, Sum.inl (cAlong, 5, Sum.inr (Sum.inr (Sum.inr (Sum.inr (fun j => some (h6 j))))))), (h3, Sum.inl (cint, 5, Sum.inl f_7)), (h4, Sum.inl (cint, 5, Sum.inl f_8))] : va_W) ++ (kk_rowsL h5 clong 40 F5 25 ++ (kk_rowsL h6 clong 5 F6 5))) := hD
      have hP9 := hP.part (cx := [(h0, Sum.inr (2, [Value.ref h7, Value.ref h8, Value.ref h9, Value.int n0_size, Value.ref h10, Value.int n0_names, Value.int n0_plots, Value.ref h11, Value.ref h1, Value.ref h2, Value.ref h3, Value.ref h4, Value.int y_10])), (h1, Sum.inl (cAlong, 25, Sum.inr (Sum.inr (Sum.inr (Sum.inr (fun j => some (h5 j))))))), (h2, Sum.inl (cAlong, 5, Sum.inr (Sum.inr (Sum.inr (Sum.inr (fun j => some (h6 j))))))), (h3, Sum.inl (cint, 5, Sum.inl f_7)), (h4, Sum.inl (cint, 5, Sum.inl f_8))]) [0, 1, 2, 3, 4] rfl
      have hD9 := hD.part (cx := [(h0, Sum.inr (2, [Value.ref h7, Value.ref h8, Value.ref h9, Value.int n0_size, Value.ref h10, Value.int n0_names, Value.int n0_plots, Value.ref h11, Value.ref h1, Value.ref h2, Value.ref h3, Value.ref h4, Value.int y_10])), (h1, Sum.inl (cAlong, 25, Sum.inr (Sum.inr (Sum.inr (Sum.inr (fun j => some (h5 j))))))), (h2, Sum.inl (cAlong, 5, Sum.inr (Sum.inr (Sum.inr (Sum.inr (fun j => some (h6 j))))))), (h3, Sum.inl (cint, 5, Sum.inl f_7)), (h4, Sum.inl (cint, 5, Sum.inl f_8))]) [0, 1, 2, 3, 4] (by decide) rfl
      have hK9 := hK.sub (tys' := []) [] rfl
      exact W.vret hx hb hr (fun t ht hW => ⟨⟨(), rfl, trivial, y_10, f_7, f_8, by rw [ht]; exact hP9, va_K.moved hW.alike hK9, hD9⟩, hS.F ht⟩) hS.2.2 dX2_countWays_65
  · skip
    have hP9 := hP.part (cx := [(h0, Sum.inr (2, [Value.ref h7, Value.ref h8, Value.ref h9, Value.int n0_size, Value.ref h10, Value.int n0_names, Value.int n0_plots, Value.ref h11, Value.ref h1, Value.ref h2, Value.ref h3, Value.ref h4, Value.int n0_ways])), (h1, Sum.inl (cAlong, 25, Sum.inr (Sum.inr (Sum.inr (Sum.inr (fun j => some (h5 j))))))), (h2, Sum.inl (cAlong, 5, Sum.inr (Sum.inr (Sum.inr (Sum.inr (fun j => some (h6 j))))))), (h3, Sum.inl (cint, 5, Sum.inl f3)), (h4, Sum.inl (cint, 5, Sum.inl f4))]) [0, 1, 2, 3, 4] rfl
    have hD9 := hD.part (cx := [(h0, Sum.inr (2, [Value.ref h7, Value.ref h8, Value.ref h9, Value.int n0_size, Value.ref h10, Value.int n0_names, Value.int n0_plots, Value.ref h11, Value.ref h1, Value.ref h2, Value.ref h3, Value.ref h4, Value.int n0_ways])), (h1, Sum.inl (cAlong, 25, Sum.inr (Sum.inr (Sum.inr (Sum.inr (fun j => some (h5 j))))))), (h2, Sum.inl (cAlong, 5, Sum.inr (Sum.inr (Sum.inr (Sum.inr (fun j => some (h6 j))))))), (h3, Sum.inl (cint, 5, Sum.inl f3)), (h4, Sum.inl (cint, 5, Sum.inl f4))]) [0, 1, 2, 3, 4] (by decide) rfl
    have hK9 := hK.sub (tys' := []) [] rfl
    exact W.vret hx hb hr (fun t ht hW => ⟨⟨(), rfl, trivial, n0_ways, f3, f4, by rw [ht]; exact hP9, va_K.moved hW.alike hK9, hD9⟩, hS.F ht⟩) hS.2.2 dX2_countWays_15
set_option maxHeartbeats 4000000 in
set_option maxRecDepth 100000 in
theorem g_X2_search_0 (l : Launch) (dC : Nat → ClassId) (dI : Nat → Nat → Nat) (h0 : Nat) (h1 : Nat) (h2 : Nat) (h3 : Nat) (h4 : Nat) (h5 : Nat → Nat) (h6 : Nat → Nat) (h7 : Nat) (h8 : Nat) (h9 : Nat) (h10 : Nat) (h11 : Nat) (cAlong cint clong : ClassId) (sz : Nat) (n0_size : Int32) (n0_names : Int32) (n0_plots : Int32) (n0_ways : Int32) (f3 : Nat → Int32) (f4 : Nat → Int32) (F5 : Nat → Nat → Int64) (F6 : Nat → Nat → Int64) (tn0_size : 0 ≤ n0_size.toInt ∧ n0_size.toInt ≤ 10) (tn0_names : 1 ≤ n0_names.toInt ∧ n0_names.toInt ≤ 5) (tn0_plots : 0 ≤ n0_plots.toInt ∧ n0_plots.toInt ≤ 40) : Met l yX2_search wsX2_search ({ frames := 3, cells := 0, slots := 0, locals := 71 }) (va_Pc [.ref h0, .int 4] (fun U => U.heap.size = sz ∧ va_P (dC, dI) vwCl (([(h0, Sum.inr (2, [Value.ref h7, Value.ref h8, Value.ref h9, Value.int n0_size, Value.ref h10, Value.int n0_names, Value.int n0_plots, Value.ref h11, Value.ref h1, Value.ref h2, Value.ref h3, Value.ref h4, Value.int n0_ways])), (h1, Sum.inl (cAlong, 25, Sum.inr (Sum.inr (Sum.inr (Sum.inr (fun j => some (h5 j))))))), (h2, Sum.inl (cAlong, 5, Sum.inr (Sum.inr (Sum.inr (Sum.inr (fun j => some (h6 j))))))), (h3, Sum.inl (cint, 5, Sum.inl f3)), (h4, Sum.inl (cint, 5, Sum.inl f4))] : va_W) ++ (kk_rowsL h5 clong 40 F5 25 ++ (kk_rowsL h6 clong 5 F6 5))) U.heap ∧ va_K (dC, dI) vwCl [(cAlong, .array .long), (cint, .int), (clong, .long)] U ∧ va_D (fun _ => True) (([(h0, Sum.inr (2, [Value.ref h7, Value.ref h8, Value.ref h9, Value.int n0_size, Value.ref h10, Value.int n0_names, Value.int n0_plots, Value.ref h11, Value.ref h1, Value.ref h2, Value.ref h3, Value.ref h4, Value.int n0_ways])), (h1, Sum.inl (cAlong, 25, Sum.inr (Sum.inr (Sum.inr (Sum.inr (fun j => some (h5 j))))))), (h2, Sum.inl (cAlong, 5, Sum.inr (Sum.inr (Sum.inr (Sum.inr (fun j => some (h6 j))))))), (h3, Sum.inl (cint, 5, Sum.inl f3)), (h4, Sum.inl (cint, 5, Sum.inl f4))] : va_W) ++ (kk_rowsL h5 clong 40 F5 25 ++ (kk_rowsL h6 clong 5 F6 5))))) (va_Qv (fun (_ : Unit) => True) (fun (_ : Unit) t => ∃ (m0_ways : Int32) (g3 : Nat → Int32) (g4 : Nat → Int32), va_P (dC, dI) vwCl (([(h0, Sum.inr (2, [Value.ref h7, Value.ref h8, Value.ref h9, Value.int n0_size, Value.ref h10, Value.int n0_names, Value.int n0_plots, Value.ref h11, Value.ref h1, Value.ref h2, Value.ref h3, Value.ref h4, Value.int m0_ways])), (h1, Sum.inl (cAlong, 25, Sum.inr (Sum.inr (Sum.inr (Sum.inr (fun j => some (h5 j))))))), (h2, Sum.inl (cAlong, 5, Sum.inr (Sum.inr (Sum.inr (Sum.inr (fun j => some (h6 j))))))), (h3, Sum.inl (cint, 5, Sum.inl g3)), (h4, Sum.inl (cint, 5, Sum.inl g4))] : va_W) ++ (kk_rowsL h5 clong 40 F5 25 ++ (kk_rowsL h6 clong 5 F6 5))) t.heap ∧ va_K (dC, dI) vwCl [] t ∧ va_D (va_A (([(h0, Sum.inr (2, [Value.ref h7, Value.ref h8, Value.ref h9, Value.int n0_size, Value.ref h10, Value.int n0_names, Value.int n0_plots, Value.ref h11, Value.ref h1, Value.ref h2, Value.ref h3, Value.ref h4, Value.int n0_ways])), (h1, Sum.inl (cAlong, 25, Sum.inr (Sum.inr (Sum.inr (Sum.inr (fun j => some (h5 j))))))), (h2, Sum.inl (cAlong, 5, Sum.inr (Sum.inr (Sum.inr (Sum.inr (fun j => some (h6 j))))))), (h3, Sum.inl (cint, 5, Sum.inl f3)), (h4, Sum.inl (cint, 5, Sum.inl f4))] : va_W) ++ (kk_rowsL h5 clong 40 F5 25 ++ (kk_rowsL h6 clong 5 F6 5))) sz) (([(h0, Sum.inr (2, [Value.ref h7, Value.ref h8, Value.ref h9, Value.int n0_size, Value.ref h10, Value.int n0_names, Value.int n0_plots, Value.ref h11, Value.ref h1, Value.ref h2, Value.ref h3, Value.ref h4, Value.int m0_ways])), (h1, Sum.inl (cAlong, 25, Sum.inr (Sum.inr (Sum.inr (Sum.inr (fun j => some (h5 j))))))), (h2, Sum.inl (cAlong, 5, Sum.inr (Sum.inr (Sum.inr (Sum.inr (fun j => some (h6 j))))))), (h3, Sum.inl (cint, 5, Sum.inl g3)), (h4, Sum.inl (cint, 5, Sum.inl g4))] : va_W) ++ (kk_rowsL h5 clong 40 F5 25 ++ (kk_rowsL h6 clong 5 F6 5)))) (va_A (([(h0, Sum.inr (2, [Value.ref h7, Value.ref h8, Value.ref h9, Value.int n0_size, Value.ref h10, Value.int n0_names, Value.int n0_plots, Value.ref h11, Value.ref h1, Value.ref h2, Value.ref h3, Value.ref h4, Value.int n0_ways])), (h1, Sum.inl (cAlong, 25, Sum.inr (Sum.inr (Sum.inr (Sum.inr (fun j => some (h5 j))))))), (h2, Sum.inl (cAlong, 5, Sum.inr (Sum.inr (Sum.inr (Sum.inr (fun j => some (h6 j))))))), (h3, Sum.inl (cint, 5, Sum.inl f3)), (h4, Sum.inl (cint, 5, Sum.inl f4))] : va_W) ++ (kk_rowsL h5 clong 40 F5 25 ++ (kk_rowsL h6 clong 5 F6 5))) sz)) 0 0 (va_A (([(h0, Sum.inr (2, [Value.ref h7, Value.ref h8, Value.ref h9, Value.int n0_size, Value.ref h10, Value.int n0_names, Value.int n0_plots, Value.ref h11, Value.ref h1, Value.ref h2, Value.ref h3, Value.ref h4, Value.int n0_ways])), (h1, Sum.inl (cAlong, 25, Sum.inr (Sum.inr (Sum.inr (Sum.inr (fun j => some (h5 j))))))), (h2, Sum.inl (cAlong, 5, Sum.inr (Sum.inr (Sum.inr (Sum.inr (fun j => some (h6 j))))))), (h3, Sum.inl (cint, 5, Sum.inl f3)), (h4, Sum.inl (cint, 5, Sum.inl f4))] : va_W) ++ (kk_rowsL h5 clong 40 F5 25 ++ (kk_rowsL h6 clong 5 F6 5))) sz) := by
  refine Met.ofW (cc := cX2_search) (maxL := 3) (ret := none) (by decide) rfl ?_
  intro p e s m args below meth c s₁ B hml hv
  obtain ⟨rfl, hsz, hP, hK, hD0⟩ := hv
  have hx := B.exec
  have hb := B.bytes
  have hr := B.returns
  have hts := atoms_spec (ws := wsX2_search) B.pre
  have hown : s.vm.findClass RX2 = some m.cls := findClass_of_methodNamed B.named
  have hlocks := B.notSynchronized
  subst hsz
  have hD := hD0.self (sz := s.heap.size)
  generalize hAe : va_A (([(h0, Sum.inr (2, [Value.ref h7, Value.ref h8, Value.ref h9, Value.int n0_size, Value.ref h10, Value.int n0_names, Value.int n0_plots, Value.ref h11, Value.ref h1, Value.ref h2, Value.ref h3, Value.ref h4, Value.int n0_ways])), (h1, Sum.inl (cAlong, 25, Sum.inr (Sum.inr (Sum.inr (Sum.inr (fun j => some (h5 j))))))), (h2, Sum.inl (cAlong, 5, Sum.inr (Sum.inr (Sum.inr (Sum.inr (fun j => some (h6 j))))))), (h3, Sum.inl (cint, 5, Sum.inl f3)), (h4, Sum.inl (cint, 5, Sum.inl f4))] : va_W) ++ (kk_rowsL h5 clong 40 F5 25 ++ (kk_rowsL h6 clong 5 F6 5))) s.heap.size = A at hD ⊢
  have hA : ∀ q : Nat, s.heap.size ≤ q → A q := fun q h => by rw [← hAe]; exact Or.inr h
  have hS : va_S A s.heap s.heap [] := va_S.rf
  have hP : va_P (dC, dI) vwCl (([(h0, Sum.inr (2, [Value.ref h7, Value.ref h8, Value.ref h9, Value.int n0_size, Value.ref h10, Value.int n0_names, Value.int n0_plots, Value.ref h11, Value.ref h1, Value.ref h2, Value.ref h3, Value.ref h4, Value.int n0_ways])), (h1, Sum.inl (cAlong, 25, Sum.inr (Sum.inr (Sum.inr (Sum.inr (fun j => some (h5 j))))))), (h2, Sum.inl (cAlong, 5, Sum.inr (Sum.inr (Sum.inr (Sum.inr (fun j => some (h6 j))))))), (h3, Sum.inl (cint, 5, Sum.inl f3)), (h4, Sum.inl (cint, 5, Sum.inl f4))] : va_W) ++ (kk_rowsL h5 clong 40 F5 25 ++ (kk_rowsL h6 clong 5 F6 5))) s.heap := hP
  have hl := lv_entry ([.ref h0, .int 4]) (n := 3) (Nat.le_of_ble_eq_true rfl)
  rw [lg_entry_eq]
  generalize (lg_sl ([.ref h0, .int 4]) ++ List.replicate (3 - (lg_sl ([.ref h0, .int 4])).length) Slot.unset).toArray = ls at hl ⊢
  have hl : lv_has ls 3 [(0, .ref h0), (1, .int 4)] := hl
  refine lv_iload_n hx hb dX2_search_0 rfl (lv_at hl 1 rfl) ?_
  refine lv_aload_n hx hb dX2_search_1 rfl (lv_at hl 0 rfl) ?_
  refine va_get (D := (dC, dI)) (ci := 2) (v := .int n0_names) (C := RX2) (T := TX2) (N := 13) hx hb hts (fun _ h => List.mem_cons_of_mem _ (List.mem_append_right _ h)) hown hK hP 0 rfl rfl 5 (by decide) (hts (.fieldLink RX2 49 "KinkStreet$Deeds" "names" "I") (List.mem_of_getElem? (i := 1) rfl)) (fun _ h9 => h9) rfl dX2_search_2 ?_
  refine lv_iconst (v := 1) hx hb dX2_search_5 (by decide) ?_
  refine lv_isub hx hb dX2_search_6 ?_
  refine lv_icmp_lt (tgt := 16) hx hb dX2_search_7 (by decide) (fun c_1 => ?_) (fun c_1 => ?_)
  · have t_1 : 4 < (n0_names - 1).toInt := kk_lt c_1
    exfalso; have := kk_sub2 (x := n0_names) (y := 1) (a := n0_names.toInt) (b := 1) rfl rfl (by omega) (by omega); omega
  · have t_1 : (n0_names - 1).toInt ≤ 4 := kk_nlt c_1
    refine lv_aload_n hx hb dX2_search_10 rfl (lv_at hl 0 rfl) ?_
    refine lv_iload_n hx hb dX2_search_11 rfl (lv_at hl 1 rfl) ?_
    have hPc := hP.part (cx := [(h0, Sum.inr (2, [Value.ref h7, Value.ref h8, Value.ref h9, Value.int n0_size, Value.ref h10, Value.int n0_names, Value.int n0_plots, Value.ref h11, Value.ref h1, Value.ref h2, Value.ref h3, Value.ref h4, Value.int n0_ways])), (h1, Sum.inl (cAlong, 25, Sum.inr (Sum.inr (Sum.inr (Sum.inr (fun j => some (h5 j))))))), (h2, Sum.inl (cAlong, 5, Sum.inr (Sum.inr (Sum.inr (Sum.inr (fun j => some (h6 j))))))), (h3, Sum.inl (cint, 5, Sum.inl f3)), (h4, Sum.inl (cint, 5, Sum.inl f4))]) [0, 1, 2, 3, 4] rfl
    have hDc := hD.part (cx := [(h0, Sum.inr (2, [Value.ref h7, Value.ref h8, Value.ref h9, Value.int n0_size, Value.ref h10, Value.int n0_names, Value.int n0_plots, Value.ref h11, Value.ref h1, Value.ref h2, Value.ref h3, Value.ref h4, Value.int n0_ways])), (h1, Sum.inl (cAlong, 25, Sum.inr (Sum.inr (Sum.inr (Sum.inr (fun j => some (h5 j))))))), (h2, Sum.inl (cAlong, 5, Sum.inr (Sum.inr (Sum.inr (Sum.inr (fun j => some (h6 j))))))), (h3, Sum.inl (cint, 5, Sum.inl f3)), (h4, Sum.inl (cint, 5, Sum.inl f4))]) [0, 1, 2, 3, 4] (by decide) rfl
    have hFc := va_freeP (cx := [(h0, Sum.inr (2, [Value.ref h7, Value.ref h8, Value.ref h9, Value.int n0_size, Value.ref h10, Value.int n0_names, Value.int n0_plots, Value.ref h11, Value.ref h1, Value.ref h2, Value.ref h3, Value.ref h4, Value.int n0_ways])), (h1, Sum.inl (cAlong, 25, Sum.inr (Sum.inr (Sum.inr (Sum.inr (fun j => some (h5 j))))))), (h2, Sum.inl (cAlong, 5, Sum.inr (Sum.inr (Sum.inr (Sum.inr (fun j => some (h6 j))))))), (h3, Sum.inl (cint, 5, Sum.inl f3)), (h4, Sum.inl (cint, 5, Sum.inl f4))]) hD hS hA [0, 1, 2, 3, 4] rfl
    have hKc := hK.sub (tys' := [(cAlong, .array .long), (cint, .int), (clong, .long)]) [0, 1, 2] rfl
    refine va_callv (va_runV (As := [.int 4]) (rest := []) ⟨hx, hb, hml, hown, hts⟩ (g_X2_countWays_0 l dC dI h0 h1 h2 h3 h4 h5 h6 h7 h8 h9 h10 h11 cAlong cint clong s.heap.size n0_size n0_names n0_plots n0_ways f3 f4 F5 F6 tn0_size tn0_names tn0_plots) (cwV 1 hts gX2_search_X2_countWays rfl rfl rfl (by decide +kernel) ⟨Nat.le_of_ble_eq_true rfl, Nat.le_of_ble_eq_true rfl⟩) ⟨fun a U g mk q => by obtain ⟨q0, q1, qP, qK, qD⟩ := q; exact ⟨q0, q1, qP, va_K.moved (u := U) (U := U.calling g mk a) (Vm.Alike.refl U.vm) qK, qD⟩, va_recv hKc hPc (ci := 2) (q0 := 0) rfl rfl, fun U hU hW => ⟨rfl, by rw [hU], by rw [hU]; exact hPc, va_K.moved hW.alike hKc, hDc.weaken (fun _ _ _ _ => trivial)⟩⟩ rfl rfl hl.1 rfl (lv_room (Nat.le_of_ble_eq_true rfl)) dX2_search_12 ⟨Nat.le_of_ble_eq_true rfl, Nat.le_of_ble_eq_true rfl⟩) hS (fun q _ h => hFc q h) hFc (fun u t H1 locs ht hvm hw hB hz1 hk1 hS => ?_)
    obtain ⟨y_3, f_4, f_5, hP1, hK1, hD1⟩ := hB
    rw [ht] at hP1
    have hK1 := va_K.moved hvm.symm hK1
    obtain ⟨hP, hD⟩ := va_joinP (cx := [(h0, Sum.inr (2, [Value.ref h7, Value.ref h8, Value.ref h9, Value.int n0_size, Value.ref h10, Value.int n0_names, Value.int n0_plots, Value.ref h11, Value.ref h1, Value.ref h2, Value.ref h3, Value.ref h4, Value.int n0_ways])), (h1, Sum.inl (cAlong, 25, Sum.inr (Sum.inr (Sum.inr (Sum.inr (fun j => some (h5 j))))))), (h2, Sum.inl (cAlong, 5, Sum.inr (Sum.inr (Sum.inr (Sum.inr (fun j => some (h6 j))))))), (h3, Sum.inl (cint, 5, Sum.inl f3)), (h4, Sum.inl (cint, 5, Sum.inl f4))]) (wr := []) (rx := [(h0, Sum.inr (2, [Value.ref h7, Value.ref h8, Value.ref h9, Value.int n0_size, Value.ref h10, Value.int n0_names, Value.int n0_plots, Value.ref h11, Value.ref h1, Value.ref h2, Value.ref h3, Value.ref h4, Value.int y_3])), (h1, Sum.inl (cAlong, 25, Sum.inr (Sum.inr (Sum.inr (Sum.inr (fun j => some (h5 j))))))), (h2, Sum.inl (cAlong, 5, Sum.inr (Sum.inr (Sum.inr (Sum.inr (fun j => some (h6 j))))))), (h3, Sum.inl (cint, 5, Sum.inl f_4)), (h4, Sum.inl (cint, 5, Sum.inl f_5))]) hP hD [0, 1, 2, 3, 4] [] rfl rfl (by decide) (by decide) hk1 hFc hP1 hD1
    generalize H1 = H at hP hS ⊢
    have hP : va_P (dC, dI) vwCl (([(h0, Sum.inr (2, [Value.ref h7, Value.ref h8, Value.ref h9, Value.int n0_size, Value.ref h10, Value.int n0_names, Value.int n0_plots, Value.ref h11, Value.ref h1, Value.ref h2, Value.ref h3, Value.ref h4, Value.int y_3])), (h1, Sum.inl (cAlong, 25, Sum.inr (Sum.inr (Sum.inr (Sum.inr (fun j => some (h5 j))))))), (h2, Sum.inl (cAlong, 5, Sum.inr (Sum.inr (Sum.inr (Sum.inr (fun j => some (h6 j))))))), (h3, Sum.inl (cint, 5, Sum.inl f_4)), (h4, Sum.inl (cint, 5, Sum.inl f_5))] : va_W) ++ (kk_rowsL h5 clong 40 F5 25 ++ (kk_rowsL h6 clong 5 F6 5))) H := hP
    have hD : va_D A (([(h0, Sum.inr (2, [Value.ref h7, Value.ref h8, Value.ref h9, Value.int n0_size, Value.ref h10, Value.int n0_names, Value.int n0_plots, Value.ref h11, Value.ref h1, Value.ref h2, Value.ref h3, Value.ref h4, Value.int y_3])), (h1, Sum.inl (cAlong, 25, Sum.inr (Sum.inr (Sum.inr (Sum.inr (fun j => some (h5 j))))))), (h2, Sum.inl (cAlong, 5, Sum.inr (Sum.inr (Sum.inr (Sum.inr (fun j => some (h6 j))))))), (h3, Sum.inl (cint, 5, Sum.inl f_4)), (h4, Sum.inl (cint, 5, Sum.inl f_5))] : va_W) ++ (kk_rowsL h5 clong 40 F5 25 ++ (kk_rowsL h6 clong 5 F6 5))) := hD
    have hP9 := hP.part (cx := [(h0, Sum.inr (2, [Value.ref h7, Value.ref h8, Value.ref h9, Value.int n0_size, Value.ref h10, Value.int n0_names, Value.int n0_plots, Value.ref h11, Value.ref h1, Value.ref h2, Value.ref h3, Value.ref h4, Value.int y_3])), (h1, Sum.inl (cAlong, 25, Sum.inr (Sum.inr (Sum.inr (Sum.inr (fun j => some (h5 j))))))), (h2, Sum.inl (cAlong, 5, Sum.inr (Sum.inr (Sum.inr (Sum.inr (fun j => some (h6 j))))))), (h3, Sum.inl (cint, 5, Sum.inl f_4)), (h4, Sum.inl (cint, 5, Sum.inl f_5))]) [0, 1, 2, 3, 4] rfl
    have hD9 := hD.part (cx := [(h0, Sum.inr (2, [Value.ref h7, Value.ref h8, Value.ref h9, Value.int n0_size, Value.ref h10, Value.int n0_names, Value.int n0_plots, Value.ref h11, Value.ref h1, Value.ref h2, Value.ref h3, Value.ref h4, Value.int y_3])), (h1, Sum.inl (cAlong, 25, Sum.inr (Sum.inr (Sum.inr (Sum.inr (fun j => some (h5 j))))))), (h2, Sum.inl (cAlong, 5, Sum.inr (Sum.inr (Sum.inr (Sum.inr (fun j => some (h6 j))))))), (h3, Sum.inl (cint, 5, Sum.inl f_4)), (h4, Sum.inl (cint, 5, Sum.inl f_5))]) [0, 1, 2, 3, 4] (by decide) rfl
    have hK9 := hK.sub (tys' := []) [] rfl
    exact W.vret hx hb hr (fun t ht hW => ⟨⟨(), rfl, trivial, y_3, f_4, f_5, by rw [ht]; exact hP9, va_K.moved hW.alike hK9, hD9⟩, hS.F ht⟩) hS.2.2 dX2_search_15
set_option maxHeartbeats 4000000 in
set_option maxRecDepth 100000 in
theorem g_X2_countWays_1 (l : Launch) (dC : Nat → ClassId) (dI : Nat → Nat → Nat) (h0 : Nat) (h1 : Nat) (h2 : Nat) (h3 : Nat) (h4 : Nat) (h5 : Nat → Nat) (h6 : Nat → Nat) (h7 : Nat) (h8 : Nat) (h9 : Nat) (h10 : Nat) (h11 : Nat) (cAlong cint clong : ClassId) (sz : Nat) (n0_size : Int32) (n0_names : Int32) (n0_plots : Int32) (n0_ways : Int32) (f3 : Nat → Int32) (f4 : Nat → Int32) (F5 : Nat → Nat → Int64) (F6 : Nat → Nat → Int64) (tn0_size : 0 ≤ n0_size.toInt ∧ n0_size.toInt ≤ 10) (tn0_names : 1 ≤ n0_names.toInt ∧ n0_names.toInt ≤ 5) (tn0_plots : 0 ≤ n0_plots.toInt ∧ n0_plots.toInt ≤ 40) : Met l yX2_countWays wsX2_countWays ({ frames := 2, cells := 0, slots := 0, locals := 48 }) (va_Pc [.ref h0, .int 3] (fun U => U.heap.size = sz ∧ va_P (dC, dI) vwCl (([(h0, Sum.inr (2, [Value.ref h7, Value.ref h8, Value.ref h9, Value.int n0_size, Value.ref h10, Value.int n0_names, Value.int n0_plots, Value.ref h11, Value.ref h1, Value.ref h2, Value.ref h3, Value.ref h4, Value.int n0_ways])), (h1, Sum.inl (cAlong, 25, Sum.inr (Sum.inr (Sum.inr (Sum.inr (fun j => some (h5 j))))))), (h2, Sum.inl (cAlong, 5, Sum.inr (Sum.inr (Sum.inr (Sum.inr (fun j => some (h6 j))))))), (h3, Sum.inl (cint, 5, Sum.inl f3)), (h4, Sum.inl (cint, 5, Sum.inl f4))] : va_W) ++ (kk_rowsL h5 clong 40 F5 25 ++ (kk_rowsL h6 clong 5 F6 5))) U.heap ∧ va_K (dC, dI) vwCl [(cAlong, .array .long), (cint, .int), (clong, .long)] U ∧ va_D (fun _ => True) (([(h0, Sum.inr (2, [Value.ref h7, Value.ref h8, Value.ref h9, Value.int n0_size, Value.ref h10, Value.int n0_names, Value.int n0_plots, Value.ref h11, Value.ref h1, Value.ref h2, Value.ref h3, Value.ref h4, Value.int n0_ways])), (h1, Sum.inl (cAlong, 25, Sum.inr (Sum.inr (Sum.inr (Sum.inr (fun j => some (h5 j))))))), (h2, Sum.inl (cAlong, 5, Sum.inr (Sum.inr (Sum.inr (Sum.inr (fun j => some (h6 j))))))), (h3, Sum.inl (cint, 5, Sum.inl f3)), (h4, Sum.inl (cint, 5, Sum.inl f4))] : va_W) ++ (kk_rowsL h5 clong 40 F5 25 ++ (kk_rowsL h6 clong 5 F6 5))))) (va_Qv (fun (_ : Unit) => True) (fun (_ : Unit) t => ∃ (m0_ways : Int32) (g3 : Nat → Int32) (g4 : Nat → Int32), va_P (dC, dI) vwCl (([(h0, Sum.inr (2, [Value.ref h7, Value.ref h8, Value.ref h9, Value.int n0_size, Value.ref h10, Value.int n0_names, Value.int n0_plots, Value.ref h11, Value.ref h1, Value.ref h2, Value.ref h3, Value.ref h4, Value.int m0_ways])), (h1, Sum.inl (cAlong, 25, Sum.inr (Sum.inr (Sum.inr (Sum.inr (fun j => some (h5 j))))))), (h2, Sum.inl (cAlong, 5, Sum.inr (Sum.inr (Sum.inr (Sum.inr (fun j => some (h6 j))))))), (h3, Sum.inl (cint, 5, Sum.inl g3)), (h4, Sum.inl (cint, 5, Sum.inl g4))] : va_W) ++ (kk_rowsL h5 clong 40 F5 25 ++ (kk_rowsL h6 clong 5 F6 5))) t.heap ∧ va_K (dC, dI) vwCl [] t ∧ va_D (va_A (([(h0, Sum.inr (2, [Value.ref h7, Value.ref h8, Value.ref h9, Value.int n0_size, Value.ref h10, Value.int n0_names, Value.int n0_plots, Value.ref h11, Value.ref h1, Value.ref h2, Value.ref h3, Value.ref h4, Value.int n0_ways])), (h1, Sum.inl (cAlong, 25, Sum.inr (Sum.inr (Sum.inr (Sum.inr (fun j => some (h5 j))))))), (h2, Sum.inl (cAlong, 5, Sum.inr (Sum.inr (Sum.inr (Sum.inr (fun j => some (h6 j))))))), (h3, Sum.inl (cint, 5, Sum.inl f3)), (h4, Sum.inl (cint, 5, Sum.inl f4))] : va_W) ++ (kk_rowsL h5 clong 40 F5 25 ++ (kk_rowsL h6 clong 5 F6 5))) sz) (([(h0, Sum.inr (2, [Value.ref h7, Value.ref h8, Value.ref h9, Value.int n0_size, Value.ref h10, Value.int n0_names, Value.int n0_plots, Value.ref h11, Value.ref h1, Value.ref h2, Value.ref h3, Value.ref h4, Value.int m0_ways])), (h1, Sum.inl (cAlong, 25, Sum.inr (Sum.inr (Sum.inr (Sum.inr (fun j => some (h5 j))))))), (h2, Sum.inl (cAlong, 5, Sum.inr (Sum.inr (Sum.inr (Sum.inr (fun j => some (h6 j))))))), (h3, Sum.inl (cint, 5, Sum.inl g3)), (h4, Sum.inl (cint, 5, Sum.inl g4))] : va_W) ++ (kk_rowsL h5 clong 40 F5 25 ++ (kk_rowsL h6 clong 5 F6 5)))) (va_A (([(h0, Sum.inr (2, [Value.ref h7, Value.ref h8, Value.ref h9, Value.int n0_size, Value.ref h10, Value.int n0_names, Value.int n0_plots, Value.ref h11, Value.ref h1, Value.ref h2, Value.ref h3, Value.ref h4, Value.int n0_ways])), (h1, Sum.inl (cAlong, 25, Sum.inr (Sum.inr (Sum.inr (Sum.inr (fun j => some (h5 j))))))), (h2, Sum.inl (cAlong, 5, Sum.inr (Sum.inr (Sum.inr (Sum.inr (fun j => some (h6 j))))))), (h3, Sum.inl (cint, 5, Sum.inl f3)), (h4, Sum.inl (cint, 5, Sum.inl f4))] : va_W) ++ (kk_rowsL h5 clong 40 F5 25 ++ (kk_rowsL h6 clong 5 F6 5))) sz)) 0 0 (va_A (([(h0, Sum.inr (2, [Value.ref h7, Value.ref h8, Value.ref h9, Value.int n0_size, Value.ref h10, Value.int n0_names, Value.int n0_plots, Value.ref h11, Value.ref h1, Value.ref h2, Value.ref h3, Value.ref h4, Value.int n0_ways])), (h1, Sum.inl (cAlong, 25, Sum.inr (Sum.inr (Sum.inr (Sum.inr (fun j => some (h5 j))))))), (h2, Sum.inl (cAlong, 5, Sum.inr (Sum.inr (Sum.inr (Sum.inr (fun j => some (h6 j))))))), (h3, Sum.inl (cint, 5, Sum.inl f3)), (h4, Sum.inl (cint, 5, Sum.inl f4))] : va_W) ++ (kk_rowsL h5 clong 40 F5 25 ++ (kk_rowsL h6 clong 5 F6 5))) sz) := by
  refine Met.ofW (cc := cX2_countWays) (maxL := 4) (ret := none) (by decide) rfl ?_
  intro p e s m args below meth c s₁ B hml hv
  obtain ⟨rfl, hsz, hP, hK, hD0⟩ := hv
  have hx := B.exec
  have hb := B.bytes
  have hr := B.returns
  have hts := atoms_spec (ws := wsX2_countWays) B.pre
  have hown : s.vm.findClass RX2 = some m.cls := findClass_of_methodNamed B.named
  have hlocks := B.notSynchronized
  subst hsz
  have hD := hD0.self (sz := s.heap.size)
  generalize hAe : va_A (([(h0, Sum.inr (2, [Value.ref h7, Value.ref h8, Value.ref h9, Value.int n0_size, Value.ref h10, Value.int n0_names, Value.int n0_plots, Value.ref h11, Value.ref h1, Value.ref h2, Value.ref h3, Value.ref h4, Value.int n0_ways])), (h1, Sum.inl (cAlong, 25, Sum.inr (Sum.inr (Sum.inr (Sum.inr (fun j => some (h5 j))))))), (h2, Sum.inl (cAlong, 5, Sum.inr (Sum.inr (Sum.inr (Sum.inr (fun j => some (h6 j))))))), (h3, Sum.inl (cint, 5, Sum.inl f3)), (h4, Sum.inl (cint, 5, Sum.inl f4))] : va_W) ++ (kk_rowsL h5 clong 40 F5 25 ++ (kk_rowsL h6 clong 5 F6 5))) s.heap.size = A at hD ⊢
  have hA : ∀ q : Nat, s.heap.size ≤ q → A q := fun q h => by rw [← hAe]; exact Or.inr h
  have hS : va_S A s.heap s.heap [] := va_S.rf
  have hP : va_P (dC, dI) vwCl (([(h0, Sum.inr (2, [Value.ref h7, Value.ref h8, Value.ref h9, Value.int n0_size, Value.ref h10, Value.int n0_names, Value.int n0_plots, Value.ref h11, Value.ref h1, Value.ref h2, Value.ref h3, Value.ref h4, Value.int n0_ways])), (h1, Sum.inl (cAlong, 25, Sum.inr (Sum.inr (Sum.inr (Sum.inr (fun j => some (h5 j))))))), (h2, Sum.inl (cAlong, 5, Sum.inr (Sum.inr (Sum.inr (Sum.inr (fun j => some (h6 j))))))), (h3, Sum.inl (cint, 5, Sum.inl f3)), (h4, Sum.inl (cint, 5, Sum.inl f4))] : va_W) ++ (kk_rowsL h5 clong 40 F5 25 ++ (kk_rowsL h6 clong 5 F6 5))) s.heap := hP
  have hl := lv_entry ([.ref h0, .int 3]) (n := 4) (Nat.le_of_ble_eq_true rfl)
  rw [lg_entry_eq]
  generalize (lg_sl ([.ref h0, .int 3]) ++ List.replicate (4 - (lg_sl ([.ref h0, .int 3])).length) Slot.unset).toArray = ls at hl ⊢
  have hl : lv_has ls 4 [(0, .ref h0), (1, .int 3)] := hl
  refine lv_aload_n hx hb dX2_countWays_0 rfl (lv_at hl 0 rfl) ?_
  refine va_get (D := (dC, dI)) (ci := 2) (v := .ref h2) (C := RX2) (T := TX2) (N := 13) hx hb hts (fun _ h => List.mem_cons_of_mem _ (List.mem_append_right _ h)) hown hK hP 0 rfl rfl 9 (by decide) (hts (.fieldLink RX2 32 "KinkStreet$Deeds" "open" "[[J") (List.mem_of_getElem? (i := 1) rfl)) (fun _ h9 => h9) rfl dX2_countWays_1 ?_
  refine lv_iload_n hx hb dX2_countWays_4 rfl (lv_at hl 1 rfl) ?_
  have hi_1 : vp_in (3 : Int32) 5 := (by unfold vp_in; decide)
  have hk_1 : (3 : Int32).toNatClampNeg < 5 := Nat.not_le.mp fun q => hi_1 (Or.inr q)
  refine kk_aald hx hb hK hP 2 0 rfl rfl hi_1 dX2_countWays_5 ?_
  refine W.eq (g2 := F0 m 6 ls [.ref (h6 (3 : Int32).toNatClampNeg)]) rfl ?_
  refine lv_iload_n hx hb dX2_countWays_6 rfl (lv_at hl 1 rfl) ?_
  refine va_lald hx hb hK hP _ 2 (kk_getr (kk_getr (kk_rowL hk_1))) rfl (by unfold vp_in; decide) dX2_countWays_7 ?_
  refine lv_topl (fun y_2 e_2 => ?_)
  clear e_2
  refine lv_lstore_n (lv' := [(2, .long y_2), (0, .ref h0), (1, .int 3)]) hx hb dX2_countWays_8 rfl hl (by decide) rfl (fun ls hl => ?_)
  refine lv_lload_n hx hb dX2_countWays_9 rfl (lv_at hl 0 rfl) ?_
  refine lv_lconst (v := 0) hx hb dX2_countWays_10 (by decide) ?_
  refine W.lcmp hx hb dX2_countWays_11 ?_
  refine lv_if_ne (tgt := 16) hx hb dX2_countWays_12 (by decide) (fun _ => ?_) (fun _ => ?_)
  · skip
    refine lv_aload_n hx hb dX2_countWays_16 rfl (lv_at hl 1 rfl) ?_
    refine va_get (D := (dC, dI)) (ci := 2) (v := .int n0_ways) (C := RX2) (T := TX2) (N := 13) hx hb hts (fun _ h => List.mem_cons_of_mem _ (List.mem_append_right _ h)) hown hK hP 0 rfl rfl 12 (by decide) (hts (.fieldLink RX2 70 "KinkStreet$Deeds" "ways" "I") (List.mem_of_getElem? (i := 2) rfl)) (fun _ h9 => h9) rfl dX2_countWays_17 ?_
    refine lv_if_ne (tgt := 47) hx hb dX2_countWays_20 (by decide) (fun c_3 => ?_) (fun c_3 => ?_)
    · have t_3 : n0_ways.toInt ≠ 0 := kk_ne c_3
      refine lv_aload_n hx hb dX2_countWays_47 rfl (lv_at hl 1 rfl) ?_
      refine lv_ldc hx hb hown (hts _ (List.mem_of_getElem? (i := 9) rfl)) dX2_countWays_48 ?_
      refine lv_aload_n hx hb dX2_countWays_50 rfl (lv_at hl 1 rfl) ?_
      refine va_get (D := (dC, dI)) (ci := 2) (v := .int n0_ways) (C := RX2) (T := TX2) (N := 13) hx hb hts (fun _ h => List.mem_cons_of_mem _ (List.mem_append_right _ h)) hown hK hP 0 rfl rfl 12 (by decide) (hts (.fieldLink RX2 70 "KinkStreet$Deeds" "ways" "I") (List.mem_of_getElem? (i := 2) rfl)) (fun _ h9 => h9) rfl dX2_countWays_51 ?_
      refine lv_lload_n hx hb dX2_countWays_54 rfl (lv_at hl 0 rfl) ?_
      obtain ⟨hPc, hDc, hFc⟩ := kk_cutout (wc := []) hP hD hS hA [] (by decide) rfl
      have hKc := hK.sub (tys' := []) [] rfl
      refine va_calli (va_runS (As := [.long y_2]) (rest := [.int n0_ways, .int 1000000, .ref h0]) ⟨hx, hb, hml, hown, hts⟩ (g_J13_bitCount_95d88_0 l dC dI s.heap.size y_2 (y_2.toInt) rfl) (va_cwS 1 hts gX2_countWays_J13_bitCount_95d88 rfl rfl rfl (by decide +kernel) ⟨Nat.le_of_ble_eq_true rfl, Nat.le_of_ble_eq_true rfl⟩) ⟨fun a U g mk q => by obtain ⟨q0, q1, qP, qK, qD⟩ := q; exact ⟨q0, q1, qP, va_K.moved (u := U) (U := U.calling g mk a) (Vm.Alike.refl U.vm) qK, qD⟩, fun U hU hW => ⟨rfl, by rw [hU], by rw [hU]; exact hPc, va_K.moved hW.alike hKc, hDc.weaken (fun _ _ _ _ => trivial)⟩⟩ rfl rfl hl.1 rfl (lv_room (Nat.le_of_ble_eq_true rfl)) dX2_countWays_55 ⟨Nat.le_of_ble_eq_true rfl, Nat.le_of_ble_eq_true rfl⟩) hS (fun q _ h => hFc q h) hFc (fun r_4 u t H1 locs ht hvm hw hB hz1 hk1 hS => ?_)
      obtain ⟨hP1, hK1, hD1⟩ := hB
      rw [ht] at hP1
      have hK1 := va_K.moved hvm.symm hK1
      obtain ⟨hP, hD⟩ := va_joinQ (cx := []) (wr := [(h0, Sum.inr (2, [Value.ref h7, Value.ref h8, Value.ref h9, Value.int n0_size, Value.ref h10, Value.int n0_names, Value.int n0_plots, Value.ref h11, Value.ref h1, Value.ref h2, Value.ref h3, Value.ref h4, Value.int n0_ways])), (h1, Sum.inl (cAlong, 25, Sum.inr (Sum.inr (Sum.inr (Sum.inr (fun j => some (h5 j))))))), (h2, Sum.inl (cAlong, 5, Sum.inr (Sum.inr (Sum.inr (Sum.inr (fun j => some (h6 j))))))), (h3, Sum.inl (cint, 5, Sum.inl f3)), (h4, Sum.inl (cint, 5, Sum.inl f4))]) (w1 := []) hP hD [] [0, 1, 2, 3, 4] rfl rfl (by decide) (by decide) hk1 hFc hP1 hD1
      generalize H1 = H at hP hS ⊢
      have hP : va_P (dC, dI) vwCl (([(h0, Sum.inr (2, [Value.ref h7, Value.ref h8, Value.ref h9, Value.int n0_size, Value.ref h10, Value.int n0_names, Value.int n0_plots, Value.ref h11, Value.ref h1, Value.ref h2, Value.ref h3, Value.ref h4, Value.int n0_ways])), (h1, Sum.inl (cAlong, 25, Sum.inr (Sum.inr (Sum.inr (Sum.inr (fun j => some (h5 j))))))), (h2, Sum.inl (cAlong, 5, Sum.inr (Sum.inr (Sum.inr (Sum.inr (fun j => some (h6 j))))))), (h3, Sum.inl (cint, 5, Sum.inl f3)), (h4, Sum.inl (cint, 5, Sum.inl f4))] : va_W) ++ (kk_rowsL h5 clong 40 F5 25 ++ (kk_rowsL h6 clong 5 F6 5))) H := hP
      have hD : va_D A (([(h0, Sum.inr (2, [Value.ref h7, Value.ref h8, Value.ref h9, Value.int n0_size, Value.ref h10, Value.int n0_names, Value.int n0_plots, Value.ref h11, Value.ref h1, Value.ref h2, Value.ref h3, Value.ref h4, Value.int n0_ways])), (h1, Sum.inl (cAlong, 25, Sum.inr (Sum.inr (Sum.inr (Sum.inr (fun j => some (h5 j))))))), (h2, Sum.inl (cAlong, 5, Sum.inr (Sum.inr (Sum.inr (Sum.inr (fun j => some (h6 j))))))), (h3, Sum.inl (cint, 5, Sum.inl f3)), (h4, Sum.inl (cint, 5, Sum.inl f4))] : va_W) ++ (kk_rowsL h5 clong 40 F5 25 ++ (kk_rowsL h6 clong 5 F6 5))) := hD
      refine lv_iadd hx hb dX2_countWays_58 ?_
      refine va_mmin hx hb (hml.trans hl.1.symm) hown (hts (.methodLink RX2 61 Lib.Math.min.name) (List.mem_of_getElem? (i := 10) rfl)) (hts (.static Lib.Math.min.name) (List.mem_of_getElem? (i := 11) rfl)) (hts (.initialized "java/lang/Math") (List.mem_of_getElem? (i := 12) rfl)) (hts (.code Lib.Math.min.name Lib.Math.min.code 2 (some .int)) (List.mem_of_getElem? (i := 13) rfl)) (Nat.le_of_ble_eq_true rfl) (Nat.le_of_ble_eq_true rfl) (Nat.le_of_ble_eq_true rfl) (Nat.le_of_ble_eq_true rfl) dX2_countWays_59 ?_
      refine lv_topi (fun y_5 e_5 => ?_)
      have t_5 : y_5.toInt ≤ 1000000 ∧ y_5.toInt ≤ (n0_ways + r_4).toInt ∧ (y_5.toInt = 1000000 ∨ y_5.toInt = (n0_ways + r_4).toInt) := by rw [e_5]; exact kk_min _ _
      clear e_5
      refine va_put (D := (dC, dI)) (ci := 2) (v := .int y_5) (ty := .int) (C := RX2) (T := TX2) (N := 13) hx hb hts (fun _ h => List.mem_cons_of_mem _ (List.mem_append_right _ h)) tyX2 tyX2_ok nmX2 hown hK hP hD hS 0 rfl rfl 12 (by decide) (hts (.fieldLink RX2 70 "KinkStreet$Deeds" "ways" "I") (List.mem_of_getElem? (i := 2) rfl)) (fun _ h9 => h9) rfl (by decide +kernel) rfl rfl (Nat.le_of_ble_eq_true rfl) dX2_countWays_62 (fun H locs hP hD hS => ?_)
      have hP : va_P (dC, dI) vwCl (([(h0, Sum.inr (2, [Value.ref h7, Value.ref h8, Value.ref h9, Value.int n0_size, Value.ref h10, Value.int n0_names, Value.int n0_plots, Value.ref h11, Value.ref h1, Value.ref h2, Value.ref h3, Value.ref h4, Value.int y_5])), (h1, Sum.inl (cAlong, 25, Sum.inr (Sum.inr (Sum.inr (Sum.inr (fun j => some (h5 j))))))), (h2, Sum.inl (cAlong, 5, Sum.inr (Sum.inr (Sum.inr (Sum.inr (fun j => some (h6 j))))))), (h3, Sum.inl (cint, 5, Sum.inl f3)), (h4, Sum.inl (cint, 5, Sum.inl f4))] : va_W) ++ (kk_rowsL h5 clong 40 F5 25 ++ (kk_rowsL h6 clong 5 F6 5))) H := hP
      have hD : va_D A (([(h0, Sum.inr (2, [Value.ref h7, Value.ref h8, Value.ref h9, Value.int n0_size, Value.ref h10, Value.int n0_names, Value.int n0_plots, Value.ref h11, Value.ref h1, Value.ref h2, Value.ref h3, Value.ref h4, Value.int y_5])), (h1, Sum.inl (cAlong, 25, Sum.inr (Sum.inr (Sum.inr (Sum.inr (fun j => some (h5 j))))))), (h2, Sum.inl (cAlong, 5, Sum.inr (Sum.inr (Sum.inr (Sum.inr (fun j => some (h6 j))))))), (h3, Sum.inl (cint, 5, Sum.inl f3)), (h4, Sum.inl (cint, 5, Sum.inl f4))] : va_W) ++ (kk_rowsL h5 clong 40 F5 25 ++ (kk_rowsL h6 clong 5 F6 5))) := hD
      have hP9 := hP.part (cx := [(h0, Sum.inr (2, [Value.ref h7, Value.ref h8, Value.ref h9, Value.int n0_size, Value.ref h10, Value.int n0_names, Value.int n0_plots, Value.ref h11, Value.ref h1, Value.ref h2, Value.ref h3, Value.ref h4, Value.int y_5])), (h1, Sum.inl (cAlong, 25, Sum.inr (Sum.inr (Sum.inr (Sum.inr (fun j => some (h5 j))))))), (h2, Sum.inl (cAlong, 5, Sum.inr (Sum.inr (Sum.inr (Sum.inr (fun j => some (h6 j))))))), (h3, Sum.inl (cint, 5, Sum.inl f3)), (h4, Sum.inl (cint, 5, Sum.inl f4))]) [0, 1, 2, 3, 4] rfl
      have hD9 := hD.part (cx := [(h0, Sum.inr (2, [Value.ref h7, Value.ref h8, Value.ref h9, Value.int n0_size, Value.ref h10, Value.int n0_names, Value.int n0_plots, Value.ref h11, Value.ref h1, Value.ref h2, Value.ref h3, Value.ref h4, Value.int y_5])), (h1, Sum.inl (cAlong, 25, Sum.inr (Sum.inr (Sum.inr (Sum.inr (fun j => some (h5 j))))))), (h2, Sum.inl (cAlong, 5, Sum.inr (Sum.inr (Sum.inr (Sum.inr (fun j => some (h6 j))))))), (h3, Sum.inl (cint, 5, Sum.inl f3)), (h4, Sum.inl (cint, 5, Sum.inl f4))]) [0, 1, 2, 3, 4] (by decide) rfl
      have hK9 := hK.sub (tys' := []) [] rfl
      exact W.vret hx hb hr (fun t ht hW => ⟨⟨(), rfl, trivial, y_5, f3, f4, by rw [ht]; exact hP9, va_K.moved hW.alike hK9, hD9⟩, hS.F ht⟩) hS.2.2 dX2_countWays_65
    · have t_3 : n0_ways.toInt = 0 := kk_eq c_3
      refine lv_aload_n hx hb dX2_countWays_23 rfl (lv_at hl 1 rfl) ?_
      refine va_get (D := (dC, dI)) (ci := 2) (v := .ref h3) (C := RX2) (T := TX2) (N := 13) hx hb hts (fun _ h => List.mem_cons_of_mem _ (List.mem_append_right _ h)) hown hK hP 0 rfl rfl 10 (by decide) (hts (.fieldLink RX2 35 "KinkStreet$Deeds" "tried" "[I") (List.mem_of_getElem? (i := 3) rfl)) (fun _ h9 => h9) rfl dX2_countWays_24 ?_
      refine lv_iload_n hx hb dX2_countWays_27 rfl (lv_at hl 2 rfl) ?_
      refine lv_lload_n hx hb dX2_countWays_28 rfl (lv_at hl 0 rfl) ?_
      obtain ⟨hPc, hDc, hFc⟩ := kk_cutout (wc := []) hP hD hS hA [] (by decide) rfl
      have hKc := hK.sub (tys' := []) [] rfl
      refine va_calli (va_runS (As := [.long y_2]) (rest := [.int 3, .ref h3]) ⟨hx, hb, hml, hown, hts⟩ (g_J13_numberOfTrailingZeros_95d88_0 l dC dI s.heap.size y_2 (y_2.toInt) rfl) (va_cwS 1 hts gX2_countWays_J13_numberOfTrailingZeros_95d88 rfl rfl rfl (by decide +kernel) ⟨Nat.le_of_ble_eq_true rfl, Nat.le_of_ble_eq_true rfl⟩) ⟨fun a U g mk q => by obtain ⟨q0, q1, qP, qK, qD⟩ := q; exact ⟨q0, q1, qP, va_K.moved (u := U) (U := U.calling g mk a) (Vm.Alike.refl U.vm) qK, qD⟩, fun U hU hW => ⟨rfl, by rw [hU], by rw [hU]; exact hPc, va_K.moved hW.alike hKc, hDc.weaken (fun _ _ _ _ => trivial)⟩⟩ rfl rfl hl.1 rfl (lv_room (Nat.le_of_ble_eq_true rfl)) dX2_countWays_29 ⟨Nat.le_of_ble_eq_true rfl, Nat.le_of_ble_eq_true rfl⟩) hS (fun q _ h => hFc q h) hFc (fun r_6 u t H1 locs ht hvm hw hB hz1 hk1 hS => ?_)
      obtain ⟨hP1, hK1, hD1⟩ := hB
      rw [ht] at hP1
      have hK1 := va_K.moved hvm.symm hK1
      obtain ⟨hP, hD⟩ := va_joinQ (cx := []) (wr := [(h0, Sum.inr (2, [Value.ref h7, Value.ref h8, Value.ref h9, Value.int n0_size, Value.ref h10, Value.int n0_names, Value.int n0_plots, Value.ref h11, Value.ref h1, Value.ref h2, Value.ref h3, Value.ref h4, Value.int n0_ways])), (h1, Sum.inl (cAlong, 25, Sum.inr (Sum.inr (Sum.inr (Sum.inr (fun j => some (h5 j))))))), (h2, Sum.inl (cAlong, 5, Sum.inr (Sum.inr (Sum.inr (Sum.inr (fun j => some (h6 j))))))), (h3, Sum.inl (cint, 5, Sum.inl f3)), (h4, Sum.inl (cint, 5, Sum.inl f4))]) (w1 := []) hP hD [] [0, 1, 2, 3, 4] rfl rfl (by decide) (by decide) hk1 hFc hP1 hD1
      generalize H1 = H at hP hS ⊢
      have hP : va_P (dC, dI) vwCl (([(h0, Sum.inr (2, [Value.ref h7, Value.ref h8, Value.ref h9, Value.int n0_size, Value.ref h10, Value.int n0_names, Value.int n0_plots, Value.ref h11, Value.ref h1, Value.ref h2, Value.ref h3, Value.ref h4, Value.int n0_ways])), (h1, Sum.inl (cAlong, 25, Sum.inr (Sum.inr (Sum.inr (Sum.inr (fun j => some (h5 j))))))), (h2, Sum.inl (cAlong, 5, Sum.inr (Sum.inr (Sum.inr (Sum.inr (fun j => some (h6 j))))))), (h3, Sum.inl (cint, 5, Sum.inl f3)), (h4, Sum.inl (cint, 5, Sum.inl f4))] : va_W) ++ (kk_rowsL h5 clong 40 F5 25 ++ (kk_rowsL h6 clong 5 F6 5))) H := hP
      have hD : va_D A (([(h0, Sum.inr (2, [Value.ref h7, Value.ref h8, Value.ref h9, Value.int n0_size, Value.ref h10, Value.int n0_names, Value.int n0_plots, Value.ref h11, Value.ref h1, Value.ref h2, Value.ref h3, Value.ref h4, Value.int n0_ways])), (h1, Sum.inl (cAlong, 25, Sum.inr (Sum.inr (Sum.inr (Sum.inr (fun j => some (h5 j))))))), (h2, Sum.inl (cAlong, 5, Sum.inr (Sum.inr (Sum.inr (Sum.inr (fun j => some (h6 j))))))), (h3, Sum.inl (cint, 5, Sum.inl f3)), (h4, Sum.inl (cint, 5, Sum.inl f4))] : va_W) ++ (kk_rowsL h5 clong 40 F5 25 ++ (kk_rowsL h6 clong 5 F6 5))) := hD
      refine va_iast hx hb hK hP hD hS 3 1 rfl rfl (by unfold vp_in; decide) dX2_countWays_32 (fun H locs hP hD hS => ?_)
      generalize upd f3 (3 : Int32).toNatClampNeg r_6 = f_7 at hP hD
      have hP : va_P (dC, dI) vwCl (([(h0, Sum.inr (2, [Value.ref h7, Value.ref h8, Value.ref h9, Value.int n0_size, Value.ref h10, Value.int n0_names, Value.int n0_plots, Value.ref h11, Value.ref h1, Value.ref h2, Value.ref h3, Value.ref h4, Value.int n0_ways])), (h1, Sum.inl (cAlong, 25, Sum.inr (Sum.inr (Sum.inr (Sum.inr (fun j => some (h5 j))))))), (h2, Sum.inl (cAlong, 5, Sum.inr (Sum.inr (Sum.inr (Sum.inr (fun j => some (h6 j))))))), (h3, Sum.inl (cint, 5, Sum.inl f_7)), (h4, Sum.inl (cint, 5, Sum.inl f4))] : va_W) ++ (kk_rowsL h5 clong 40 F5 25 ++ (kk_rowsL h6 clong 5 F6 5))) H := hP
      have hD : va_D A (([(h0, Sum.inr (2, [Value.ref h7, Value.ref h8, Value.ref h9, Value.int n0_size, Value.ref h10, Value.int n0_names, Value.int n0_plots, Value.ref h11, Value.ref h1, Value.ref h2, Value.ref h3, Value.ref h4, Value.int n0_ways])), (h1, Sum.inl (cAlong, 25, Sum.inr (Sum.inr (Sum.inr (Sum.inr (fun j => some (h5 j))))))), (h2, Sum.inl (cAlong, 5, Sum.inr (Sum.inr (Sum.inr (Sum.inr (fun j => some (h6 j))))))), (h3, Sum.inl (cint, 5, Sum.inl f_7)), (h4, Sum.inl (cint, 5, Sum.inl f4))] : va_W) ++ (kk_rowsL h5 clong 40 F5 25 ++ (kk_rowsL h6 clong 5 F6 5))) := hD
      refine lv_aload_n hx hb dX2_countWays_33 rfl (lv_at hl 1 rfl) ?_
      refine va_get (D := (dC, dI)) (ci := 2) (v := .ref h3) (C := RX2) (T := TX2) (N := 13) hx hb hts (fun _ h => List.mem_cons_of_mem _ (List.mem_append_right _ h)) hown hK hP 0 rfl rfl 10 (by decide) (hts (.fieldLink RX2 35 "KinkStreet$Deeds" "tried" "[I") (List.mem_of_getElem? (i := 3) rfl)) (fun _ h9 => h9) rfl dX2_countWays_34 ?_
      refine lv_iconst (v := 0) hx hb dX2_countWays_37 (by decide) ?_
      refine lv_aload_n hx hb dX2_countWays_38 rfl (lv_at hl 1 rfl) ?_
      refine va_get (D := (dC, dI)) (ci := 2) (v := .ref h4) (C := RX2) (T := TX2) (N := 13) hx hb hts (fun _ h => List.mem_cons_of_mem _ (List.mem_append_right _ h)) hown hK hP 0 rfl rfl 11 (by decide) (hts (.fieldLink RX2 38 "KinkStreet$Deeds" "found" "[I") (List.mem_of_getElem? (i := 4) rfl)) (fun _ h9 => h9) rfl dX2_countWays_39 ?_
      refine lv_iconst (v := 0) hx hb dX2_countWays_42 (by decide) ?_
      refine lv_iconst (v := 5) hx hb dX2_countWays_43 (by decide) ?_
      refine va_copyi (sp := 0) (dp := 0) (n := 5) hx hb (hml.trans hl.1.symm) hown (hts (.methodLink RX2 118 arraycopyName) (List.mem_of_getElem? (i := 5) rfl)) (hts (.native arraycopyName) (List.mem_of_getElem? (i := 6) rfl)) (hts (.static arraycopyName) (List.mem_of_getElem? (i := 7) rfl)) (hts (.initialized "java/lang/System") (List.mem_of_getElem? (i := 8) rfl)) hK hP hD hS 3 4 1 1 rfl rfl rfl rfl rfl (by decide) (by decide) (by decide) (by decide) (by decide) (fun _ _ => rfl) (Nat.le_of_ble_eq_true rfl) (Nat.le_of_ble_eq_true rfl) dX2_countWays_44 (fun H locs hP hD hS => ?_)
      generalize va_cpy f_7 f4 (0 : Int32).toNatClampNeg (0 : Int32).toNatClampNeg (5 : Int32).toNatClampNeg = f_8 at hP hD
      have hP : va_P (dC, dI) vwCl (([(h0, Sum.inr (2, [Value.ref h7, Value.ref h8, Value.ref h9, Value.int n0_size, Value.ref h10, Value.int n0_names, Value.int n0_plots, Value.ref h11, Value.ref h1, Value.ref h2, Value.ref h3, Value.ref h4, Value.int n0_ways])), (h1, Sum.inl (cAlong, 25, Sum.inr (Sum.inr (Sum.inr (Sum.inr (fun j => some (h5 j))))))), (h2, Sum.inl (cAlong, 5, Sum.inr (Sum.inr (Sum.inr (Sum.inr (fun j => some (h6 j))))))), (h3, Sum.inl (cint, 5, Sum.inl f_7)), (h4, Sum.inl (cint, 5, Sum.inl f_8))] : va_W) ++ (kk_rowsL h5 clong 40 F5 25 ++ (kk_rowsL h6 clong 5 F6 5))) H := hP
      have hD : va_D A (([(h0, Sum.inr (2, [Value.ref h7, Value.ref h8, Value.ref h9, Value.int n0_size, Value.ref h10, Value.int n0_names, Value.int n0_plots, Value.ref h11, Value.ref h1, Value.ref h2, Value.ref h3, Value.ref h4, Value.int n0_ways])), (h1, Sum.inl (cAlong, 25, Sum.inr (Sum.inr (Sum.inr (Sum.inr (fun j => some (h5 j))))))), (h2, Sum.inl (cAlong, 5, Sum.inr (Sum.inr (Sum.inr (Sum.inr (fun j => some (h6 j))))))), (h3, Sum.inl (cint, 5, Sum.inl f_7)), (h4, Sum.inl (cint, 5, Sum.inl f_8))] : va_W) ++ (kk_rowsL h5 clong 40 F5 25 ++ (kk_rowsL h6 clong 5 F6 5))) := hD
      refine lv_aload_n hx hb dX2_countWays_47 rfl (lv_at hl 1 rfl) ?_
      refine lv_ldc hx hb hown (hts _ (List.mem_of_getElem? (i := 9) rfl)) dX2_countWays_48 ?_
      refine lv_aload_n hx hb dX2_countWays_50 rfl (lv_at hl 1 rfl) ?_
      refine va_get (D := (dC, dI)) (ci := 2) (v := .int n0_ways) (C := RX2) (T := TX2) (N := 13) hx hb hts (fun _ h => List.mem_cons_of_mem _ (List.mem_append_right _ h)) hown hK hP 0 rfl rfl 12 (by decide) (hts (.fieldLink RX2 70 "KinkStreet$Deeds" "ways" "I") (List.mem_of_getElem? (i := 2) rfl)) (fun _ h9 => h9) rfl dX2_countWays_51 ?_
      refine lv_lload_n hx hb dX2_countWays_54 rfl (lv_at hl 0 rfl) ?_
      obtain ⟨hPc, hDc, hFc⟩ := kk_cutout (wc := []) hP hD hS hA [] (by decide) rfl
      have hKc := hK.sub (tys' := []) [] rfl
      refine va_calli (va_runS (As := [.long y_2]) (rest := [.int n0_ways, .int 1000000, .ref h0]) ⟨hx, hb, hml, hown, hts⟩ (g_J13_bitCount_95d88_0 l dC dI H.size y_2 (y_2.toInt) rfl) (va_cwS 1 hts gX2_countWays_J13_bitCount_95d88 rfl rfl rfl (by decide +kernel) ⟨Nat.le_of_ble_eq_true rfl, Nat.le_of_ble_eq_true rfl⟩) ⟨fun a U g mk q => by obtain ⟨q0, q1, qP, qK, qD⟩ := q; exact ⟨q0, q1, qP, va_K.moved (u := U) (U := U.calling g mk a) (Vm.Alike.refl U.vm) qK, qD⟩, fun U hU hW => ⟨rfl, by rw [hU], by rw [hU]; exact hPc, va_K.moved hW.alike hKc, hDc.weaken (fun _ _ _ _ => trivial)⟩⟩ rfl rfl hl.1 rfl (lv_room (Nat.le_of_ble_eq_true rfl)) dX2_countWays_55 ⟨Nat.le_of_ble_eq_true rfl, Nat.le_of_ble_eq_true rfl⟩) hS (fun q _ h => hFc q h) hFc (fun r_9 u t H1 locs ht hvm hw hB hz1 hk1 hS => ?_)
      obtain ⟨hP1, hK1, hD1⟩ := hB
      rw [ht] at hP1
      have hK1 := va_K.moved hvm.symm hK1
      obtain ⟨hP, hD⟩ := va_joinQ (cx := []) (wr := [(h0, Sum.inr (2, [Value.ref h7, Value.ref h8, Value.ref h9, Value.int n0_size, Value.ref h10, Value.int n0_names, Value.int n0_plots, Value.ref h11, Value.ref h1, Value.ref h2, Value.ref h3, Value.ref h4, Value.int n0_ways])), (h1, Sum.inl (cAlong, 25, Sum.inr (Sum.inr (Sum.inr (Sum.inr (fun j => some (h5 j))))))), (h2, Sum.inl (cAlong, 5, Sum.inr (Sum.inr (Sum.inr (Sum.inr (fun j => some (h6 j))))))), (h3, Sum.inl (cint, 5, Sum.inl f_7)), (h4, Sum.inl (cint, 5, Sum.inl f_8))]) (w1 := []) hP hD [] [0, 1, 2, 3, 4] rfl rfl (by decide) (by decide) hk1 hFc hP1 hD1
      generalize H1 = H at hP hS ⊢
      have hP : va_P (dC, dI) vwCl (([(h0, Sum.inr (2, [Value.ref h7, Value.ref h8, Value.ref h9, Value.int n0_size, Value.ref h10, Value.int n0_names, Value.int n0_plots, Value.ref h11, Value.ref h1, Value.ref h2, Value.ref h3, Value.ref h4, Value.int n0_ways])), (h1, Sum.inl (cAlong, 25, Sum.inr (Sum.inr (Sum.inr (Sum.inr (fun j => some (h5 j))))))), (h2, Sum.inl (cAlong, 5, Sum.inr (Sum.inr (Sum.inr (Sum.inr (fun j => some (h6 j))))))), (h3, Sum.inl (cint, 5, Sum.inl f_7)), (h4, Sum.inl (cint, 5, Sum.inl f_8))] : va_W) ++ (kk_rowsL h5 clong 40 F5 25 ++ (kk_rowsL h6 clong 5 F6 5))) H := hP
      have hD : va_D A (([(h0, Sum.inr (2, [Value.ref h7, Value.ref h8, Value.ref h9, Value.int n0_size, Value.ref h10, Value.int n0_names, Value.int n0_plots, Value.ref h11, Value.ref h1, Value.ref h2, Value.ref h3, Value.ref h4, Value.int n0_ways])), (h1, Sum.inl (cAlong, 25, Sum.inr (Sum.inr (Sum.inr (Sum.inr (fun j => some (h5 j))))))), (h2, Sum.inl (cAlong, 5, Sum.inr (Sum.inr (Sum.inr (Sum.inr (fun j => some (h6 j))))))), (h3, Sum.inl (cint, 5, Sum.inl f_7)), (h4, Sum.inl (cint, 5, Sum.inl f_8))] : va_W) ++ (kk_rowsL h5 clong 40 F5 25 ++ (kk_rowsL h6 clong 5 F6 5))) := hD
      refine lv_iadd hx hb dX2_countWays_58 ?_
      refine va_mmin hx hb (hml.trans hl.1.symm) hown (hts (.methodLink RX2 61 Lib.Math.min.name) (List.mem_of_getElem? (i := 10) rfl)) (hts (.static Lib.Math.min.name) (List.mem_of_getElem? (i := 11) rfl)) (hts (.initialized "java/lang/Math") (List.mem_of_getElem? (i := 12) rfl)) (hts (.code Lib.Math.min.name Lib.Math.min.code 2 (some .int)) (List.mem_of_getElem? (i := 13) rfl)) (Nat.le_of_ble_eq_true rfl) (Nat.le_of_ble_eq_true rfl) (Nat.le_of_ble_eq_true rfl) (Nat.le_of_ble_eq_true rfl) dX2_countWays_59 ?_
      refine lv_topi (fun y_10 e_10 => ?_)
      have t_10 : y_10.toInt ≤ 1000000 ∧ y_10.toInt ≤ (n0_ways + r_9).toInt ∧ (y_10.toInt = 1000000 ∨ y_10.toInt = (n0_ways + r_9).toInt) := by rw [e_10]; exact kk_min _ _
      clear e_10
      refine va_put (D := (dC, dI)) (ci := 2) (v := .int y_10) (ty := .int) (C := RX2) (T := TX2) (N := 13) hx hb hts (fun _ h => List.mem_cons_of_mem _ (List.mem_append_right _ h)) tyX2 tyX2_ok nmX2 hown hK hP hD hS 0 rfl rfl 12 (by decide) (hts (.fieldLink RX2 70 "KinkStreet$Deeds" "ways" "I") (List.mem_of_getElem? (i := 2) rfl)) (fun _ h9 => h9) rfl (by decide +kernel) rfl rfl (Nat.le_of_ble_eq_true rfl) dX2_countWays_62 (fun H locs hP hD hS => ?_)
      have hP : va_P (dC, dI) vwCl (([(h0, Sum.inr (2, [Value.ref h7, Value.ref h8, Value.ref h9, Value.int n0_size, Value.ref h10, Value.int n0_names, Value.int n0_plots, Value.ref h11, Value.ref h1, Value.ref h2, Value.ref h3, Value.ref h4, Value.int y_10])), (h1, Sum.inl (cAlong, 25, Sum.inr (Sum.inr (Sum.inr (Sum.inr (fun j => some (h5 j))))))), (h2, Sum.inl (cAlong, 5, Sum.inr (Sum.inr (Sum.inr (Sum.inr (fun j => some (h6 j))))))), (h3, Sum.inl (cint, 5, Sum.inl f_7)), (h4, Sum.inl (cint, 5, Sum.inl f_8))] : va_W) ++ (kk_rowsL h5 clong 40 F5 25 ++ (kk_rowsL h6 clong 5 F6 5))) H := hP
      have hD : va_D A (([(h0, Sum.inr (2, [Value.ref h7, Value.ref h8, Value.ref h9, Value.int n0_size, Value.ref h10, Value.int n0_names, Value.int n0_plots, Value.ref h11, Value.ref h1, Value.ref h2, Value.ref h3, Value.ref h4, Value.int y_10])), (h1, Sum.inl (cAlong, 25, Sum.inr (Sum.inr (Sum.inr (Sum.inr (fun j => some (h5 j))))))), (h2, Sum.inl (cAlong, 5, Sum.inr (Sum.inr (Sum.inr (Sum.inr (fun j => some (h6 j))))))), (h3, Sum.inl (cint, 5, Sum.inl f_7)), (h4, Sum.inl (cint, 5, Sum.inl f_8))] : va_W) ++ (kk_rowsL h5 clong 40 F5 25 ++ (kk_rowsL h6 clong 5 F6 5))) := hD
      have hP9 := hP.part (cx := [(h0, Sum.inr (2, [Value.ref h7, Value.ref h8, Value.ref h9, Value.int n0_size, Value.ref h10, Value.int n0_names, Value.int n0_plots, Value.ref h11, Value.ref h1, Value.ref h2, Value.ref h3, Value.ref h4, Value.int y_10])), (h1, Sum.inl (cAlong, 25, Sum.inr (Sum.inr (Sum.inr (Sum.inr (fun j => some (h5 j))))))), (h2, Sum.inl (cAlong, 5, Sum.inr (Sum.inr (Sum.inr (Sum.inr (fun j => some (h6 j))))))), (h3, Sum.inl (cint, 5, Sum.inl f_7)), (h4, Sum.inl (cint, 5, Sum.inl f_8))]) [0, 1, 2, 3, 4] rfl
      have hD9 := hD.part (cx := [(h0, Sum.inr (2, [Value.ref h7, Value.ref h8, Value.ref h9, Value.int n0_size, Value.ref h10, Value.int n0_names, Value.int n0_plots, Value.ref h11, Value.ref h1, Value.ref h2, Value.ref h3, Value.ref h4, Value.int y_10])), (h1, Sum.inl (cAlong, 25, Sum.inr (Sum.inr (Sum.inr (Sum.inr (fun j => some (h5 j))))))), (h2, Sum.inl (cAlong, 5, Sum.inr (Sum.inr (Sum.inr (Sum.inr (fun j => some (h6 j))))))), (h3, Sum.inl (cint, 5, Sum.inl f_7)), (h4, Sum.inl (cint, 5, Sum.inl f_8))]) [0, 1, 2, 3, 4] (by decide) rfl
      have hK9 := hK.sub (tys' := []) [] rfl
      exact W.vret hx hb hr (fun t ht hW => ⟨⟨(), rfl, trivial, y_10, f_7, f_8, by rw [ht]; exact hP9, va_K.moved hW.alike hK9, hD9⟩, hS.F ht⟩) hS.2.2 dX2_countWays_65
  · skip
    have hP9 := hP.part (cx := [(h0, Sum.inr (2, [Value.ref h7, Value.ref h8, Value.ref h9, Value.int n0_size, Value.ref h10, Value.int n0_names, Value.int n0_plots, Value.ref h11, Value.ref h1, Value.ref h2, Value.ref h3, Value.ref h4, Value.int n0_ways])), (h1, Sum.inl (cAlong, 25, Sum.inr (Sum.inr (Sum.inr (Sum.inr (fun j => some (h5 j))))))), (h2, Sum.inl (cAlong, 5, Sum.inr (Sum.inr (Sum.inr (Sum.inr (fun j => some (h6 j))))))), (h3, Sum.inl (cint, 5, Sum.inl f3)), (h4, Sum.inl (cint, 5, Sum.inl f4))]) [0, 1, 2, 3, 4] rfl
    have hD9 := hD.part (cx := [(h0, Sum.inr (2, [Value.ref h7, Value.ref h8, Value.ref h9, Value.int n0_size, Value.ref h10, Value.int n0_names, Value.int n0_plots, Value.ref h11, Value.ref h1, Value.ref h2, Value.ref h3, Value.ref h4, Value.int n0_ways])), (h1, Sum.inl (cAlong, 25, Sum.inr (Sum.inr (Sum.inr (Sum.inr (fun j => some (h5 j))))))), (h2, Sum.inl (cAlong, 5, Sum.inr (Sum.inr (Sum.inr (Sum.inr (fun j => some (h6 j))))))), (h3, Sum.inl (cint, 5, Sum.inl f3)), (h4, Sum.inl (cint, 5, Sum.inl f4))]) [0, 1, 2, 3, 4] (by decide) rfl
    have hK9 := hK.sub (tys' := []) [] rfl
    exact W.vret hx hb hr (fun t ht hW => ⟨⟨(), rfl, trivial, n0_ways, f3, f4, by rw [ht]; exact hP9, va_K.moved hW.alike hK9, hD9⟩, hS.F ht⟩) hS.2.2 dX2_countWays_15
set_option maxHeartbeats 4000000 in
set_option maxRecDepth 100000 in
theorem g_X2_search_1 (l : Launch) (dC : Nat → ClassId) (dI : Nat → Nat → Nat) (h0 : Nat) (h1 : Nat) (h2 : Nat) (h3 : Nat) (h4 : Nat) (h5 : Nat → Nat) (h6 : Nat → Nat) (h7 : Nat) (h8 : Nat) (h9 : Nat) (h10 : Nat) (h11 : Nat) (cAlong cint clong : ClassId) (sz : Nat) (n0_size : Int32) (n0_names : Int32) (n0_plots : Int32) (n0_ways : Int32) (f3 : Nat → Int32) (f4 : Nat → Int32) (F5 : Nat → Nat → Int64) (F6 : Nat → Nat → Int64) (tn0_size : 0 ≤ n0_size.toInt ∧ n0_size.toInt ≤ 10) (tn0_names : 1 ≤ n0_names.toInt ∧ n0_names.toInt ≤ 5) (tn0_plots : 0 ≤ n0_plots.toInt ∧ n0_plots.toInt ≤ 40) : Met l yX2_search wsX2_search ({ frames := 4, cells := 0, slots := 0, locals := 93 }) (va_Pc [.ref h0, .int 3] (fun U => U.heap.size = sz ∧ va_P (dC, dI) vwCl (([(h0, Sum.inr (2, [Value.ref h7, Value.ref h8, Value.ref h9, Value.int n0_size, Value.ref h10, Value.int n0_names, Value.int n0_plots, Value.ref h11, Value.ref h1, Value.ref h2, Value.ref h3, Value.ref h4, Value.int n0_ways])), (h1, Sum.inl (cAlong, 25, Sum.inr (Sum.inr (Sum.inr (Sum.inr (fun j => some (h5 j))))))), (h2, Sum.inl (cAlong, 5, Sum.inr (Sum.inr (Sum.inr (Sum.inr (fun j => some (h6 j))))))), (h3, Sum.inl (cint, 5, Sum.inl f3)), (h4, Sum.inl (cint, 5, Sum.inl f4))] : va_W) ++ (kk_rowsL h5 clong 40 F5 25 ++ (kk_rowsL h6 clong 5 F6 5))) U.heap ∧ va_K (dC, dI) vwCl [(cAlong, .array .long), (cint, .int), (clong, .long)] U ∧ va_D (fun _ => True) (([(h0, Sum.inr (2, [Value.ref h7, Value.ref h8, Value.ref h9, Value.int n0_size, Value.ref h10, Value.int n0_names, Value.int n0_plots, Value.ref h11, Value.ref h1, Value.ref h2, Value.ref h3, Value.ref h4, Value.int n0_ways])), (h1, Sum.inl (cAlong, 25, Sum.inr (Sum.inr (Sum.inr (Sum.inr (fun j => some (h5 j))))))), (h2, Sum.inl (cAlong, 5, Sum.inr (Sum.inr (Sum.inr (Sum.inr (fun j => some (h6 j))))))), (h3, Sum.inl (cint, 5, Sum.inl f3)), (h4, Sum.inl (cint, 5, Sum.inl f4))] : va_W) ++ (kk_rowsL h5 clong 40 F5 25 ++ (kk_rowsL h6 clong 5 F6 5))))) (va_Qv (fun (_ : Unit) => True) (fun (_ : Unit) t => ∃ (m0_ways : Int32) (g3 : Nat → Int32) (g4 : Nat → Int32) (g6 : Nat → Nat → Int64), va_P (dC, dI) vwCl (([(h0, Sum.inr (2, [Value.ref h7, Value.ref h8, Value.ref h9, Value.int n0_size, Value.ref h10, Value.int n0_names, Value.int n0_plots, Value.ref h11, Value.ref h1, Value.ref h2, Value.ref h3, Value.ref h4, Value.int m0_ways])), (h1, Sum.inl (cAlong, 25, Sum.inr (Sum.inr (Sum.inr (Sum.inr (fun j => some (h5 j))))))), (h2, Sum.inl (cAlong, 5, Sum.inr (Sum.inr (Sum.inr (Sum.inr (fun j => some (h6 j))))))), (h3, Sum.inl (cint, 5, Sum.inl g3)), (h4, Sum.inl (cint, 5, Sum.inl g4))] : va_W) ++ (kk_rowsL h5 clong 40 F5 25 ++ (kk_rowsL h6 clong 5 g6 5))) t.heap ∧ va_K (dC, dI) vwCl [] t ∧ va_D (va_A (([(h0, Sum.inr (2, [Value.ref h7, Value.ref h8, Value.ref h9, Value.int n0_size, Value.ref h10, Value.int n0_names, Value.int n0_plots, Value.ref h11, Value.ref h1, Value.ref h2, Value.ref h3, Value.ref h4, Value.int n0_ways])), (h1, Sum.inl (cAlong, 25, Sum.inr (Sum.inr (Sum.inr (Sum.inr (fun j => some (h5 j))))))), (h2, Sum.inl (cAlong, 5, Sum.inr (Sum.inr (Sum.inr (Sum.inr (fun j => some (h6 j))))))), (h3, Sum.inl (cint, 5, Sum.inl f3)), (h4, Sum.inl (cint, 5, Sum.inl f4))] : va_W) ++ (kk_rowsL h5 clong 40 F5 25 ++ (kk_rowsL h6 clong 5 F6 5))) sz) (([(h0, Sum.inr (2, [Value.ref h7, Value.ref h8, Value.ref h9, Value.int n0_size, Value.ref h10, Value.int n0_names, Value.int n0_plots, Value.ref h11, Value.ref h1, Value.ref h2, Value.ref h3, Value.ref h4, Value.int m0_ways])), (h1, Sum.inl (cAlong, 25, Sum.inr (Sum.inr (Sum.inr (Sum.inr (fun j => some (h5 j))))))), (h2, Sum.inl (cAlong, 5, Sum.inr (Sum.inr (Sum.inr (Sum.inr (fun j => some (h6 j))))))), (h3, Sum.inl (cint, 5, Sum.inl g3)), (h4, Sum.inl (cint, 5, Sum.inl g4))] : va_W) ++ (kk_rowsL h5 clong 40 F5 25 ++ (kk_rowsL h6 clong 5 g6 5)))) (va_A (([(h0, Sum.inr (2, [Value.ref h7, Value.ref h8, Value.ref h9, Value.int n0_size, Value.ref h10, Value.int n0_names, Value.int n0_plots, Value.ref h11, Value.ref h1, Value.ref h2, Value.ref h3, Value.ref h4, Value.int n0_ways])), (h1, Sum.inl (cAlong, 25, Sum.inr (Sum.inr (Sum.inr (Sum.inr (fun j => some (h5 j))))))), (h2, Sum.inl (cAlong, 5, Sum.inr (Sum.inr (Sum.inr (Sum.inr (fun j => some (h6 j))))))), (h3, Sum.inl (cint, 5, Sum.inl f3)), (h4, Sum.inl (cint, 5, Sum.inl f4))] : va_W) ++ (kk_rowsL h5 clong 40 F5 25 ++ (kk_rowsL h6 clong 5 F6 5))) sz)) 0 0 (va_A (([(h0, Sum.inr (2, [Value.ref h7, Value.ref h8, Value.ref h9, Value.int n0_size, Value.ref h10, Value.int n0_names, Value.int n0_plots, Value.ref h11, Value.ref h1, Value.ref h2, Value.ref h3, Value.ref h4, Value.int n0_ways])), (h1, Sum.inl (cAlong, 25, Sum.inr (Sum.inr (Sum.inr (Sum.inr (fun j => some (h5 j))))))), (h2, Sum.inl (cAlong, 5, Sum.inr (Sum.inr (Sum.inr (Sum.inr (fun j => some (h6 j))))))), (h3, Sum.inl (cint, 5, Sum.inl f3)), (h4, Sum.inl (cint, 5, Sum.inl f4))] : va_W) ++ (kk_rowsL h5 clong 40 F5 25 ++ (kk_rowsL h6 clong 5 F6 5))) sz) := by
  refine Met.ofW (cc := cX2_search) (maxL := 3) (ret := none) (by decide) rfl ?_
  intro p e s m args below meth c s₁ B hml hv
  obtain ⟨rfl, hsz, hP, hK, hD0⟩ := hv
  have hx := B.exec
  have hb := B.bytes
  have hr := B.returns
  have hts := atoms_spec (ws := wsX2_search) B.pre
  have hown : s.vm.findClass RX2 = some m.cls := findClass_of_methodNamed B.named
  have hlocks := B.notSynchronized
  subst hsz
  have hD := hD0.self (sz := s.heap.size)
  generalize hAe : va_A (([(h0, Sum.inr (2, [Value.ref h7, Value.ref h8, Value.ref h9, Value.int n0_size, Value.ref h10, Value.int n0_names, Value.int n0_plots, Value.ref h11, Value.ref h1, Value.ref h2, Value.ref h3, Value.ref h4, Value.int n0_ways])), (h1, Sum.inl (cAlong, 25, Sum.inr (Sum.inr (Sum.inr (Sum.inr (fun j => some (h5 j))))))), (h2, Sum.inl (cAlong, 5, Sum.inr (Sum.inr (Sum.inr (Sum.inr (fun j => some (h6 j))))))), (h3, Sum.inl (cint, 5, Sum.inl f3)), (h4, Sum.inl (cint, 5, Sum.inl f4))] : va_W) ++ (kk_rowsL h5 clong 40 F5 25 ++ (kk_rowsL h6 clong 5 F6 5))) s.heap.size = A at hD ⊢
  have hA : ∀ q : Nat, s.heap.size ≤ q → A q := fun q h => by rw [← hAe]; exact Or.inr h
  have hS : va_S A s.heap s.heap [] := va_S.rf
  have hP : va_P (dC, dI) vwCl (([(h0, Sum.inr (2, [Value.ref h7, Value.ref h8, Value.ref h9, Value.int n0_size, Value.ref h10, Value.int n0_names, Value.int n0_plots, Value.ref h11, Value.ref h1, Value.ref h2, Value.ref h3, Value.ref h4, Value.int n0_ways])), (h1, Sum.inl (cAlong, 25, Sum.inr (Sum.inr (Sum.inr (Sum.inr (fun j => some (h5 j))))))), (h2, Sum.inl (cAlong, 5, Sum.inr (Sum.inr (Sum.inr (Sum.inr (fun j => some (h6 j))))))), (h3, Sum.inl (cint, 5, Sum.inl f3)), (h4, Sum.inl (cint, 5, Sum.inl f4))] : va_W) ++ (kk_rowsL h5 clong 40 F5 25 ++ (kk_rowsL h6 clong 5 F6 5))) s.heap := hP
  have hl := lv_entry ([.ref h0, .int 3]) (n := 3) (Nat.le_of_ble_eq_true rfl)
  rw [lg_entry_eq]
  generalize (lg_sl ([.ref h0, .int 3]) ++ List.replicate (3 - (lg_sl ([.ref h0, .int 3])).length) Slot.unset).toArray = ls at hl ⊢
  have hl : lv_has ls 3 [(0, .ref h0), (1, .int 3)] := hl
  refine lv_iload_n hx hb dX2_search_0 rfl (lv_at hl 1 rfl) ?_
  refine lv_aload_n hx hb dX2_search_1 rfl (lv_at hl 0 rfl) ?_
  refine va_get (D := (dC, dI)) (ci := 2) (v := .int n0_names) (C := RX2) (T := TX2) (N := 13) hx hb hts (fun _ h => List.mem_cons_of_mem _ (List.mem_append_right _ h)) hown hK hP 0 rfl rfl 5 (by decide) (hts (.fieldLink RX2 49 "KinkStreet$Deeds" "names" "I") (List.mem_of_getElem? (i := 1) rfl)) (fun _ h9 => h9) rfl dX2_search_2 ?_
  refine lv_iconst (v := 1) hx hb dX2_search_5 (by decide) ?_
  refine lv_isub hx hb dX2_search_6 ?_
  refine lv_icmp_lt (tgt := 16) hx hb dX2_search_7 (by decide) (fun c_1 => ?_) (fun c_1 => ?_)
  · have t_1 : 3 < (n0_names - 1).toInt := kk_lt c_1
    refine lv_iconst (v := 0) hx hb dX2_search_16 (by decide) ?_
    refine lv_istore_n (lv' := [(2, .int 0), (0, .ref h0), (1, .int 3)]) hx hb dX2_search_17 rfl hl (by decide) rfl (fun ls hl => ?_)
    refine kk_loop (σ := Int32 × (Nat → Nat → Int64) × Int32 × (Nat → Int32) × (Nat → Int32)) (fun x H locs ls => (0 ≤ x.1.toInt ∧ x.1.toInt ≤ 40) ∧ va_P (dC, dI) vwCl (([(h0, Sum.inr (2, [Value.ref h7, Value.ref h8, Value.ref h9, Value.int n0_size, Value.ref h10, Value.int n0_names, Value.int n0_plots, Value.ref h11, Value.ref h1, Value.ref h2, Value.ref h3, Value.ref h4, Value.int x.2.2.1])), (h1, Sum.inl (cAlong, 25, Sum.inr (Sum.inr (Sum.inr (Sum.inr (fun j => some (h5 j))))))), (h2, Sum.inl (cAlong, 5, Sum.inr (Sum.inr (Sum.inr (Sum.inr (fun j => some (h6 j))))))), (h3, Sum.inl (cint, 5, Sum.inl x.2.2.2.1)), (h4, Sum.inl (cint, 5, Sum.inl x.2.2.2.2))] : va_W) ++ (kk_rowsL h5 clong 40 F5 25 ++ (kk_rowsL h6 clong 5 x.2.1 5))) H ∧ va_D A (([(h0, Sum.inr (2, [Value.ref h7, Value.ref h8, Value.ref h9, Value.int n0_size, Value.ref h10, Value.int n0_names, Value.int n0_plots, Value.ref h11, Value.ref h1, Value.ref h2, Value.ref h3, Value.ref h4, Value.int x.2.2.1])), (h1, Sum.inl (cAlong, 25, Sum.inr (Sum.inr (Sum.inr (Sum.inr (fun j => some (h5 j))))))), (h2, Sum.inl (cAlong, 5, Sum.inr (Sum.inr (Sum.inr (Sum.inr (fun j => some (h6 j))))))), (h3, Sum.inl (cint, 5, Sum.inl x.2.2.2.1)), (h4, Sum.inl (cint, 5, Sum.inl x.2.2.2.2))] : va_W) ++ (kk_rowsL h5 clong 40 F5 25 ++ (kk_rowsL h6 clong 5 x.2.1 5))) ∧ va_S A s.heap H locs ∧ lv_has ls 3 [(2, .int x.1), (0, .ref h0), (1, .int 3)]) (fun x => ((40 : Int) - x.1.toInt).toNat) ?_ (0, F6, n0_ways, f3, f4) _ _ _ ⟨(by show 0 ≤ (0 : Int32).toInt ∧ (0 : Int32).toInt ≤ 40; first | decide | (constructor <;> (have := kk_sub2 (x := n0_names) (y := 1) (a := n0_names.toInt) (b := 1) rfl rfl (by omega) (by omega); omega))), hP, hD, hS, hl⟩
    rintro ⟨i_2_0, f_2_1, i_2_2, f_2_3, f_2_4⟩ H locs ls ⟨t_2_0, hP, hD, hS, hl⟩ ih_2
    have t_2_0 : (0 ≤ i_2_0.toInt ∧ i_2_0.toInt ≤ 40) := t_2_0
    have hl : lv_has ls 3 [(2, .int i_2_0), (0, .ref h0), (1, .int 3)] := hl
    have hP : va_P (dC, dI) vwCl (([(h0, Sum.inr (2, [Value.ref h7, Value.ref h8, Value.ref h9, Value.int n0_size, Value.ref h10, Value.int n0_names, Value.int n0_plots, Value.ref h11, Value.ref h1, Value.ref h2, Value.ref h3, Value.ref h4, Value.int i_2_2])), (h1, Sum.inl (cAlong, 25, Sum.inr (Sum.inr (Sum.inr (Sum.inr (fun j => some (h5 j))))))), (h2, Sum.inl (cAlong, 5, Sum.inr (Sum.inr (Sum.inr (Sum.inr (fun j => some (h6 j))))))), (h3, Sum.inl (cint, 5, Sum.inl f_2_3)), (h4, Sum.inl (cint, 5, Sum.inl f_2_4))] : va_W) ++ (kk_rowsL h5 clong 40 F5 25 ++ (kk_rowsL h6 clong 5 f_2_1 5))) H := hP
    have hD : va_D A (([(h0, Sum.inr (2, [Value.ref h7, Value.ref h8, Value.ref h9, Value.int n0_size, Value.ref h10, Value.int n0_names, Value.int n0_plots, Value.ref h11, Value.ref h1, Value.ref h2, Value.ref h3, Value.ref h4, Value.int i_2_2])), (h1, Sum.inl (cAlong, 25, Sum.inr (Sum.inr (Sum.inr (Sum.inr (fun j => some (h5 j))))))), (h2, Sum.inl (cAlong, 5, Sum.inr (Sum.inr (Sum.inr (Sum.inr (fun j => some (h6 j))))))), (h3, Sum.inl (cint, 5, Sum.inl f_2_3)), (h4, Sum.inl (cint, 5, Sum.inl f_2_4))] : va_W) ++ (kk_rowsL h5 clong 40 F5 25 ++ (kk_rowsL h6 clong 5 f_2_1 5))) := hD
    refine lv_iload_n hx hb dX2_search_18 rfl (lv_at hl 0 rfl) ?_
    refine lv_aload_n hx hb dX2_search_19 rfl (lv_at hl 1 rfl) ?_
    refine va_get (D := (dC, dI)) (ci := 2) (v := .int n0_plots) (C := RX2) (T := TX2) (N := 13) hx hb hts (fun _ h => List.mem_cons_of_mem _ (List.mem_append_right _ h)) hown hK hP 0 rfl rfl 6 (by decide) (hts (.fieldLink RX2 67 "KinkStreet$Deeds" "plots" "I") (List.mem_of_getElem? (i := 2) rfl)) (fun _ h9 => h9) rfl dX2_search_20 ?_
    refine lv_icmp_ge (tgt := 81) hx hb dX2_search_23 (by decide) (fun c_3 => ?_) (fun c_3 => ?_)
    · have t_3 : n0_plots.toInt ≤ i_2_0.toInt := kk_le c_3
      have hP9 := hP.part (cx := [(h0, Sum.inr (2, [Value.ref h7, Value.ref h8, Value.ref h9, Value.int n0_size, Value.ref h10, Value.int n0_names, Value.int n0_plots, Value.ref h11, Value.ref h1, Value.ref h2, Value.ref h3, Value.ref h4, Value.int i_2_2])), (h1, Sum.inl (cAlong, 25, Sum.inr (Sum.inr (Sum.inr (Sum.inr (fun j => some (h5 j))))))), (h2, Sum.inl (cAlong, 5, Sum.inr (Sum.inr (Sum.inr (Sum.inr (fun j => some (h6 j))))))), (h3, Sum.inl (cint, 5, Sum.inl f_2_3)), (h4, Sum.inl (cint, 5, Sum.inl f_2_4))]) [0, 1, 2, 3, 4] rfl
      have hD9 := hD.part (cx := [(h0, Sum.inr (2, [Value.ref h7, Value.ref h8, Value.ref h9, Value.int n0_size, Value.ref h10, Value.int n0_names, Value.int n0_plots, Value.ref h11, Value.ref h1, Value.ref h2, Value.ref h3, Value.ref h4, Value.int i_2_2])), (h1, Sum.inl (cAlong, 25, Sum.inr (Sum.inr (Sum.inr (Sum.inr (fun j => some (h5 j))))))), (h2, Sum.inl (cAlong, 5, Sum.inr (Sum.inr (Sum.inr (Sum.inr (fun j => some (h6 j))))))), (h3, Sum.inl (cint, 5, Sum.inl f_2_3)), (h4, Sum.inl (cint, 5, Sum.inl f_2_4))]) [0, 1, 2, 3, 4] (by decide) rfl
      have hK9 := hK.sub (tys' := []) [] rfl
      exact W.vret hx hb hr (fun t ht hW => ⟨⟨(), rfl, trivial, i_2_2, f_2_3, f_2_4, f_2_1, by rw [ht]; exact hP9, va_K.moved hW.alike hK9, hD9⟩, hS.F ht⟩) hS.2.2 dX2_search_81
    · have t_3 : i_2_0.toInt < n0_plots.toInt := kk_nle c_3
      refine lv_aload_n hx hb dX2_search_26 rfl (lv_at hl 1 rfl) ?_
      refine va_get (D := (dC, dI)) (ci := 2) (v := .int i_2_2) (C := RX2) (T := TX2) (N := 13) hx hb hts (fun _ h => List.mem_cons_of_mem _ (List.mem_append_right _ h)) hown hK hP 0 rfl rfl 12 (by decide) (hts (.fieldLink RX2 70 "KinkStreet$Deeds" "ways" "I") (List.mem_of_getElem? (i := 3) rfl)) (fun _ h9 => h9) rfl dX2_search_27 ?_
      refine lv_ldc hx hb hown (hts _ (List.mem_of_getElem? (i := 4) rfl)) dX2_search_30 ?_
      refine lv_icmp_ge (tgt := 81) hx hb dX2_search_32 (by decide) (fun c_4 => ?_) (fun c_4 => ?_)
      · have t_4 : 1000000 ≤ i_2_2.toInt := kk_le c_4
        have hP9 := hP.part (cx := [(h0, Sum.inr (2, [Value.ref h7, Value.ref h8, Value.ref h9, Value.int n0_size, Value.ref h10, Value.int n0_names, Value.int n0_plots, Value.ref h11, Value.ref h1, Value.ref h2, Value.ref h3, Value.ref h4, Value.int i_2_2])), (h1, Sum.inl (cAlong, 25, Sum.inr (Sum.inr (Sum.inr (Sum.inr (fun j => some (h5 j))))))), (h2, Sum.inl (cAlong, 5, Sum.inr (Sum.inr (Sum.inr (Sum.inr (fun j => some (h6 j))))))), (h3, Sum.inl (cint, 5, Sum.inl f_2_3)), (h4, Sum.inl (cint, 5, Sum.inl f_2_4))]) [0, 1, 2, 3, 4] rfl
        have hD9 := hD.part (cx := [(h0, Sum.inr (2, [Value.ref h7, Value.ref h8, Value.ref h9, Value.int n0_size, Value.ref h10, Value.int n0_names, Value.int n0_plots, Value.ref h11, Value.ref h1, Value.ref h2, Value.ref h3, Value.ref h4, Value.int i_2_2])), (h1, Sum.inl (cAlong, 25, Sum.inr (Sum.inr (Sum.inr (Sum.inr (fun j => some (h5 j))))))), (h2, Sum.inl (cAlong, 5, Sum.inr (Sum.inr (Sum.inr (Sum.inr (fun j => some (h6 j))))))), (h3, Sum.inl (cint, 5, Sum.inl f_2_3)), (h4, Sum.inl (cint, 5, Sum.inl f_2_4))]) [0, 1, 2, 3, 4] (by decide) rfl
        have hK9 := hK.sub (tys' := []) [] rfl
        exact W.vret hx hb hr (fun t ht hW => ⟨⟨(), rfl, trivial, i_2_2, f_2_3, f_2_4, f_2_1, by rw [ht]; exact hP9, va_K.moved hW.alike hK9, hD9⟩, hS.F ht⟩) hS.2.2 dX2_search_81
      · have t_4 : i_2_2.toInt < 1000000 := kk_nle c_4
        refine lv_aload_n hx hb dX2_search_35 rfl (lv_at hl 1 rfl) ?_
        refine va_get (D := (dC, dI)) (ci := 2) (v := .ref h2) (C := RX2) (T := TX2) (N := 13) hx hb hts (fun _ h => List.mem_cons_of_mem _ (List.mem_append_right _ h)) hown hK hP 0 rfl rfl 9 (by decide) (hts (.fieldLink RX2 32 "KinkStreet$Deeds" "open" "[[J") (List.mem_of_getElem? (i := 5) rfl)) (fun _ h9 => h9) rfl dX2_search_36 ?_
        refine lv_iload_n hx hb dX2_search_39 rfl (lv_at hl 2 rfl) ?_
        have hi_5 : vp_in (3 : Int32) 5 := (by unfold vp_in; decide)
        have hk_5 : (3 : Int32).toNatClampNeg < 5 := Nat.not_le.mp fun q => hi_5 (Or.inr q)
        refine kk_aald hx hb hK hP 2 0 rfl rfl hi_5 dX2_search_40 ?_
        refine W.eq (g2 := F0 m 41 ls [.ref (h6 (3 : Int32).toNatClampNeg)]) rfl ?_
        refine lv_iload_n hx hb dX2_search_41 rfl (lv_at hl 2 rfl) ?_
        refine va_lald hx hb hK hP _ 2 (kk_getr (kk_getr (kk_rowL hk_5))) rfl (by unfold vp_in; decide) dX2_search_42 ?_
        refine lv_topl (fun y_6 e_6 => ?_)
        clear e_6
        refine lv_iload_n hx hb dX2_search_43 rfl (lv_at hl 0 rfl) ?_
        refine lv_lushr hx hb dX2_search_44 rfl ?_
        refine lv_topl (fun y_7 e_7 => ?_)
        clear e_7
        refine lv_lconst (v := 1) hx hb dX2_search_45 (by decide) ?_
        refine lv_land hx hb dX2_search_46 ?_
        refine lv_topl (fun y_8 e_8 => ?_)
        clear e_8
        refine lv_lconst (v := 0) hx hb dX2_search_47 (by decide) ?_
        refine W.lcmp hx hb dX2_search_48 ?_
        refine lv_if_eq (tgt := 75) hx hb dX2_search_49 (by decide) (fun _ => ?_) (fun _ => ?_)
        · skip
          refine lv_iinc (v := (i_2_0 + 1)) (lv' := [(2, .int (i_2_0 + 1)), (0, .ref h0), (1, .int 3)]) hx hb dX2_search_75 hl (k := 0) rfl (by first | rfl | decide) (by decide) rfl (fun ls hl => ?_)
          refine lv_goto (tgt := 18) hx hb dX2_search_78 (by decide) ?_
          exact ih_2 ((i_2_0 + 1), f_2_1, i_2_2, f_2_3, f_2_4) _ _ _ (by show ((40 : Int) - ((i_2_0 + 1)).toInt).toNat < ((40 : Int) - i_2_0.toInt).toNat; have := kk_rng i_2_2; have := kk_sub2 (x := n0_names) (y := 1) (a := n0_names.toInt) (b := 1) rfl rfl (by omega) (by omega); have := kk_add2 (x := i_2_0) (y := 1) (a := i_2_0.toInt) (b := 1) rfl rfl (by omega) (by omega); exact kk_mu (by omega) (by omega)) ⟨(by show 0 ≤ ((i_2_0 + 1) : Int32).toInt ∧ ((i_2_0 + 1) : Int32).toInt ≤ 40; first | decide | (constructor <;> (have := kk_rng i_2_2; have := kk_sub2 (x := n0_names) (y := 1) (a := n0_names.toInt) (b := 1) rfl rfl (by omega) (by omega); have := kk_add2 (x := i_2_0) (y := 1) (a := i_2_0.toInt) (b := 1) rfl rfl (by omega) (by omega); omega))), hP, hD, hS, lv_sub hl [0, 1, 2] rfl⟩
        · skip
          refine lv_aload_n hx hb dX2_search_52 rfl (lv_at hl 1 rfl) ?_
          refine lv_iload_n hx hb dX2_search_53 rfl (lv_at hl 2 rfl) ?_
          refine lv_iload_n hx hb dX2_search_54 rfl (lv_at hl 0 rfl) ?_
          have hPc := hP.part (cx := [(h0, Sum.inr (2, [Value.ref h7, Value.ref h8, Value.ref h9, Value.int n0_size, Value.ref h10, Value.int n0_names, Value.int n0_plots, Value.ref h11, Value.ref h1, Value.ref h2, Value.ref h3, Value.ref h4, Value.int i_2_2])), (h1, Sum.inl (cAlong, 25, Sum.inr (Sum.inr (Sum.inr (Sum.inr (fun j => some (h5 j))))))), (h2, Sum.inl (cAlong, 5, Sum.inr (Sum.inr (Sum.inr (Sum.inr (fun j => some (h6 j)))))))]) [0, 1, 2] rfl
          have hDc := hD.part (cx := [(h0, Sum.inr (2, [Value.ref h7, Value.ref h8, Value.ref h9, Value.int n0_size, Value.ref h10, Value.int n0_names, Value.int n0_plots, Value.ref h11, Value.ref h1, Value.ref h2, Value.ref h3, Value.ref h4, Value.int i_2_2])), (h1, Sum.inl (cAlong, 25, Sum.inr (Sum.inr (Sum.inr (Sum.inr (fun j => some (h5 j))))))), (h2, Sum.inl (cAlong, 5, Sum.inr (Sum.inr (Sum.inr (Sum.inr (fun j => some (h6 j)))))))]) [0, 1, 2] (by decide) rfl
          have hFc := va_freeP (cx := [(h0, Sum.inr (2, [Value.ref h7, Value.ref h8, Value.ref h9, Value.int n0_size, Value.ref h10, Value.int n0_names, Value.int n0_plots, Value.ref h11, Value.ref h1, Value.ref h2, Value.ref h3, Value.ref h4, Value.int i_2_2])), (h1, Sum.inl (cAlong, 25, Sum.inr (Sum.inr (Sum.inr (Sum.inr (fun j => some (h5 j))))))), (h2, Sum.inl (cAlong, 5, Sum.inr (Sum.inr (Sum.inr (Sum.inr (fun j => some (h6 j)))))))]) hD hS hA [0, 1, 2] rfl
          have hKc := hK.sub (tys' := [(cAlong, .array .long), (clong, .long)]) [0, 2] rfl
          refine va_calli (va_runV (As := [.int 3, .int i_2_0]) (rest := []) ⟨hx, hb, hml, hown, hts⟩ (g_X2_narrow_3 l dC dI h0 h1 h2 h5 h6 h7 h8 h9 h10 h11 h3 h4 cAlong clong H.size i_2_0 (by show 0 ≤ (i_2_0 : Int32).toInt ∧ (i_2_0 : Int32).toInt ≤ 39; first | decide | (constructor <;> (have := kk_rng i_2_2; have := kk_sub2 (x := n0_names) (y := 1) (a := n0_names.toInt) (b := 1) rfl rfl (by omega) (by omega); omega))) n0_size n0_names n0_plots i_2_2 F5 f_2_1 tn0_size tn0_names tn0_plots) (cwV 2 hts gX2_search_X2_narrow rfl rfl rfl (by decide +kernel) ⟨Nat.le_of_ble_eq_true rfl, Nat.le_of_ble_eq_true rfl⟩) ⟨fun a U g mk q => by obtain ⟨q0, q1, qP, qK, qD⟩ := q; exact ⟨q0, q1, qP, va_K.moved (u := U) (U := U.calling g mk a) (Vm.Alike.refl U.vm) qK, qD⟩, va_recv hKc hPc (ci := 2) (q0 := 0) rfl rfl, fun U hU hW => ⟨rfl, by rw [hU], by rw [hU]; exact hPc, va_K.moved hW.alike hKc, hDc.weaken (fun _ _ _ _ => trivial)⟩⟩ rfl rfl hl.1 rfl (lv_room (Nat.le_of_ble_eq_true rfl)) dX2_search_55 ⟨Nat.le_of_ble_eq_true rfl, Nat.le_of_ble_eq_true rfl⟩) hS (fun q _ h => hFc q h) hFc (fun r_9 u t H1 locs ht hvm hw hB hz1 hk1 hS => ?_)
          obtain ⟨f_10, hP1, hK1, hD1⟩ := hB
          rw [ht] at hP1
          have hK1 := va_K.moved hvm.symm hK1
          obtain ⟨hP, hD⟩ := va_joinP (cx := [(h0, Sum.inr (2, [Value.ref h7, Value.ref h8, Value.ref h9, Value.int n0_size, Value.ref h10, Value.int n0_names, Value.int n0_plots, Value.ref h11, Value.ref h1, Value.ref h2, Value.ref h3, Value.ref h4, Value.int i_2_2])), (h1, Sum.inl (cAlong, 25, Sum.inr (Sum.inr (Sum.inr (Sum.inr (fun j => some (h5 j))))))), (h2, Sum.inl (cAlong, 5, Sum.inr (Sum.inr (Sum.inr (Sum.inr (fun j => some (h6 j)))))))]) (wr := [(h3, Sum.inl (cint, 5, Sum.inl f_2_3)), (h4, Sum.inl (cint, 5, Sum.inl f_2_4))]) (rx := [(h0, Sum.inr (2, [Value.ref h7, Value.ref h8, Value.ref h9, Value.int n0_size, Value.ref h10, Value.int n0_names, Value.int n0_plots, Value.ref h11, Value.ref h1, Value.ref h2, Value.ref h3, Value.ref h4, Value.int i_2_2])), (h1, Sum.inl (cAlong, 25, Sum.inr (Sum.inr (Sum.inr (Sum.inr (fun j => some (h5 j))))))), (h2, Sum.inl (cAlong, 5, Sum.inr (Sum.inr (Sum.inr (Sum.inr (fun j => some (h6 j)))))))]) hP hD [0, 1, 2] [3, 4] rfl rfl (by decide) (by decide) hk1 hFc hP1 hD1
          generalize H1 = H at hP hS ⊢
          have hP : va_P (dC, dI) vwCl (([(h3, Sum.inl (cint, 5, Sum.inl f_2_3)), (h4, Sum.inl (cint, 5, Sum.inl f_2_4)), (h0, Sum.inr (2, [Value.ref h7, Value.ref h8, Value.ref h9, Value.int n0_size, Value.ref h10, Value.int n0_names, Value.int n0_plots, Value.ref h11, Value.ref h1, Value.ref h2, Value.ref h3, Value.ref h4, Value.int i_2_2])), (h1, Sum.inl (cAlong, 25, Sum.inr (Sum.inr (Sum.inr (Sum.inr (fun j => some (h5 j))))))), (h2, Sum.inl (cAlong, 5, Sum.inr (Sum.inr (Sum.inr (Sum.inr (fun j => some (h6 j)))))))] : va_W) ++ (kk_rowsL h5 clong 40 F5 25 ++ (kk_rowsL h6 clong 5 f_10 5))) H := hP
          have hD : va_D A (([(h3, Sum.inl (cint, 5, Sum.inl f_2_3)), (h4, Sum.inl (cint, 5, Sum.inl f_2_4)), (h0, Sum.inr (2, [Value.ref h7, Value.ref h8, Value.ref h9, Value.int n0_size, Value.ref h10, Value.int n0_names, Value.int n0_plots, Value.ref h11, Value.ref h1, Value.ref h2, Value.ref h3, Value.ref h4, Value.int i_2_2])), (h1, Sum.inl (cAlong, 25, Sum.inr (Sum.inr (Sum.inr (Sum.inr (fun j => some (h5 j))))))), (h2, Sum.inl (cAlong, 5, Sum.inr (Sum.inr (Sum.inr (Sum.inr (fun j => some (h6 j)))))))] : va_W) ++ (kk_rowsL h5 clong 40 F5 25 ++ (kk_rowsL h6 clong 5 f_10 5))) := hD
          rcases hw with ⟨t_9_0, rfl⟩ | ⟨rfl⟩
          · skip
            have t_9_0 : (5 : Int) ≤ n0_names.toInt := t_9_0
            refine lv_if_eq (tgt := 75) hx hb dX2_search_58 (by decide) (fun _ => ?_) (fun c => absurd c (by decide))
            refine lv_iinc (v := (i_2_0 + 1)) (lv' := [(2, .int (i_2_0 + 1)), (0, .ref h0), (1, .int 3)]) hx hb dX2_search_75 hl (k := 0) rfl (by first | rfl | decide) (by decide) rfl (fun ls hl => ?_)
            refine lv_goto (tgt := 18) hx hb dX2_search_78 (by decide) ?_
            exact ih_2 ((i_2_0 + 1), f_10, i_2_2, f_2_3, f_2_4) _ _ _ (by show ((40 : Int) - ((i_2_0 + 1)).toInt).toNat < ((40 : Int) - i_2_0.toInt).toNat; have := kk_rng i_2_2; have := kk_sub2 (x := n0_names) (y := 1) (a := n0_names.toInt) (b := 1) rfl rfl (by omega) (by omega); have := kk_add2 (x := i_2_0) (y := 1) (a := i_2_0.toInt) (b := 1) rfl rfl (by omega) (by omega); exact kk_mu (by omega) (by omega)) ⟨(by show 0 ≤ ((i_2_0 + 1) : Int32).toInt ∧ ((i_2_0 + 1) : Int32).toInt ≤ 40; first | decide | (constructor <;> (have := kk_rng i_2_2; have := kk_sub2 (x := n0_names) (y := 1) (a := n0_names.toInt) (b := 1) rfl rfl (by omega) (by omega); have := kk_add2 (x := i_2_0) (y := 1) (a := i_2_0.toInt) (b := 1) rfl rfl (by omega) (by omega); omega))), hP.part (cx := [(h0, Sum.inr (2, [Value.ref h7, Value.ref h8, Value.ref h9, Value.int n0_size, Value.ref h10, Value.int n0_names, Value.int n0_plots, Value.ref h11, Value.ref h1, Value.ref h2, Value.ref h3, Value.ref h4, Value.int i_2_2])), (h1, Sum.inl (cAlong, 25, Sum.inr (Sum.inr (Sum.inr (Sum.inr (fun j => some (h5 j))))))), (h2, Sum.inl (cAlong, 5, Sum.inr (Sum.inr (Sum.inr (Sum.inr (fun j => some (h6 j))))))), (h3, Sum.inl (cint, 5, Sum.inl f_2_3)), (h4, Sum.inl (cint, 5, Sum.inl f_2_4))]) [2, 3, 4, 0, 1] rfl, hD.part (cx := [(h0, Sum.inr (2, [Value.ref h7, Value.ref h8, Value.ref h9, Value.int n0_size, Value.ref h10, Value.int n0_names, Value.int n0_plots, Value.ref h11, Value.ref h1, Value.ref h2, Value.ref h3, Value.ref h4, Value.int i_2_2])), (h1, Sum.inl (cAlong, 25, Sum.inr (Sum.inr (Sum.inr (Sum.inr (fun j => some (h5 j))))))), (h2, Sum.inl (cAlong, 5, Sum.inr (Sum.inr (Sum.inr (Sum.inr (fun j => some (h6 j))))))), (h3, Sum.inl (cint, 5, Sum.inl f_2_3)), (h4, Sum.inl (cint, 5, Sum.inl f_2_4))]) [2, 3, 4, 0, 1] (by decide) rfl, hS, lv_sub hl [0, 1, 2] rfl⟩
          · skip
            refine lv_if_eq (tgt := 75) hx hb dX2_search_58 (by decide) (fun c => absurd c (by decide)) (fun _ => ?_)
            refine lv_aload_n hx hb dX2_search_61 rfl (lv_at hl 1 rfl) ?_
            refine va_get (D := (dC, dI)) (ci := 2) (v := .ref h3) (C := RX2) (T := TX2) (N := 13) hx hb hts (fun _ h => List.mem_cons_of_mem _ (List.mem_append_right _ h)) hown hK hP 2 rfl rfl 10 (by decide) (hts (.fieldLink RX2 35 "KinkStreet$Deeds" "tried" "[I") (List.mem_of_getElem? (i := 6) rfl)) (fun _ h9 => h9) rfl dX2_search_62 ?_
            refine lv_iload_n hx hb dX2_search_65 rfl (lv_at hl 2 rfl) ?_
            refine lv_iload_n hx hb dX2_search_66 rfl (lv_at hl 0 rfl) ?_
            refine va_iast hx hb hK hP hD hS 0 1 rfl rfl (by unfold vp_in; decide) dX2_search_67 (fun H locs hP hD hS => ?_)
            generalize upd f_2_3 (3 : Int32).toNatClampNeg i_2_0 = f_11 at hP hD
            have hP : va_P (dC, dI) vwCl (([(h3, Sum.inl (cint, 5, Sum.inl f_11)), (h4, Sum.inl (cint, 5, Sum.inl f_2_4)), (h0, Sum.inr (2, [Value.ref h7, Value.ref h8, Value.ref h9, Value.int n0_size, Value.ref h10, Value.int n0_names, Value.int n0_plots, Value.ref h11, Value.ref h1, Value.ref h2, Value.ref h3, Value.ref h4, Value.int i_2_2])), (h1, Sum.inl (cAlong, 25, Sum.inr (Sum.inr (Sum.inr (Sum.inr (fun j => some (h5 j))))))), (h2, Sum.inl (cAlong, 5, Sum.inr (Sum.inr (Sum.inr (Sum.inr (fun j => some (h6 j)))))))] : va_W) ++ (kk_rowsL h5 clong 40 F5 25 ++ (kk_rowsL h6 clong 5 f_10 5))) H := hP
            have hD : va_D A (([(h3, Sum.inl (cint, 5, Sum.inl f_11)), (h4, Sum.inl (cint, 5, Sum.inl f_2_4)), (h0, Sum.inr (2, [Value.ref h7, Value.ref h8, Value.ref h9, Value.int n0_size, Value.ref h10, Value.int n0_names, Value.int n0_plots, Value.ref h11, Value.ref h1, Value.ref h2, Value.ref h3, Value.ref h4, Value.int i_2_2])), (h1, Sum.inl (cAlong, 25, Sum.inr (Sum.inr (Sum.inr (Sum.inr (fun j => some (h5 j))))))), (h2, Sum.inl (cAlong, 5, Sum.inr (Sum.inr (Sum.inr (Sum.inr (fun j => some (h6 j)))))))] : va_W) ++ (kk_rowsL h5 clong 40 F5 25 ++ (kk_rowsL h6 clong 5 f_10 5))) := hD
            refine lv_aload_n hx hb dX2_search_68 rfl (lv_at hl 1 rfl) ?_
            refine lv_iload_n hx hb dX2_search_69 rfl (lv_at hl 2 rfl) ?_
            refine lv_iconst (v := 1) hx hb dX2_search_70 (by decide) ?_
            refine lv_iadd hx hb dX2_search_71 ?_
            refine lv_topi (fun y_12 e_12 => ?_)
            obtain rfl : y_12 = 4 := e_12.trans (by decide)
            have hPc := hP.part (cx := [(h0, Sum.inr (2, [Value.ref h7, Value.ref h8, Value.ref h9, Value.int n0_size, Value.ref h10, Value.int n0_names, Value.int n0_plots, Value.ref h11, Value.ref h1, Value.ref h2, Value.ref h3, Value.ref h4, Value.int i_2_2])), (h1, Sum.inl (cAlong, 25, Sum.inr (Sum.inr (Sum.inr (Sum.inr (fun j => some (h5 j))))))), (h2, Sum.inl (cAlong, 5, Sum.inr (Sum.inr (Sum.inr (Sum.inr (fun j => some (h6 j))))))), (h3, Sum.inl (cint, 5, Sum.inl f_11)), (h4, Sum.inl (cint, 5, Sum.inl f_2_4))]) [2, 3, 4, 0, 1] rfl
            have hDc := hD.part (cx := [(h0, Sum.inr (2, [Value.ref h7, Value.ref h8, Value.ref h9, Value.int n0_size, Value.ref h10, Value.int n0_names, Value.int n0_plots, Value.ref h11, Value.ref h1, Value.ref h2, Value.ref h3, Value.ref h4, Value.int i_2_2])), (h1, Sum.inl (cAlong, 25, Sum.inr (Sum.inr (Sum.inr (Sum.inr (fun j => some (h5 j))))))), (h2, Sum.inl (cAlong, 5, Sum.inr (Sum.inr (Sum.inr (Sum.inr (fun j => some (h6 j))))))), (h3, Sum.inl (cint, 5, Sum.inl f_11)), (h4, Sum.inl (cint, 5, Sum.inl f_2_4))]) [2, 3, 4, 0, 1] (by decide) rfl
            have hFc := va_freeP (cx := [(h0, Sum.inr (2, [Value.ref h7, Value.ref h8, Value.ref h9, Value.int n0_size, Value.ref h10, Value.int n0_names, Value.int n0_plots, Value.ref h11, Value.ref h1, Value.ref h2, Value.ref h3, Value.ref h4, Value.int i_2_2])), (h1, Sum.inl (cAlong, 25, Sum.inr (Sum.inr (Sum.inr (Sum.inr (fun j => some (h5 j))))))), (h2, Sum.inl (cAlong, 5, Sum.inr (Sum.inr (Sum.inr (Sum.inr (fun j => some (h6 j))))))), (h3, Sum.inl (cint, 5, Sum.inl f_11)), (h4, Sum.inl (cint, 5, Sum.inl f_2_4))]) hD hS hA [2, 3, 4, 0, 1] rfl
            have hKc := hK.sub (tys' := [(cAlong, .array .long), (cint, .int), (clong, .long)]) [0, 1, 2] rfl
            refine va_callv (va_runV (As := [.int 4]) (rest := []) ⟨hx, hb, hml, hown, hts⟩ (g_X2_search_0 l dC dI h0 h1 h2 h3 h4 h5 h6 h7 h8 h9 h10 h11 cAlong cint clong H.size n0_size n0_names n0_plots i_2_2 f_11 f_2_4 F5 f_10 tn0_size tn0_names tn0_plots) (cwV 1 hts gX2_search_X2_search rfl rfl rfl (by decide +kernel) ⟨Nat.le_of_ble_eq_true rfl, Nat.le_of_ble_eq_true rfl⟩) ⟨fun a U g mk q => by obtain ⟨q0, q1, qP, qK, qD⟩ := q; exact ⟨q0, q1, qP, va_K.moved (u := U) (U := U.calling g mk a) (Vm.Alike.refl U.vm) qK, qD⟩, va_recv hKc hPc (ci := 2) (q0 := 0) rfl rfl, fun U hU hW => ⟨rfl, by rw [hU], by rw [hU]; exact hPc, va_K.moved hW.alike hKc, hDc.weaken (fun _ _ _ _ => trivial)⟩⟩ rfl rfl hl.1 rfl (lv_room (Nat.le_of_ble_eq_true rfl)) dX2_search_72 ⟨Nat.le_of_ble_eq_true rfl, Nat.le_of_ble_eq_true rfl⟩) hS (fun q _ h => hFc q h) hFc (fun u t H1 locs ht hvm hw hB hz1 hk1 hS => ?_)
            obtain ⟨y_14, f_15, f_16, hP1, hK1, hD1⟩ := hB
            rw [ht] at hP1
            have hK1 := va_K.moved hvm.symm hK1
            obtain ⟨hP, hD⟩ := va_joinP (cx := [(h0, Sum.inr (2, [Value.ref h7, Value.ref h8, Value.ref h9, Value.int n0_size, Value.ref h10, Value.int n0_names, Value.int n0_plots, Value.ref h11, Value.ref h1, Value.ref h2, Value.ref h3, Value.ref h4, Value.int i_2_2])), (h1, Sum.inl (cAlong, 25, Sum.inr (Sum.inr (Sum.inr (Sum.inr (fun j => some (h5 j))))))), (h2, Sum.inl (cAlong, 5, Sum.inr (Sum.inr (Sum.inr (Sum.inr (fun j => some (h6 j))))))), (h3, Sum.inl (cint, 5, Sum.inl f_11)), (h4, Sum.inl (cint, 5, Sum.inl f_2_4))]) (wr := []) (rx := [(h0, Sum.inr (2, [Value.ref h7, Value.ref h8, Value.ref h9, Value.int n0_size, Value.ref h10, Value.int n0_names, Value.int n0_plots, Value.ref h11, Value.ref h1, Value.ref h2, Value.ref h3, Value.ref h4, Value.int y_14])), (h1, Sum.inl (cAlong, 25, Sum.inr (Sum.inr (Sum.inr (Sum.inr (fun j => some (h5 j))))))), (h2, Sum.inl (cAlong, 5, Sum.inr (Sum.inr (Sum.inr (Sum.inr (fun j => some (h6 j))))))), (h3, Sum.inl (cint, 5, Sum.inl f_15)), (h4, Sum.inl (cint, 5, Sum.inl f_16))]) hP hD [2, 3, 4, 0, 1] [] rfl rfl (by decide) (by decide) hk1 hFc hP1 hD1
            generalize H1 = H at hP hS ⊢
            have hP : va_P (dC, dI) vwCl (([(h0, Sum.inr (2, [Value.ref h7, Value.ref h8, Value.ref h9, Value.int n0_size, Value.ref h10, Value.int n0_names, Value.int n0_plots, Value.ref h11, Value.ref h1, Value.ref h2, Value.ref h3, Value.ref h4, Value.int y_14])), (h1, Sum.inl (cAlong, 25, Sum.inr (Sum.inr (Sum.inr (Sum.inr (fun j => some (h5 j))))))), (h2, Sum.inl (cAlong, 5, Sum.inr (Sum.inr (Sum.inr (Sum.inr (fun j => some (h6 j))))))), (h3, Sum.inl (cint, 5, Sum.inl f_15)), (h4, Sum.inl (cint, 5, Sum.inl f_16))] : va_W) ++ (kk_rowsL h5 clong 40 F5 25 ++ (kk_rowsL h6 clong 5 f_10 5))) H := hP
            have hD : va_D A (([(h0, Sum.inr (2, [Value.ref h7, Value.ref h8, Value.ref h9, Value.int n0_size, Value.ref h10, Value.int n0_names, Value.int n0_plots, Value.ref h11, Value.ref h1, Value.ref h2, Value.ref h3, Value.ref h4, Value.int y_14])), (h1, Sum.inl (cAlong, 25, Sum.inr (Sum.inr (Sum.inr (Sum.inr (fun j => some (h5 j))))))), (h2, Sum.inl (cAlong, 5, Sum.inr (Sum.inr (Sum.inr (Sum.inr (fun j => some (h6 j))))))), (h3, Sum.inl (cint, 5, Sum.inl f_15)), (h4, Sum.inl (cint, 5, Sum.inl f_16))] : va_W) ++ (kk_rowsL h5 clong 40 F5 25 ++ (kk_rowsL h6 clong 5 f_10 5))) := hD
            refine lv_iinc (v := (i_2_0 + 1)) (lv' := [(2, .int (i_2_0 + 1)), (0, .ref h0), (1, .int 3)]) hx hb dX2_search_75 hl (k := 0) rfl (by first | rfl | decide) (by decide) rfl (fun ls hl => ?_)
            refine lv_goto (tgt := 18) hx hb dX2_search_78 (by decide) ?_
            exact ih_2 ((i_2_0 + 1), f_10, y_14, f_15, f_16) _ _ _ (by show ((40 : Int) - ((i_2_0 + 1)).toInt).toNat < ((40 : Int) - i_2_0.toInt).toNat; have := kk_rng i_2_2; have := kk_sub2 (x := n0_names) (y := 1) (a := n0_names.toInt) (b := 1) rfl rfl (by omega) (by omega); have := kk_add2 (x := i_2_0) (y := 1) (a := i_2_0.toInt) (b := 1) rfl rfl (by omega) (by omega); exact kk_mu (by omega) (by omega)) ⟨(by show 0 ≤ ((i_2_0 + 1) : Int32).toInt ∧ ((i_2_0 + 1) : Int32).toInt ≤ 40; first | decide | (constructor <;> (have := kk_rng i_2_2; have := kk_sub2 (x := n0_names) (y := 1) (a := n0_names.toInt) (b := 1) rfl rfl (by omega) (by omega); have := kk_add2 (x := i_2_0) (y := 1) (a := i_2_0.toInt) (b := 1) rfl rfl (by omega) (by omega); omega))), hP, hD, hS, lv_sub hl [0, 1, 2] rfl⟩
  · have t_1 : (n0_names - 1).toInt ≤ 3 := kk_nlt c_1
    refine lv_aload_n hx hb dX2_search_10 rfl (lv_at hl 0 rfl) ?_
    refine lv_iload_n hx hb dX2_search_11 rfl (lv_at hl 1 rfl) ?_
    have hPc := hP.part (cx := [(h0, Sum.inr (2, [Value.ref h7, Value.ref h8, Value.ref h9, Value.int n0_size, Value.ref h10, Value.int n0_names, Value.int n0_plots, Value.ref h11, Value.ref h1, Value.ref h2, Value.ref h3, Value.ref h4, Value.int n0_ways])), (h1, Sum.inl (cAlong, 25, Sum.inr (Sum.inr (Sum.inr (Sum.inr (fun j => some (h5 j))))))), (h2, Sum.inl (cAlong, 5, Sum.inr (Sum.inr (Sum.inr (Sum.inr (fun j => some (h6 j))))))), (h3, Sum.inl (cint, 5, Sum.inl f3)), (h4, Sum.inl (cint, 5, Sum.inl f4))]) [0, 1, 2, 3, 4] rfl
    have hDc := hD.part (cx := [(h0, Sum.inr (2, [Value.ref h7, Value.ref h8, Value.ref h9, Value.int n0_size, Value.ref h10, Value.int n0_names, Value.int n0_plots, Value.ref h11, Value.ref h1, Value.ref h2, Value.ref h3, Value.ref h4, Value.int n0_ways])), (h1, Sum.inl (cAlong, 25, Sum.inr (Sum.inr (Sum.inr (Sum.inr (fun j => some (h5 j))))))), (h2, Sum.inl (cAlong, 5, Sum.inr (Sum.inr (Sum.inr (Sum.inr (fun j => some (h6 j))))))), (h3, Sum.inl (cint, 5, Sum.inl f3)), (h4, Sum.inl (cint, 5, Sum.inl f4))]) [0, 1, 2, 3, 4] (by decide) rfl
    have hFc := va_freeP (cx := [(h0, Sum.inr (2, [Value.ref h7, Value.ref h8, Value.ref h9, Value.int n0_size, Value.ref h10, Value.int n0_names, Value.int n0_plots, Value.ref h11, Value.ref h1, Value.ref h2, Value.ref h3, Value.ref h4, Value.int n0_ways])), (h1, Sum.inl (cAlong, 25, Sum.inr (Sum.inr (Sum.inr (Sum.inr (fun j => some (h5 j))))))), (h2, Sum.inl (cAlong, 5, Sum.inr (Sum.inr (Sum.inr (Sum.inr (fun j => some (h6 j))))))), (h3, Sum.inl (cint, 5, Sum.inl f3)), (h4, Sum.inl (cint, 5, Sum.inl f4))]) hD hS hA [0, 1, 2, 3, 4] rfl
    have hKc := hK.sub (tys' := [(cAlong, .array .long), (cint, .int), (clong, .long)]) [0, 1, 2] rfl
    refine va_callv (va_runV (As := [.int 3]) (rest := []) ⟨hx, hb, hml, hown, hts⟩ (g_X2_countWays_1 l dC dI h0 h1 h2 h3 h4 h5 h6 h7 h8 h9 h10 h11 cAlong cint clong s.heap.size n0_size n0_names n0_plots n0_ways f3 f4 F5 F6 tn0_size tn0_names tn0_plots) (cwV 1 hts gX2_search_X2_countWays rfl rfl rfl (by decide +kernel) ⟨Nat.le_of_ble_eq_true rfl, Nat.le_of_ble_eq_true rfl⟩) ⟨fun a U g mk q => by obtain ⟨q0, q1, qP, qK, qD⟩ := q; exact ⟨q0, q1, qP, va_K.moved (u := U) (U := U.calling g mk a) (Vm.Alike.refl U.vm) qK, qD⟩, va_recv hKc hPc (ci := 2) (q0 := 0) rfl rfl, fun U hU hW => ⟨rfl, by rw [hU], by rw [hU]; exact hPc, va_K.moved hW.alike hKc, hDc.weaken (fun _ _ _ _ => trivial)⟩⟩ rfl rfl hl.1 rfl (lv_room (Nat.le_of_ble_eq_true rfl)) dX2_search_12 ⟨Nat.le_of_ble_eq_true rfl, Nat.le_of_ble_eq_true rfl⟩) hS (fun q _ h => hFc q h) hFc (fun u t H1 locs ht hvm hw hB hz1 hk1 hS => ?_)
    obtain ⟨y_18, f_19, f_20, hP1, hK1, hD1⟩ := hB
    rw [ht] at hP1
    have hK1 := va_K.moved hvm.symm hK1
    obtain ⟨hP, hD⟩ := va_joinP (cx := [(h0, Sum.inr (2, [Value.ref h7, Value.ref h8, Value.ref h9, Value.int n0_size, Value.ref h10, Value.int n0_names, Value.int n0_plots, Value.ref h11, Value.ref h1, Value.ref h2, Value.ref h3, Value.ref h4, Value.int n0_ways])), (h1, Sum.inl (cAlong, 25, Sum.inr (Sum.inr (Sum.inr (Sum.inr (fun j => some (h5 j))))))), (h2, Sum.inl (cAlong, 5, Sum.inr (Sum.inr (Sum.inr (Sum.inr (fun j => some (h6 j))))))), (h3, Sum.inl (cint, 5, Sum.inl f3)), (h4, Sum.inl (cint, 5, Sum.inl f4))]) (wr := []) (rx := [(h0, Sum.inr (2, [Value.ref h7, Value.ref h8, Value.ref h9, Value.int n0_size, Value.ref h10, Value.int n0_names, Value.int n0_plots, Value.ref h11, Value.ref h1, Value.ref h2, Value.ref h3, Value.ref h4, Value.int y_18])), (h1, Sum.inl (cAlong, 25, Sum.inr (Sum.inr (Sum.inr (Sum.inr (fun j => some (h5 j))))))), (h2, Sum.inl (cAlong, 5, Sum.inr (Sum.inr (Sum.inr (Sum.inr (fun j => some (h6 j))))))), (h3, Sum.inl (cint, 5, Sum.inl f_19)), (h4, Sum.inl (cint, 5, Sum.inl f_20))]) hP hD [0, 1, 2, 3, 4] [] rfl rfl (by decide) (by decide) hk1 hFc hP1 hD1
    generalize H1 = H at hP hS ⊢
    have hP : va_P (dC, dI) vwCl (([(h0, Sum.inr (2, [Value.ref h7, Value.ref h8, Value.ref h9, Value.int n0_size, Value.ref h10, Value.int n0_names, Value.int n0_plots, Value.ref h11, Value.ref h1, Value.ref h2, Value.ref h3, Value.ref h4, Value.int y_18])), (h1, Sum.inl (cAlong, 25, Sum.inr (Sum.inr (Sum.inr (Sum.inr (fun j => some (h5 j))))))), (h2, Sum.inl (cAlong, 5, Sum.inr (Sum.inr (Sum.inr (Sum.inr (fun j => some (h6 j))))))), (h3, Sum.inl (cint, 5, Sum.inl f_19)), (h4, Sum.inl (cint, 5, Sum.inl f_20))] : va_W) ++ (kk_rowsL h5 clong 40 F5 25 ++ (kk_rowsL h6 clong 5 F6 5))) H := hP
    have hD : va_D A (([(h0, Sum.inr (2, [Value.ref h7, Value.ref h8, Value.ref h9, Value.int n0_size, Value.ref h10, Value.int n0_names, Value.int n0_plots, Value.ref h11, Value.ref h1, Value.ref h2, Value.ref h3, Value.ref h4, Value.int y_18])), (h1, Sum.inl (cAlong, 25, Sum.inr (Sum.inr (Sum.inr (Sum.inr (fun j => some (h5 j))))))), (h2, Sum.inl (cAlong, 5, Sum.inr (Sum.inr (Sum.inr (Sum.inr (fun j => some (h6 j))))))), (h3, Sum.inl (cint, 5, Sum.inl f_19)), (h4, Sum.inl (cint, 5, Sum.inl f_20))] : va_W) ++ (kk_rowsL h5 clong 40 F5 25 ++ (kk_rowsL h6 clong 5 F6 5))) := hD
    have hP9 := hP.part (cx := [(h0, Sum.inr (2, [Value.ref h7, Value.ref h8, Value.ref h9, Value.int n0_size, Value.ref h10, Value.int n0_names, Value.int n0_plots, Value.ref h11, Value.ref h1, Value.ref h2, Value.ref h3, Value.ref h4, Value.int y_18])), (h1, Sum.inl (cAlong, 25, Sum.inr (Sum.inr (Sum.inr (Sum.inr (fun j => some (h5 j))))))), (h2, Sum.inl (cAlong, 5, Sum.inr (Sum.inr (Sum.inr (Sum.inr (fun j => some (h6 j))))))), (h3, Sum.inl (cint, 5, Sum.inl f_19)), (h4, Sum.inl (cint, 5, Sum.inl f_20))]) [0, 1, 2, 3, 4] rfl
    have hD9 := hD.part (cx := [(h0, Sum.inr (2, [Value.ref h7, Value.ref h8, Value.ref h9, Value.int n0_size, Value.ref h10, Value.int n0_names, Value.int n0_plots, Value.ref h11, Value.ref h1, Value.ref h2, Value.ref h3, Value.ref h4, Value.int y_18])), (h1, Sum.inl (cAlong, 25, Sum.inr (Sum.inr (Sum.inr (Sum.inr (fun j => some (h5 j))))))), (h2, Sum.inl (cAlong, 5, Sum.inr (Sum.inr (Sum.inr (Sum.inr (fun j => some (h6 j))))))), (h3, Sum.inl (cint, 5, Sum.inl f_19)), (h4, Sum.inl (cint, 5, Sum.inl f_20))]) [0, 1, 2, 3, 4] (by decide) rfl
    have hK9 := hK.sub (tys' := []) [] rfl
    exact W.vret hx hb hr (fun t ht hW => ⟨⟨(), rfl, trivial, y_18, f_19, f_20, F6, by rw [ht]; exact hP9, va_K.moved hW.alike hK9, hD9⟩, hS.F ht⟩) hS.2.2 dX2_search_15
set_option maxHeartbeats 4000000 in
set_option maxRecDepth 100000 in
theorem g_X2_countWays_2 (l : Launch) (dC : Nat → ClassId) (dI : Nat → Nat → Nat) (h0 : Nat) (h1 : Nat) (h2 : Nat) (h3 : Nat) (h4 : Nat) (h5 : Nat → Nat) (h6 : Nat → Nat) (h7 : Nat) (h8 : Nat) (h9 : Nat) (h10 : Nat) (h11 : Nat) (cAlong cint clong : ClassId) (sz : Nat) (n0_size : Int32) (n0_names : Int32) (n0_plots : Int32) (n0_ways : Int32) (f3 : Nat → Int32) (f4 : Nat → Int32) (F5 : Nat → Nat → Int64) (F6 : Nat → Nat → Int64) (tn0_size : 0 ≤ n0_size.toInt ∧ n0_size.toInt ≤ 10) (tn0_names : 1 ≤ n0_names.toInt ∧ n0_names.toInt ≤ 5) (tn0_plots : 0 ≤ n0_plots.toInt ∧ n0_plots.toInt ≤ 40) : Met l yX2_countWays wsX2_countWays ({ frames := 2, cells := 0, slots := 0, locals := 48 }) (va_Pc [.ref h0, .int 2] (fun U => U.heap.size = sz ∧ va_P (dC, dI) vwCl (([(h0, Sum.inr (2, [Value.ref h7, Value.ref h8, Value.ref h9, Value.int n0_size, Value.ref h10, Value.int n0_names, Value.int n0_plots, Value.ref h11, Value.ref h1, Value.ref h2, Value.ref h3, Value.ref h4, Value.int n0_ways])), (h1, Sum.inl (cAlong, 25, Sum.inr (Sum.inr (Sum.inr (Sum.inr (fun j => some (h5 j))))))), (h2, Sum.inl (cAlong, 5, Sum.inr (Sum.inr (Sum.inr (Sum.inr (fun j => some (h6 j))))))), (h3, Sum.inl (cint, 5, Sum.inl f3)), (h4, Sum.inl (cint, 5, Sum.inl f4))] : va_W) ++ (kk_rowsL h5 clong 40 F5 25 ++ (kk_rowsL h6 clong 5 F6 5))) U.heap ∧ va_K (dC, dI) vwCl [(cAlong, .array .long), (cint, .int), (clong, .long)] U ∧ va_D (fun _ => True) (([(h0, Sum.inr (2, [Value.ref h7, Value.ref h8, Value.ref h9, Value.int n0_size, Value.ref h10, Value.int n0_names, Value.int n0_plots, Value.ref h11, Value.ref h1, Value.ref h2, Value.ref h3, Value.ref h4, Value.int n0_ways])), (h1, Sum.inl (cAlong, 25, Sum.inr (Sum.inr (Sum.inr (Sum.inr (fun j => some (h5 j))))))), (h2, Sum.inl (cAlong, 5, Sum.inr (Sum.inr (Sum.inr (Sum.inr (fun j => some (h6 j))))))), (h3, Sum.inl (cint, 5, Sum.inl f3)), (h4, Sum.inl (cint, 5, Sum.inl f4))] : va_W) ++ (kk_rowsL h5 clong 40 F5 25 ++ (kk_rowsL h6 clong 5 F6 5))))) (va_Qv (fun (_ : Unit) => True) (fun (_ : Unit) t => ∃ (m0_ways : Int32) (g3 : Nat → Int32) (g4 : Nat → Int32), va_P (dC, dI) vwCl (([(h0, Sum.inr (2, [Value.ref h7, Value.ref h8, Value.ref h9, Value.int n0_size, Value.ref h10, Value.int n0_names, Value.int n0_plots, Value.ref h11, Value.ref h1, Value.ref h2, Value.ref h3, Value.ref h4, Value.int m0_ways])), (h1, Sum.inl (cAlong, 25, Sum.inr (Sum.inr (Sum.inr (Sum.inr (fun j => some (h5 j))))))), (h2, Sum.inl (cAlong, 5, Sum.inr (Sum.inr (Sum.inr (Sum.inr (fun j => some (h6 j))))))), (h3, Sum.inl (cint, 5, Sum.inl g3)), (h4, Sum.inl (cint, 5, Sum.inl g4))] : va_W) ++ (kk_rowsL h5 clong 40 F5 25 ++ (kk_rowsL h6 clong 5 F6 5))) t.heap ∧ va_K (dC, dI) vwCl [] t ∧ va_D (va_A (([(h0, Sum.inr (2, [Value.ref h7, Value.ref h8, Value.ref h9, Value.int n0_size, Value.ref h10, Value.int n0_names, Value.int n0_plots, Value.ref h11, Value.ref h1, Value.ref h2, Value.ref h3, Value.ref h4, Value.int n0_ways])), (h1, Sum.inl (cAlong, 25, Sum.inr (Sum.inr (Sum.inr (Sum.inr (fun j => some (h5 j))))))), (h2, Sum.inl (cAlong, 5, Sum.inr (Sum.inr (Sum.inr (Sum.inr (fun j => some (h6 j))))))), (h3, Sum.inl (cint, 5, Sum.inl f3)), (h4, Sum.inl (cint, 5, Sum.inl f4))] : va_W) ++ (kk_rowsL h5 clong 40 F5 25 ++ (kk_rowsL h6 clong 5 F6 5))) sz) (([(h0, Sum.inr (2, [Value.ref h7, Value.ref h8, Value.ref h9, Value.int n0_size, Value.ref h10, Value.int n0_names, Value.int n0_plots, Value.ref h11, Value.ref h1, Value.ref h2, Value.ref h3, Value.ref h4, Value.int m0_ways])), (h1, Sum.inl (cAlong, 25, Sum.inr (Sum.inr (Sum.inr (Sum.inr (fun j => some (h5 j))))))), (h2, Sum.inl (cAlong, 5, Sum.inr (Sum.inr (Sum.inr (Sum.inr (fun j => some (h6 j))))))), (h3, Sum.inl (cint, 5, Sum.inl g3)), (h4, Sum.inl (cint, 5, Sum.inl g4))] : va_W) ++ (kk_rowsL h5 clong 40 F5 25 ++ (kk_rowsL h6 clong 5 F6 5)))) (va_A (([(h0, Sum.inr (2, [Value.ref h7, Value.ref h8, Value.ref h9, Value.int n0_size, Value.ref h10, Value.int n0_names, Value.int n0_plots, Value.ref h11, Value.ref h1, Value.ref h2, Value.ref h3, Value.ref h4, Value.int n0_ways])), (h1, Sum.inl (cAlong, 25, Sum.inr (Sum.inr (Sum.inr (Sum.inr (fun j => some (h5 j))))))), (h2, Sum.inl (cAlong, 5, Sum.inr (Sum.inr (Sum.inr (Sum.inr (fun j => some (h6 j))))))), (h3, Sum.inl (cint, 5, Sum.inl f3)), (h4, Sum.inl (cint, 5, Sum.inl f4))] : va_W) ++ (kk_rowsL h5 clong 40 F5 25 ++ (kk_rowsL h6 clong 5 F6 5))) sz)) 0 0 (va_A (([(h0, Sum.inr (2, [Value.ref h7, Value.ref h8, Value.ref h9, Value.int n0_size, Value.ref h10, Value.int n0_names, Value.int n0_plots, Value.ref h11, Value.ref h1, Value.ref h2, Value.ref h3, Value.ref h4, Value.int n0_ways])), (h1, Sum.inl (cAlong, 25, Sum.inr (Sum.inr (Sum.inr (Sum.inr (fun j => some (h5 j))))))), (h2, Sum.inl (cAlong, 5, Sum.inr (Sum.inr (Sum.inr (Sum.inr (fun j => some (h6 j))))))), (h3, Sum.inl (cint, 5, Sum.inl f3)), (h4, Sum.inl (cint, 5, Sum.inl f4))] : va_W) ++ (kk_rowsL h5 clong 40 F5 25 ++ (kk_rowsL h6 clong 5 F6 5))) sz) := by
  refine Met.ofW (cc := cX2_countWays) (maxL := 4) (ret := none) (by decide) rfl ?_
  intro p e s m args below meth c s₁ B hml hv
  obtain ⟨rfl, hsz, hP, hK, hD0⟩ := hv
  have hx := B.exec
  have hb := B.bytes
  have hr := B.returns
  have hts := atoms_spec (ws := wsX2_countWays) B.pre
  have hown : s.vm.findClass RX2 = some m.cls := findClass_of_methodNamed B.named
  have hlocks := B.notSynchronized
  subst hsz
  have hD := hD0.self (sz := s.heap.size)
  generalize hAe : va_A (([(h0, Sum.inr (2, [Value.ref h7, Value.ref h8, Value.ref h9, Value.int n0_size, Value.ref h10, Value.int n0_names, Value.int n0_plots, Value.ref h11, Value.ref h1, Value.ref h2, Value.ref h3, Value.ref h4, Value.int n0_ways])), (h1, Sum.inl (cAlong, 25, Sum.inr (Sum.inr (Sum.inr (Sum.inr (fun j => some (h5 j))))))), (h2, Sum.inl (cAlong, 5, Sum.inr (Sum.inr (Sum.inr (Sum.inr (fun j => some (h6 j))))))), (h3, Sum.inl (cint, 5, Sum.inl f3)), (h4, Sum.inl (cint, 5, Sum.inl f4))] : va_W) ++ (kk_rowsL h5 clong 40 F5 25 ++ (kk_rowsL h6 clong 5 F6 5))) s.heap.size = A at hD ⊢
  have hA : ∀ q : Nat, s.heap.size ≤ q → A q := fun q h => by rw [← hAe]; exact Or.inr h
  have hS : va_S A s.heap s.heap [] := va_S.rf
  have hP : va_P (dC, dI) vwCl (([(h0, Sum.inr (2, [Value.ref h7, Value.ref h8, Value.ref h9, Value.int n0_size, Value.ref h10, Value.int n0_names, Value.int n0_plots, Value.ref h11, Value.ref h1, Value.ref h2, Value.ref h3, Value.ref h4, Value.int n0_ways])), (h1, Sum.inl (cAlong, 25, Sum.inr (Sum.inr (Sum.inr (Sum.inr (fun j => some (h5 j))))))), (h2, Sum.inl (cAlong, 5, Sum.inr (Sum.inr (Sum.inr (Sum.inr (fun j => some (h6 j))))))), (h3, Sum.inl (cint, 5, Sum.inl f3)), (h4, Sum.inl (cint, 5, Sum.inl f4))] : va_W) ++ (kk_rowsL h5 clong 40 F5 25 ++ (kk_rowsL h6 clong 5 F6 5))) s.heap := hP
  have hl := lv_entry ([.ref h0, .int 2]) (n := 4) (Nat.le_of_ble_eq_true rfl)
  rw [lg_entry_eq]
  generalize (lg_sl ([.ref h0, .int 2]) ++ List.replicate (4 - (lg_sl ([.ref h0, .int 2])).length) Slot.unset).toArray = ls at hl ⊢
  have hl : lv_has ls 4 [(0, .ref h0), (1, .int 2)] := hl
  refine lv_aload_n hx hb dX2_countWays_0 rfl (lv_at hl 0 rfl) ?_
  refine va_get (D := (dC, dI)) (ci := 2) (v := .ref h2) (C := RX2) (T := TX2) (N := 13) hx hb hts (fun _ h => List.mem_cons_of_mem _ (List.mem_append_right _ h)) hown hK hP 0 rfl rfl 9 (by decide) (hts (.fieldLink RX2 32 "KinkStreet$Deeds" "open" "[[J") (List.mem_of_getElem? (i := 1) rfl)) (fun _ h9 => h9) rfl dX2_countWays_1 ?_
  refine lv_iload_n hx hb dX2_countWays_4 rfl (lv_at hl 1 rfl) ?_
  have hi_1 : vp_in (2 : Int32) 5 := (by unfold vp_in; decide)
  have hk_1 : (2 : Int32).toNatClampNeg < 5 := Nat.not_le.mp fun q => hi_1 (Or.inr q)
  refine kk_aald hx hb hK hP 2 0 rfl rfl hi_1 dX2_countWays_5 ?_
  refine W.eq (g2 := F0 m 6 ls [.ref (h6 (2 : Int32).toNatClampNeg)]) rfl ?_
  refine lv_iload_n hx hb dX2_countWays_6 rfl (lv_at hl 1 rfl) ?_
  refine va_lald hx hb hK hP _ 2 (kk_getr (kk_getr (kk_rowL hk_1))) rfl (by unfold vp_in; decide) dX2_countWays_7 ?_
  refine lv_topl (fun y_2 e_2 => ?_)
  clear e_2
  refine lv_lstore_n (lv' := [(2, .long y_2), (0, .ref h0), (1, .int 2)]) hx hb dX2_countWays_8 rfl hl (by decide) rfl (fun ls hl => ?_)
  refine lv_lload_n hx hb dX2_countWays_9 rfl (lv_at hl 0 rfl) ?_
  refine lv_lconst (v := 0) hx hb dX2_countWays_10 (by decide) ?_
  refine W.lcmp hx hb dX2_countWays_11 ?_
  refine lv_if_ne (tgt := 16) hx hb dX2_countWays_12 (by decide) (fun _ => ?_) (fun _ => ?_)
  · skip
    refine lv_aload_n hx hb dX2_countWays_16 rfl (lv_at hl 1 rfl) ?_
    refine va_get (D := (dC, dI)) (ci := 2) (v := .int n0_ways) (C := RX2) (T := TX2) (N := 13) hx hb hts (fun _ h => List.mem_cons_of_mem _ (List.mem_append_right _ h)) hown hK hP 0 rfl rfl 12 (by decide) (hts (.fieldLink RX2 70 "KinkStreet$Deeds" "ways" "I") (List.mem_of_getElem? (i := 2) rfl)) (fun _ h9 => h9) rfl dX2_countWays_17 ?_
    refine lv_if_ne (tgt := 47) hx hb dX2_countWays_20 (by decide) (fun c_3 => ?_) (fun c_3 => ?_)
    · have t_3 : n0_ways.toInt ≠ 0 := kk_ne c_3
      refine lv_aload_n hx hb dX2_countWays_47 rfl (lv_at hl 1 rfl) ?_
      refine lv_ldc hx hb hown (hts _ (List.mem_of_getElem? (i := 9) rfl)) dX2_countWays_48 ?_
      refine lv_aload_n hx hb dX2_countWays_50 rfl (lv_at hl 1 rfl) ?_
      refine va_get (D := (dC, dI)) (ci := 2) (v := .int n0_ways) (C := RX2) (T := TX2) (N := 13) hx hb hts (fun _ h => List.mem_cons_of_mem _ (List.mem_append_right _ h)) hown hK hP 0 rfl rfl 12 (by decide) (hts (.fieldLink RX2 70 "KinkStreet$Deeds" "ways" "I") (List.mem_of_getElem? (i := 2) rfl)) (fun _ h9 => h9) rfl dX2_countWays_51 ?_
      refine lv_lload_n hx hb dX2_countWays_54 rfl (lv_at hl 0 rfl) ?_
      obtain ⟨hPc, hDc, hFc⟩ := kk_cutout (wc := []) hP hD hS hA [] (by decide) rfl
      have hKc := hK.sub (tys' := []) [] rfl
      refine va_calli (va_runS (As := [.long y_2]) (rest := [.int n0_ways, .int 1000000, .ref h0]) ⟨hx, hb, hml, hown, hts⟩ (g_J13_bitCount_95d88_0 l dC dI s.heap.size y_2 (y_2.toInt) rfl) (va_cwS 1 hts gX2_countWays_J13_bitCount_95d88 rfl rfl rfl (by decide +kernel) ⟨Nat.le_of_ble_eq_true rfl, Nat.le_of_ble_eq_true rfl⟩) ⟨fun a U g mk q => by obtain ⟨q0, q1, qP, qK, qD⟩ := q; exact ⟨q0, q1, qP, va_K.moved (u := U) (U := U.calling g mk a) (Vm.Alike.refl U.vm) qK, qD⟩, fun U hU hW => ⟨rfl, by rw [hU], by rw [hU]; exact hPc, va_K.moved hW.alike hKc, hDc.weaken (fun _ _ _ _ => trivial)⟩⟩ rfl rfl hl.1 rfl (lv_room (Nat.le_of_ble_eq_true rfl)) dX2_countWays_55 ⟨Nat.le_of_ble_eq_true rfl, Nat.le_of_ble_eq_true rfl⟩) hS (fun q _ h => hFc q h) hFc (fun r_4 u t H1 locs ht hvm hw hB hz1 hk1 hS => ?_)
      obtain ⟨hP1, hK1, hD1⟩ := hB
      rw [ht] at hP1
      have hK1 := va_K.moved hvm.symm hK1
      obtain ⟨hP, hD⟩ := va_joinQ (cx := []) (wr := [(h0, Sum.inr (2, [Value.ref h7, Value.ref h8, Value.ref h9, Value.int n0_size, Value.ref h10, Value.int n0_names, Value.int n0_plots, Value.ref h11, Value.ref h1, Value.ref h2, Value.ref h3, Value.ref h4, Value.int n0_ways])), (h1, Sum.inl (cAlong, 25, Sum.inr (Sum.inr (Sum.inr (Sum.inr (fun j => some (h5 j))))))), (h2, Sum.inl (cAlong, 5, Sum.inr (Sum.inr (Sum.inr (Sum.inr (fun j => some (h6 j))))))), (h3, Sum.inl (cint, 5, Sum.inl f3)), (h4, Sum.inl (cint, 5, Sum.inl f4))]) (w1 := []) hP hD [] [0, 1, 2, 3, 4] rfl rfl (by decide) (by decide) hk1 hFc hP1 hD1
      generalize H1 = H at hP hS ⊢
      have hP : va_P (dC, dI) vwCl (([(h0, Sum.inr (2, [Value.ref h7, Value.ref h8, Value.ref h9, Value.int n0_size, Value.ref h10, Value.int n0_names, Value.int n0_plots, Value.ref h11, Value.ref h1, Value.ref h2, Value.ref h3, Value.ref h4, Value.int n0_ways])), (h1, Sum.inl (cAlong, 25, Sum.inr (Sum.inr (Sum.inr (Sum.inr (fun j => some (h5 j))))))), (h2, Sum.inl (cAlong, 5, Sum.inr (Sum.inr (Sum.inr (Sum.inr (fun j => some (h6 j))))))), (h3, Sum.inl (cint, 5, Sum.inl f3)), (h4, Sum.inl (cint, 5, Sum.inl f4))] : va_W) ++ (kk_rowsL h5 clong 40 F5 25 ++ (kk_rowsL h6 clong 5 F6 5))) H := hP
      have hD : va_D A (([(h0, Sum.inr (2, [Value.ref h7, Value.ref h8, Value.ref h9, Value.int n0_size, Value.ref h10, Value.int n0_names, Value.int n0_plots, Value.ref h11, Value.ref h1, Value.ref h2, Value.ref h3, Value.ref h4, Value.int n0_ways])), (h1, Sum.inl (cAlong, 25, Sum.inr (Sum.inr (Sum.inr (Sum.inr (fun j => some (h5 j))))))), (h2, Sum.inl (cAlong, 5, Sum.inr (Sum.inr (Sum.inr (Sum.inr (fun j => some (h6 j))))))), (h3, Sum.inl (cint, 5, Sum.inl f3)), (h4, Sum.inl (cint, 5, Sum.inl f4))] : va_W) ++ (kk_rowsL h5 clong 40 F5 25 ++ (kk_rowsL h6 clong 5 F6 5))) := hD
      refine lv_iadd hx hb dX2_countWays_58 ?_
      refine va_mmin hx hb (hml.trans hl.1.symm) hown (hts (.methodLink RX2 61 Lib.Math.min.name) (List.mem_of_getElem? (i := 10) rfl)) (hts (.static Lib.Math.min.name) (List.mem_of_getElem? (i := 11) rfl)) (hts (.initialized "java/lang/Math") (List.mem_of_getElem? (i := 12) rfl)) (hts (.code Lib.Math.min.name Lib.Math.min.code 2 (some .int)) (List.mem_of_getElem? (i := 13) rfl)) (Nat.le_of_ble_eq_true rfl) (Nat.le_of_ble_eq_true rfl) (Nat.le_of_ble_eq_true rfl) (Nat.le_of_ble_eq_true rfl) dX2_countWays_59 ?_
      refine lv_topi (fun y_5 e_5 => ?_)
      have t_5 : y_5.toInt ≤ 1000000 ∧ y_5.toInt ≤ (n0_ways + r_4).toInt ∧ (y_5.toInt = 1000000 ∨ y_5.toInt = (n0_ways + r_4).toInt) := by rw [e_5]; exact kk_min _ _
      clear e_5
      refine va_put (D := (dC, dI)) (ci := 2) (v := .int y_5) (ty := .int) (C := RX2) (T := TX2) (N := 13) hx hb hts (fun _ h => List.mem_cons_of_mem _ (List.mem_append_right _ h)) tyX2 tyX2_ok nmX2 hown hK hP hD hS 0 rfl rfl 12 (by decide) (hts (.fieldLink RX2 70 "KinkStreet$Deeds" "ways" "I") (List.mem_of_getElem? (i := 2) rfl)) (fun _ h9 => h9) rfl (by decide +kernel) rfl rfl (Nat.le_of_ble_eq_true rfl) dX2_countWays_62 (fun H locs hP hD hS => ?_)
      have hP : va_P (dC, dI) vwCl (([(h0, Sum.inr (2, [Value.ref h7, Value.ref h8, Value.ref h9, Value.int n0_size, Value.ref h10, Value.int n0_names, Value.int n0_plots, Value.ref h11, Value.ref h1, Value.ref h2, Value.ref h3, Value.ref h4, Value.int y_5])), (h1, Sum.inl (cAlong, 25, Sum.inr (Sum.inr (Sum.inr (Sum.inr (fun j => some (h5 j))))))), (h2, Sum.inl (cAlong, 5, Sum.inr (Sum.inr (Sum.inr (Sum.inr (fun j => some (h6 j))))))), (h3, Sum.inl (cint, 5, Sum.inl f3)), (h4, Sum.inl (cint, 5, Sum.inl f4))] : va_W) ++ (kk_rowsL h5 clong 40 F5 25 ++ (kk_rowsL h6 clong 5 F6 5))) H := hP
      have hD : va_D A (([(h0, Sum.inr (2, [Value.ref h7, Value.ref h8, Value.ref h9, Value.int n0_size, Value.ref h10, Value.int n0_names, Value.int n0_plots, Value.ref h11, Value.ref h1, Value.ref h2, Value.ref h3, Value.ref h4, Value.int y_5])), (h1, Sum.inl (cAlong, 25, Sum.inr (Sum.inr (Sum.inr (Sum.inr (fun j => some (h5 j))))))), (h2, Sum.inl (cAlong, 5, Sum.inr (Sum.inr (Sum.inr (Sum.inr (fun j => some (h6 j))))))), (h3, Sum.inl (cint, 5, Sum.inl f3)), (h4, Sum.inl (cint, 5, Sum.inl f4))] : va_W) ++ (kk_rowsL h5 clong 40 F5 25 ++ (kk_rowsL h6 clong 5 F6 5))) := hD
      have hP9 := hP.part (cx := [(h0, Sum.inr (2, [Value.ref h7, Value.ref h8, Value.ref h9, Value.int n0_size, Value.ref h10, Value.int n0_names, Value.int n0_plots, Value.ref h11, Value.ref h1, Value.ref h2, Value.ref h3, Value.ref h4, Value.int y_5])), (h1, Sum.inl (cAlong, 25, Sum.inr (Sum.inr (Sum.inr (Sum.inr (fun j => some (h5 j))))))), (h2, Sum.inl (cAlong, 5, Sum.inr (Sum.inr (Sum.inr (Sum.inr (fun j => some (h6 j))))))), (h3, Sum.inl (cint, 5, Sum.inl f3)), (h4, Sum.inl (cint, 5, Sum.inl f4))]) [0, 1, 2, 3, 4] rfl
      have hD9 := hD.part (cx := [(h0, Sum.inr (2, [Value.ref h7, Value.ref h8, Value.ref h9, Value.int n0_size, Value.ref h10, Value.int n0_names, Value.int n0_plots, Value.ref h11, Value.ref h1, Value.ref h2, Value.ref h3, Value.ref h4, Value.int y_5])), (h1, Sum.inl (cAlong, 25, Sum.inr (Sum.inr (Sum.inr (Sum.inr (fun j => some (h5 j))))))), (h2, Sum.inl (cAlong, 5, Sum.inr (Sum.inr (Sum.inr (Sum.inr (fun j => some (h6 j))))))), (h3, Sum.inl (cint, 5, Sum.inl f3)), (h4, Sum.inl (cint, 5, Sum.inl f4))]) [0, 1, 2, 3, 4] (by decide) rfl
      have hK9 := hK.sub (tys' := []) [] rfl
      exact W.vret hx hb hr (fun t ht hW => ⟨⟨(), rfl, trivial, y_5, f3, f4, by rw [ht]; exact hP9, va_K.moved hW.alike hK9, hD9⟩, hS.F ht⟩) hS.2.2 dX2_countWays_65
    · have t_3 : n0_ways.toInt = 0 := kk_eq c_3
      refine lv_aload_n hx hb dX2_countWays_23 rfl (lv_at hl 1 rfl) ?_
      refine va_get (D := (dC, dI)) (ci := 2) (v := .ref h3) (C := RX2) (T := TX2) (N := 13) hx hb hts (fun _ h => List.mem_cons_of_mem _ (List.mem_append_right _ h)) hown hK hP 0 rfl rfl 10 (by decide) (hts (.fieldLink RX2 35 "KinkStreet$Deeds" "tried" "[I") (List.mem_of_getElem? (i := 3) rfl)) (fun _ h9 => h9) rfl dX2_countWays_24 ?_
      refine lv_iload_n hx hb dX2_countWays_27 rfl (lv_at hl 2 rfl) ?_
      refine lv_lload_n hx hb dX2_countWays_28 rfl (lv_at hl 0 rfl) ?_
      obtain ⟨hPc, hDc, hFc⟩ := kk_cutout (wc := []) hP hD hS hA [] (by decide) rfl
      have hKc := hK.sub (tys' := []) [] rfl
      refine va_calli (va_runS (As := [.long y_2]) (rest := [.int 2, .ref h3]) ⟨hx, hb, hml, hown, hts⟩ (g_J13_numberOfTrailingZeros_95d88_0 l dC dI s.heap.size y_2 (y_2.toInt) rfl) (va_cwS 1 hts gX2_countWays_J13_numberOfTrailingZeros_95d88 rfl rfl rfl (by decide +kernel) ⟨Nat.le_of_ble_eq_true rfl, Nat.le_of_ble_eq_true rfl⟩) ⟨fun a U g mk q => by obtain ⟨q0, q1, qP, qK, qD⟩ := q; exact ⟨q0, q1, qP, va_K.moved (u := U) (U := U.calling g mk a) (Vm.Alike.refl U.vm) qK, qD⟩, fun U hU hW => ⟨rfl, by rw [hU], by rw [hU]; exact hPc, va_K.moved hW.alike hKc, hDc.weaken (fun _ _ _ _ => trivial)⟩⟩ rfl rfl hl.1 rfl (lv_room (Nat.le_of_ble_eq_true rfl)) dX2_countWays_29 ⟨Nat.le_of_ble_eq_true rfl, Nat.le_of_ble_eq_true rfl⟩) hS (fun q _ h => hFc q h) hFc (fun r_6 u t H1 locs ht hvm hw hB hz1 hk1 hS => ?_)
      obtain ⟨hP1, hK1, hD1⟩ := hB
      rw [ht] at hP1
      have hK1 := va_K.moved hvm.symm hK1
      obtain ⟨hP, hD⟩ := va_joinQ (cx := []) (wr := [(h0, Sum.inr (2, [Value.ref h7, Value.ref h8, Value.ref h9, Value.int n0_size, Value.ref h10, Value.int n0_names, Value.int n0_plots, Value.ref h11, Value.ref h1, Value.ref h2, Value.ref h3, Value.ref h4, Value.int n0_ways])), (h1, Sum.inl (cAlong, 25, Sum.inr (Sum.inr (Sum.inr (Sum.inr (fun j => some (h5 j))))))), (h2, Sum.inl (cAlong, 5, Sum.inr (Sum.inr (Sum.inr (Sum.inr (fun j => some (h6 j))))))), (h3, Sum.inl (cint, 5, Sum.inl f3)), (h4, Sum.inl (cint, 5, Sum.inl f4))]) (w1 := []) hP hD [] [0, 1, 2, 3, 4] rfl rfl (by decide) (by decide) hk1 hFc hP1 hD1
      generalize H1 = H at hP hS ⊢
      have hP : va_P (dC, dI) vwCl (([(h0, Sum.inr (2, [Value.ref h7, Value.ref h8, Value.ref h9, Value.int n0_size, Value.ref h10, Value.int n0_names, Value.int n0_plots, Value.ref h11, Value.ref h1, Value.ref h2, Value.ref h3, Value.ref h4, Value.int n0_ways])), (h1, Sum.inl (cAlong, 25, Sum.inr (Sum.inr (Sum.inr (Sum.inr (fun j => some (h5 j))))))), (h2, Sum.inl (cAlong, 5, Sum.inr (Sum.inr (Sum.inr (Sum.inr (fun j => some (h6 j))))))), (h3, Sum.inl (cint, 5, Sum.inl f3)), (h4, Sum.inl (cint, 5, Sum.inl f4))] : va_W) ++ (kk_rowsL h5 clong 40 F5 25 ++ (kk_rowsL h6 clong 5 F6 5))) H := hP
      have hD : va_D A (([(h0, Sum.inr (2, [Value.ref h7, Value.ref h8, Value.ref h9, Value.int n0_size, Value.ref h10, Value.int n0_names, Value.int n0_plots, Value.ref h11, Value.ref h1, Value.ref h2, Value.ref h3, Value.ref h4, Value.int n0_ways])), (h1, Sum.inl (cAlong, 25, Sum.inr (Sum.inr (Sum.inr (Sum.inr (fun j => some (h5 j))))))), (h2, Sum.inl (cAlong, 5, Sum.inr (Sum.inr (Sum.inr (Sum.inr (fun j => some (h6 j))))))), (h3, Sum.inl (cint, 5, Sum.inl f3)), (h4, Sum.inl (cint, 5, Sum.inl f4))] : va_W) ++ (kk_rowsL h5 clong 40 F5 25 ++ (kk_rowsL h6 clong 5 F6 5))) := hD
      refine va_iast hx hb hK hP hD hS 3 1 rfl rfl (by unfold vp_in; decide) dX2_countWays_32 (fun H locs hP hD hS => ?_)
      generalize upd f3 (2 : Int32).toNatClampNeg r_6 = f_7 at hP hD
      have hP : va_P (dC, dI) vwCl (([(h0, Sum.inr (2, [Value.ref h7, Value.ref h8, Value.ref h9, Value.int n0_size, Value.ref h10, Value.int n0_names, Value.int n0_plots, Value.ref h11, Value.ref h1, Value.ref h2, Value.ref h3, Value.ref h4, Value.int n0_ways])), (h1, Sum.inl (cAlong, 25, Sum.inr (Sum.inr (Sum.inr (Sum.inr (fun j => some (h5 j))))))), (h2, Sum.inl (cAlong, 5, Sum.inr (Sum.inr (Sum.inr (Sum.inr (fun j => some (h6 j))))))), (h3, Sum.inl (cint, 5, Sum.inl f_7)), (h4, Sum.inl (cint, 5, Sum.inl f4))] : va_W) ++ (kk_rowsL h5 clong 40 F5 25 ++ (kk_rowsL h6 clong 5 F6 5))) H := hP
      have hD : va_D A (([(h0, Sum.inr (2, [Value.ref h7, Value.ref h8, Value.ref h9, Value.int n0_size, Value.ref h10, Value.int n0_names, Value.int n0_plots, Value.ref h11, Value.ref h1, Value.ref h2, Value.ref h3, Value.ref h4, Value.int n0_ways])), (h1, Sum.inl (cAlong, 25, Sum.inr (Sum.inr (Sum.inr (Sum.inr (fun j => some (h5 j))))))), (h2, Sum.inl (cAlong, 5, Sum.inr (Sum.inr (Sum.inr (Sum.inr (fun j => some (h6 j))))))), (h3, Sum.inl (cint, 5, Sum.inl f_7)), (h4, Sum.inl (cint, 5, Sum.inl f4))] : va_W) ++ (kk_rowsL h5 clong 40 F5 25 ++ (kk_rowsL h6 clong 5 F6 5))) := hD
      refine lv_aload_n hx hb dX2_countWays_33 rfl (lv_at hl 1 rfl) ?_
      refine va_get (D := (dC, dI)) (ci := 2) (v := .ref h3) (C := RX2) (T := TX2) (N := 13) hx hb hts (fun _ h => List.mem_cons_of_mem _ (List.mem_append_right _ h)) hown hK hP 0 rfl rfl 10 (by decide) (hts (.fieldLink RX2 35 "KinkStreet$Deeds" "tried" "[I") (List.mem_of_getElem? (i := 3) rfl)) (fun _ h9 => h9) rfl dX2_countWays_34 ?_
      refine lv_iconst (v := 0) hx hb dX2_countWays_37 (by decide) ?_
      refine lv_aload_n hx hb dX2_countWays_38 rfl (lv_at hl 1 rfl) ?_
      refine va_get (D := (dC, dI)) (ci := 2) (v := .ref h4) (C := RX2) (T := TX2) (N := 13) hx hb hts (fun _ h => List.mem_cons_of_mem _ (List.mem_append_right _ h)) hown hK hP 0 rfl rfl 11 (by decide) (hts (.fieldLink RX2 38 "KinkStreet$Deeds" "found" "[I") (List.mem_of_getElem? (i := 4) rfl)) (fun _ h9 => h9) rfl dX2_countWays_39 ?_
      refine lv_iconst (v := 0) hx hb dX2_countWays_42 (by decide) ?_
      refine lv_iconst (v := 5) hx hb dX2_countWays_43 (by decide) ?_
      refine va_copyi (sp := 0) (dp := 0) (n := 5) hx hb (hml.trans hl.1.symm) hown (hts (.methodLink RX2 118 arraycopyName) (List.mem_of_getElem? (i := 5) rfl)) (hts (.native arraycopyName) (List.mem_of_getElem? (i := 6) rfl)) (hts (.static arraycopyName) (List.mem_of_getElem? (i := 7) rfl)) (hts (.initialized "java/lang/System") (List.mem_of_getElem? (i := 8) rfl)) hK hP hD hS 3 4 1 1 rfl rfl rfl rfl rfl (by decide) (by decide) (by decide) (by decide) (by decide) (fun _ _ => rfl) (Nat.le_of_ble_eq_true rfl) (Nat.le_of_ble_eq_true rfl) dX2_countWays_44 (fun H locs hP hD hS => ?_)
      generalize va_cpy f_7 f4 (0 : Int32).toNatClampNeg (0 : Int32).toNatClampNeg (5 : Int32).toNatClampNeg = f_8 at hP hD
      have hP : va_P (dC, dI) vwCl (([(h0, Sum.inr (2, [Value.ref h7, Value.ref h8, Value.ref h9, Value.int n0_size, Value.ref h10, Value.int n0_names, Value.int n0_plots, Value.ref h11, Value.ref h1, Value.ref h2, Value.ref h3, Value.ref h4, Value.int n0_ways])), (h1, Sum.inl (cAlong, 25, Sum.inr (Sum.inr (Sum.inr (Sum.inr (fun j => some (h5 j))))))), (h2, Sum.inl (cAlong, 5, Sum.inr (Sum.inr (Sum.inr (Sum.inr (fun j => some (h6 j))))))), (h3, Sum.inl (cint, 5, Sum.inl f_7)), (h4, Sum.inl (cint, 5, Sum.inl f_8))] : va_W) ++ (kk_rowsL h5 clong 40 F5 25 ++ (kk_rowsL h6 clong 5 F6 5))) H := hP
      have hD : va_D A (([(h0, Sum.inr (2, [Value.ref h7, Value.ref h8, Value.ref h9, Value.int n0_size, Value.ref h10, Value.int n0_names, Value.int n0_plots, Value.ref h11, Value.ref h1, Value.ref h2, Value.ref h3, Value.ref h4, Value.int n0_ways])), (h1, Sum.inl (cAlong, 25, Sum.inr (Sum.inr (Sum.inr (Sum.inr (fun j => some (h5 j))))))), (h2, Sum.inl (cAlong, 5, Sum.inr (Sum.inr (Sum.inr (Sum.inr (fun j => some (h6 j))))))), (h3, Sum.inl (cint, 5, Sum.inl f_7)), (h4, Sum.inl (cint, 5, Sum.inl f_8))] : va_W) ++ (kk_rowsL h5 clong 40 F5 25 ++ (kk_rowsL h6 clong 5 F6 5))) := hD
      refine lv_aload_n hx hb dX2_countWays_47 rfl (lv_at hl 1 rfl) ?_
      refine lv_ldc hx hb hown (hts _ (List.mem_of_getElem? (i := 9) rfl)) dX2_countWays_48 ?_
      refine lv_aload_n hx hb dX2_countWays_50 rfl (lv_at hl 1 rfl) ?_
      refine va_get (D := (dC, dI)) (ci := 2) (v := .int n0_ways) (C := RX2) (T := TX2) (N := 13) hx hb hts (fun _ h => List.mem_cons_of_mem _ (List.mem_append_right _ h)) hown hK hP 0 rfl rfl 12 (by decide) (hts (.fieldLink RX2 70 "KinkStreet$Deeds" "ways" "I") (List.mem_of_getElem? (i := 2) rfl)) (fun _ h9 => h9) rfl dX2_countWays_51 ?_
      refine lv_lload_n hx hb dX2_countWays_54 rfl (lv_at hl 0 rfl) ?_
      obtain ⟨hPc, hDc, hFc⟩ := kk_cutout (wc := []) hP hD hS hA [] (by decide) rfl
      have hKc := hK.sub (tys' := []) [] rfl
      refine va_calli (va_runS (As := [.long y_2]) (rest := [.int n0_ways, .int 1000000, .ref h0]) ⟨hx, hb, hml, hown, hts⟩ (g_J13_bitCount_95d88_0 l dC dI H.size y_2 (y_2.toInt) rfl) (va_cwS 1 hts gX2_countWays_J13_bitCount_95d88 rfl rfl rfl (by decide +kernel) ⟨Nat.le_of_ble_eq_true rfl, Nat.le_of_ble_eq_true rfl⟩) ⟨fun a U g mk q => by obtain ⟨q0, q1, qP, qK, qD⟩ := q; exact ⟨q0, q1, qP, va_K.moved (u := U) (U := U.calling g mk a) (Vm.Alike.refl U.vm) qK, qD⟩, fun U hU hW => ⟨rfl, by rw [hU], by rw [hU]; exact hPc, va_K.moved hW.alike hKc, hDc.weaken (fun _ _ _ _ => trivial)⟩⟩ rfl rfl hl.1 rfl (lv_room (Nat.le_of_ble_eq_true rfl)) dX2_countWays_55 ⟨Nat.le_of_ble_eq_true rfl, Nat.le_of_ble_eq_true rfl⟩) hS (fun q _ h => hFc q h) hFc (fun r_9 u t H1 locs ht hvm hw hB hz1 hk1 hS => ?_)
      obtain ⟨hP1, hK1, hD1⟩ := hB
      rw [ht] at hP1
      have hK1 := va_K.moved hvm.symm hK1
      obtain ⟨hP, hD⟩ := va_joinQ (cx := []) (wr := [(h0, Sum.inr (2, [Value.ref h7, Value.ref h8, Value.ref h9, Value.int n0_size, Value.ref h10, Value.int n0_names, Value.int n0_plots, Value.ref h11, Value.ref h1, Value.ref h2, Value.ref h3, Value.ref h4, Value.int n0_ways])), (h1, Sum.inl (cAlong, 25, Sum.inr (Sum.inr (Sum.inr (Sum.inr (fun j => some (h5 j))))))), (h2, Sum.inl (cAlong, 5, Sum.inr (Sum.inr (Sum.inr (Sum.inr (fun j => some (h6 j))))))), (h3, Sum.inl (cint, 5, Sum.inl f_7)), (h4, Sum.inl (cint, 5, Sum.inl f_8))]) (w1 := []) hP hD [] [0, 1, 2, 3, 4] rfl rfl (by decide) (by decide) hk1 hFc hP1 hD1
      generalize H1 = H at hP hS ⊢
      have hP : va_P (dC, dI) vwCl (([(h0, Sum.inr (2, [Value.ref h7, Value.ref h8, Value.ref h9, Value.int n0_size, Value.ref h10, Value.int n0_names, Value.int n0_plots, Value.ref h11, Value.ref h1, Value.ref h2, Value.ref h3, Value.ref h4, Value.int n0_ways])), (h1, Sum.inl (cAlong, 25, Sum.inr (Sum.inr (Sum.inr (Sum.inr (fun j => some (h5 j))))))), (h2, Sum.inl (cAlong, 5, Sum.inr (Sum.inr (Sum.inr (Sum.inr (fun j => some (h6 j))))))), (h3, Sum.inl (cint, 5, Sum.inl f_7)), (h4, Sum.inl (cint, 5, Sum.inl f_8))] : va_W) ++ (kk_rowsL h5 clong 40 F5 25 ++ (kk_rowsL h6 clong 5 F6 5))) H := hP
      have hD : va_D A (([(h0, Sum.inr (2, [Value.ref h7, Value.ref h8, Value.ref h9, Value.int n0_size, Value.ref h10, Value.int n0_names, Value.int n0_plots, Value.ref h11, Value.ref h1, Value.ref h2, Value.ref h3, Value.ref h4, Value.int n0_ways])), (h1, Sum.inl (cAlong, 25, Sum.inr (Sum.inr (Sum.inr (Sum.inr (fun j => some (h5 j))))))), (h2, Sum.inl (cAlong, 5, Sum.inr (Sum.inr (Sum.inr (Sum.inr (fun j => some (h6 j))))))), (h3, Sum.inl (cint, 5, Sum.inl f_7)), (h4, Sum.inl (cint, 5, Sum.inl f_8))] : va_W) ++ (kk_rowsL h5 clong 40 F5 25 ++ (kk_rowsL h6 clong 5 F6 5))) := hD
      refine lv_iadd hx hb dX2_countWays_58 ?_
      refine va_mmin hx hb (hml.trans hl.1.symm) hown (hts (.methodLink RX2 61 Lib.Math.min.name) (List.mem_of_getElem? (i := 10) rfl)) (hts (.static Lib.Math.min.name) (List.mem_of_getElem? (i := 11) rfl)) (hts (.initialized "java/lang/Math") (List.mem_of_getElem? (i := 12) rfl)) (hts (.code Lib.Math.min.name Lib.Math.min.code 2 (some .int)) (List.mem_of_getElem? (i := 13) rfl)) (Nat.le_of_ble_eq_true rfl) (Nat.le_of_ble_eq_true rfl) (Nat.le_of_ble_eq_true rfl) (Nat.le_of_ble_eq_true rfl) dX2_countWays_59 ?_
      refine lv_topi (fun y_10 e_10 => ?_)
      have t_10 : y_10.toInt ≤ 1000000 ∧ y_10.toInt ≤ (n0_ways + r_9).toInt ∧ (y_10.toInt = 1000000 ∨ y_10.toInt = (n0_ways + r_9).toInt) := by rw [e_10]; exact kk_min _ _
      clear e_10
      refine va_put (D := (dC, dI)) (ci := 2) (v := .int y_10) (ty := .int) (C := RX2) (T := TX2) (N := 13) hx hb hts (fun _ h => List.mem_cons_of_mem _ (List.mem_append_right _ h)) tyX2 tyX2_ok nmX2 hown hK hP hD hS 0 rfl rfl 12 (by decide) (hts (.fieldLink RX2 70 "KinkStreet$Deeds" "ways" "I") (List.mem_of_getElem? (i := 2) rfl)) (fun _ h9 => h9) rfl (by decide +kernel) rfl rfl (Nat.le_of_ble_eq_true rfl) dX2_countWays_62 (fun H locs hP hD hS => ?_)
      have hP : va_P (dC, dI) vwCl (([(h0, Sum.inr (2, [Value.ref h7, Value.ref h8, Value.ref h9, Value.int n0_size, Value.ref h10, Value.int n0_names, Value.int n0_plots, Value.ref h11, Value.ref h1, Value.ref h2, Value.ref h3, Value.ref h4, Value.int y_10])), (h1, Sum.inl (cAlong, 25, Sum.inr (Sum.inr (Sum.inr (Sum.inr (fun j => some (h5 j))))))), (h2, Sum.inl (cAlong, 5, Sum.inr (Sum.inr (Sum.inr (Sum.inr (fun j => some (h6 j))))))), (h3, Sum.inl (cint, 5, Sum.inl f_7)), (h4, Sum.inl (cint, 5, Sum.inl f_8))] : va_W) ++ (kk_rowsL h5 clong 40 F5 25 ++ (kk_rowsL h6 clong 5 F6 5))) H := hP
      have hD : va_D A (([(h0, Sum.inr (2, [Value.ref h7, Value.ref h8, Value.ref h9, Value.int n0_size, Value.ref h10, Value.int n0_names, Value.int n0_plots, Value.ref h11, Value.ref h1, Value.ref h2, Value.ref h3, Value.ref h4, Value.int y_10])), (h1, Sum.inl (cAlong, 25, Sum.inr (Sum.inr (Sum.inr (Sum.inr (fun j => some (h5 j))))))), (h2, Sum.inl (cAlong, 5, Sum.inr (Sum.inr (Sum.inr (Sum.inr (fun j => some (h6 j))))))), (h3, Sum.inl (cint, 5, Sum.inl f_7)), (h4, Sum.inl (cint, 5, Sum.inl f_8))] : va_W) ++ (kk_rowsL h5 clong 40 F5 25 ++ (kk_rowsL h6 clong 5 F6 5))) := hD
      have hP9 := hP.part (cx := [(h0, Sum.inr (2, [Value.ref h7, Value.ref h8, Value.ref h9, Value.int n0_size, Value.ref h10, Value.int n0_names, Value.int n0_plots, Value.ref h11, Value.ref h1, Value.ref h2, Value.ref h3, Value.ref h4, Value.int y_10])), (h1, Sum.inl (cAlong, 25, Sum.inr (Sum.inr (Sum.inr (Sum.inr (fun j => some (h5 j))))))), (h2, Sum.inl (cAlong, 5, Sum.inr (Sum.inr (Sum.inr (Sum.inr (fun j => some (h6 j))))))), (h3, Sum.inl (cint, 5, Sum.inl f_7)), (h4, Sum.inl (cint, 5, Sum.inl f_8))]) [0, 1, 2, 3, 4] rfl
      have hD9 := hD.part (cx := [(h0, Sum.inr (2, [Value.ref h7, Value.ref h8, Value.ref h9, Value.int n0_size, Value.ref h10, Value.int n0_names, Value.int n0_plots, Value.ref h11, Value.ref h1, Value.ref h2, Value.ref h3, Value.ref h4, Value.int y_10])), (h1, Sum.inl (cAlong, 25, Sum.inr (Sum.inr (Sum.inr (Sum.inr (fun j => some (h5 j))))))), (h2, Sum.inl (cAlong, 5, Sum.inr (Sum.inr (Sum.inr (Sum.inr (fun j => some (h6 j))))))), (h3, Sum.inl (cint, 5, Sum.inl f_7)), (h4, Sum.inl (cint, 5, Sum.inl f_8))]) [0, 1, 2, 3, 4] (by decide) rfl
      have hK9 := hK.sub (tys' := []) [] rfl
      exact W.vret hx hb hr (fun t ht hW => ⟨⟨(), rfl, trivial, y_10, f_7, f_8, by rw [ht]; exact hP9, va_K.moved hW.alike hK9, hD9⟩, hS.F ht⟩) hS.2.2 dX2_countWays_65
  · skip
    have hP9 := hP.part (cx := [(h0, Sum.inr (2, [Value.ref h7, Value.ref h8, Value.ref h9, Value.int n0_size, Value.ref h10, Value.int n0_names, Value.int n0_plots, Value.ref h11, Value.ref h1, Value.ref h2, Value.ref h3, Value.ref h4, Value.int n0_ways])), (h1, Sum.inl (cAlong, 25, Sum.inr (Sum.inr (Sum.inr (Sum.inr (fun j => some (h5 j))))))), (h2, Sum.inl (cAlong, 5, Sum.inr (Sum.inr (Sum.inr (Sum.inr (fun j => some (h6 j))))))), (h3, Sum.inl (cint, 5, Sum.inl f3)), (h4, Sum.inl (cint, 5, Sum.inl f4))]) [0, 1, 2, 3, 4] rfl
    have hD9 := hD.part (cx := [(h0, Sum.inr (2, [Value.ref h7, Value.ref h8, Value.ref h9, Value.int n0_size, Value.ref h10, Value.int n0_names, Value.int n0_plots, Value.ref h11, Value.ref h1, Value.ref h2, Value.ref h3, Value.ref h4, Value.int n0_ways])), (h1, Sum.inl (cAlong, 25, Sum.inr (Sum.inr (Sum.inr (Sum.inr (fun j => some (h5 j))))))), (h2, Sum.inl (cAlong, 5, Sum.inr (Sum.inr (Sum.inr (Sum.inr (fun j => some (h6 j))))))), (h3, Sum.inl (cint, 5, Sum.inl f3)), (h4, Sum.inl (cint, 5, Sum.inl f4))]) [0, 1, 2, 3, 4] (by decide) rfl
    have hK9 := hK.sub (tys' := []) [] rfl
    exact W.vret hx hb hr (fun t ht hW => ⟨⟨(), rfl, trivial, n0_ways, f3, f4, by rw [ht]; exact hP9, va_K.moved hW.alike hK9, hD9⟩, hS.F ht⟩) hS.2.2 dX2_countWays_15
set_option maxHeartbeats 4000000 in
set_option maxRecDepth 100000 in
theorem g_X2_search_2 (l : Launch) (dC : Nat → ClassId) (dI : Nat → Nat → Nat) (h0 : Nat) (h1 : Nat) (h2 : Nat) (h3 : Nat) (h4 : Nat) (h5 : Nat → Nat) (h6 : Nat → Nat) (h7 : Nat) (h8 : Nat) (h9 : Nat) (h10 : Nat) (h11 : Nat) (cAlong cint clong : ClassId) (sz : Nat) (n0_size : Int32) (n0_names : Int32) (n0_plots : Int32) (n0_ways : Int32) (f3 : Nat → Int32) (f4 : Nat → Int32) (F5 : Nat → Nat → Int64) (F6 : Nat → Nat → Int64) (tn0_size : 0 ≤ n0_size.toInt ∧ n0_size.toInt ≤ 10) (tn0_names : 1 ≤ n0_names.toInt ∧ n0_names.toInt ≤ 5) (tn0_plots : 0 ≤ n0_plots.toInt ∧ n0_plots.toInt ≤ 40) : Met l yX2_search wsX2_search ({ frames := 5, cells := 0, slots := 0, locals := 115 }) (va_Pc [.ref h0, .int 2] (fun U => U.heap.size = sz ∧ va_P (dC, dI) vwCl (([(h0, Sum.inr (2, [Value.ref h7, Value.ref h8, Value.ref h9, Value.int n0_size, Value.ref h10, Value.int n0_names, Value.int n0_plots, Value.ref h11, Value.ref h1, Value.ref h2, Value.ref h3, Value.ref h4, Value.int n0_ways])), (h1, Sum.inl (cAlong, 25, Sum.inr (Sum.inr (Sum.inr (Sum.inr (fun j => some (h5 j))))))), (h2, Sum.inl (cAlong, 5, Sum.inr (Sum.inr (Sum.inr (Sum.inr (fun j => some (h6 j))))))), (h3, Sum.inl (cint, 5, Sum.inl f3)), (h4, Sum.inl (cint, 5, Sum.inl f4))] : va_W) ++ (kk_rowsL h5 clong 40 F5 25 ++ (kk_rowsL h6 clong 5 F6 5))) U.heap ∧ va_K (dC, dI) vwCl [(cAlong, .array .long), (cint, .int), (clong, .long)] U ∧ va_D (fun _ => True) (([(h0, Sum.inr (2, [Value.ref h7, Value.ref h8, Value.ref h9, Value.int n0_size, Value.ref h10, Value.int n0_names, Value.int n0_plots, Value.ref h11, Value.ref h1, Value.ref h2, Value.ref h3, Value.ref h4, Value.int n0_ways])), (h1, Sum.inl (cAlong, 25, Sum.inr (Sum.inr (Sum.inr (Sum.inr (fun j => some (h5 j))))))), (h2, Sum.inl (cAlong, 5, Sum.inr (Sum.inr (Sum.inr (Sum.inr (fun j => some (h6 j))))))), (h3, Sum.inl (cint, 5, Sum.inl f3)), (h4, Sum.inl (cint, 5, Sum.inl f4))] : va_W) ++ (kk_rowsL h5 clong 40 F5 25 ++ (kk_rowsL h6 clong 5 F6 5))))) (va_Qv (fun (_ : Unit) => True) (fun (_ : Unit) t => ∃ (m0_ways : Int32) (g3 : Nat → Int32) (g4 : Nat → Int32) (g6 : Nat → Nat → Int64), va_P (dC, dI) vwCl (([(h0, Sum.inr (2, [Value.ref h7, Value.ref h8, Value.ref h9, Value.int n0_size, Value.ref h10, Value.int n0_names, Value.int n0_plots, Value.ref h11, Value.ref h1, Value.ref h2, Value.ref h3, Value.ref h4, Value.int m0_ways])), (h1, Sum.inl (cAlong, 25, Sum.inr (Sum.inr (Sum.inr (Sum.inr (fun j => some (h5 j))))))), (h2, Sum.inl (cAlong, 5, Sum.inr (Sum.inr (Sum.inr (Sum.inr (fun j => some (h6 j))))))), (h3, Sum.inl (cint, 5, Sum.inl g3)), (h4, Sum.inl (cint, 5, Sum.inl g4))] : va_W) ++ (kk_rowsL h5 clong 40 F5 25 ++ (kk_rowsL h6 clong 5 g6 5))) t.heap ∧ va_K (dC, dI) vwCl [] t ∧ va_D (va_A (([(h0, Sum.inr (2, [Value.ref h7, Value.ref h8, Value.ref h9, Value.int n0_size, Value.ref h10, Value.int n0_names, Value.int n0_plots, Value.ref h11, Value.ref h1, Value.ref h2, Value.ref h3, Value.ref h4, Value.int n0_ways])), (h1, Sum.inl (cAlong, 25, Sum.inr (Sum.inr (Sum.inr (Sum.inr (fun j => some (h5 j))))))), (h2, Sum.inl (cAlong, 5, Sum.inr (Sum.inr (Sum.inr (Sum.inr (fun j => some (h6 j))))))), (h3, Sum.inl (cint, 5, Sum.inl f3)), (h4, Sum.inl (cint, 5, Sum.inl f4))] : va_W) ++ (kk_rowsL h5 clong 40 F5 25 ++ (kk_rowsL h6 clong 5 F6 5))) sz) (([(h0, Sum.inr (2, [Value.ref h7, Value.ref h8, Value.ref h9, Value.int n0_size, Value.ref h10, Value.int n0_names, Value.int n0_plots, Value.ref h11, Value.ref h1, Value.ref h2, Value.ref h3, Value.ref h4, Value.int m0_ways])), (h1, Sum.inl (cAlong, 25, Sum.inr (Sum.inr (Sum.inr (Sum.inr (fun j => some (h5 j))))))), (h2, Sum.inl (cAlong, 5, Sum.inr (Sum.inr (Sum.inr (Sum.inr (fun j => some (h6 j))))))), (h3, Sum.inl (cint, 5, Sum.inl g3)), (h4, Sum.inl (cint, 5, Sum.inl g4))] : va_W) ++ (kk_rowsL h5 clong 40 F5 25 ++ (kk_rowsL h6 clong 5 g6 5)))) (va_A (([(h0, Sum.inr (2, [Value.ref h7, Value.ref h8, Value.ref h9, Value.int n0_size, Value.ref h10, Value.int n0_names, Value.int n0_plots, Value.ref h11, Value.ref h1, Value.ref h2, Value.ref h3, Value.ref h4, Value.int n0_ways])), (h1, Sum.inl (cAlong, 25, Sum.inr (Sum.inr (Sum.inr (Sum.inr (fun j => some (h5 j))))))), (h2, Sum.inl (cAlong, 5, Sum.inr (Sum.inr (Sum.inr (Sum.inr (fun j => some (h6 j))))))), (h3, Sum.inl (cint, 5, Sum.inl f3)), (h4, Sum.inl (cint, 5, Sum.inl f4))] : va_W) ++ (kk_rowsL h5 clong 40 F5 25 ++ (kk_rowsL h6 clong 5 F6 5))) sz)) 0 0 (va_A (([(h0, Sum.inr (2, [Value.ref h7, Value.ref h8, Value.ref h9, Value.int n0_size, Value.ref h10, Value.int n0_names, Value.int n0_plots, Value.ref h11, Value.ref h1, Value.ref h2, Value.ref h3, Value.ref h4, Value.int n0_ways])), (h1, Sum.inl (cAlong, 25, Sum.inr (Sum.inr (Sum.inr (Sum.inr (fun j => some (h5 j))))))), (h2, Sum.inl (cAlong, 5, Sum.inr (Sum.inr (Sum.inr (Sum.inr (fun j => some (h6 j))))))), (h3, Sum.inl (cint, 5, Sum.inl f3)), (h4, Sum.inl (cint, 5, Sum.inl f4))] : va_W) ++ (kk_rowsL h5 clong 40 F5 25 ++ (kk_rowsL h6 clong 5 F6 5))) sz) := by
  refine Met.ofW (cc := cX2_search) (maxL := 3) (ret := none) (by decide) rfl ?_
  intro p e s m args below meth c s₁ B hml hv
  obtain ⟨rfl, hsz, hP, hK, hD0⟩ := hv
  have hx := B.exec
  have hb := B.bytes
  have hr := B.returns
  have hts := atoms_spec (ws := wsX2_search) B.pre
  have hown : s.vm.findClass RX2 = some m.cls := findClass_of_methodNamed B.named
  have hlocks := B.notSynchronized
  subst hsz
  have hD := hD0.self (sz := s.heap.size)
  generalize hAe : va_A (([(h0, Sum.inr (2, [Value.ref h7, Value.ref h8, Value.ref h9, Value.int n0_size, Value.ref h10, Value.int n0_names, Value.int n0_plots, Value.ref h11, Value.ref h1, Value.ref h2, Value.ref h3, Value.ref h4, Value.int n0_ways])), (h1, Sum.inl (cAlong, 25, Sum.inr (Sum.inr (Sum.inr (Sum.inr (fun j => some (h5 j))))))), (h2, Sum.inl (cAlong, 5, Sum.inr (Sum.inr (Sum.inr (Sum.inr (fun j => some (h6 j))))))), (h3, Sum.inl (cint, 5, Sum.inl f3)), (h4, Sum.inl (cint, 5, Sum.inl f4))] : va_W) ++ (kk_rowsL h5 clong 40 F5 25 ++ (kk_rowsL h6 clong 5 F6 5))) s.heap.size = A at hD ⊢
  have hA : ∀ q : Nat, s.heap.size ≤ q → A q := fun q h => by rw [← hAe]; exact Or.inr h
  have hS : va_S A s.heap s.heap [] := va_S.rf
  have hP : va_P (dC, dI) vwCl (([(h0, Sum.inr (2, [Value.ref h7, Value.ref h8, Value.ref h9, Value.int n0_size, Value.ref h10, Value.int n0_names, Value.int n0_plots, Value.ref h11, Value.ref h1, Value.ref h2, Value.ref h3, Value.ref h4, Value.int n0_ways])), (h1, Sum.inl (cAlong, 25, Sum.inr (Sum.inr (Sum.inr (Sum.inr (fun j => some (h5 j))))))), (h2, Sum.inl (cAlong, 5, Sum.inr (Sum.inr (Sum.inr (Sum.inr (fun j => some (h6 j))))))), (h3, Sum.inl (cint, 5, Sum.inl f3)), (h4, Sum.inl (cint, 5, Sum.inl f4))] : va_W) ++ (kk_rowsL h5 clong 40 F5 25 ++ (kk_rowsL h6 clong 5 F6 5))) s.heap := hP
  have hl := lv_entry ([.ref h0, .int 2]) (n := 3) (Nat.le_of_ble_eq_true rfl)
  rw [lg_entry_eq]
  generalize (lg_sl ([.ref h0, .int 2]) ++ List.replicate (3 - (lg_sl ([.ref h0, .int 2])).length) Slot.unset).toArray = ls at hl ⊢
  have hl : lv_has ls 3 [(0, .ref h0), (1, .int 2)] := hl
  refine lv_iload_n hx hb dX2_search_0 rfl (lv_at hl 1 rfl) ?_
  refine lv_aload_n hx hb dX2_search_1 rfl (lv_at hl 0 rfl) ?_
  refine va_get (D := (dC, dI)) (ci := 2) (v := .int n0_names) (C := RX2) (T := TX2) (N := 13) hx hb hts (fun _ h => List.mem_cons_of_mem _ (List.mem_append_right _ h)) hown hK hP 0 rfl rfl 5 (by decide) (hts (.fieldLink RX2 49 "KinkStreet$Deeds" "names" "I") (List.mem_of_getElem? (i := 1) rfl)) (fun _ h9 => h9) rfl dX2_search_2 ?_
  refine lv_iconst (v := 1) hx hb dX2_search_5 (by decide) ?_
  refine lv_isub hx hb dX2_search_6 ?_
  refine lv_icmp_lt (tgt := 16) hx hb dX2_search_7 (by decide) (fun c_1 => ?_) (fun c_1 => ?_)
  · have t_1 : 2 < (n0_names - 1).toInt := kk_lt c_1
    refine lv_iconst (v := 0) hx hb dX2_search_16 (by decide) ?_
    refine lv_istore_n (lv' := [(2, .int 0), (0, .ref h0), (1, .int 2)]) hx hb dX2_search_17 rfl hl (by decide) rfl (fun ls hl => ?_)
    refine kk_loop (σ := Int32 × (Nat → Nat → Int64) × Int32 × (Nat → Int32) × (Nat → Int32)) (fun x H locs ls => (0 ≤ x.1.toInt ∧ x.1.toInt ≤ 40) ∧ va_P (dC, dI) vwCl (([(h0, Sum.inr (2, [Value.ref h7, Value.ref h8, Value.ref h9, Value.int n0_size, Value.ref h10, Value.int n0_names, Value.int n0_plots, Value.ref h11, Value.ref h1, Value.ref h2, Value.ref h3, Value.ref h4, Value.int x.2.2.1])), (h1, Sum.inl (cAlong, 25, Sum.inr (Sum.inr (Sum.inr (Sum.inr (fun j => some (h5 j))))))), (h2, Sum.inl (cAlong, 5, Sum.inr (Sum.inr (Sum.inr (Sum.inr (fun j => some (h6 j))))))), (h3, Sum.inl (cint, 5, Sum.inl x.2.2.2.1)), (h4, Sum.inl (cint, 5, Sum.inl x.2.2.2.2))] : va_W) ++ (kk_rowsL h5 clong 40 F5 25 ++ (kk_rowsL h6 clong 5 x.2.1 5))) H ∧ va_D A (([(h0, Sum.inr (2, [Value.ref h7, Value.ref h8, Value.ref h9, Value.int n0_size, Value.ref h10, Value.int n0_names, Value.int n0_plots, Value.ref h11, Value.ref h1, Value.ref h2, Value.ref h3, Value.ref h4, Value.int x.2.2.1])), (h1, Sum.inl (cAlong, 25, Sum.inr (Sum.inr (Sum.inr (Sum.inr (fun j => some (h5 j))))))), (h2, Sum.inl (cAlong, 5, Sum.inr (Sum.inr (Sum.inr (Sum.inr (fun j => some (h6 j))))))), (h3, Sum.inl (cint, 5, Sum.inl x.2.2.2.1)), (h4, Sum.inl (cint, 5, Sum.inl x.2.2.2.2))] : va_W) ++ (kk_rowsL h5 clong 40 F5 25 ++ (kk_rowsL h6 clong 5 x.2.1 5))) ∧ va_S A s.heap H locs ∧ lv_has ls 3 [(2, .int x.1), (0, .ref h0), (1, .int 2)]) (fun x => ((40 : Int) - x.1.toInt).toNat) ?_ (0, F6, n0_ways, f3, f4) _ _ _ ⟨(by show 0 ≤ (0 : Int32).toInt ∧ (0 : Int32).toInt ≤ 40; first | decide | (constructor <;> (have := kk_sub2 (x := n0_names) (y := 1) (a := n0_names.toInt) (b := 1) rfl rfl (by omega) (by omega); omega))), hP, hD, hS, hl⟩
    rintro ⟨i_2_0, f_2_1, i_2_2, f_2_3, f_2_4⟩ H locs ls ⟨t_2_0, hP, hD, hS, hl⟩ ih_2
    have t_2_0 : (0 ≤ i_2_0.toInt ∧ i_2_0.toInt ≤ 40) := t_2_0
    have hl : lv_has ls 3 [(2, .int i_2_0), (0, .ref h0), (1, .int 2)] := hl
    have hP : va_P (dC, dI) vwCl (([(h0, Sum.inr (2, [Value.ref h7, Value.ref h8, Value.ref h9, Value.int n0_size, Value.ref h10, Value.int n0_names, Value.int n0_plots, Value.ref h11, Value.ref h1, Value.ref h2, Value.ref h3, Value.ref h4, Value.int i_2_2])), (h1, Sum.inl (cAlong, 25, Sum.inr (Sum.inr (Sum.inr (Sum.inr (fun j => some (h5 j))))))), (h2, Sum.inl (cAlong, 5, Sum.inr (Sum.inr (Sum.inr (Sum.inr (fun j => some (h6 j))))))), (h3, Sum.inl (cint, 5, Sum.inl f_2_3)), (h4, Sum.inl (cint, 5, Sum.inl f_2_4))] : va_W) ++ (kk_rowsL h5 clong 40 F5 25 ++ (kk_rowsL h6 clong 5 f_2_1 5))) H := hP
    have hD : va_D A (([(h0, Sum.inr (2, [Value.ref h7, Value.ref h8, Value.ref h9, Value.int n0_size, Value.ref h10, Value.int n0_names, Value.int n0_plots, Value.ref h11, Value.ref h1, Value.ref h2, Value.ref h3, Value.ref h4, Value.int i_2_2])), (h1, Sum.inl (cAlong, 25, Sum.inr (Sum.inr (Sum.inr (Sum.inr (fun j => some (h5 j))))))), (h2, Sum.inl (cAlong, 5, Sum.inr (Sum.inr (Sum.inr (Sum.inr (fun j => some (h6 j))))))), (h3, Sum.inl (cint, 5, Sum.inl f_2_3)), (h4, Sum.inl (cint, 5, Sum.inl f_2_4))] : va_W) ++ (kk_rowsL h5 clong 40 F5 25 ++ (kk_rowsL h6 clong 5 f_2_1 5))) := hD
    refine lv_iload_n hx hb dX2_search_18 rfl (lv_at hl 0 rfl) ?_
    refine lv_aload_n hx hb dX2_search_19 rfl (lv_at hl 1 rfl) ?_
    refine va_get (D := (dC, dI)) (ci := 2) (v := .int n0_plots) (C := RX2) (T := TX2) (N := 13) hx hb hts (fun _ h => List.mem_cons_of_mem _ (List.mem_append_right _ h)) hown hK hP 0 rfl rfl 6 (by decide) (hts (.fieldLink RX2 67 "KinkStreet$Deeds" "plots" "I") (List.mem_of_getElem? (i := 2) rfl)) (fun _ h9 => h9) rfl dX2_search_20 ?_
    refine lv_icmp_ge (tgt := 81) hx hb dX2_search_23 (by decide) (fun c_3 => ?_) (fun c_3 => ?_)
    · have t_3 : n0_plots.toInt ≤ i_2_0.toInt := kk_le c_3
      have hP9 := hP.part (cx := [(h0, Sum.inr (2, [Value.ref h7, Value.ref h8, Value.ref h9, Value.int n0_size, Value.ref h10, Value.int n0_names, Value.int n0_plots, Value.ref h11, Value.ref h1, Value.ref h2, Value.ref h3, Value.ref h4, Value.int i_2_2])), (h1, Sum.inl (cAlong, 25, Sum.inr (Sum.inr (Sum.inr (Sum.inr (fun j => some (h5 j))))))), (h2, Sum.inl (cAlong, 5, Sum.inr (Sum.inr (Sum.inr (Sum.inr (fun j => some (h6 j))))))), (h3, Sum.inl (cint, 5, Sum.inl f_2_3)), (h4, Sum.inl (cint, 5, Sum.inl f_2_4))]) [0, 1, 2, 3, 4] rfl
      have hD9 := hD.part (cx := [(h0, Sum.inr (2, [Value.ref h7, Value.ref h8, Value.ref h9, Value.int n0_size, Value.ref h10, Value.int n0_names, Value.int n0_plots, Value.ref h11, Value.ref h1, Value.ref h2, Value.ref h3, Value.ref h4, Value.int i_2_2])), (h1, Sum.inl (cAlong, 25, Sum.inr (Sum.inr (Sum.inr (Sum.inr (fun j => some (h5 j))))))), (h2, Sum.inl (cAlong, 5, Sum.inr (Sum.inr (Sum.inr (Sum.inr (fun j => some (h6 j))))))), (h3, Sum.inl (cint, 5, Sum.inl f_2_3)), (h4, Sum.inl (cint, 5, Sum.inl f_2_4))]) [0, 1, 2, 3, 4] (by decide) rfl
      have hK9 := hK.sub (tys' := []) [] rfl
      exact W.vret hx hb hr (fun t ht hW => ⟨⟨(), rfl, trivial, i_2_2, f_2_3, f_2_4, f_2_1, by rw [ht]; exact hP9, va_K.moved hW.alike hK9, hD9⟩, hS.F ht⟩) hS.2.2 dX2_search_81
    · have t_3 : i_2_0.toInt < n0_plots.toInt := kk_nle c_3
      refine lv_aload_n hx hb dX2_search_26 rfl (lv_at hl 1 rfl) ?_
      refine va_get (D := (dC, dI)) (ci := 2) (v := .int i_2_2) (C := RX2) (T := TX2) (N := 13) hx hb hts (fun _ h => List.mem_cons_of_mem _ (List.mem_append_right _ h)) hown hK hP 0 rfl rfl 12 (by decide) (hts (.fieldLink RX2 70 "KinkStreet$Deeds" "ways" "I") (List.mem_of_getElem? (i := 3) rfl)) (fun _ h9 => h9) rfl dX2_search_27 ?_
      refine lv_ldc hx hb hown (hts _ (List.mem_of_getElem? (i := 4) rfl)) dX2_search_30 ?_
      refine lv_icmp_ge (tgt := 81) hx hb dX2_search_32 (by decide) (fun c_4 => ?_) (fun c_4 => ?_)
      · have t_4 : 1000000 ≤ i_2_2.toInt := kk_le c_4
        have hP9 := hP.part (cx := [(h0, Sum.inr (2, [Value.ref h7, Value.ref h8, Value.ref h9, Value.int n0_size, Value.ref h10, Value.int n0_names, Value.int n0_plots, Value.ref h11, Value.ref h1, Value.ref h2, Value.ref h3, Value.ref h4, Value.int i_2_2])), (h1, Sum.inl (cAlong, 25, Sum.inr (Sum.inr (Sum.inr (Sum.inr (fun j => some (h5 j))))))), (h2, Sum.inl (cAlong, 5, Sum.inr (Sum.inr (Sum.inr (Sum.inr (fun j => some (h6 j))))))), (h3, Sum.inl (cint, 5, Sum.inl f_2_3)), (h4, Sum.inl (cint, 5, Sum.inl f_2_4))]) [0, 1, 2, 3, 4] rfl
        have hD9 := hD.part (cx := [(h0, Sum.inr (2, [Value.ref h7, Value.ref h8, Value.ref h9, Value.int n0_size, Value.ref h10, Value.int n0_names, Value.int n0_plots, Value.ref h11, Value.ref h1, Value.ref h2, Value.ref h3, Value.ref h4, Value.int i_2_2])), (h1, Sum.inl (cAlong, 25, Sum.inr (Sum.inr (Sum.inr (Sum.inr (fun j => some (h5 j))))))), (h2, Sum.inl (cAlong, 5, Sum.inr (Sum.inr (Sum.inr (Sum.inr (fun j => some (h6 j))))))), (h3, Sum.inl (cint, 5, Sum.inl f_2_3)), (h4, Sum.inl (cint, 5, Sum.inl f_2_4))]) [0, 1, 2, 3, 4] (by decide) rfl
        have hK9 := hK.sub (tys' := []) [] rfl
        exact W.vret hx hb hr (fun t ht hW => ⟨⟨(), rfl, trivial, i_2_2, f_2_3, f_2_4, f_2_1, by rw [ht]; exact hP9, va_K.moved hW.alike hK9, hD9⟩, hS.F ht⟩) hS.2.2 dX2_search_81
      · have t_4 : i_2_2.toInt < 1000000 := kk_nle c_4
        refine lv_aload_n hx hb dX2_search_35 rfl (lv_at hl 1 rfl) ?_
        refine va_get (D := (dC, dI)) (ci := 2) (v := .ref h2) (C := RX2) (T := TX2) (N := 13) hx hb hts (fun _ h => List.mem_cons_of_mem _ (List.mem_append_right _ h)) hown hK hP 0 rfl rfl 9 (by decide) (hts (.fieldLink RX2 32 "KinkStreet$Deeds" "open" "[[J") (List.mem_of_getElem? (i := 5) rfl)) (fun _ h9 => h9) rfl dX2_search_36 ?_
        refine lv_iload_n hx hb dX2_search_39 rfl (lv_at hl 2 rfl) ?_
        have hi_5 : vp_in (2 : Int32) 5 := (by unfold vp_in; decide)
        have hk_5 : (2 : Int32).toNatClampNeg < 5 := Nat.not_le.mp fun q => hi_5 (Or.inr q)
        refine kk_aald hx hb hK hP 2 0 rfl rfl hi_5 dX2_search_40 ?_
        refine W.eq (g2 := F0 m 41 ls [.ref (h6 (2 : Int32).toNatClampNeg)]) rfl ?_
        refine lv_iload_n hx hb dX2_search_41 rfl (lv_at hl 2 rfl) ?_
        refine va_lald hx hb hK hP _ 2 (kk_getr (kk_getr (kk_rowL hk_5))) rfl (by unfold vp_in; decide) dX2_search_42 ?_
        refine lv_topl (fun y_6 e_6 => ?_)
        clear e_6
        refine lv_iload_n hx hb dX2_search_43 rfl (lv_at hl 0 rfl) ?_
        refine lv_lushr hx hb dX2_search_44 rfl ?_
        refine lv_topl (fun y_7 e_7 => ?_)
        clear e_7
        refine lv_lconst (v := 1) hx hb dX2_search_45 (by decide) ?_
        refine lv_land hx hb dX2_search_46 ?_
        refine lv_topl (fun y_8 e_8 => ?_)
        clear e_8
        refine lv_lconst (v := 0) hx hb dX2_search_47 (by decide) ?_
        refine W.lcmp hx hb dX2_search_48 ?_
        refine lv_if_eq (tgt := 75) hx hb dX2_search_49 (by decide) (fun _ => ?_) (fun _ => ?_)
        · skip
          refine lv_iinc (v := (i_2_0 + 1)) (lv' := [(2, .int (i_2_0 + 1)), (0, .ref h0), (1, .int 2)]) hx hb dX2_search_75 hl (k := 0) rfl (by first | rfl | decide) (by decide) rfl (fun ls hl => ?_)
          refine lv_goto (tgt := 18) hx hb dX2_search_78 (by decide) ?_
          exact ih_2 ((i_2_0 + 1), f_2_1, i_2_2, f_2_3, f_2_4) _ _ _ (by show ((40 : Int) - ((i_2_0 + 1)).toInt).toNat < ((40 : Int) - i_2_0.toInt).toNat; have := kk_rng i_2_2; have := kk_sub2 (x := n0_names) (y := 1) (a := n0_names.toInt) (b := 1) rfl rfl (by omega) (by omega); have := kk_add2 (x := i_2_0) (y := 1) (a := i_2_0.toInt) (b := 1) rfl rfl (by omega) (by omega); exact kk_mu (by omega) (by omega)) ⟨(by show 0 ≤ ((i_2_0 + 1) : Int32).toInt ∧ ((i_2_0 + 1) : Int32).toInt ≤ 40; first | decide | (constructor <;> (have := kk_rng i_2_2; have := kk_sub2 (x := n0_names) (y := 1) (a := n0_names.toInt) (b := 1) rfl rfl (by omega) (by omega); have := kk_add2 (x := i_2_0) (y := 1) (a := i_2_0.toInt) (b := 1) rfl rfl (by omega) (by omega); omega))), hP, hD, hS, lv_sub hl [0, 1, 2] rfl⟩
        · skip
          refine lv_aload_n hx hb dX2_search_52 rfl (lv_at hl 1 rfl) ?_
          refine lv_iload_n hx hb dX2_search_53 rfl (lv_at hl 2 rfl) ?_
          refine lv_iload_n hx hb dX2_search_54 rfl (lv_at hl 0 rfl) ?_
          have hPc := hP.part (cx := [(h0, Sum.inr (2, [Value.ref h7, Value.ref h8, Value.ref h9, Value.int n0_size, Value.ref h10, Value.int n0_names, Value.int n0_plots, Value.ref h11, Value.ref h1, Value.ref h2, Value.ref h3, Value.ref h4, Value.int i_2_2])), (h1, Sum.inl (cAlong, 25, Sum.inr (Sum.inr (Sum.inr (Sum.inr (fun j => some (h5 j))))))), (h2, Sum.inl (cAlong, 5, Sum.inr (Sum.inr (Sum.inr (Sum.inr (fun j => some (h6 j)))))))]) [0, 1, 2] rfl
          have hDc := hD.part (cx := [(h0, Sum.inr (2, [Value.ref h7, Value.ref h8, Value.ref h9, Value.int n0_size, Value.ref h10, Value.int n0_names, Value.int n0_plots, Value.ref h11, Value.ref h1, Value.ref h2, Value.ref h3, Value.ref h4, Value.int i_2_2])), (h1, Sum.inl (cAlong, 25, Sum.inr (Sum.inr (Sum.inr (Sum.inr (fun j => some (h5 j))))))), (h2, Sum.inl (cAlong, 5, Sum.inr (Sum.inr (Sum.inr (Sum.inr (fun j => some (h6 j)))))))]) [0, 1, 2] (by decide) rfl
          have hFc := va_freeP (cx := [(h0, Sum.inr (2, [Value.ref h7, Value.ref h8, Value.ref h9, Value.int n0_size, Value.ref h10, Value.int n0_names, Value.int n0_plots, Value.ref h11, Value.ref h1, Value.ref h2, Value.ref h3, Value.ref h4, Value.int i_2_2])), (h1, Sum.inl (cAlong, 25, Sum.inr (Sum.inr (Sum.inr (Sum.inr (fun j => some (h5 j))))))), (h2, Sum.inl (cAlong, 5, Sum.inr (Sum.inr (Sum.inr (Sum.inr (fun j => some (h6 j)))))))]) hD hS hA [0, 1, 2] rfl
          have hKc := hK.sub (tys' := [(cAlong, .array .long), (clong, .long)]) [0, 2] rfl
          refine va_calli (va_runV (As := [.int 2, .int i_2_0]) (rest := []) ⟨hx, hb, hml, hown, hts⟩ (g_X2_narrow_2 l dC dI h0 h1 h2 h5 h6 h7 h8 h9 h10 h11 h3 h4 cAlong clong H.size i_2_0 (by show 0 ≤ (i_2_0 : Int32).toInt ∧ (i_2_0 : Int32).toInt ≤ 39; first | decide | (constructor <;> (have := kk_rng i_2_2; have := kk_sub2 (x := n0_names) (y := 1) (a := n0_names.toInt) (b := 1) rfl rfl (by omega) (by omega); omega))) n0_size n0_names n0_plots i_2_2 F5 f_2_1 tn0_size tn0_names tn0_plots) (cwV 2 hts gX2_search_X2_narrow rfl rfl rfl (by decide +kernel) ⟨Nat.le_of_ble_eq_true rfl, Nat.le_of_ble_eq_true rfl⟩) ⟨fun a U g mk q => by obtain ⟨q0, q1, qP, qK, qD⟩ := q; exact ⟨q0, q1, qP, va_K.moved (u := U) (U := U.calling g mk a) (Vm.Alike.refl U.vm) qK, qD⟩, va_recv hKc hPc (ci := 2) (q0 := 0) rfl rfl, fun U hU hW => ⟨rfl, by rw [hU], by rw [hU]; exact hPc, va_K.moved hW.alike hKc, hDc.weaken (fun _ _ _ _ => trivial)⟩⟩ rfl rfl hl.1 rfl (lv_room (Nat.le_of_ble_eq_true rfl)) dX2_search_55 ⟨Nat.le_of_ble_eq_true rfl, Nat.le_of_ble_eq_true rfl⟩) hS (fun q _ h => hFc q h) hFc (fun r_9 u t H1 locs ht hvm hw hB hz1 hk1 hS => ?_)
          obtain ⟨f_10, hP1, hK1, hD1⟩ := hB
          rw [ht] at hP1
          have hK1 := va_K.moved hvm.symm hK1
          obtain ⟨hP, hD⟩ := va_joinP (cx := [(h0, Sum.inr (2, [Value.ref h7, Value.ref h8, Value.ref h9, Value.int n0_size, Value.ref h10, Value.int n0_names, Value.int n0_plots, Value.ref h11, Value.ref h1, Value.ref h2, Value.ref h3, Value.ref h4, Value.int i_2_2])), (h1, Sum.inl (cAlong, 25, Sum.inr (Sum.inr (Sum.inr (Sum.inr (fun j => some (h5 j))))))), (h2, Sum.inl (cAlong, 5, Sum.inr (Sum.inr (Sum.inr (Sum.inr (fun j => some (h6 j)))))))]) (wr := [(h3, Sum.inl (cint, 5, Sum.inl f_2_3)), (h4, Sum.inl (cint, 5, Sum.inl f_2_4))]) (rx := [(h0, Sum.inr (2, [Value.ref h7, Value.ref h8, Value.ref h9, Value.int n0_size, Value.ref h10, Value.int n0_names, Value.int n0_plots, Value.ref h11, Value.ref h1, Value.ref h2, Value.ref h3, Value.ref h4, Value.int i_2_2])), (h1, Sum.inl (cAlong, 25, Sum.inr (Sum.inr (Sum.inr (Sum.inr (fun j => some (h5 j))))))), (h2, Sum.inl (cAlong, 5, Sum.inr (Sum.inr (Sum.inr (Sum.inr (fun j => some (h6 j)))))))]) hP hD [0, 1, 2] [3, 4] rfl rfl (by decide) (by decide) hk1 hFc hP1 hD1
          generalize H1 = H at hP hS ⊢
          have hP : va_P (dC, dI) vwCl (([(h3, Sum.inl (cint, 5, Sum.inl f_2_3)), (h4, Sum.inl (cint, 5, Sum.inl f_2_4)), (h0, Sum.inr (2, [Value.ref h7, Value.ref h8, Value.ref h9, Value.int n0_size, Value.ref h10, Value.int n0_names, Value.int n0_plots, Value.ref h11, Value.ref h1, Value.ref h2, Value.ref h3, Value.ref h4, Value.int i_2_2])), (h1, Sum.inl (cAlong, 25, Sum.inr (Sum.inr (Sum.inr (Sum.inr (fun j => some (h5 j))))))), (h2, Sum.inl (cAlong, 5, Sum.inr (Sum.inr (Sum.inr (Sum.inr (fun j => some (h6 j)))))))] : va_W) ++ (kk_rowsL h5 clong 40 F5 25 ++ (kk_rowsL h6 clong 5 f_10 5))) H := hP
          have hD : va_D A (([(h3, Sum.inl (cint, 5, Sum.inl f_2_3)), (h4, Sum.inl (cint, 5, Sum.inl f_2_4)), (h0, Sum.inr (2, [Value.ref h7, Value.ref h8, Value.ref h9, Value.int n0_size, Value.ref h10, Value.int n0_names, Value.int n0_plots, Value.ref h11, Value.ref h1, Value.ref h2, Value.ref h3, Value.ref h4, Value.int i_2_2])), (h1, Sum.inl (cAlong, 25, Sum.inr (Sum.inr (Sum.inr (Sum.inr (fun j => some (h5 j))))))), (h2, Sum.inl (cAlong, 5, Sum.inr (Sum.inr (Sum.inr (Sum.inr (fun j => some (h6 j)))))))] : va_W) ++ (kk_rowsL h5 clong 40 F5 25 ++ (kk_rowsL h6 clong 5 f_10 5))) := hD
          rcases hw with ⟨t_9_0, rfl⟩ | ⟨rfl⟩
          · skip
            have t_9_0 : (4 : Int) ≤ n0_names.toInt := t_9_0
            refine lv_if_eq (tgt := 75) hx hb dX2_search_58 (by decide) (fun _ => ?_) (fun c => absurd c (by decide))
            refine lv_iinc (v := (i_2_0 + 1)) (lv' := [(2, .int (i_2_0 + 1)), (0, .ref h0), (1, .int 2)]) hx hb dX2_search_75 hl (k := 0) rfl (by first | rfl | decide) (by decide) rfl (fun ls hl => ?_)
            refine lv_goto (tgt := 18) hx hb dX2_search_78 (by decide) ?_
            exact ih_2 ((i_2_0 + 1), f_10, i_2_2, f_2_3, f_2_4) _ _ _ (by show ((40 : Int) - ((i_2_0 + 1)).toInt).toNat < ((40 : Int) - i_2_0.toInt).toNat; have := kk_rng i_2_2; have := kk_sub2 (x := n0_names) (y := 1) (a := n0_names.toInt) (b := 1) rfl rfl (by omega) (by omega); have := kk_add2 (x := i_2_0) (y := 1) (a := i_2_0.toInt) (b := 1) rfl rfl (by omega) (by omega); exact kk_mu (by omega) (by omega)) ⟨(by show 0 ≤ ((i_2_0 + 1) : Int32).toInt ∧ ((i_2_0 + 1) : Int32).toInt ≤ 40; first | decide | (constructor <;> (have := kk_rng i_2_2; have := kk_sub2 (x := n0_names) (y := 1) (a := n0_names.toInt) (b := 1) rfl rfl (by omega) (by omega); have := kk_add2 (x := i_2_0) (y := 1) (a := i_2_0.toInt) (b := 1) rfl rfl (by omega) (by omega); omega))), hP.part (cx := [(h0, Sum.inr (2, [Value.ref h7, Value.ref h8, Value.ref h9, Value.int n0_size, Value.ref h10, Value.int n0_names, Value.int n0_plots, Value.ref h11, Value.ref h1, Value.ref h2, Value.ref h3, Value.ref h4, Value.int i_2_2])), (h1, Sum.inl (cAlong, 25, Sum.inr (Sum.inr (Sum.inr (Sum.inr (fun j => some (h5 j))))))), (h2, Sum.inl (cAlong, 5, Sum.inr (Sum.inr (Sum.inr (Sum.inr (fun j => some (h6 j))))))), (h3, Sum.inl (cint, 5, Sum.inl f_2_3)), (h4, Sum.inl (cint, 5, Sum.inl f_2_4))]) [2, 3, 4, 0, 1] rfl, hD.part (cx := [(h0, Sum.inr (2, [Value.ref h7, Value.ref h8, Value.ref h9, Value.int n0_size, Value.ref h10, Value.int n0_names, Value.int n0_plots, Value.ref h11, Value.ref h1, Value.ref h2, Value.ref h3, Value.ref h4, Value.int i_2_2])), (h1, Sum.inl (cAlong, 25, Sum.inr (Sum.inr (Sum.inr (Sum.inr (fun j => some (h5 j))))))), (h2, Sum.inl (cAlong, 5, Sum.inr (Sum.inr (Sum.inr (Sum.inr (fun j => some (h6 j))))))), (h3, Sum.inl (cint, 5, Sum.inl f_2_3)), (h4, Sum.inl (cint, 5, Sum.inl f_2_4))]) [2, 3, 4, 0, 1] (by decide) rfl, hS, lv_sub hl [0, 1, 2] rfl⟩
          · skip
            refine lv_if_eq (tgt := 75) hx hb dX2_search_58 (by decide) (fun c => absurd c (by decide)) (fun _ => ?_)
            refine lv_aload_n hx hb dX2_search_61 rfl (lv_at hl 1 rfl) ?_
            refine va_get (D := (dC, dI)) (ci := 2) (v := .ref h3) (C := RX2) (T := TX2) (N := 13) hx hb hts (fun _ h => List.mem_cons_of_mem _ (List.mem_append_right _ h)) hown hK hP 2 rfl rfl 10 (by decide) (hts (.fieldLink RX2 35 "KinkStreet$Deeds" "tried" "[I") (List.mem_of_getElem? (i := 6) rfl)) (fun _ h9 => h9) rfl dX2_search_62 ?_
            refine lv_iload_n hx hb dX2_search_65 rfl (lv_at hl 2 rfl) ?_
            refine lv_iload_n hx hb dX2_search_66 rfl (lv_at hl 0 rfl) ?_
            refine va_iast hx hb hK hP hD hS 0 1 rfl rfl (by unfold vp_in; decide) dX2_search_67 (fun H locs hP hD hS => ?_)
            generalize upd f_2_3 (2 : Int32).toNatClampNeg i_2_0 = f_11 at hP hD
            have hP : va_P (dC, dI) vwCl (([(h3, Sum.inl (cint, 5, Sum.inl f_11)), (h4, Sum.inl (cint, 5, Sum.inl f_2_4)), (h0, Sum.inr (2, [Value.ref h7, Value.ref h8, Value.ref h9, Value.int n0_size, Value.ref h10, Value.int n0_names, Value.int n0_plots, Value.ref h11, Value.ref h1, Value.ref h2, Value.ref h3, Value.ref h4, Value.int i_2_2])), (h1, Sum.inl (cAlong, 25, Sum.inr (Sum.inr (Sum.inr (Sum.inr (fun j => some (h5 j))))))), (h2, Sum.inl (cAlong, 5, Sum.inr (Sum.inr (Sum.inr (Sum.inr (fun j => some (h6 j)))))))] : va_W) ++ (kk_rowsL h5 clong 40 F5 25 ++ (kk_rowsL h6 clong 5 f_10 5))) H := hP
            have hD : va_D A (([(h3, Sum.inl (cint, 5, Sum.inl f_11)), (h4, Sum.inl (cint, 5, Sum.inl f_2_4)), (h0, Sum.inr (2, [Value.ref h7, Value.ref h8, Value.ref h9, Value.int n0_size, Value.ref h10, Value.int n0_names, Value.int n0_plots, Value.ref h11, Value.ref h1, Value.ref h2, Value.ref h3, Value.ref h4, Value.int i_2_2])), (h1, Sum.inl (cAlong, 25, Sum.inr (Sum.inr (Sum.inr (Sum.inr (fun j => some (h5 j))))))), (h2, Sum.inl (cAlong, 5, Sum.inr (Sum.inr (Sum.inr (Sum.inr (fun j => some (h6 j)))))))] : va_W) ++ (kk_rowsL h5 clong 40 F5 25 ++ (kk_rowsL h6 clong 5 f_10 5))) := hD
            refine lv_aload_n hx hb dX2_search_68 rfl (lv_at hl 1 rfl) ?_
            refine lv_iload_n hx hb dX2_search_69 rfl (lv_at hl 2 rfl) ?_
            refine lv_iconst (v := 1) hx hb dX2_search_70 (by decide) ?_
            refine lv_iadd hx hb dX2_search_71 ?_
            refine lv_topi (fun y_12 e_12 => ?_)
            obtain rfl : y_12 = 3 := e_12.trans (by decide)
            have hPc := hP.part (cx := [(h0, Sum.inr (2, [Value.ref h7, Value.ref h8, Value.ref h9, Value.int n0_size, Value.ref h10, Value.int n0_names, Value.int n0_plots, Value.ref h11, Value.ref h1, Value.ref h2, Value.ref h3, Value.ref h4, Value.int i_2_2])), (h1, Sum.inl (cAlong, 25, Sum.inr (Sum.inr (Sum.inr (Sum.inr (fun j => some (h5 j))))))), (h2, Sum.inl (cAlong, 5, Sum.inr (Sum.inr (Sum.inr (Sum.inr (fun j => some (h6 j))))))), (h3, Sum.inl (cint, 5, Sum.inl f_11)), (h4, Sum.inl (cint, 5, Sum.inl f_2_4))]) [2, 3, 4, 0, 1] rfl
            have hDc := hD.part (cx := [(h0, Sum.inr (2, [Value.ref h7, Value.ref h8, Value.ref h9, Value.int n0_size, Value.ref h10, Value.int n0_names, Value.int n0_plots, Value.ref h11, Value.ref h1, Value.ref h2, Value.ref h3, Value.ref h4, Value.int i_2_2])), (h1, Sum.inl (cAlong, 25, Sum.inr (Sum.inr (Sum.inr (Sum.inr (fun j => some (h5 j))))))), (h2, Sum.inl (cAlong, 5, Sum.inr (Sum.inr (Sum.inr (Sum.inr (fun j => some (h6 j))))))), (h3, Sum.inl (cint, 5, Sum.inl f_11)), (h4, Sum.inl (cint, 5, Sum.inl f_2_4))]) [2, 3, 4, 0, 1] (by decide) rfl
            have hFc := va_freeP (cx := [(h0, Sum.inr (2, [Value.ref h7, Value.ref h8, Value.ref h9, Value.int n0_size, Value.ref h10, Value.int n0_names, Value.int n0_plots, Value.ref h11, Value.ref h1, Value.ref h2, Value.ref h3, Value.ref h4, Value.int i_2_2])), (h1, Sum.inl (cAlong, 25, Sum.inr (Sum.inr (Sum.inr (Sum.inr (fun j => some (h5 j))))))), (h2, Sum.inl (cAlong, 5, Sum.inr (Sum.inr (Sum.inr (Sum.inr (fun j => some (h6 j))))))), (h3, Sum.inl (cint, 5, Sum.inl f_11)), (h4, Sum.inl (cint, 5, Sum.inl f_2_4))]) hD hS hA [2, 3, 4, 0, 1] rfl
            have hKc := hK.sub (tys' := [(cAlong, .array .long), (cint, .int), (clong, .long)]) [0, 1, 2] rfl
            refine va_callv (va_runV (As := [.int 3]) (rest := []) ⟨hx, hb, hml, hown, hts⟩ (g_X2_search_1 l dC dI h0 h1 h2 h3 h4 h5 h6 h7 h8 h9 h10 h11 cAlong cint clong H.size n0_size n0_names n0_plots i_2_2 f_11 f_2_4 F5 f_10 tn0_size tn0_names tn0_plots) (cwV 1 hts gX2_search_X2_search rfl rfl rfl (by decide +kernel) ⟨Nat.le_of_ble_eq_true rfl, Nat.le_of_ble_eq_true rfl⟩) ⟨fun a U g mk q => by obtain ⟨q0, q1, qP, qK, qD⟩ := q; exact ⟨q0, q1, qP, va_K.moved (u := U) (U := U.calling g mk a) (Vm.Alike.refl U.vm) qK, qD⟩, va_recv hKc hPc (ci := 2) (q0 := 0) rfl rfl, fun U hU hW => ⟨rfl, by rw [hU], by rw [hU]; exact hPc, va_K.moved hW.alike hKc, hDc.weaken (fun _ _ _ _ => trivial)⟩⟩ rfl rfl hl.1 rfl (lv_room (Nat.le_of_ble_eq_true rfl)) dX2_search_72 ⟨Nat.le_of_ble_eq_true rfl, Nat.le_of_ble_eq_true rfl⟩) hS (fun q _ h => hFc q h) hFc (fun u t H1 locs ht hvm hw hB hz1 hk1 hS => ?_)
            obtain ⟨y_14, f_15, f_16, f_17, hP1, hK1, hD1⟩ := hB
            rw [ht] at hP1
            have hK1 := va_K.moved hvm.symm hK1
            obtain ⟨hP, hD⟩ := va_joinP (cx := [(h0, Sum.inr (2, [Value.ref h7, Value.ref h8, Value.ref h9, Value.int n0_size, Value.ref h10, Value.int n0_names, Value.int n0_plots, Value.ref h11, Value.ref h1, Value.ref h2, Value.ref h3, Value.ref h4, Value.int i_2_2])), (h1, Sum.inl (cAlong, 25, Sum.inr (Sum.inr (Sum.inr (Sum.inr (fun j => some (h5 j))))))), (h2, Sum.inl (cAlong, 5, Sum.inr (Sum.inr (Sum.inr (Sum.inr (fun j => some (h6 j))))))), (h3, Sum.inl (cint, 5, Sum.inl f_11)), (h4, Sum.inl (cint, 5, Sum.inl f_2_4))]) (wr := []) (rx := [(h0, Sum.inr (2, [Value.ref h7, Value.ref h8, Value.ref h9, Value.int n0_size, Value.ref h10, Value.int n0_names, Value.int n0_plots, Value.ref h11, Value.ref h1, Value.ref h2, Value.ref h3, Value.ref h4, Value.int y_14])), (h1, Sum.inl (cAlong, 25, Sum.inr (Sum.inr (Sum.inr (Sum.inr (fun j => some (h5 j))))))), (h2, Sum.inl (cAlong, 5, Sum.inr (Sum.inr (Sum.inr (Sum.inr (fun j => some (h6 j))))))), (h3, Sum.inl (cint, 5, Sum.inl f_15)), (h4, Sum.inl (cint, 5, Sum.inl f_16))]) hP hD [2, 3, 4, 0, 1] [] rfl rfl (by decide) (by decide) hk1 hFc hP1 hD1
            generalize H1 = H at hP hS ⊢
            have hP : va_P (dC, dI) vwCl (([(h0, Sum.inr (2, [Value.ref h7, Value.ref h8, Value.ref h9, Value.int n0_size, Value.ref h10, Value.int n0_names, Value.int n0_plots, Value.ref h11, Value.ref h1, Value.ref h2, Value.ref h3, Value.ref h4, Value.int y_14])), (h1, Sum.inl (cAlong, 25, Sum.inr (Sum.inr (Sum.inr (Sum.inr (fun j => some (h5 j))))))), (h2, Sum.inl (cAlong, 5, Sum.inr (Sum.inr (Sum.inr (Sum.inr (fun j => some (h6 j))))))), (h3, Sum.inl (cint, 5, Sum.inl f_15)), (h4, Sum.inl (cint, 5, Sum.inl f_16))] : va_W) ++ (kk_rowsL h5 clong 40 F5 25 ++ (kk_rowsL h6 clong 5 f_17 5))) H := hP
            have hD : va_D A (([(h0, Sum.inr (2, [Value.ref h7, Value.ref h8, Value.ref h9, Value.int n0_size, Value.ref h10, Value.int n0_names, Value.int n0_plots, Value.ref h11, Value.ref h1, Value.ref h2, Value.ref h3, Value.ref h4, Value.int y_14])), (h1, Sum.inl (cAlong, 25, Sum.inr (Sum.inr (Sum.inr (Sum.inr (fun j => some (h5 j))))))), (h2, Sum.inl (cAlong, 5, Sum.inr (Sum.inr (Sum.inr (Sum.inr (fun j => some (h6 j))))))), (h3, Sum.inl (cint, 5, Sum.inl f_15)), (h4, Sum.inl (cint, 5, Sum.inl f_16))] : va_W) ++ (kk_rowsL h5 clong 40 F5 25 ++ (kk_rowsL h6 clong 5 f_17 5))) := hD
            refine lv_iinc (v := (i_2_0 + 1)) (lv' := [(2, .int (i_2_0 + 1)), (0, .ref h0), (1, .int 2)]) hx hb dX2_search_75 hl (k := 0) rfl (by first | rfl | decide) (by decide) rfl (fun ls hl => ?_)
            refine lv_goto (tgt := 18) hx hb dX2_search_78 (by decide) ?_
            exact ih_2 ((i_2_0 + 1), f_17, y_14, f_15, f_16) _ _ _ (by show ((40 : Int) - ((i_2_0 + 1)).toInt).toNat < ((40 : Int) - i_2_0.toInt).toNat; have := kk_rng i_2_2; have := kk_sub2 (x := n0_names) (y := 1) (a := n0_names.toInt) (b := 1) rfl rfl (by omega) (by omega); have := kk_add2 (x := i_2_0) (y := 1) (a := i_2_0.toInt) (b := 1) rfl rfl (by omega) (by omega); exact kk_mu (by omega) (by omega)) ⟨(by show 0 ≤ ((i_2_0 + 1) : Int32).toInt ∧ ((i_2_0 + 1) : Int32).toInt ≤ 40; first | decide | (constructor <;> (have := kk_rng i_2_2; have := kk_sub2 (x := n0_names) (y := 1) (a := n0_names.toInt) (b := 1) rfl rfl (by omega) (by omega); have := kk_add2 (x := i_2_0) (y := 1) (a := i_2_0.toInt) (b := 1) rfl rfl (by omega) (by omega); omega))), hP, hD, hS, lv_sub hl [0, 1, 2] rfl⟩
  · have t_1 : (n0_names - 1).toInt ≤ 2 := kk_nlt c_1
    refine lv_aload_n hx hb dX2_search_10 rfl (lv_at hl 0 rfl) ?_
    refine lv_iload_n hx hb dX2_search_11 rfl (lv_at hl 1 rfl) ?_
    have hPc := hP.part (cx := [(h0, Sum.inr (2, [Value.ref h7, Value.ref h8, Value.ref h9, Value.int n0_size, Value.ref h10, Value.int n0_names, Value.int n0_plots, Value.ref h11, Value.ref h1, Value.ref h2, Value.ref h3, Value.ref h4, Value.int n0_ways])), (h1, Sum.inl (cAlong, 25, Sum.inr (Sum.inr (Sum.inr (Sum.inr (fun j => some (h5 j))))))), (h2, Sum.inl (cAlong, 5, Sum.inr (Sum.inr (Sum.inr (Sum.inr (fun j => some (h6 j))))))), (h3, Sum.inl (cint, 5, Sum.inl f3)), (h4, Sum.inl (cint, 5, Sum.inl f4))]) [0, 1, 2, 3, 4] rfl
    have hDc := hD.part (cx := [(h0, Sum.inr (2, [Value.ref h7, Value.ref h8, Value.ref h9, Value.int n0_size, Value.ref h10, Value.int n0_names, Value.int n0_plots, Value.ref h11, Value.ref h1, Value.ref h2, Value.ref h3, Value.ref h4, Value.int n0_ways])), (h1, Sum.inl (cAlong, 25, Sum.inr (Sum.inr (Sum.inr (Sum.inr (fun j => some (h5 j))))))), (h2, Sum.inl (cAlong, 5, Sum.inr (Sum.inr (Sum.inr (Sum.inr (fun j => some (h6 j))))))), (h3, Sum.inl (cint, 5, Sum.inl f3)), (h4, Sum.inl (cint, 5, Sum.inl f4))]) [0, 1, 2, 3, 4] (by decide) rfl
    have hFc := va_freeP (cx := [(h0, Sum.inr (2, [Value.ref h7, Value.ref h8, Value.ref h9, Value.int n0_size, Value.ref h10, Value.int n0_names, Value.int n0_plots, Value.ref h11, Value.ref h1, Value.ref h2, Value.ref h3, Value.ref h4, Value.int n0_ways])), (h1, Sum.inl (cAlong, 25, Sum.inr (Sum.inr (Sum.inr (Sum.inr (fun j => some (h5 j))))))), (h2, Sum.inl (cAlong, 5, Sum.inr (Sum.inr (Sum.inr (Sum.inr (fun j => some (h6 j))))))), (h3, Sum.inl (cint, 5, Sum.inl f3)), (h4, Sum.inl (cint, 5, Sum.inl f4))]) hD hS hA [0, 1, 2, 3, 4] rfl
    have hKc := hK.sub (tys' := [(cAlong, .array .long), (cint, .int), (clong, .long)]) [0, 1, 2] rfl
    refine va_callv (va_runV (As := [.int 2]) (rest := []) ⟨hx, hb, hml, hown, hts⟩ (g_X2_countWays_2 l dC dI h0 h1 h2 h3 h4 h5 h6 h7 h8 h9 h10 h11 cAlong cint clong s.heap.size n0_size n0_names n0_plots n0_ways f3 f4 F5 F6 tn0_size tn0_names tn0_plots) (cwV 1 hts gX2_search_X2_countWays rfl rfl rfl (by decide +kernel) ⟨Nat.le_of_ble_eq_true rfl, Nat.le_of_ble_eq_true rfl⟩) ⟨fun a U g mk q => by obtain ⟨q0, q1, qP, qK, qD⟩ := q; exact ⟨q0, q1, qP, va_K.moved (u := U) (U := U.calling g mk a) (Vm.Alike.refl U.vm) qK, qD⟩, va_recv hKc hPc (ci := 2) (q0 := 0) rfl rfl, fun U hU hW => ⟨rfl, by rw [hU], by rw [hU]; exact hPc, va_K.moved hW.alike hKc, hDc.weaken (fun _ _ _ _ => trivial)⟩⟩ rfl rfl hl.1 rfl (lv_room (Nat.le_of_ble_eq_true rfl)) dX2_search_12 ⟨Nat.le_of_ble_eq_true rfl, Nat.le_of_ble_eq_true rfl⟩) hS (fun q _ h => hFc q h) hFc (fun u t H1 locs ht hvm hw hB hz1 hk1 hS => ?_)
    obtain ⟨y_19, f_20, f_21, hP1, hK1, hD1⟩ := hB
    rw [ht] at hP1
    have hK1 := va_K.moved hvm.symm hK1
    obtain ⟨hP, hD⟩ := va_joinP (cx := [(h0, Sum.inr (2, [Value.ref h7, Value.ref h8, Value.ref h9, Value.int n0_size, Value.ref h10, Value.int n0_names, Value.int n0_plots, Value.ref h11, Value.ref h1, Value.ref h2, Value.ref h3, Value.ref h4, Value.int n0_ways])), (h1, Sum.inl (cAlong, 25, Sum.inr (Sum.inr (Sum.inr (Sum.inr (fun j => some (h5 j))))))), (h2, Sum.inl (cAlong, 5, Sum.inr (Sum.inr (Sum.inr (Sum.inr (fun j => some (h6 j))))))), (h3, Sum.inl (cint, 5, Sum.inl f3)), (h4, Sum.inl (cint, 5, Sum.inl f4))]) (wr := []) (rx := [(h0, Sum.inr (2, [Value.ref h7, Value.ref h8, Value.ref h9, Value.int n0_size, Value.ref h10, Value.int n0_names, Value.int n0_plots, Value.ref h11, Value.ref h1, Value.ref h2, Value.ref h3, Value.ref h4, Value.int y_19])), (h1, Sum.inl (cAlong, 25, Sum.inr (Sum.inr (Sum.inr (Sum.inr (fun j => some (h5 j))))))), (h2, Sum.inl (cAlong, 5, Sum.inr (Sum.inr (Sum.inr (Sum.inr (fun j => some (h6 j))))))), (h3, Sum.inl (cint, 5, Sum.inl f_20)), (h4, Sum.inl (cint, 5, Sum.inl f_21))]) hP hD [0, 1, 2, 3, 4] [] rfl rfl (by decide) (by decide) hk1 hFc hP1 hD1
    generalize H1 = H at hP hS ⊢
    have hP : va_P (dC, dI) vwCl (([(h0, Sum.inr (2, [Value.ref h7, Value.ref h8, Value.ref h9, Value.int n0_size, Value.ref h10, Value.int n0_names, Value.int n0_plots, Value.ref h11, Value.ref h1, Value.ref h2, Value.ref h3, Value.ref h4, Value.int y_19])), (h1, Sum.inl (cAlong, 25, Sum.inr (Sum.inr (Sum.inr (Sum.inr (fun j => some (h5 j))))))), (h2, Sum.inl (cAlong, 5, Sum.inr (Sum.inr (Sum.inr (Sum.inr (fun j => some (h6 j))))))), (h3, Sum.inl (cint, 5, Sum.inl f_20)), (h4, Sum.inl (cint, 5, Sum.inl f_21))] : va_W) ++ (kk_rowsL h5 clong 40 F5 25 ++ (kk_rowsL h6 clong 5 F6 5))) H := hP
    have hD : va_D A (([(h0, Sum.inr (2, [Value.ref h7, Value.ref h8, Value.ref h9, Value.int n0_size, Value.ref h10, Value.int n0_names, Value.int n0_plots, Value.ref h11, Value.ref h1, Value.ref h2, Value.ref h3, Value.ref h4, Value.int y_19])), (h1, Sum.inl (cAlong, 25, Sum.inr (Sum.inr (Sum.inr (Sum.inr (fun j => some (h5 j))))))), (h2, Sum.inl (cAlong, 5, Sum.inr (Sum.inr (Sum.inr (Sum.inr (fun j => some (h6 j))))))), (h3, Sum.inl (cint, 5, Sum.inl f_20)), (h4, Sum.inl (cint, 5, Sum.inl f_21))] : va_W) ++ (kk_rowsL h5 clong 40 F5 25 ++ (kk_rowsL h6 clong 5 F6 5))) := hD
    have hP9 := hP.part (cx := [(h0, Sum.inr (2, [Value.ref h7, Value.ref h8, Value.ref h9, Value.int n0_size, Value.ref h10, Value.int n0_names, Value.int n0_plots, Value.ref h11, Value.ref h1, Value.ref h2, Value.ref h3, Value.ref h4, Value.int y_19])), (h1, Sum.inl (cAlong, 25, Sum.inr (Sum.inr (Sum.inr (Sum.inr (fun j => some (h5 j))))))), (h2, Sum.inl (cAlong, 5, Sum.inr (Sum.inr (Sum.inr (Sum.inr (fun j => some (h6 j))))))), (h3, Sum.inl (cint, 5, Sum.inl f_20)), (h4, Sum.inl (cint, 5, Sum.inl f_21))]) [0, 1, 2, 3, 4] rfl
    have hD9 := hD.part (cx := [(h0, Sum.inr (2, [Value.ref h7, Value.ref h8, Value.ref h9, Value.int n0_size, Value.ref h10, Value.int n0_names, Value.int n0_plots, Value.ref h11, Value.ref h1, Value.ref h2, Value.ref h3, Value.ref h4, Value.int y_19])), (h1, Sum.inl (cAlong, 25, Sum.inr (Sum.inr (Sum.inr (Sum.inr (fun j => some (h5 j))))))), (h2, Sum.inl (cAlong, 5, Sum.inr (Sum.inr (Sum.inr (Sum.inr (fun j => some (h6 j))))))), (h3, Sum.inl (cint, 5, Sum.inl f_20)), (h4, Sum.inl (cint, 5, Sum.inl f_21))]) [0, 1, 2, 3, 4] (by decide) rfl
    have hK9 := hK.sub (tys' := []) [] rfl
    exact W.vret hx hb hr (fun t ht hW => ⟨⟨(), rfl, trivial, y_19, f_20, f_21, F6, by rw [ht]; exact hP9, va_K.moved hW.alike hK9, hD9⟩, hS.F ht⟩) hS.2.2 dX2_search_15
set_option maxHeartbeats 4000000 in
set_option maxRecDepth 100000 in
theorem g_X2_countWays_3 (l : Launch) (dC : Nat → ClassId) (dI : Nat → Nat → Nat) (h0 : Nat) (h1 : Nat) (h2 : Nat) (h3 : Nat) (h4 : Nat) (h5 : Nat → Nat) (h6 : Nat → Nat) (h7 : Nat) (h8 : Nat) (h9 : Nat) (h10 : Nat) (h11 : Nat) (cAlong cint clong : ClassId) (sz : Nat) (n0_size : Int32) (n0_names : Int32) (n0_plots : Int32) (n0_ways : Int32) (f3 : Nat → Int32) (f4 : Nat → Int32) (F5 : Nat → Nat → Int64) (F6 : Nat → Nat → Int64) (tn0_size : 0 ≤ n0_size.toInt ∧ n0_size.toInt ≤ 10) (tn0_names : 1 ≤ n0_names.toInt ∧ n0_names.toInt ≤ 5) (tn0_plots : 0 ≤ n0_plots.toInt ∧ n0_plots.toInt ≤ 40) : Met l yX2_countWays wsX2_countWays ({ frames := 2, cells := 0, slots := 0, locals := 48 }) (va_Pc [.ref h0, .int 1] (fun U => U.heap.size = sz ∧ va_P (dC, dI) vwCl (([(h0, Sum.inr (2, [Value.ref h7, Value.ref h8, Value.ref h9, Value.int n0_size, Value.ref h10, Value.int n0_names, Value.int n0_plots, Value.ref h11, Value.ref h1, Value.ref h2, Value.ref h3, Value.ref h4, Value.int n0_ways])), (h1, Sum.inl (cAlong, 25, Sum.inr (Sum.inr (Sum.inr (Sum.inr (fun j => some (h5 j))))))), (h2, Sum.inl (cAlong, 5, Sum.inr (Sum.inr (Sum.inr (Sum.inr (fun j => some (h6 j))))))), (h3, Sum.inl (cint, 5, Sum.inl f3)), (h4, Sum.inl (cint, 5, Sum.inl f4))] : va_W) ++ (kk_rowsL h5 clong 40 F5 25 ++ (kk_rowsL h6 clong 5 F6 5))) U.heap ∧ va_K (dC, dI) vwCl [(cAlong, .array .long), (cint, .int), (clong, .long)] U ∧ va_D (fun _ => True) (([(h0, Sum.inr (2, [Value.ref h7, Value.ref h8, Value.ref h9, Value.int n0_size, Value.ref h10, Value.int n0_names, Value.int n0_plots, Value.ref h11, Value.ref h1, Value.ref h2, Value.ref h3, Value.ref h4, Value.int n0_ways])), (h1, Sum.inl (cAlong, 25, Sum.inr (Sum.inr (Sum.inr (Sum.inr (fun j => some (h5 j))))))), (h2, Sum.inl (cAlong, 5, Sum.inr (Sum.inr (Sum.inr (Sum.inr (fun j => some (h6 j))))))), (h3, Sum.inl (cint, 5, Sum.inl f3)), (h4, Sum.inl (cint, 5, Sum.inl f4))] : va_W) ++ (kk_rowsL h5 clong 40 F5 25 ++ (kk_rowsL h6 clong 5 F6 5))))) (va_Qv (fun (_ : Unit) => True) (fun (_ : Unit) t => ∃ (m0_ways : Int32) (g3 : Nat → Int32) (g4 : Nat → Int32), va_P (dC, dI) vwCl (([(h0, Sum.inr (2, [Value.ref h7, Value.ref h8, Value.ref h9, Value.int n0_size, Value.ref h10, Value.int n0_names, Value.int n0_plots, Value.ref h11, Value.ref h1, Value.ref h2, Value.ref h3, Value.ref h4, Value.int m0_ways])), (h1, Sum.inl (cAlong, 25, Sum.inr (Sum.inr (Sum.inr (Sum.inr (fun j => some (h5 j))))))), (h2, Sum.inl (cAlong, 5, Sum.inr (Sum.inr (Sum.inr (Sum.inr (fun j => some (h6 j))))))), (h3, Sum.inl (cint, 5, Sum.inl g3)), (h4, Sum.inl (cint, 5, Sum.inl g4))] : va_W) ++ (kk_rowsL h5 clong 40 F5 25 ++ (kk_rowsL h6 clong 5 F6 5))) t.heap ∧ va_K (dC, dI) vwCl [] t ∧ va_D (va_A (([(h0, Sum.inr (2, [Value.ref h7, Value.ref h8, Value.ref h9, Value.int n0_size, Value.ref h10, Value.int n0_names, Value.int n0_plots, Value.ref h11, Value.ref h1, Value.ref h2, Value.ref h3, Value.ref h4, Value.int n0_ways])), (h1, Sum.inl (cAlong, 25, Sum.inr (Sum.inr (Sum.inr (Sum.inr (fun j => some (h5 j))))))), (h2, Sum.inl (cAlong, 5, Sum.inr (Sum.inr (Sum.inr (Sum.inr (fun j => some (h6 j))))))), (h3, Sum.inl (cint, 5, Sum.inl f3)), (h4, Sum.inl (cint, 5, Sum.inl f4))] : va_W) ++ (kk_rowsL h5 clong 40 F5 25 ++ (kk_rowsL h6 clong 5 F6 5))) sz) (([(h0, Sum.inr (2, [Value.ref h7, Value.ref h8, Value.ref h9, Value.int n0_size, Value.ref h10, Value.int n0_names, Value.int n0_plots, Value.ref h11, Value.ref h1, Value.ref h2, Value.ref h3, Value.ref h4, Value.int m0_ways])), (h1, Sum.inl (cAlong, 25, Sum.inr (Sum.inr (Sum.inr (Sum.inr (fun j => some (h5 j))))))), (h2, Sum.inl (cAlong, 5, Sum.inr (Sum.inr (Sum.inr (Sum.inr (fun j => some (h6 j))))))), (h3, Sum.inl (cint, 5, Sum.inl g3)), (h4, Sum.inl (cint, 5, Sum.inl g4))] : va_W) ++ (kk_rowsL h5 clong 40 F5 25 ++ (kk_rowsL h6 clong 5 F6 5)))) (va_A (([(h0, Sum.inr (2, [Value.ref h7, Value.ref h8, Value.ref h9, Value.int n0_size, Value.ref h10, Value.int n0_names, Value.int n0_plots, Value.ref h11, Value.ref h1, Value.ref h2, Value.ref h3, Value.ref h4, Value.int n0_ways])), (h1, Sum.inl (cAlong, 25, Sum.inr (Sum.inr (Sum.inr (Sum.inr (fun j => some (h5 j))))))), (h2, Sum.inl (cAlong, 5, Sum.inr (Sum.inr (Sum.inr (Sum.inr (fun j => some (h6 j))))))), (h3, Sum.inl (cint, 5, Sum.inl f3)), (h4, Sum.inl (cint, 5, Sum.inl f4))] : va_W) ++ (kk_rowsL h5 clong 40 F5 25 ++ (kk_rowsL h6 clong 5 F6 5))) sz)) 0 0 (va_A (([(h0, Sum.inr (2, [Value.ref h7, Value.ref h8, Value.ref h9, Value.int n0_size, Value.ref h10, Value.int n0_names, Value.int n0_plots, Value.ref h11, Value.ref h1, Value.ref h2, Value.ref h3, Value.ref h4, Value.int n0_ways])), (h1, Sum.inl (cAlong, 25, Sum.inr (Sum.inr (Sum.inr (Sum.inr (fun j => some (h5 j))))))), (h2, Sum.inl (cAlong, 5, Sum.inr (Sum.inr (Sum.inr (Sum.inr (fun j => some (h6 j))))))), (h3, Sum.inl (cint, 5, Sum.inl f3)), (h4, Sum.inl (cint, 5, Sum.inl f4))] : va_W) ++ (kk_rowsL h5 clong 40 F5 25 ++ (kk_rowsL h6 clong 5 F6 5))) sz) := by
  refine Met.ofW (cc := cX2_countWays) (maxL := 4) (ret := none) (by decide) rfl ?_
  intro p e s m args below meth c s₁ B hml hv
  obtain ⟨rfl, hsz, hP, hK, hD0⟩ := hv
  have hx := B.exec
  have hb := B.bytes
  have hr := B.returns
  have hts := atoms_spec (ws := wsX2_countWays) B.pre
  have hown : s.vm.findClass RX2 = some m.cls := findClass_of_methodNamed B.named
  have hlocks := B.notSynchronized
  subst hsz
  have hD := hD0.self (sz := s.heap.size)
  generalize hAe : va_A (([(h0, Sum.inr (2, [Value.ref h7, Value.ref h8, Value.ref h9, Value.int n0_size, Value.ref h10, Value.int n0_names, Value.int n0_plots, Value.ref h11, Value.ref h1, Value.ref h2, Value.ref h3, Value.ref h4, Value.int n0_ways])), (h1, Sum.inl (cAlong, 25, Sum.inr (Sum.inr (Sum.inr (Sum.inr (fun j => some (h5 j))))))), (h2, Sum.inl (cAlong, 5, Sum.inr (Sum.inr (Sum.inr (Sum.inr (fun j => some (h6 j))))))), (h3, Sum.inl (cint, 5, Sum.inl f3)), (h4, Sum.inl (cint, 5, Sum.inl f4))] : va_W) ++ (kk_rowsL h5 clong 40 F5 25 ++ (kk_rowsL h6 clong 5 F6 5))) s.heap.size = A at hD ⊢
  have hA : ∀ q : Nat, s.heap.size ≤ q → A q := fun q h => by rw [← hAe]; exact Or.inr h
  have hS : va_S A s.heap s.heap [] := va_S.rf
  have hP : va_P (dC, dI) vwCl (([(h0, Sum.inr (2, [Value.ref h7, Value.ref h8, Value.ref h9, Value.int n0_size, Value.ref h10, Value.int n0_names, Value.int n0_plots, Value.ref h11, Value.ref h1, Value.ref h2, Value.ref h3, Value.ref h4, Value.int n0_ways])), (h1, Sum.inl (cAlong, 25, Sum.inr (Sum.inr (Sum.inr (Sum.inr (fun j => some (h5 j))))))), (h2, Sum.inl (cAlong, 5, Sum.inr (Sum.inr (Sum.inr (Sum.inr (fun j => some (h6 j))))))), (h3, Sum.inl (cint, 5, Sum.inl f3)), (h4, Sum.inl (cint, 5, Sum.inl f4))] : va_W) ++ (kk_rowsL h5 clong 40 F5 25 ++ (kk_rowsL h6 clong 5 F6 5))) s.heap := hP
  have hl := lv_entry ([.ref h0, .int 1]) (n := 4) (Nat.le_of_ble_eq_true rfl)
  rw [lg_entry_eq]
  generalize (lg_sl ([.ref h0, .int 1]) ++ List.replicate (4 - (lg_sl ([.ref h0, .int 1])).length) Slot.unset).toArray = ls at hl ⊢
  have hl : lv_has ls 4 [(0, .ref h0), (1, .int 1)] := hl
  refine lv_aload_n hx hb dX2_countWays_0 rfl (lv_at hl 0 rfl) ?_
  refine va_get (D := (dC, dI)) (ci := 2) (v := .ref h2) (C := RX2) (T := TX2) (N := 13) hx hb hts (fun _ h => List.mem_cons_of_mem _ (List.mem_append_right _ h)) hown hK hP 0 rfl rfl 9 (by decide) (hts (.fieldLink RX2 32 "KinkStreet$Deeds" "open" "[[J") (List.mem_of_getElem? (i := 1) rfl)) (fun _ h9 => h9) rfl dX2_countWays_1 ?_
  refine lv_iload_n hx hb dX2_countWays_4 rfl (lv_at hl 1 rfl) ?_
  have hi_1 : vp_in (1 : Int32) 5 := (by unfold vp_in; decide)
  have hk_1 : (1 : Int32).toNatClampNeg < 5 := Nat.not_le.mp fun q => hi_1 (Or.inr q)
  refine kk_aald hx hb hK hP 2 0 rfl rfl hi_1 dX2_countWays_5 ?_
  refine W.eq (g2 := F0 m 6 ls [.ref (h6 (1 : Int32).toNatClampNeg)]) rfl ?_
  refine lv_iload_n hx hb dX2_countWays_6 rfl (lv_at hl 1 rfl) ?_
  refine va_lald hx hb hK hP _ 2 (kk_getr (kk_getr (kk_rowL hk_1))) rfl (by unfold vp_in; decide) dX2_countWays_7 ?_
  refine lv_topl (fun y_2 e_2 => ?_)
  clear e_2
  refine lv_lstore_n (lv' := [(2, .long y_2), (0, .ref h0), (1, .int 1)]) hx hb dX2_countWays_8 rfl hl (by decide) rfl (fun ls hl => ?_)
  refine lv_lload_n hx hb dX2_countWays_9 rfl (lv_at hl 0 rfl) ?_
  refine lv_lconst (v := 0) hx hb dX2_countWays_10 (by decide) ?_
  refine W.lcmp hx hb dX2_countWays_11 ?_
  refine lv_if_ne (tgt := 16) hx hb dX2_countWays_12 (by decide) (fun _ => ?_) (fun _ => ?_)
  · skip
    refine lv_aload_n hx hb dX2_countWays_16 rfl (lv_at hl 1 rfl) ?_
    refine va_get (D := (dC, dI)) (ci := 2) (v := .int n0_ways) (C := RX2) (T := TX2) (N := 13) hx hb hts (fun _ h => List.mem_cons_of_mem _ (List.mem_append_right _ h)) hown hK hP 0 rfl rfl 12 (by decide) (hts (.fieldLink RX2 70 "KinkStreet$Deeds" "ways" "I") (List.mem_of_getElem? (i := 2) rfl)) (fun _ h9 => h9) rfl dX2_countWays_17 ?_
    refine lv_if_ne (tgt := 47) hx hb dX2_countWays_20 (by decide) (fun c_3 => ?_) (fun c_3 => ?_)
    · have t_3 : n0_ways.toInt ≠ 0 := kk_ne c_3
      refine lv_aload_n hx hb dX2_countWays_47 rfl (lv_at hl 1 rfl) ?_
      refine lv_ldc hx hb hown (hts _ (List.mem_of_getElem? (i := 9) rfl)) dX2_countWays_48 ?_
      refine lv_aload_n hx hb dX2_countWays_50 rfl (lv_at hl 1 rfl) ?_
      refine va_get (D := (dC, dI)) (ci := 2) (v := .int n0_ways) (C := RX2) (T := TX2) (N := 13) hx hb hts (fun _ h => List.mem_cons_of_mem _ (List.mem_append_right _ h)) hown hK hP 0 rfl rfl 12 (by decide) (hts (.fieldLink RX2 70 "KinkStreet$Deeds" "ways" "I") (List.mem_of_getElem? (i := 2) rfl)) (fun _ h9 => h9) rfl dX2_countWays_51 ?_
      refine lv_lload_n hx hb dX2_countWays_54 rfl (lv_at hl 0 rfl) ?_
      obtain ⟨hPc, hDc, hFc⟩ := kk_cutout (wc := []) hP hD hS hA [] (by decide) rfl
      have hKc := hK.sub (tys' := []) [] rfl
      refine va_calli (va_runS (As := [.long y_2]) (rest := [.int n0_ways, .int 1000000, .ref h0]) ⟨hx, hb, hml, hown, hts⟩ (g_J13_bitCount_95d88_0 l dC dI s.heap.size y_2 (y_2.toInt) rfl) (va_cwS 1 hts gX2_countWays_J13_bitCount_95d88 rfl rfl rfl (by decide +kernel) ⟨Nat.le_of_ble_eq_true rfl, Nat.le_of_ble_eq_true rfl⟩) ⟨fun a U g mk q => by obtain ⟨q0, q1, qP, qK, qD⟩ := q; exact ⟨q0, q1, qP, va_K.moved (u := U) (U := U.calling g mk a) (Vm.Alike.refl U.vm) qK, qD⟩, fun U hU hW => ⟨rfl, by rw [hU], by rw [hU]; exact hPc, va_K.moved hW.alike hKc, hDc.weaken (fun _ _ _ _ => trivial)⟩⟩ rfl rfl hl.1 rfl (lv_room (Nat.le_of_ble_eq_true rfl)) dX2_countWays_55 ⟨Nat.le_of_ble_eq_true rfl, Nat.le_of_ble_eq_true rfl⟩) hS (fun q _ h => hFc q h) hFc (fun r_4 u t H1 locs ht hvm hw hB hz1 hk1 hS => ?_)
      obtain ⟨hP1, hK1, hD1⟩ := hB
      rw [ht] at hP1
      have hK1 := va_K.moved hvm.symm hK1
      obtain ⟨hP, hD⟩ := va_joinQ (cx := []) (wr := [(h0, Sum.inr (2, [Value.ref h7, Value.ref h8, Value.ref h9, Value.int n0_size, Value.ref h10, Value.int n0_names, Value.int n0_plots, Value.ref h11, Value.ref h1, Value.ref h2, Value.ref h3, Value.ref h4, Value.int n0_ways])), (h1, Sum.inl (cAlong, 25, Sum.inr (Sum.inr (Sum.inr (Sum.inr (fun j => some (h5 j))))))), (h2, Sum.inl (cAlong, 5, Sum.inr (Sum.inr (Sum.inr (Sum.inr (fun j => some (h6 j))))))), (h3, Sum.inl (cint, 5, Sum.inl f3)), (h4, Sum.inl (cint, 5, Sum.inl f4))]) (w1 := []) hP hD [] [0, 1, 2, 3, 4] rfl rfl (by decide) (by decide) hk1 hFc hP1 hD1
      generalize H1 = H at hP hS ⊢
      have hP : va_P (dC, dI) vwCl (([(h0, Sum.inr (2, [Value.ref h7, Value.ref h8, Value.ref h9, Value.int n0_size, Value.ref h10, Value.int n0_names, Value.int n0_plots, Value.ref h11, Value.ref h1, Value.ref h2, Value.ref h3, Value.ref h4, Value.int n0_ways])), (h1, Sum.inl (cAlong, 25, Sum.inr (Sum.inr (Sum.inr (Sum.inr (fun j => some (h5 j))))))), (h2, Sum.inl (cAlong, 5, Sum.inr (Sum.inr (Sum.inr (Sum.inr (fun j => some (h6 j))))))), (h3, Sum.inl (cint, 5, Sum.inl f3)), (h4, Sum.inl (cint, 5, Sum.inl f4))] : va_W) ++ (kk_rowsL h5 clong 40 F5 25 ++ (kk_rowsL h6 clong 5 F6 5))) H := hP
      have hD : va_D A (([(h0, Sum.inr (2, [Value.ref h7, Value.ref h8, Value.ref h9, Value.int n0_size, Value.ref h10, Value.int n0_names, Value.int n0_plots, Value.ref h11, Value.ref h1, Value.ref h2, Value.ref h3, Value.ref h4, Value.int n0_ways])), (h1, Sum.inl (cAlong, 25, Sum.inr (Sum.inr (Sum.inr (Sum.inr (fun j => some (h5 j))))))), (h2, Sum.inl (cAlong, 5, Sum.inr (Sum.inr (Sum.inr (Sum.inr (fun j => some (h6 j))))))), (h3, Sum.inl (cint, 5, Sum.inl f3)), (h4, Sum.inl (cint, 5, Sum.inl f4))] : va_W) ++ (kk_rowsL h5 clong 40 F5 25 ++ (kk_rowsL h6 clong 5 F6 5))) := hD
      refine lv_iadd hx hb dX2_countWays_58 ?_
      refine va_mmin hx hb (hml.trans hl.1.symm) hown (hts (.methodLink RX2 61 Lib.Math.min.name) (List.mem_of_getElem? (i := 10) rfl)) (hts (.static Lib.Math.min.name) (List.mem_of_getElem? (i := 11) rfl)) (hts (.initialized "java/lang/Math") (List.mem_of_getElem? (i := 12) rfl)) (hts (.code Lib.Math.min.name Lib.Math.min.code 2 (some .int)) (List.mem_of_getElem? (i := 13) rfl)) (Nat.le_of_ble_eq_true rfl) (Nat.le_of_ble_eq_true rfl) (Nat.le_of_ble_eq_true rfl) (Nat.le_of_ble_eq_true rfl) dX2_countWays_59 ?_
      refine lv_topi (fun y_5 e_5 => ?_)
      have t_5 : y_5.toInt ≤ 1000000 ∧ y_5.toInt ≤ (n0_ways + r_4).toInt ∧ (y_5.toInt = 1000000 ∨ y_5.toInt = (n0_ways + r_4).toInt) := by rw [e_5]; exact kk_min _ _
      clear e_5
      refine va_put (D := (dC, dI)) (ci := 2) (v := .int y_5) (ty := .int) (C := RX2) (T := TX2) (N := 13) hx hb hts (fun _ h => List.mem_cons_of_mem _ (List.mem_append_right _ h)) tyX2 tyX2_ok nmX2 hown hK hP hD hS 0 rfl rfl 12 (by decide) (hts (.fieldLink RX2 70 "KinkStreet$Deeds" "ways" "I") (List.mem_of_getElem? (i := 2) rfl)) (fun _ h9 => h9) rfl (by decide +kernel) rfl rfl (Nat.le_of_ble_eq_true rfl) dX2_countWays_62 (fun H locs hP hD hS => ?_)
      have hP : va_P (dC, dI) vwCl (([(h0, Sum.inr (2, [Value.ref h7, Value.ref h8, Value.ref h9, Value.int n0_size, Value.ref h10, Value.int n0_names, Value.int n0_plots, Value.ref h11, Value.ref h1, Value.ref h2, Value.ref h3, Value.ref h4, Value.int y_5])), (h1, Sum.inl (cAlong, 25, Sum.inr (Sum.inr (Sum.inr (Sum.inr (fun j => some (h5 j))))))), (h2, Sum.inl (cAlong, 5, Sum.inr (Sum.inr (Sum.inr (Sum.inr (fun j => some (h6 j))))))), (h3, Sum.inl (cint, 5, Sum.inl f3)), (h4, Sum.inl (cint, 5, Sum.inl f4))] : va_W) ++ (kk_rowsL h5 clong 40 F5 25 ++ (kk_rowsL h6 clong 5 F6 5))) H := hP
      have hD : va_D A (([(h0, Sum.inr (2, [Value.ref h7, Value.ref h8, Value.ref h9, Value.int n0_size, Value.ref h10, Value.int n0_names, Value.int n0_plots, Value.ref h11, Value.ref h1, Value.ref h2, Value.ref h3, Value.ref h4, Value.int y_5])), (h1, Sum.inl (cAlong, 25, Sum.inr (Sum.inr (Sum.inr (Sum.inr (fun j => some (h5 j))))))), (h2, Sum.inl (cAlong, 5, Sum.inr (Sum.inr (Sum.inr (Sum.inr (fun j => some (h6 j))))))), (h3, Sum.inl (cint, 5, Sum.inl f3)), (h4, Sum.inl (cint, 5, Sum.inl f4))] : va_W) ++ (kk_rowsL h5 clong 40 F5 25 ++ (kk_rowsL h6 clong 5 F6 5))) := hD
      have hP9 := hP.part (cx := [(h0, Sum.inr (2, [Value.ref h7, Value.ref h8, Value.ref h9, Value.int n0_size, Value.ref h10, Value.int n0_names, Value.int n0_plots, Value.ref h11, Value.ref h1, Value.ref h2, Value.ref h3, Value.ref h4, Value.int y_5])), (h1, Sum.inl (cAlong, 25, Sum.inr (Sum.inr (Sum.inr (Sum.inr (fun j => some (h5 j))))))), (h2, Sum.inl (cAlong, 5, Sum.inr (Sum.inr (Sum.inr (Sum.inr (fun j => some (h6 j))))))), (h3, Sum.inl (cint, 5, Sum.inl f3)), (h4, Sum.inl (cint, 5, Sum.inl f4))]) [0, 1, 2, 3, 4] rfl
      have hD9 := hD.part (cx := [(h0, Sum.inr (2, [Value.ref h7, Value.ref h8, Value.ref h9, Value.int n0_size, Value.ref h10, Value.int n0_names, Value.int n0_plots, Value.ref h11, Value.ref h1, Value.ref h2, Value.ref h3, Value.ref h4, Value.int y_5])), (h1, Sum.inl (cAlong, 25, Sum.inr (Sum.inr (Sum.inr (Sum.inr (fun j => some (h5 j))))))), (h2, Sum.inl (cAlong, 5, Sum.inr (Sum.inr (Sum.inr (Sum.inr (fun j => some (h6 j))))))), (h3, Sum.inl (cint, 5, Sum.inl f3)), (h4, Sum.inl (cint, 5, Sum.inl f4))]) [0, 1, 2, 3, 4] (by decide) rfl
      have hK9 := hK.sub (tys' := []) [] rfl
      exact W.vret hx hb hr (fun t ht hW => ⟨⟨(), rfl, trivial, y_5, f3, f4, by rw [ht]; exact hP9, va_K.moved hW.alike hK9, hD9⟩, hS.F ht⟩) hS.2.2 dX2_countWays_65
    · have t_3 : n0_ways.toInt = 0 := kk_eq c_3
      refine lv_aload_n hx hb dX2_countWays_23 rfl (lv_at hl 1 rfl) ?_
      refine va_get (D := (dC, dI)) (ci := 2) (v := .ref h3) (C := RX2) (T := TX2) (N := 13) hx hb hts (fun _ h => List.mem_cons_of_mem _ (List.mem_append_right _ h)) hown hK hP 0 rfl rfl 10 (by decide) (hts (.fieldLink RX2 35 "KinkStreet$Deeds" "tried" "[I") (List.mem_of_getElem? (i := 3) rfl)) (fun _ h9 => h9) rfl dX2_countWays_24 ?_
      refine lv_iload_n hx hb dX2_countWays_27 rfl (lv_at hl 2 rfl) ?_
      refine lv_lload_n hx hb dX2_countWays_28 rfl (lv_at hl 0 rfl) ?_
      obtain ⟨hPc, hDc, hFc⟩ := kk_cutout (wc := []) hP hD hS hA [] (by decide) rfl
      have hKc := hK.sub (tys' := []) [] rfl
      refine va_calli (va_runS (As := [.long y_2]) (rest := [.int 1, .ref h3]) ⟨hx, hb, hml, hown, hts⟩ (g_J13_numberOfTrailingZeros_95d88_0 l dC dI s.heap.size y_2 (y_2.toInt) rfl) (va_cwS 1 hts gX2_countWays_J13_numberOfTrailingZeros_95d88 rfl rfl rfl (by decide +kernel) ⟨Nat.le_of_ble_eq_true rfl, Nat.le_of_ble_eq_true rfl⟩) ⟨fun a U g mk q => by obtain ⟨q0, q1, qP, qK, qD⟩ := q; exact ⟨q0, q1, qP, va_K.moved (u := U) (U := U.calling g mk a) (Vm.Alike.refl U.vm) qK, qD⟩, fun U hU hW => ⟨rfl, by rw [hU], by rw [hU]; exact hPc, va_K.moved hW.alike hKc, hDc.weaken (fun _ _ _ _ => trivial)⟩⟩ rfl rfl hl.1 rfl (lv_room (Nat.le_of_ble_eq_true rfl)) dX2_countWays_29 ⟨Nat.le_of_ble_eq_true rfl, Nat.le_of_ble_eq_true rfl⟩) hS (fun q _ h => hFc q h) hFc (fun r_6 u t H1 locs ht hvm hw hB hz1 hk1 hS => ?_)
      obtain ⟨hP1, hK1, hD1⟩ := hB
      rw [ht] at hP1
      have hK1 := va_K.moved hvm.symm hK1
      obtain ⟨hP, hD⟩ := va_joinQ (cx := []) (wr := [(h0, Sum.inr (2, [Value.ref h7, Value.ref h8, Value.ref h9, Value.int n0_size, Value.ref h10, Value.int n0_names, Value.int n0_plots, Value.ref h11, Value.ref h1, Value.ref h2, Value.ref h3, Value.ref h4, Value.int n0_ways])), (h1, Sum.inl (cAlong, 25, Sum.inr (Sum.inr (Sum.inr (Sum.inr (fun j => some (h5 j))))))), (h2, Sum.inl (cAlong, 5, Sum.inr (Sum.inr (Sum.inr (Sum.inr (fun j => some (h6 j))))))), (h3, Sum.inl (cint, 5, Sum.inl f3)), (h4, Sum.inl (cint, 5, Sum.inl f4))]) (w1 := []) hP hD [] [0, 1, 2, 3, 4] rfl rfl (by decide) (by decide) hk1 hFc hP1 hD1
      generalize H1 = H at hP hS ⊢
      have hP : va_P (dC, dI) vwCl (([(h0, Sum.inr (2, [Value.ref h7, Value.ref h8, Value.ref h9, Value.int n0_size, Value.ref h10, Value.int n0_names, Value.int n0_plots, Value.ref h11, Value.ref h1, Value.ref h2, Value.ref h3, Value.ref h4, Value.int n0_ways])), (h1, Sum.inl (cAlong, 25, Sum.inr (Sum.inr (Sum.inr (Sum.inr (fun j => some (h5 j))))))), (h2, Sum.inl (cAlong, 5, Sum.inr (Sum.inr (Sum.inr (Sum.inr (fun j => some (h6 j))))))), (h3, Sum.inl (cint, 5, Sum.inl f3)), (h4, Sum.inl (cint, 5, Sum.inl f4))] : va_W) ++ (kk_rowsL h5 clong 40 F5 25 ++ (kk_rowsL h6 clong 5 F6 5))) H := hP
      have hD : va_D A (([(h0, Sum.inr (2, [Value.ref h7, Value.ref h8, Value.ref h9, Value.int n0_size, Value.ref h10, Value.int n0_names, Value.int n0_plots, Value.ref h11, Value.ref h1, Value.ref h2, Value.ref h3, Value.ref h4, Value.int n0_ways])), (h1, Sum.inl (cAlong, 25, Sum.inr (Sum.inr (Sum.inr (Sum.inr (fun j => some (h5 j))))))), (h2, Sum.inl (cAlong, 5, Sum.inr (Sum.inr (Sum.inr (Sum.inr (fun j => some (h6 j))))))), (h3, Sum.inl (cint, 5, Sum.inl f3)), (h4, Sum.inl (cint, 5, Sum.inl f4))] : va_W) ++ (kk_rowsL h5 clong 40 F5 25 ++ (kk_rowsL h6 clong 5 F6 5))) := hD
      refine va_iast hx hb hK hP hD hS 3 1 rfl rfl (by unfold vp_in; decide) dX2_countWays_32 (fun H locs hP hD hS => ?_)
      generalize upd f3 (1 : Int32).toNatClampNeg r_6 = f_7 at hP hD
      have hP : va_P (dC, dI) vwCl (([(h0, Sum.inr (2, [Value.ref h7, Value.ref h8, Value.ref h9, Value.int n0_size, Value.ref h10, Value.int n0_names, Value.int n0_plots, Value.ref h11, Value.ref h1, Value.ref h2, Value.ref h3, Value.ref h4, Value.int n0_ways])), (h1, Sum.inl (cAlong, 25, Sum.inr (Sum.inr (Sum.inr (Sum.inr (fun j => some (h5 j))))))), (h2, Sum.inl (cAlong, 5, Sum.inr (Sum.inr (Sum.inr (Sum.inr (fun j => some (h6 j))))))), (h3, Sum.inl (cint, 5, Sum.inl f_7)), (h4, Sum.inl (cint, 5, Sum.inl f4))] : va_W) ++ (kk_rowsL h5 clong 40 F5 25 ++ (kk_rowsL h6 clong 5 F6 5))) H := hP
      have hD : va_D A (([(h0, Sum.inr (2, [Value.ref h7, Value.ref h8, Value.ref h9, Value.int n0_size, Value.ref h10, Value.int n0_names, Value.int n0_plots, Value.ref h11, Value.ref h1, Value.ref h2, Value.ref h3, Value.ref h4, Value.int n0_ways])), (h1, Sum.inl (cAlong, 25, Sum.inr (Sum.inr (Sum.inr (Sum.inr (fun j => some (h5 j))))))), (h2, Sum.inl (cAlong, 5, Sum.inr (Sum.inr (Sum.inr (Sum.inr (fun j => some (h6 j))))))), (h3, Sum.inl (cint, 5, Sum.inl f_7)), (h4, Sum.inl (cint, 5, Sum.inl f4))] : va_W) ++ (kk_rowsL h5 clong 40 F5 25 ++ (kk_rowsL h6 clong 5 F6 5))) := hD
      refine lv_aload_n hx hb dX2_countWays_33 rfl (lv_at hl 1 rfl) ?_
      refine va_get (D := (dC, dI)) (ci := 2) (v := .ref h3) (C := RX2) (T := TX2) (N := 13) hx hb hts (fun _ h => List.mem_cons_of_mem _ (List.mem_append_right _ h)) hown hK hP 0 rfl rfl 10 (by decide) (hts (.fieldLink RX2 35 "KinkStreet$Deeds" "tried" "[I") (List.mem_of_getElem? (i := 3) rfl)) (fun _ h9 => h9) rfl dX2_countWays_34 ?_
      refine lv_iconst (v := 0) hx hb dX2_countWays_37 (by decide) ?_
      refine lv_aload_n hx hb dX2_countWays_38 rfl (lv_at hl 1 rfl) ?_
      refine va_get (D := (dC, dI)) (ci := 2) (v := .ref h4) (C := RX2) (T := TX2) (N := 13) hx hb hts (fun _ h => List.mem_cons_of_mem _ (List.mem_append_right _ h)) hown hK hP 0 rfl rfl 11 (by decide) (hts (.fieldLink RX2 38 "KinkStreet$Deeds" "found" "[I") (List.mem_of_getElem? (i := 4) rfl)) (fun _ h9 => h9) rfl dX2_countWays_39 ?_
      refine lv_iconst (v := 0) hx hb dX2_countWays_42 (by decide) ?_
      refine lv_iconst (v := 5) hx hb dX2_countWays_43 (by decide) ?_
      refine va_copyi (sp := 0) (dp := 0) (n := 5) hx hb (hml.trans hl.1.symm) hown (hts (.methodLink RX2 118 arraycopyName) (List.mem_of_getElem? (i := 5) rfl)) (hts (.native arraycopyName) (List.mem_of_getElem? (i := 6) rfl)) (hts (.static arraycopyName) (List.mem_of_getElem? (i := 7) rfl)) (hts (.initialized "java/lang/System") (List.mem_of_getElem? (i := 8) rfl)) hK hP hD hS 3 4 1 1 rfl rfl rfl rfl rfl (by decide) (by decide) (by decide) (by decide) (by decide) (fun _ _ => rfl) (Nat.le_of_ble_eq_true rfl) (Nat.le_of_ble_eq_true rfl) dX2_countWays_44 (fun H locs hP hD hS => ?_)
      generalize va_cpy f_7 f4 (0 : Int32).toNatClampNeg (0 : Int32).toNatClampNeg (5 : Int32).toNatClampNeg = f_8 at hP hD
      have hP : va_P (dC, dI) vwCl (([(h0, Sum.inr (2, [Value.ref h7, Value.ref h8, Value.ref h9, Value.int n0_size, Value.ref h10, Value.int n0_names, Value.int n0_plots, Value.ref h11, Value.ref h1, Value.ref h2, Value.ref h3, Value.ref h4, Value.int n0_ways])), (h1, Sum.inl (cAlong, 25, Sum.inr (Sum.inr (Sum.inr (Sum.inr (fun j => some (h5 j))))))), (h2, Sum.inl (cAlong, 5, Sum.inr (Sum.inr (Sum.inr (Sum.inr (fun j => some (h6 j))))))), (h3, Sum.inl (cint, 5, Sum.inl f_7)), (h4, Sum.inl (cint, 5, Sum.inl f_8))] : va_W) ++ (kk_rowsL h5 clong 40 F5 25 ++ (kk_rowsL h6 clong 5 F6 5))) H := hP
      have hD : va_D A (([(h0, Sum.inr (2, [Value.ref h7, Value.ref h8, Value.ref h9, Value.int n0_size, Value.ref h10, Value.int n0_names, Value.int n0_plots, Value.ref h11, Value.ref h1, Value.ref h2, Value.ref h3, Value.ref h4, Value.int n0_ways])), (h1, Sum.inl (cAlong, 25, Sum.inr (Sum.inr (Sum.inr (Sum.inr (fun j => some (h5 j))))))), (h2, Sum.inl (cAlong, 5, Sum.inr (Sum.inr (Sum.inr (Sum.inr (fun j => some (h6 j))))))), (h3, Sum.inl (cint, 5, Sum.inl f_7)), (h4, Sum.inl (cint, 5, Sum.inl f_8))] : va_W) ++ (kk_rowsL h5 clong 40 F5 25 ++ (kk_rowsL h6 clong 5 F6 5))) := hD
      refine lv_aload_n hx hb dX2_countWays_47 rfl (lv_at hl 1 rfl) ?_
      refine lv_ldc hx hb hown (hts _ (List.mem_of_getElem? (i := 9) rfl)) dX2_countWays_48 ?_
      refine lv_aload_n hx hb dX2_countWays_50 rfl (lv_at hl 1 rfl) ?_
      refine va_get (D := (dC, dI)) (ci := 2) (v := .int n0_ways) (C := RX2) (T := TX2) (N := 13) hx hb hts (fun _ h => List.mem_cons_of_mem _ (List.mem_append_right _ h)) hown hK hP 0 rfl rfl 12 (by decide) (hts (.fieldLink RX2 70 "KinkStreet$Deeds" "ways" "I") (List.mem_of_getElem? (i := 2) rfl)) (fun _ h9 => h9) rfl dX2_countWays_51 ?_
      refine lv_lload_n hx hb dX2_countWays_54 rfl (lv_at hl 0 rfl) ?_
      obtain ⟨hPc, hDc, hFc⟩ := kk_cutout (wc := []) hP hD hS hA [] (by decide) rfl
      have hKc := hK.sub (tys' := []) [] rfl
      refine va_calli (va_runS (As := [.long y_2]) (rest := [.int n0_ways, .int 1000000, .ref h0]) ⟨hx, hb, hml, hown, hts⟩ (g_J13_bitCount_95d88_0 l dC dI H.size y_2 (y_2.toInt) rfl) (va_cwS 1 hts gX2_countWays_J13_bitCount_95d88 rfl rfl rfl (by decide +kernel) ⟨Nat.le_of_ble_eq_true rfl, Nat.le_of_ble_eq_true rfl⟩) ⟨fun a U g mk q => by obtain ⟨q0, q1, qP, qK, qD⟩ := q; exact ⟨q0, q1, qP, va_K.moved (u := U) (U := U.calling g mk a) (Vm.Alike.refl U.vm) qK, qD⟩, fun U hU hW => ⟨rfl, by rw [hU], by rw [hU]; exact hPc, va_K.moved hW.alike hKc, hDc.weaken (fun _ _ _ _ => trivial)⟩⟩ rfl rfl hl.1 rfl (lv_room (Nat.le_of_ble_eq_true rfl)) dX2_countWays_55 ⟨Nat.le_of_ble_eq_true rfl, Nat.le_of_ble_eq_true rfl⟩) hS (fun q _ h => hFc q h) hFc (fun r_9 u t H1 locs ht hvm hw hB hz1 hk1 hS => ?_)
      obtain ⟨hP1, hK1, hD1⟩ := hB
      rw [ht] at hP1
      have hK1 := va_K.moved hvm.symm hK1
      obtain ⟨hP, hD⟩ := va_joinQ (cx := []) (wr := [(h0, Sum.inr (2, [Value.ref h7, Value.ref h8, Value.ref h9, Value.int n0_size, Value.ref h10, Value.int n0_names, Value.int n0_plots, Value.ref h11, Value.ref h1, Value.ref h2, Value.ref h3, Value.ref h4, Value.int n0_ways])), (h1, Sum.inl (cAlong, 25, Sum.inr (Sum.inr (Sum.inr (Sum.inr (fun j => some (h5 j))))))), (h2, Sum.inl (cAlong, 5, Sum.inr (Sum.inr (Sum.inr (Sum.inr (fun j => some (h6 j))))))), (h3, Sum.inl (cint, 5, Sum.inl f_7)), (h4, Sum.inl (cint, 5, Sum.inl f_8))]) (w1 := []) hP hD [] [0, 1, 2, 3, 4] rfl rfl (by decide) (by decide) hk1 hFc hP1 hD1
      generalize H1 = H at hP hS ⊢
      have hP : va_P (dC, dI) vwCl (([(h0, Sum.inr (2, [Value.ref h7, Value.ref h8, Value.ref h9, Value.int n0_size, Value.ref h10, Value.int n0_names, Value.int n0_plots, Value.ref h11, Value.ref h1, Value.ref h2, Value.ref h3, Value.ref h4, Value.int n0_ways])), (h1, Sum.inl (cAlong, 25, Sum.inr (Sum.inr (Sum.inr (Sum.inr (fun j => some (h5 j))))))), (h2, Sum.inl (cAlong, 5, Sum.inr (Sum.inr (Sum.inr (Sum.inr (fun j => some (h6 j))))))), (h3, Sum.inl (cint, 5, Sum.inl f_7)), (h4, Sum.inl (cint, 5, Sum.inl f_8))] : va_W) ++ (kk_rowsL h5 clong 40 F5 25 ++ (kk_rowsL h6 clong 5 F6 5))) H := hP
      have hD : va_D A (([(h0, Sum.inr (2, [Value.ref h7, Value.ref h8, Value.ref h9, Value.int n0_size, Value.ref h10, Value.int n0_names, Value.int n0_plots, Value.ref h11, Value.ref h1, Value.ref h2, Value.ref h3, Value.ref h4, Value.int n0_ways])), (h1, Sum.inl (cAlong, 25, Sum.inr (Sum.inr (Sum.inr (Sum.inr (fun j => some (h5 j))))))), (h2, Sum.inl (cAlong, 5, Sum.inr (Sum.inr (Sum.inr (Sum.inr (fun j => some (h6 j))))))), (h3, Sum.inl (cint, 5, Sum.inl f_7)), (h4, Sum.inl (cint, 5, Sum.inl f_8))] : va_W) ++ (kk_rowsL h5 clong 40 F5 25 ++ (kk_rowsL h6 clong 5 F6 5))) := hD
      refine lv_iadd hx hb dX2_countWays_58 ?_
      refine va_mmin hx hb (hml.trans hl.1.symm) hown (hts (.methodLink RX2 61 Lib.Math.min.name) (List.mem_of_getElem? (i := 10) rfl)) (hts (.static Lib.Math.min.name) (List.mem_of_getElem? (i := 11) rfl)) (hts (.initialized "java/lang/Math") (List.mem_of_getElem? (i := 12) rfl)) (hts (.code Lib.Math.min.name Lib.Math.min.code 2 (some .int)) (List.mem_of_getElem? (i := 13) rfl)) (Nat.le_of_ble_eq_true rfl) (Nat.le_of_ble_eq_true rfl) (Nat.le_of_ble_eq_true rfl) (Nat.le_of_ble_eq_true rfl) dX2_countWays_59 ?_
      refine lv_topi (fun y_10 e_10 => ?_)
      have t_10 : y_10.toInt ≤ 1000000 ∧ y_10.toInt ≤ (n0_ways + r_9).toInt ∧ (y_10.toInt = 1000000 ∨ y_10.toInt = (n0_ways + r_9).toInt) := by rw [e_10]; exact kk_min _ _
      clear e_10
      refine va_put (D := (dC, dI)) (ci := 2) (v := .int y_10) (ty := .int) (C := RX2) (T := TX2) (N := 13) hx hb hts (fun _ h => List.mem_cons_of_mem _ (List.mem_append_right _ h)) tyX2 tyX2_ok nmX2 hown hK hP hD hS 0 rfl rfl 12 (by decide) (hts (.fieldLink RX2 70 "KinkStreet$Deeds" "ways" "I") (List.mem_of_getElem? (i := 2) rfl)) (fun _ h9 => h9) rfl (by decide +kernel) rfl rfl (Nat.le_of_ble_eq_true rfl) dX2_countWays_62 (fun H locs hP hD hS => ?_)
      have hP : va_P (dC, dI) vwCl (([(h0, Sum.inr (2, [Value.ref h7, Value.ref h8, Value.ref h9, Value.int n0_size, Value.ref h10, Value.int n0_names, Value.int n0_plots, Value.ref h11, Value.ref h1, Value.ref h2, Value.ref h3, Value.ref h4, Value.int y_10])), (h1, Sum.inl (cAlong, 25, Sum.inr (Sum.inr (Sum.inr (Sum.inr (fun j => some (h5 j))))))), (h2, Sum.inl (cAlong, 5, Sum.inr (Sum.inr (Sum.inr (Sum.inr (fun j => some (h6 j))))))), (h3, Sum.inl (cint, 5, Sum.inl f_7)), (h4, Sum.inl (cint, 5, Sum.inl f_8))] : va_W) ++ (kk_rowsL h5 clong 40 F5 25 ++ (kk_rowsL h6 clong 5 F6 5))) H := hP
      have hD : va_D A (([(h0, Sum.inr (2, [Value.ref h7, Value.ref h8, Value.ref h9, Value.int n0_size, Value.ref h10, Value.int n0_names, Value.int n0_plots, Value.ref h11, Value.ref h1, Value.ref h2, Value.ref h3, Value.ref h4, Value.int y_10])), (h1, Sum.inl (cAlong, 25, Sum.inr (Sum.inr (Sum.inr (Sum.inr (fun j => some (h5 j))))))), (h2, Sum.inl (cAlong, 5, Sum.inr (Sum.inr (Sum.inr (Sum.inr (fun j => some (h6 j))))))), (h3, Sum.inl (cint, 5, Sum.inl f_7)), (h4, Sum.inl (cint, 5, Sum.inl f_8))] : va_W) ++ (kk_rowsL h5 clong 40 F5 25 ++ (kk_rowsL h6 clong 5 F6 5))) := hD
      have hP9 := hP.part (cx := [(h0, Sum.inr (2, [Value.ref h7, Value.ref h8, Value.ref h9, Value.int n0_size, Value.ref h10, Value.int n0_names, Value.int n0_plots, Value.ref h11, Value.ref h1, Value.ref h2, Value.ref h3, Value.ref h4, Value.int y_10])), (h1, Sum.inl (cAlong, 25, Sum.inr (Sum.inr (Sum.inr (Sum.inr (fun j => some (h5 j))))))), (h2, Sum.inl (cAlong, 5, Sum.inr (Sum.inr (Sum.inr (Sum.inr (fun j => some (h6 j))))))), (h3, Sum.inl (cint, 5, Sum.inl f_7)), (h4, Sum.inl (cint, 5, Sum.inl f_8))]) [0, 1, 2, 3, 4] rfl
      have hD9 := hD.part (cx := [(h0, Sum.inr (2, [Value.ref h7, Value.ref h8, Value.ref h9, Value.int n0_size, Value.ref h10, Value.int n0_names, Value.int n0_plots, Value.ref h11, Value.ref h1, Value.ref h2, Value.ref h3, Value.ref h4, Value.int y_10])), (h1, Sum.inl (cAlong, 25, Sum.inr (Sum.inr (Sum.inr (Sum.inr (fun j => some (h5 j))))))), (h2, Sum.inl (cAlong, 5, Sum.inr (Sum.inr (Sum.inr (Sum.inr (fun j => some (h6 j))))))), (h3, Sum.inl (cint, 5, Sum.inl f_7)), (h4, Sum.inl (cint, 5, Sum.inl f_8))]) [0, 1, 2, 3, 4] (by decide) rfl
      have hK9 := hK.sub (tys' := []) [] rfl
      exact W.vret hx hb hr (fun t ht hW => ⟨⟨(), rfl, trivial, y_10, f_7, f_8, by rw [ht]; exact hP9, va_K.moved hW.alike hK9, hD9⟩, hS.F ht⟩) hS.2.2 dX2_countWays_65
  · skip
    have hP9 := hP.part (cx := [(h0, Sum.inr (2, [Value.ref h7, Value.ref h8, Value.ref h9, Value.int n0_size, Value.ref h10, Value.int n0_names, Value.int n0_plots, Value.ref h11, Value.ref h1, Value.ref h2, Value.ref h3, Value.ref h4, Value.int n0_ways])), (h1, Sum.inl (cAlong, 25, Sum.inr (Sum.inr (Sum.inr (Sum.inr (fun j => some (h5 j))))))), (h2, Sum.inl (cAlong, 5, Sum.inr (Sum.inr (Sum.inr (Sum.inr (fun j => some (h6 j))))))), (h3, Sum.inl (cint, 5, Sum.inl f3)), (h4, Sum.inl (cint, 5, Sum.inl f4))]) [0, 1, 2, 3, 4] rfl
    have hD9 := hD.part (cx := [(h0, Sum.inr (2, [Value.ref h7, Value.ref h8, Value.ref h9, Value.int n0_size, Value.ref h10, Value.int n0_names, Value.int n0_plots, Value.ref h11, Value.ref h1, Value.ref h2, Value.ref h3, Value.ref h4, Value.int n0_ways])), (h1, Sum.inl (cAlong, 25, Sum.inr (Sum.inr (Sum.inr (Sum.inr (fun j => some (h5 j))))))), (h2, Sum.inl (cAlong, 5, Sum.inr (Sum.inr (Sum.inr (Sum.inr (fun j => some (h6 j))))))), (h3, Sum.inl (cint, 5, Sum.inl f3)), (h4, Sum.inl (cint, 5, Sum.inl f4))]) [0, 1, 2, 3, 4] (by decide) rfl
    have hK9 := hK.sub (tys' := []) [] rfl
    exact W.vret hx hb hr (fun t ht hW => ⟨⟨(), rfl, trivial, n0_ways, f3, f4, by rw [ht]; exact hP9, va_K.moved hW.alike hK9, hD9⟩, hS.F ht⟩) hS.2.2 dX2_countWays_15
set_option maxHeartbeats 4000000 in
set_option maxRecDepth 100000 in
theorem g_X2_search_3 (l : Launch) (dC : Nat → ClassId) (dI : Nat → Nat → Nat) (h0 : Nat) (h1 : Nat) (h2 : Nat) (h3 : Nat) (h4 : Nat) (h5 : Nat → Nat) (h6 : Nat → Nat) (h7 : Nat) (h8 : Nat) (h9 : Nat) (h10 : Nat) (h11 : Nat) (cAlong cint clong : ClassId) (sz : Nat) (n0_size : Int32) (n0_names : Int32) (n0_plots : Int32) (n0_ways : Int32) (f3 : Nat → Int32) (f4 : Nat → Int32) (F5 : Nat → Nat → Int64) (F6 : Nat → Nat → Int64) (tn0_size : 0 ≤ n0_size.toInt ∧ n0_size.toInt ≤ 10) (tn0_names : 1 ≤ n0_names.toInt ∧ n0_names.toInt ≤ 5) (tn0_plots : 0 ≤ n0_plots.toInt ∧ n0_plots.toInt ≤ 40) : Met l yX2_search wsX2_search ({ frames := 6, cells := 0, slots := 0, locals := 137 }) (va_Pc [.ref h0, .int 1] (fun U => U.heap.size = sz ∧ va_P (dC, dI) vwCl (([(h0, Sum.inr (2, [Value.ref h7, Value.ref h8, Value.ref h9, Value.int n0_size, Value.ref h10, Value.int n0_names, Value.int n0_plots, Value.ref h11, Value.ref h1, Value.ref h2, Value.ref h3, Value.ref h4, Value.int n0_ways])), (h1, Sum.inl (cAlong, 25, Sum.inr (Sum.inr (Sum.inr (Sum.inr (fun j => some (h5 j))))))), (h2, Sum.inl (cAlong, 5, Sum.inr (Sum.inr (Sum.inr (Sum.inr (fun j => some (h6 j))))))), (h3, Sum.inl (cint, 5, Sum.inl f3)), (h4, Sum.inl (cint, 5, Sum.inl f4))] : va_W) ++ (kk_rowsL h5 clong 40 F5 25 ++ (kk_rowsL h6 clong 5 F6 5))) U.heap ∧ va_K (dC, dI) vwCl [(cAlong, .array .long), (cint, .int), (clong, .long)] U ∧ va_D (fun _ => True) (([(h0, Sum.inr (2, [Value.ref h7, Value.ref h8, Value.ref h9, Value.int n0_size, Value.ref h10, Value.int n0_names, Value.int n0_plots, Value.ref h11, Value.ref h1, Value.ref h2, Value.ref h3, Value.ref h4, Value.int n0_ways])), (h1, Sum.inl (cAlong, 25, Sum.inr (Sum.inr (Sum.inr (Sum.inr (fun j => some (h5 j))))))), (h2, Sum.inl (cAlong, 5, Sum.inr (Sum.inr (Sum.inr (Sum.inr (fun j => some (h6 j))))))), (h3, Sum.inl (cint, 5, Sum.inl f3)), (h4, Sum.inl (cint, 5, Sum.inl f4))] : va_W) ++ (kk_rowsL h5 clong 40 F5 25 ++ (kk_rowsL h6 clong 5 F6 5))))) (va_Qv (fun (_ : Unit) => True) (fun (_ : Unit) t => ∃ (m0_ways : Int32) (g3 : Nat → Int32) (g4 : Nat → Int32) (g6 : Nat → Nat → Int64), va_P (dC, dI) vwCl (([(h0, Sum.inr (2, [Value.ref h7, Value.ref h8, Value.ref h9, Value.int n0_size, Value.ref h10, Value.int n0_names, Value.int n0_plots, Value.ref h11, Value.ref h1, Value.ref h2, Value.ref h3, Value.ref h4, Value.int m0_ways])), (h1, Sum.inl (cAlong, 25, Sum.inr (Sum.inr (Sum.inr (Sum.inr (fun j => some (h5 j))))))), (h2, Sum.inl (cAlong, 5, Sum.inr (Sum.inr (Sum.inr (Sum.inr (fun j => some (h6 j))))))), (h3, Sum.inl (cint, 5, Sum.inl g3)), (h4, Sum.inl (cint, 5, Sum.inl g4))] : va_W) ++ (kk_rowsL h5 clong 40 F5 25 ++ (kk_rowsL h6 clong 5 g6 5))) t.heap ∧ va_K (dC, dI) vwCl [] t ∧ va_D (va_A (([(h0, Sum.inr (2, [Value.ref h7, Value.ref h8, Value.ref h9, Value.int n0_size, Value.ref h10, Value.int n0_names, Value.int n0_plots, Value.ref h11, Value.ref h1, Value.ref h2, Value.ref h3, Value.ref h4, Value.int n0_ways])), (h1, Sum.inl (cAlong, 25, Sum.inr (Sum.inr (Sum.inr (Sum.inr (fun j => some (h5 j))))))), (h2, Sum.inl (cAlong, 5, Sum.inr (Sum.inr (Sum.inr (Sum.inr (fun j => some (h6 j))))))), (h3, Sum.inl (cint, 5, Sum.inl f3)), (h4, Sum.inl (cint, 5, Sum.inl f4))] : va_W) ++ (kk_rowsL h5 clong 40 F5 25 ++ (kk_rowsL h6 clong 5 F6 5))) sz) (([(h0, Sum.inr (2, [Value.ref h7, Value.ref h8, Value.ref h9, Value.int n0_size, Value.ref h10, Value.int n0_names, Value.int n0_plots, Value.ref h11, Value.ref h1, Value.ref h2, Value.ref h3, Value.ref h4, Value.int m0_ways])), (h1, Sum.inl (cAlong, 25, Sum.inr (Sum.inr (Sum.inr (Sum.inr (fun j => some (h5 j))))))), (h2, Sum.inl (cAlong, 5, Sum.inr (Sum.inr (Sum.inr (Sum.inr (fun j => some (h6 j))))))), (h3, Sum.inl (cint, 5, Sum.inl g3)), (h4, Sum.inl (cint, 5, Sum.inl g4))] : va_W) ++ (kk_rowsL h5 clong 40 F5 25 ++ (kk_rowsL h6 clong 5 g6 5)))) (va_A (([(h0, Sum.inr (2, [Value.ref h7, Value.ref h8, Value.ref h9, Value.int n0_size, Value.ref h10, Value.int n0_names, Value.int n0_plots, Value.ref h11, Value.ref h1, Value.ref h2, Value.ref h3, Value.ref h4, Value.int n0_ways])), (h1, Sum.inl (cAlong, 25, Sum.inr (Sum.inr (Sum.inr (Sum.inr (fun j => some (h5 j))))))), (h2, Sum.inl (cAlong, 5, Sum.inr (Sum.inr (Sum.inr (Sum.inr (fun j => some (h6 j))))))), (h3, Sum.inl (cint, 5, Sum.inl f3)), (h4, Sum.inl (cint, 5, Sum.inl f4))] : va_W) ++ (kk_rowsL h5 clong 40 F5 25 ++ (kk_rowsL h6 clong 5 F6 5))) sz)) 0 0 (va_A (([(h0, Sum.inr (2, [Value.ref h7, Value.ref h8, Value.ref h9, Value.int n0_size, Value.ref h10, Value.int n0_names, Value.int n0_plots, Value.ref h11, Value.ref h1, Value.ref h2, Value.ref h3, Value.ref h4, Value.int n0_ways])), (h1, Sum.inl (cAlong, 25, Sum.inr (Sum.inr (Sum.inr (Sum.inr (fun j => some (h5 j))))))), (h2, Sum.inl (cAlong, 5, Sum.inr (Sum.inr (Sum.inr (Sum.inr (fun j => some (h6 j))))))), (h3, Sum.inl (cint, 5, Sum.inl f3)), (h4, Sum.inl (cint, 5, Sum.inl f4))] : va_W) ++ (kk_rowsL h5 clong 40 F5 25 ++ (kk_rowsL h6 clong 5 F6 5))) sz) := by
  refine Met.ofW (cc := cX2_search) (maxL := 3) (ret := none) (by decide) rfl ?_
  intro p e s m args below meth c s₁ B hml hv
  obtain ⟨rfl, hsz, hP, hK, hD0⟩ := hv
  have hx := B.exec
  have hb := B.bytes
  have hr := B.returns
  have hts := atoms_spec (ws := wsX2_search) B.pre
  have hown : s.vm.findClass RX2 = some m.cls := findClass_of_methodNamed B.named
  have hlocks := B.notSynchronized
  subst hsz
  have hD := hD0.self (sz := s.heap.size)
  generalize hAe : va_A (([(h0, Sum.inr (2, [Value.ref h7, Value.ref h8, Value.ref h9, Value.int n0_size, Value.ref h10, Value.int n0_names, Value.int n0_plots, Value.ref h11, Value.ref h1, Value.ref h2, Value.ref h3, Value.ref h4, Value.int n0_ways])), (h1, Sum.inl (cAlong, 25, Sum.inr (Sum.inr (Sum.inr (Sum.inr (fun j => some (h5 j))))))), (h2, Sum.inl (cAlong, 5, Sum.inr (Sum.inr (Sum.inr (Sum.inr (fun j => some (h6 j))))))), (h3, Sum.inl (cint, 5, Sum.inl f3)), (h4, Sum.inl (cint, 5, Sum.inl f4))] : va_W) ++ (kk_rowsL h5 clong 40 F5 25 ++ (kk_rowsL h6 clong 5 F6 5))) s.heap.size = A at hD ⊢
  have hA : ∀ q : Nat, s.heap.size ≤ q → A q := fun q h => by rw [← hAe]; exact Or.inr h
  have hS : va_S A s.heap s.heap [] := va_S.rf
  have hP : va_P (dC, dI) vwCl (([(h0, Sum.inr (2, [Value.ref h7, Value.ref h8, Value.ref h9, Value.int n0_size, Value.ref h10, Value.int n0_names, Value.int n0_plots, Value.ref h11, Value.ref h1, Value.ref h2, Value.ref h3, Value.ref h4, Value.int n0_ways])), (h1, Sum.inl (cAlong, 25, Sum.inr (Sum.inr (Sum.inr (Sum.inr (fun j => some (h5 j))))))), (h2, Sum.inl (cAlong, 5, Sum.inr (Sum.inr (Sum.inr (Sum.inr (fun j => some (h6 j))))))), (h3, Sum.inl (cint, 5, Sum.inl f3)), (h4, Sum.inl (cint, 5, Sum.inl f4))] : va_W) ++ (kk_rowsL h5 clong 40 F5 25 ++ (kk_rowsL h6 clong 5 F6 5))) s.heap := hP
  have hl := lv_entry ([.ref h0, .int 1]) (n := 3) (Nat.le_of_ble_eq_true rfl)
  rw [lg_entry_eq]
  generalize (lg_sl ([.ref h0, .int 1]) ++ List.replicate (3 - (lg_sl ([.ref h0, .int 1])).length) Slot.unset).toArray = ls at hl ⊢
  have hl : lv_has ls 3 [(0, .ref h0), (1, .int 1)] := hl
  refine lv_iload_n hx hb dX2_search_0 rfl (lv_at hl 1 rfl) ?_
  refine lv_aload_n hx hb dX2_search_1 rfl (lv_at hl 0 rfl) ?_
  refine va_get (D := (dC, dI)) (ci := 2) (v := .int n0_names) (C := RX2) (T := TX2) (N := 13) hx hb hts (fun _ h => List.mem_cons_of_mem _ (List.mem_append_right _ h)) hown hK hP 0 rfl rfl 5 (by decide) (hts (.fieldLink RX2 49 "KinkStreet$Deeds" "names" "I") (List.mem_of_getElem? (i := 1) rfl)) (fun _ h9 => h9) rfl dX2_search_2 ?_
  refine lv_iconst (v := 1) hx hb dX2_search_5 (by decide) ?_
  refine lv_isub hx hb dX2_search_6 ?_
  refine lv_icmp_lt (tgt := 16) hx hb dX2_search_7 (by decide) (fun c_1 => ?_) (fun c_1 => ?_)
  · have t_1 : 1 < (n0_names - 1).toInt := kk_lt c_1
    refine lv_iconst (v := 0) hx hb dX2_search_16 (by decide) ?_
    refine lv_istore_n (lv' := [(2, .int 0), (0, .ref h0), (1, .int 1)]) hx hb dX2_search_17 rfl hl (by decide) rfl (fun ls hl => ?_)
    refine kk_loop (σ := Int32 × (Nat → Nat → Int64) × Int32 × (Nat → Int32) × (Nat → Int32)) (fun x H locs ls => (0 ≤ x.1.toInt ∧ x.1.toInt ≤ 40) ∧ va_P (dC, dI) vwCl (([(h0, Sum.inr (2, [Value.ref h7, Value.ref h8, Value.ref h9, Value.int n0_size, Value.ref h10, Value.int n0_names, Value.int n0_plots, Value.ref h11, Value.ref h1, Value.ref h2, Value.ref h3, Value.ref h4, Value.int x.2.2.1])), (h1, Sum.inl (cAlong, 25, Sum.inr (Sum.inr (Sum.inr (Sum.inr (fun j => some (h5 j))))))), (h2, Sum.inl (cAlong, 5, Sum.inr (Sum.inr (Sum.inr (Sum.inr (fun j => some (h6 j))))))), (h3, Sum.inl (cint, 5, Sum.inl x.2.2.2.1)), (h4, Sum.inl (cint, 5, Sum.inl x.2.2.2.2))] : va_W) ++ (kk_rowsL h5 clong 40 F5 25 ++ (kk_rowsL h6 clong 5 x.2.1 5))) H ∧ va_D A (([(h0, Sum.inr (2, [Value.ref h7, Value.ref h8, Value.ref h9, Value.int n0_size, Value.ref h10, Value.int n0_names, Value.int n0_plots, Value.ref h11, Value.ref h1, Value.ref h2, Value.ref h3, Value.ref h4, Value.int x.2.2.1])), (h1, Sum.inl (cAlong, 25, Sum.inr (Sum.inr (Sum.inr (Sum.inr (fun j => some (h5 j))))))), (h2, Sum.inl (cAlong, 5, Sum.inr (Sum.inr (Sum.inr (Sum.inr (fun j => some (h6 j))))))), (h3, Sum.inl (cint, 5, Sum.inl x.2.2.2.1)), (h4, Sum.inl (cint, 5, Sum.inl x.2.2.2.2))] : va_W) ++ (kk_rowsL h5 clong 40 F5 25 ++ (kk_rowsL h6 clong 5 x.2.1 5))) ∧ va_S A s.heap H locs ∧ lv_has ls 3 [(2, .int x.1), (0, .ref h0), (1, .int 1)]) (fun x => ((40 : Int) - x.1.toInt).toNat) ?_ (0, F6, n0_ways, f3, f4) _ _ _ ⟨(by show 0 ≤ (0 : Int32).toInt ∧ (0 : Int32).toInt ≤ 40; first | decide | (constructor <;> (have := kk_sub2 (x := n0_names) (y := 1) (a := n0_names.toInt) (b := 1) rfl rfl (by omega) (by omega); omega))), hP, hD, hS, hl⟩
    rintro ⟨i_2_0, f_2_1, i_2_2, f_2_3, f_2_4⟩ H locs ls ⟨t_2_0, hP, hD, hS, hl⟩ ih_2
    have t_2_0 : (0 ≤ i_2_0.toInt ∧ i_2_0.toInt ≤ 40) := t_2_0
    have hl : lv_has ls 3 [(2, .int i_2_0), (0, .ref h0), (1, .int 1)] := hl
    have hP : va_P (dC, dI) vwCl (([(h0, Sum.inr (2, [Value.ref h7, Value.ref h8, Value.ref h9, Value.int n0_size, Value.ref h10, Value.int n0_names, Value.int n0_plots, Value.ref h11, Value.ref h1, Value.ref h2, Value.ref h3, Value.ref h4, Value.int i_2_2])), (h1, Sum.inl (cAlong, 25, Sum.inr (Sum.inr (Sum.inr (Sum.inr (fun j => some (h5 j))))))), (h2, Sum.inl (cAlong, 5, Sum.inr (Sum.inr (Sum.inr (Sum.inr (fun j => some (h6 j))))))), (h3, Sum.inl (cint, 5, Sum.inl f_2_3)), (h4, Sum.inl (cint, 5, Sum.inl f_2_4))] : va_W) ++ (kk_rowsL h5 clong 40 F5 25 ++ (kk_rowsL h6 clong 5 f_2_1 5))) H := hP
    have hD : va_D A (([(h0, Sum.inr (2, [Value.ref h7, Value.ref h8, Value.ref h9, Value.int n0_size, Value.ref h10, Value.int n0_names, Value.int n0_plots, Value.ref h11, Value.ref h1, Value.ref h2, Value.ref h3, Value.ref h4, Value.int i_2_2])), (h1, Sum.inl (cAlong, 25, Sum.inr (Sum.inr (Sum.inr (Sum.inr (fun j => some (h5 j))))))), (h2, Sum.inl (cAlong, 5, Sum.inr (Sum.inr (Sum.inr (Sum.inr (fun j => some (h6 j))))))), (h3, Sum.inl (cint, 5, Sum.inl f_2_3)), (h4, Sum.inl (cint, 5, Sum.inl f_2_4))] : va_W) ++ (kk_rowsL h5 clong 40 F5 25 ++ (kk_rowsL h6 clong 5 f_2_1 5))) := hD
    refine lv_iload_n hx hb dX2_search_18 rfl (lv_at hl 0 rfl) ?_
    refine lv_aload_n hx hb dX2_search_19 rfl (lv_at hl 1 rfl) ?_
    refine va_get (D := (dC, dI)) (ci := 2) (v := .int n0_plots) (C := RX2) (T := TX2) (N := 13) hx hb hts (fun _ h => List.mem_cons_of_mem _ (List.mem_append_right _ h)) hown hK hP 0 rfl rfl 6 (by decide) (hts (.fieldLink RX2 67 "KinkStreet$Deeds" "plots" "I") (List.mem_of_getElem? (i := 2) rfl)) (fun _ h9 => h9) rfl dX2_search_20 ?_
    refine lv_icmp_ge (tgt := 81) hx hb dX2_search_23 (by decide) (fun c_3 => ?_) (fun c_3 => ?_)
    · have t_3 : n0_plots.toInt ≤ i_2_0.toInt := kk_le c_3
      have hP9 := hP.part (cx := [(h0, Sum.inr (2, [Value.ref h7, Value.ref h8, Value.ref h9, Value.int n0_size, Value.ref h10, Value.int n0_names, Value.int n0_plots, Value.ref h11, Value.ref h1, Value.ref h2, Value.ref h3, Value.ref h4, Value.int i_2_2])), (h1, Sum.inl (cAlong, 25, Sum.inr (Sum.inr (Sum.inr (Sum.inr (fun j => some (h5 j))))))), (h2, Sum.inl (cAlong, 5, Sum.inr (Sum.inr (Sum.inr (Sum.inr (fun j => some (h6 j))))))), (h3, Sum.inl (cint, 5, Sum.inl f_2_3)), (h4, Sum.inl (cint, 5, Sum.inl f_2_4))]) [0, 1, 2, 3, 4] rfl
      have hD9 := hD.part (cx := [(h0, Sum.inr (2, [Value.ref h7, Value.ref h8, Value.ref h9, Value.int n0_size, Value.ref h10, Value.int n0_names, Value.int n0_plots, Value.ref h11, Value.ref h1, Value.ref h2, Value.ref h3, Value.ref h4, Value.int i_2_2])), (h1, Sum.inl (cAlong, 25, Sum.inr (Sum.inr (Sum.inr (Sum.inr (fun j => some (h5 j))))))), (h2, Sum.inl (cAlong, 5, Sum.inr (Sum.inr (Sum.inr (Sum.inr (fun j => some (h6 j))))))), (h3, Sum.inl (cint, 5, Sum.inl f_2_3)), (h4, Sum.inl (cint, 5, Sum.inl f_2_4))]) [0, 1, 2, 3, 4] (by decide) rfl
      have hK9 := hK.sub (tys' := []) [] rfl
      exact W.vret hx hb hr (fun t ht hW => ⟨⟨(), rfl, trivial, i_2_2, f_2_3, f_2_4, f_2_1, by rw [ht]; exact hP9, va_K.moved hW.alike hK9, hD9⟩, hS.F ht⟩) hS.2.2 dX2_search_81
    · have t_3 : i_2_0.toInt < n0_plots.toInt := kk_nle c_3
      refine lv_aload_n hx hb dX2_search_26 rfl (lv_at hl 1 rfl) ?_
      refine va_get (D := (dC, dI)) (ci := 2) (v := .int i_2_2) (C := RX2) (T := TX2) (N := 13) hx hb hts (fun _ h => List.mem_cons_of_mem _ (List.mem_append_right _ h)) hown hK hP 0 rfl rfl 12 (by decide) (hts (.fieldLink RX2 70 "KinkStreet$Deeds" "ways" "I") (List.mem_of_getElem? (i := 3) rfl)) (fun _ h9 => h9) rfl dX2_search_27 ?_
      refine lv_ldc hx hb hown (hts _ (List.mem_of_getElem? (i := 4) rfl)) dX2_search_30 ?_
      refine lv_icmp_ge (tgt := 81) hx hb dX2_search_32 (by decide) (fun c_4 => ?_) (fun c_4 => ?_)
      · have t_4 : 1000000 ≤ i_2_2.toInt := kk_le c_4
        have hP9 := hP.part (cx := [(h0, Sum.inr (2, [Value.ref h7, Value.ref h8, Value.ref h9, Value.int n0_size, Value.ref h10, Value.int n0_names, Value.int n0_plots, Value.ref h11, Value.ref h1, Value.ref h2, Value.ref h3, Value.ref h4, Value.int i_2_2])), (h1, Sum.inl (cAlong, 25, Sum.inr (Sum.inr (Sum.inr (Sum.inr (fun j => some (h5 j))))))), (h2, Sum.inl (cAlong, 5, Sum.inr (Sum.inr (Sum.inr (Sum.inr (fun j => some (h6 j))))))), (h3, Sum.inl (cint, 5, Sum.inl f_2_3)), (h4, Sum.inl (cint, 5, Sum.inl f_2_4))]) [0, 1, 2, 3, 4] rfl
        have hD9 := hD.part (cx := [(h0, Sum.inr (2, [Value.ref h7, Value.ref h8, Value.ref h9, Value.int n0_size, Value.ref h10, Value.int n0_names, Value.int n0_plots, Value.ref h11, Value.ref h1, Value.ref h2, Value.ref h3, Value.ref h4, Value.int i_2_2])), (h1, Sum.inl (cAlong, 25, Sum.inr (Sum.inr (Sum.inr (Sum.inr (fun j => some (h5 j))))))), (h2, Sum.inl (cAlong, 5, Sum.inr (Sum.inr (Sum.inr (Sum.inr (fun j => some (h6 j))))))), (h3, Sum.inl (cint, 5, Sum.inl f_2_3)), (h4, Sum.inl (cint, 5, Sum.inl f_2_4))]) [0, 1, 2, 3, 4] (by decide) rfl
        have hK9 := hK.sub (tys' := []) [] rfl
        exact W.vret hx hb hr (fun t ht hW => ⟨⟨(), rfl, trivial, i_2_2, f_2_3, f_2_4, f_2_1, by rw [ht]; exact hP9, va_K.moved hW.alike hK9, hD9⟩, hS.F ht⟩) hS.2.2 dX2_search_81
      · have t_4 : i_2_2.toInt < 1000000 := kk_nle c_4
        refine lv_aload_n hx hb dX2_search_35 rfl (lv_at hl 1 rfl) ?_
        refine va_get (D := (dC, dI)) (ci := 2) (v := .ref h2) (C := RX2) (T := TX2) (N := 13) hx hb hts (fun _ h => List.mem_cons_of_mem _ (List.mem_append_right _ h)) hown hK hP 0 rfl rfl 9 (by decide) (hts (.fieldLink RX2 32 "KinkStreet$Deeds" "open" "[[J") (List.mem_of_getElem? (i := 5) rfl)) (fun _ h9 => h9) rfl dX2_search_36 ?_
        refine lv_iload_n hx hb dX2_search_39 rfl (lv_at hl 2 rfl) ?_
        have hi_5 : vp_in (1 : Int32) 5 := (by unfold vp_in; decide)
        have hk_5 : (1 : Int32).toNatClampNeg < 5 := Nat.not_le.mp fun q => hi_5 (Or.inr q)
        refine kk_aald hx hb hK hP 2 0 rfl rfl hi_5 dX2_search_40 ?_
        refine W.eq (g2 := F0 m 41 ls [.ref (h6 (1 : Int32).toNatClampNeg)]) rfl ?_
        refine lv_iload_n hx hb dX2_search_41 rfl (lv_at hl 2 rfl) ?_
        refine va_lald hx hb hK hP _ 2 (kk_getr (kk_getr (kk_rowL hk_5))) rfl (by unfold vp_in; decide) dX2_search_42 ?_
        refine lv_topl (fun y_6 e_6 => ?_)
        clear e_6
        refine lv_iload_n hx hb dX2_search_43 rfl (lv_at hl 0 rfl) ?_
        refine lv_lushr hx hb dX2_search_44 rfl ?_
        refine lv_topl (fun y_7 e_7 => ?_)
        clear e_7
        refine lv_lconst (v := 1) hx hb dX2_search_45 (by decide) ?_
        refine lv_land hx hb dX2_search_46 ?_
        refine lv_topl (fun y_8 e_8 => ?_)
        clear e_8
        refine lv_lconst (v := 0) hx hb dX2_search_47 (by decide) ?_
        refine W.lcmp hx hb dX2_search_48 ?_
        refine lv_if_eq (tgt := 75) hx hb dX2_search_49 (by decide) (fun _ => ?_) (fun _ => ?_)
        · skip
          refine lv_iinc (v := (i_2_0 + 1)) (lv' := [(2, .int (i_2_0 + 1)), (0, .ref h0), (1, .int 1)]) hx hb dX2_search_75 hl (k := 0) rfl (by first | rfl | decide) (by decide) rfl (fun ls hl => ?_)
          refine lv_goto (tgt := 18) hx hb dX2_search_78 (by decide) ?_
          exact ih_2 ((i_2_0 + 1), f_2_1, i_2_2, f_2_3, f_2_4) _ _ _ (by show ((40 : Int) - ((i_2_0 + 1)).toInt).toNat < ((40 : Int) - i_2_0.toInt).toNat; have := kk_rng i_2_2; have := kk_sub2 (x := n0_names) (y := 1) (a := n0_names.toInt) (b := 1) rfl rfl (by omega) (by omega); have := kk_add2 (x := i_2_0) (y := 1) (a := i_2_0.toInt) (b := 1) rfl rfl (by omega) (by omega); exact kk_mu (by omega) (by omega)) ⟨(by show 0 ≤ ((i_2_0 + 1) : Int32).toInt ∧ ((i_2_0 + 1) : Int32).toInt ≤ 40; first | decide | (constructor <;> (have := kk_rng i_2_2; have := kk_sub2 (x := n0_names) (y := 1) (a := n0_names.toInt) (b := 1) rfl rfl (by omega) (by omega); have := kk_add2 (x := i_2_0) (y := 1) (a := i_2_0.toInt) (b := 1) rfl rfl (by omega) (by omega); omega))), hP, hD, hS, lv_sub hl [0, 1, 2] rfl⟩
        · skip
          refine lv_aload_n hx hb dX2_search_52 rfl (lv_at hl 1 rfl) ?_
          refine lv_iload_n hx hb dX2_search_53 rfl (lv_at hl 2 rfl) ?_
          refine lv_iload_n hx hb dX2_search_54 rfl (lv_at hl 0 rfl) ?_
          have hPc := hP.part (cx := [(h0, Sum.inr (2, [Value.ref h7, Value.ref h8, Value.ref h9, Value.int n0_size, Value.ref h10, Value.int n0_names, Value.int n0_plots, Value.ref h11, Value.ref h1, Value.ref h2, Value.ref h3, Value.ref h4, Value.int i_2_2])), (h1, Sum.inl (cAlong, 25, Sum.inr (Sum.inr (Sum.inr (Sum.inr (fun j => some (h5 j))))))), (h2, Sum.inl (cAlong, 5, Sum.inr (Sum.inr (Sum.inr (Sum.inr (fun j => some (h6 j)))))))]) [0, 1, 2] rfl
          have hDc := hD.part (cx := [(h0, Sum.inr (2, [Value.ref h7, Value.ref h8, Value.ref h9, Value.int n0_size, Value.ref h10, Value.int n0_names, Value.int n0_plots, Value.ref h11, Value.ref h1, Value.ref h2, Value.ref h3, Value.ref h4, Value.int i_2_2])), (h1, Sum.inl (cAlong, 25, Sum.inr (Sum.inr (Sum.inr (Sum.inr (fun j => some (h5 j))))))), (h2, Sum.inl (cAlong, 5, Sum.inr (Sum.inr (Sum.inr (Sum.inr (fun j => some (h6 j)))))))]) [0, 1, 2] (by decide) rfl
          have hFc := va_freeP (cx := [(h0, Sum.inr (2, [Value.ref h7, Value.ref h8, Value.ref h9, Value.int n0_size, Value.ref h10, Value.int n0_names, Value.int n0_plots, Value.ref h11, Value.ref h1, Value.ref h2, Value.ref h3, Value.ref h4, Value.int i_2_2])), (h1, Sum.inl (cAlong, 25, Sum.inr (Sum.inr (Sum.inr (Sum.inr (fun j => some (h5 j))))))), (h2, Sum.inl (cAlong, 5, Sum.inr (Sum.inr (Sum.inr (Sum.inr (fun j => some (h6 j)))))))]) hD hS hA [0, 1, 2] rfl
          have hKc := hK.sub (tys' := [(cAlong, .array .long), (clong, .long)]) [0, 2] rfl
          refine va_calli (va_runV (As := [.int 1, .int i_2_0]) (rest := []) ⟨hx, hb, hml, hown, hts⟩ (g_X2_narrow_1 l dC dI h0 h1 h2 h5 h6 h7 h8 h9 h10 h11 h3 h4 cAlong clong H.size i_2_0 (by show 0 ≤ (i_2_0 : Int32).toInt ∧ (i_2_0 : Int32).toInt ≤ 39; first | decide | (constructor <;> (have := kk_rng i_2_2; have := kk_sub2 (x := n0_names) (y := 1) (a := n0_names.toInt) (b := 1) rfl rfl (by omega) (by omega); omega))) n0_size n0_names n0_plots i_2_2 F5 f_2_1 tn0_size tn0_names tn0_plots) (cwV 2 hts gX2_search_X2_narrow rfl rfl rfl (by decide +kernel) ⟨Nat.le_of_ble_eq_true rfl, Nat.le_of_ble_eq_true rfl⟩) ⟨fun a U g mk q => by obtain ⟨q0, q1, qP, qK, qD⟩ := q; exact ⟨q0, q1, qP, va_K.moved (u := U) (U := U.calling g mk a) (Vm.Alike.refl U.vm) qK, qD⟩, va_recv hKc hPc (ci := 2) (q0 := 0) rfl rfl, fun U hU hW => ⟨rfl, by rw [hU], by rw [hU]; exact hPc, va_K.moved hW.alike hKc, hDc.weaken (fun _ _ _ _ => trivial)⟩⟩ rfl rfl hl.1 rfl (lv_room (Nat.le_of_ble_eq_true rfl)) dX2_search_55 ⟨Nat.le_of_ble_eq_true rfl, Nat.le_of_ble_eq_true rfl⟩) hS (fun q _ h => hFc q h) hFc (fun r_9 u t H1 locs ht hvm hw hB hz1 hk1 hS => ?_)
          obtain ⟨f_10, hP1, hK1, hD1⟩ := hB
          rw [ht] at hP1
          have hK1 := va_K.moved hvm.symm hK1
          obtain ⟨hP, hD⟩ := va_joinP (cx := [(h0, Sum.inr (2, [Value.ref h7, Value.ref h8, Value.ref h9, Value.int n0_size, Value.ref h10, Value.int n0_names, Value.int n0_plots, Value.ref h11, Value.ref h1, Value.ref h2, Value.ref h3, Value.ref h4, Value.int i_2_2])), (h1, Sum.inl (cAlong, 25, Sum.inr (Sum.inr (Sum.inr (Sum.inr (fun j => some (h5 j))))))), (h2, Sum.inl (cAlong, 5, Sum.inr (Sum.inr (Sum.inr (Sum.inr (fun j => some (h6 j)))))))]) (wr := [(h3, Sum.inl (cint, 5, Sum.inl f_2_3)), (h4, Sum.inl (cint, 5, Sum.inl f_2_4))]) (rx := [(h0, Sum.inr (2, [Value.ref h7, Value.ref h8, Value.ref h9, Value.int n0_size, Value.ref h10, Value.int n0_names, Value.int n0_plots, Value.ref h11, Value.ref h1, Value.ref h2, Value.ref h3, Value.ref h4, Value.int i_2_2])), (h1, Sum.inl (cAlong, 25, Sum.inr (Sum.inr (Sum.inr (Sum.inr (fun j => some (h5 j))))))), (h2, Sum.inl (cAlong, 5, Sum.inr (Sum.inr (Sum.inr (Sum.inr (fun j => some (h6 j)))))))]) hP hD [0, 1, 2] [3, 4] rfl rfl (by decide) (by decide) hk1 hFc hP1 hD1
          generalize H1 = H at hP hS ⊢
          have hP : va_P (dC, dI) vwCl (([(h3, Sum.inl (cint, 5, Sum.inl f_2_3)), (h4, Sum.inl (cint, 5, Sum.inl f_2_4)), (h0, Sum.inr (2, [Value.ref h7, Value.ref h8, Value.ref h9, Value.int n0_size, Value.ref h10, Value.int n0_names, Value.int n0_plots, Value.ref h11, Value.ref h1, Value.ref h2, Value.ref h3, Value.ref h4, Value.int i_2_2])), (h1, Sum.inl (cAlong, 25, Sum.inr (Sum.inr (Sum.inr (Sum.inr (fun j => some (h5 j))))))), (h2, Sum.inl (cAlong, 5, Sum.inr (Sum.inr (Sum.inr (Sum.inr (fun j => some (h6 j)))))))] : va_W) ++ (kk_rowsL h5 clong 40 F5 25 ++ (kk_rowsL h6 clong 5 f_10 5))) H := hP
          have hD : va_D A (([(h3, Sum.inl (cint, 5, Sum.inl f_2_3)), (h4, Sum.inl (cint, 5, Sum.inl f_2_4)), (h0, Sum.inr (2, [Value.ref h7, Value.ref h8, Value.ref h9, Value.int n0_size, Value.ref h10, Value.int n0_names, Value.int n0_plots, Value.ref h11, Value.ref h1, Value.ref h2, Value.ref h3, Value.ref h4, Value.int i_2_2])), (h1, Sum.inl (cAlong, 25, Sum.inr (Sum.inr (Sum.inr (Sum.inr (fun j => some (h5 j))))))), (h2, Sum.inl (cAlong, 5, Sum.inr (Sum.inr (Sum.inr (Sum.inr (fun j => some (h6 j)))))))] : va_W) ++ (kk_rowsL h5 clong 40 F5 25 ++ (kk_rowsL h6 clong 5 f_10 5))) := hD
          rcases hw with ⟨t_9_0, rfl⟩ | ⟨rfl⟩
          · skip
            have t_9_0 : (3 : Int) ≤ n0_names.toInt := t_9_0
            refine lv_if_eq (tgt := 75) hx hb dX2_search_58 (by decide) (fun _ => ?_) (fun c => absurd c (by decide))
            refine lv_iinc (v := (i_2_0 + 1)) (lv' := [(2, .int (i_2_0 + 1)), (0, .ref h0), (1, .int 1)]) hx hb dX2_search_75 hl (k := 0) rfl (by first | rfl | decide) (by decide) rfl (fun ls hl => ?_)
            refine lv_goto (tgt := 18) hx hb dX2_search_78 (by decide) ?_
            exact ih_2 ((i_2_0 + 1), f_10, i_2_2, f_2_3, f_2_4) _ _ _ (by show ((40 : Int) - ((i_2_0 + 1)).toInt).toNat < ((40 : Int) - i_2_0.toInt).toNat; have := kk_rng i_2_2; have := kk_sub2 (x := n0_names) (y := 1) (a := n0_names.toInt) (b := 1) rfl rfl (by omega) (by omega); have := kk_add2 (x := i_2_0) (y := 1) (a := i_2_0.toInt) (b := 1) rfl rfl (by omega) (by omega); exact kk_mu (by omega) (by omega)) ⟨(by show 0 ≤ ((i_2_0 + 1) : Int32).toInt ∧ ((i_2_0 + 1) : Int32).toInt ≤ 40; first | decide | (constructor <;> (have := kk_rng i_2_2; have := kk_sub2 (x := n0_names) (y := 1) (a := n0_names.toInt) (b := 1) rfl rfl (by omega) (by omega); have := kk_add2 (x := i_2_0) (y := 1) (a := i_2_0.toInt) (b := 1) rfl rfl (by omega) (by omega); omega))), hP.part (cx := [(h0, Sum.inr (2, [Value.ref h7, Value.ref h8, Value.ref h9, Value.int n0_size, Value.ref h10, Value.int n0_names, Value.int n0_plots, Value.ref h11, Value.ref h1, Value.ref h2, Value.ref h3, Value.ref h4, Value.int i_2_2])), (h1, Sum.inl (cAlong, 25, Sum.inr (Sum.inr (Sum.inr (Sum.inr (fun j => some (h5 j))))))), (h2, Sum.inl (cAlong, 5, Sum.inr (Sum.inr (Sum.inr (Sum.inr (fun j => some (h6 j))))))), (h3, Sum.inl (cint, 5, Sum.inl f_2_3)), (h4, Sum.inl (cint, 5, Sum.inl f_2_4))]) [2, 3, 4, 0, 1] rfl, hD.part (cx := [(h0, Sum.inr (2, [Value.ref h7, Value.ref h8, Value.ref h9, Value.int n0_size, Value.ref h10, Value.int n0_names, Value.int n0_plots, Value.ref h11, Value.ref h1, Value.ref h2, Value.ref h3, Value.ref h4, Value.int i_2_2])), (h1, Sum.inl (cAlong, 25, Sum.inr (Sum.inr (Sum.inr (Sum.inr (fun j => some (h5 j))))))), (h2, Sum.inl (cAlong, 5, Sum.inr (Sum.inr (Sum.inr (Sum.inr (fun j => some (h6 j))))))), (h3, Sum.inl (cint, 5, Sum.inl f_2_3)), (h4, Sum.inl (cint, 5, Sum.inl f_2_4))]) [2, 3, 4, 0, 1] (by decide) rfl, hS, lv_sub hl [0, 1, 2] rfl⟩
          · skip
            refine lv_if_eq (tgt := 75) hx hb dX2_search_58 (by decide) (fun c => absurd c (by decide)) (fun _ => ?_)
            refine lv_aload_n hx hb dX2_search_61 rfl (lv_at hl 1 rfl) ?_
            refine va_get (D := (dC, dI)) (ci := 2) (v := .ref h3) (C := RX2) (T := TX2) (N := 13) hx hb hts (fun _ h => List.mem_cons_of_mem _ (List.mem_append_right _ h)) hown hK hP 2 rfl rfl 10 (by decide) (hts (.fieldLink RX2 35 "KinkStreet$Deeds" "tried" "[I") (List.mem_of_getElem? (i := 6) rfl)) (fun _ h9 => h9) rfl dX2_search_62 ?_
            refine lv_iload_n hx hb dX2_search_65 rfl (lv_at hl 2 rfl) ?_
            refine lv_iload_n hx hb dX2_search_66 rfl (lv_at hl 0 rfl) ?_
            refine va_iast hx hb hK hP hD hS 0 1 rfl rfl (by unfold vp_in; decide) dX2_search_67 (fun H locs hP hD hS => ?_)
            generalize upd f_2_3 (1 : Int32).toNatClampNeg i_2_0 = f_11 at hP hD
            have hP : va_P (dC, dI) vwCl (([(h3, Sum.inl (cint, 5, Sum.inl f_11)), (h4, Sum.inl (cint, 5, Sum.inl f_2_4)), (h0, Sum.inr (2, [Value.ref h7, Value.ref h8, Value.ref h9, Value.int n0_size, Value.ref h10, Value.int n0_names, Value.int n0_plots, Value.ref h11, Value.ref h1, Value.ref h2, Value.ref h3, Value.ref h4, Value.int i_2_2])), (h1, Sum.inl (cAlong, 25, Sum.inr (Sum.inr (Sum.inr (Sum.inr (fun j => some (h5 j))))))), (h2, Sum.inl (cAlong, 5, Sum.inr (Sum.inr (Sum.inr (Sum.inr (fun j => some (h6 j)))))))] : va_W) ++ (kk_rowsL h5 clong 40 F5 25 ++ (kk_rowsL h6 clong 5 f_10 5))) H := hP
            have hD : va_D A (([(h3, Sum.inl (cint, 5, Sum.inl f_11)), (h4, Sum.inl (cint, 5, Sum.inl f_2_4)), (h0, Sum.inr (2, [Value.ref h7, Value.ref h8, Value.ref h9, Value.int n0_size, Value.ref h10, Value.int n0_names, Value.int n0_plots, Value.ref h11, Value.ref h1, Value.ref h2, Value.ref h3, Value.ref h4, Value.int i_2_2])), (h1, Sum.inl (cAlong, 25, Sum.inr (Sum.inr (Sum.inr (Sum.inr (fun j => some (h5 j))))))), (h2, Sum.inl (cAlong, 5, Sum.inr (Sum.inr (Sum.inr (Sum.inr (fun j => some (h6 j)))))))] : va_W) ++ (kk_rowsL h5 clong 40 F5 25 ++ (kk_rowsL h6 clong 5 f_10 5))) := hD
            refine lv_aload_n hx hb dX2_search_68 rfl (lv_at hl 1 rfl) ?_
            refine lv_iload_n hx hb dX2_search_69 rfl (lv_at hl 2 rfl) ?_
            refine lv_iconst (v := 1) hx hb dX2_search_70 (by decide) ?_
            refine lv_iadd hx hb dX2_search_71 ?_
            refine lv_topi (fun y_12 e_12 => ?_)
            obtain rfl : y_12 = 2 := e_12.trans (by decide)
            have hPc := hP.part (cx := [(h0, Sum.inr (2, [Value.ref h7, Value.ref h8, Value.ref h9, Value.int n0_size, Value.ref h10, Value.int n0_names, Value.int n0_plots, Value.ref h11, Value.ref h1, Value.ref h2, Value.ref h3, Value.ref h4, Value.int i_2_2])), (h1, Sum.inl (cAlong, 25, Sum.inr (Sum.inr (Sum.inr (Sum.inr (fun j => some (h5 j))))))), (h2, Sum.inl (cAlong, 5, Sum.inr (Sum.inr (Sum.inr (Sum.inr (fun j => some (h6 j))))))), (h3, Sum.inl (cint, 5, Sum.inl f_11)), (h4, Sum.inl (cint, 5, Sum.inl f_2_4))]) [2, 3, 4, 0, 1] rfl
            have hDc := hD.part (cx := [(h0, Sum.inr (2, [Value.ref h7, Value.ref h8, Value.ref h9, Value.int n0_size, Value.ref h10, Value.int n0_names, Value.int n0_plots, Value.ref h11, Value.ref h1, Value.ref h2, Value.ref h3, Value.ref h4, Value.int i_2_2])), (h1, Sum.inl (cAlong, 25, Sum.inr (Sum.inr (Sum.inr (Sum.inr (fun j => some (h5 j))))))), (h2, Sum.inl (cAlong, 5, Sum.inr (Sum.inr (Sum.inr (Sum.inr (fun j => some (h6 j))))))), (h3, Sum.inl (cint, 5, Sum.inl f_11)), (h4, Sum.inl (cint, 5, Sum.inl f_2_4))]) [2, 3, 4, 0, 1] (by decide) rfl
            have hFc := va_freeP (cx := [(h0, Sum.inr (2, [Value.ref h7, Value.ref h8, Value.ref h9, Value.int n0_size, Value.ref h10, Value.int n0_names, Value.int n0_plots, Value.ref h11, Value.ref h1, Value.ref h2, Value.ref h3, Value.ref h4, Value.int i_2_2])), (h1, Sum.inl (cAlong, 25, Sum.inr (Sum.inr (Sum.inr (Sum.inr (fun j => some (h5 j))))))), (h2, Sum.inl (cAlong, 5, Sum.inr (Sum.inr (Sum.inr (Sum.inr (fun j => some (h6 j))))))), (h3, Sum.inl (cint, 5, Sum.inl f_11)), (h4, Sum.inl (cint, 5, Sum.inl f_2_4))]) hD hS hA [2, 3, 4, 0, 1] rfl
            have hKc := hK.sub (tys' := [(cAlong, .array .long), (cint, .int), (clong, .long)]) [0, 1, 2] rfl
            refine va_callv (va_runV (As := [.int 2]) (rest := []) ⟨hx, hb, hml, hown, hts⟩ (g_X2_search_2 l dC dI h0 h1 h2 h3 h4 h5 h6 h7 h8 h9 h10 h11 cAlong cint clong H.size n0_size n0_names n0_plots i_2_2 f_11 f_2_4 F5 f_10 tn0_size tn0_names tn0_plots) (cwV 1 hts gX2_search_X2_search rfl rfl rfl (by decide +kernel) ⟨Nat.le_of_ble_eq_true rfl, Nat.le_of_ble_eq_true rfl⟩) ⟨fun a U g mk q => by obtain ⟨q0, q1, qP, qK, qD⟩ := q; exact ⟨q0, q1, qP, va_K.moved (u := U) (U := U.calling g mk a) (Vm.Alike.refl U.vm) qK, qD⟩, va_recv hKc hPc (ci := 2) (q0 := 0) rfl rfl, fun U hU hW => ⟨rfl, by rw [hU], by rw [hU]; exact hPc, va_K.moved hW.alike hKc, hDc.weaken (fun _ _ _ _ => trivial)⟩⟩ rfl rfl hl.1 rfl (lv_room (Nat.le_of_ble_eq_true rfl)) dX2_search_72 ⟨Nat.le_of_ble_eq_true rfl, Nat.le_of_ble_eq_true rfl⟩) hS (fun q _ h => hFc q h) hFc (fun u t H1 locs ht hvm hw hB hz1 hk1 hS => ?_)
            obtain ⟨y_14, f_15, f_16, f_17, hP1, hK1, hD1⟩ := hB
            rw [ht] at hP1
            have hK1 := va_K.moved hvm.symm hK1
            obtain ⟨hP, hD⟩ := va_joinP (cx := [(h0, Sum.inr (2, [Value.ref h7, Value.ref h8, Value.ref h9, Value.int n0_size, Value.ref h10, Value.int n0_names, Value.int n0_plots, Value.ref h11, Value.ref h1, Value.ref h2, Value.ref h3, Value.ref h4, Value.int i_2_2])), (h1, Sum.inl (cAlong, 25, Sum.inr (Sum.inr (Sum.inr (Sum.inr (fun j => some (h5 j))))))), (h2, Sum.inl (cAlong, 5, Sum.inr (Sum.inr (Sum.inr (Sum.inr (fun j => some (h6 j))))))), (h3, Sum.inl (cint, 5, Sum.inl f_11)), (h4, Sum.inl (cint, 5, Sum.inl f_2_4))]) (wr := []) (rx := [(h0, Sum.inr (2, [Value.ref h7, Value.ref h8, Value.ref h9, Value.int n0_size, Value.ref h10, Value.int n0_names, Value.int n0_plots, Value.ref h11, Value.ref h1, Value.ref h2, Value.ref h3, Value.ref h4, Value.int y_14])), (h1, Sum.inl (cAlong, 25, Sum.inr (Sum.inr (Sum.inr (Sum.inr (fun j => some (h5 j))))))), (h2, Sum.inl (cAlong, 5, Sum.inr (Sum.inr (Sum.inr (Sum.inr (fun j => some (h6 j))))))), (h3, Sum.inl (cint, 5, Sum.inl f_15)), (h4, Sum.inl (cint, 5, Sum.inl f_16))]) hP hD [2, 3, 4, 0, 1] [] rfl rfl (by decide) (by decide) hk1 hFc hP1 hD1
            generalize H1 = H at hP hS ⊢
            have hP : va_P (dC, dI) vwCl (([(h0, Sum.inr (2, [Value.ref h7, Value.ref h8, Value.ref h9, Value.int n0_size, Value.ref h10, Value.int n0_names, Value.int n0_plots, Value.ref h11, Value.ref h1, Value.ref h2, Value.ref h3, Value.ref h4, Value.int y_14])), (h1, Sum.inl (cAlong, 25, Sum.inr (Sum.inr (Sum.inr (Sum.inr (fun j => some (h5 j))))))), (h2, Sum.inl (cAlong, 5, Sum.inr (Sum.inr (Sum.inr (Sum.inr (fun j => some (h6 j))))))), (h3, Sum.inl (cint, 5, Sum.inl f_15)), (h4, Sum.inl (cint, 5, Sum.inl f_16))] : va_W) ++ (kk_rowsL h5 clong 40 F5 25 ++ (kk_rowsL h6 clong 5 f_17 5))) H := hP
            have hD : va_D A (([(h0, Sum.inr (2, [Value.ref h7, Value.ref h8, Value.ref h9, Value.int n0_size, Value.ref h10, Value.int n0_names, Value.int n0_plots, Value.ref h11, Value.ref h1, Value.ref h2, Value.ref h3, Value.ref h4, Value.int y_14])), (h1, Sum.inl (cAlong, 25, Sum.inr (Sum.inr (Sum.inr (Sum.inr (fun j => some (h5 j))))))), (h2, Sum.inl (cAlong, 5, Sum.inr (Sum.inr (Sum.inr (Sum.inr (fun j => some (h6 j))))))), (h3, Sum.inl (cint, 5, Sum.inl f_15)), (h4, Sum.inl (cint, 5, Sum.inl f_16))] : va_W) ++ (kk_rowsL h5 clong 40 F5 25 ++ (kk_rowsL h6 clong 5 f_17 5))) := hD
            refine lv_iinc (v := (i_2_0 + 1)) (lv' := [(2, .int (i_2_0 + 1)), (0, .ref h0), (1, .int 1)]) hx hb dX2_search_75 hl (k := 0) rfl (by first | rfl | decide) (by decide) rfl (fun ls hl => ?_)
            refine lv_goto (tgt := 18) hx hb dX2_search_78 (by decide) ?_
            exact ih_2 ((i_2_0 + 1), f_17, y_14, f_15, f_16) _ _ _ (by show ((40 : Int) - ((i_2_0 + 1)).toInt).toNat < ((40 : Int) - i_2_0.toInt).toNat; have := kk_rng i_2_2; have := kk_sub2 (x := n0_names) (y := 1) (a := n0_names.toInt) (b := 1) rfl rfl (by omega) (by omega); have := kk_add2 (x := i_2_0) (y := 1) (a := i_2_0.toInt) (b := 1) rfl rfl (by omega) (by omega); exact kk_mu (by omega) (by omega)) ⟨(by show 0 ≤ ((i_2_0 + 1) : Int32).toInt ∧ ((i_2_0 + 1) : Int32).toInt ≤ 40; first | decide | (constructor <;> (have := kk_rng i_2_2; have := kk_sub2 (x := n0_names) (y := 1) (a := n0_names.toInt) (b := 1) rfl rfl (by omega) (by omega); have := kk_add2 (x := i_2_0) (y := 1) (a := i_2_0.toInt) (b := 1) rfl rfl (by omega) (by omega); omega))), hP, hD, hS, lv_sub hl [0, 1, 2] rfl⟩
  · have t_1 : (n0_names - 1).toInt ≤ 1 := kk_nlt c_1
    refine lv_aload_n hx hb dX2_search_10 rfl (lv_at hl 0 rfl) ?_
    refine lv_iload_n hx hb dX2_search_11 rfl (lv_at hl 1 rfl) ?_
    have hPc := hP.part (cx := [(h0, Sum.inr (2, [Value.ref h7, Value.ref h8, Value.ref h9, Value.int n0_size, Value.ref h10, Value.int n0_names, Value.int n0_plots, Value.ref h11, Value.ref h1, Value.ref h2, Value.ref h3, Value.ref h4, Value.int n0_ways])), (h1, Sum.inl (cAlong, 25, Sum.inr (Sum.inr (Sum.inr (Sum.inr (fun j => some (h5 j))))))), (h2, Sum.inl (cAlong, 5, Sum.inr (Sum.inr (Sum.inr (Sum.inr (fun j => some (h6 j))))))), (h3, Sum.inl (cint, 5, Sum.inl f3)), (h4, Sum.inl (cint, 5, Sum.inl f4))]) [0, 1, 2, 3, 4] rfl
    have hDc := hD.part (cx := [(h0, Sum.inr (2, [Value.ref h7, Value.ref h8, Value.ref h9, Value.int n0_size, Value.ref h10, Value.int n0_names, Value.int n0_plots, Value.ref h11, Value.ref h1, Value.ref h2, Value.ref h3, Value.ref h4, Value.int n0_ways])), (h1, Sum.inl (cAlong, 25, Sum.inr (Sum.inr (Sum.inr (Sum.inr (fun j => some (h5 j))))))), (h2, Sum.inl (cAlong, 5, Sum.inr (Sum.inr (Sum.inr (Sum.inr (fun j => some (h6 j))))))), (h3, Sum.inl (cint, 5, Sum.inl f3)), (h4, Sum.inl (cint, 5, Sum.inl f4))]) [0, 1, 2, 3, 4] (by decide) rfl
    have hFc := va_freeP (cx := [(h0, Sum.inr (2, [Value.ref h7, Value.ref h8, Value.ref h9, Value.int n0_size, Value.ref h10, Value.int n0_names, Value.int n0_plots, Value.ref h11, Value.ref h1, Value.ref h2, Value.ref h3, Value.ref h4, Value.int n0_ways])), (h1, Sum.inl (cAlong, 25, Sum.inr (Sum.inr (Sum.inr (Sum.inr (fun j => some (h5 j))))))), (h2, Sum.inl (cAlong, 5, Sum.inr (Sum.inr (Sum.inr (Sum.inr (fun j => some (h6 j))))))), (h3, Sum.inl (cint, 5, Sum.inl f3)), (h4, Sum.inl (cint, 5, Sum.inl f4))]) hD hS hA [0, 1, 2, 3, 4] rfl
    have hKc := hK.sub (tys' := [(cAlong, .array .long), (cint, .int), (clong, .long)]) [0, 1, 2] rfl
    refine va_callv (va_runV (As := [.int 1]) (rest := []) ⟨hx, hb, hml, hown, hts⟩ (g_X2_countWays_3 l dC dI h0 h1 h2 h3 h4 h5 h6 h7 h8 h9 h10 h11 cAlong cint clong s.heap.size n0_size n0_names n0_plots n0_ways f3 f4 F5 F6 tn0_size tn0_names tn0_plots) (cwV 1 hts gX2_search_X2_countWays rfl rfl rfl (by decide +kernel) ⟨Nat.le_of_ble_eq_true rfl, Nat.le_of_ble_eq_true rfl⟩) ⟨fun a U g mk q => by obtain ⟨q0, q1, qP, qK, qD⟩ := q; exact ⟨q0, q1, qP, va_K.moved (u := U) (U := U.calling g mk a) (Vm.Alike.refl U.vm) qK, qD⟩, va_recv hKc hPc (ci := 2) (q0 := 0) rfl rfl, fun U hU hW => ⟨rfl, by rw [hU], by rw [hU]; exact hPc, va_K.moved hW.alike hKc, hDc.weaken (fun _ _ _ _ => trivial)⟩⟩ rfl rfl hl.1 rfl (lv_room (Nat.le_of_ble_eq_true rfl)) dX2_search_12 ⟨Nat.le_of_ble_eq_true rfl, Nat.le_of_ble_eq_true rfl⟩) hS (fun q _ h => hFc q h) hFc (fun u t H1 locs ht hvm hw hB hz1 hk1 hS => ?_)
    obtain ⟨y_19, f_20, f_21, hP1, hK1, hD1⟩ := hB
    rw [ht] at hP1
    have hK1 := va_K.moved hvm.symm hK1
    obtain ⟨hP, hD⟩ := va_joinP (cx := [(h0, Sum.inr (2, [Value.ref h7, Value.ref h8, Value.ref h9, Value.int n0_size, Value.ref h10, Value.int n0_names, Value.int n0_plots, Value.ref h11, Value.ref h1, Value.ref h2, Value.ref h3, Value.ref h4, Value.int n0_ways])), (h1, Sum.inl (cAlong, 25, Sum.inr (Sum.inr (Sum.inr (Sum.inr (fun j => some (h5 j))))))), (h2, Sum.inl (cAlong, 5, Sum.inr (Sum.inr (Sum.inr (Sum.inr (fun j => some (h6 j))))))), (h3, Sum.inl (cint, 5, Sum.inl f3)), (h4, Sum.inl (cint, 5, Sum.inl f4))]) (wr := []) (rx := [(h0, Sum.inr (2, [Value.ref h7, Value.ref h8, Value.ref h9, Value.int n0_size, Value.ref h10, Value.int n0_names, Value.int n0_plots, Value.ref h11, Value.ref h1, Value.ref h2, Value.ref h3, Value.ref h4, Value.int y_19])), (h1, Sum.inl (cAlong, 25, Sum.inr (Sum.inr (Sum.inr (Sum.inr (fun j => some (h5 j))))))), (h2, Sum.inl (cAlong, 5, Sum.inr (Sum.inr (Sum.inr (Sum.inr (fun j => some (h6 j))))))), (h3, Sum.inl (cint, 5, Sum.inl f_20)), (h4, Sum.inl (cint, 5, Sum.inl f_21))]) hP hD [0, 1, 2, 3, 4] [] rfl rfl (by decide) (by decide) hk1 hFc hP1 hD1
    generalize H1 = H at hP hS ⊢
    have hP : va_P (dC, dI) vwCl (([(h0, Sum.inr (2, [Value.ref h7, Value.ref h8, Value.ref h9, Value.int n0_size, Value.ref h10, Value.int n0_names, Value.int n0_plots, Value.ref h11, Value.ref h1, Value.ref h2, Value.ref h3, Value.ref h4, Value.int y_19])), (h1, Sum.inl (cAlong, 25, Sum.inr (Sum.inr (Sum.inr (Sum.inr (fun j => some (h5 j))))))), (h2, Sum.inl (cAlong, 5, Sum.inr (Sum.inr (Sum.inr (Sum.inr (fun j => some (h6 j))))))), (h3, Sum.inl (cint, 5, Sum.inl f_20)), (h4, Sum.inl (cint, 5, Sum.inl f_21))] : va_W) ++ (kk_rowsL h5 clong 40 F5 25 ++ (kk_rowsL h6 clong 5 F6 5))) H := hP
    have hD : va_D A (([(h0, Sum.inr (2, [Value.ref h7, Value.ref h8, Value.ref h9, Value.int n0_size, Value.ref h10, Value.int n0_names, Value.int n0_plots, Value.ref h11, Value.ref h1, Value.ref h2, Value.ref h3, Value.ref h4, Value.int y_19])), (h1, Sum.inl (cAlong, 25, Sum.inr (Sum.inr (Sum.inr (Sum.inr (fun j => some (h5 j))))))), (h2, Sum.inl (cAlong, 5, Sum.inr (Sum.inr (Sum.inr (Sum.inr (fun j => some (h6 j))))))), (h3, Sum.inl (cint, 5, Sum.inl f_20)), (h4, Sum.inl (cint, 5, Sum.inl f_21))] : va_W) ++ (kk_rowsL h5 clong 40 F5 25 ++ (kk_rowsL h6 clong 5 F6 5))) := hD
    have hP9 := hP.part (cx := [(h0, Sum.inr (2, [Value.ref h7, Value.ref h8, Value.ref h9, Value.int n0_size, Value.ref h10, Value.int n0_names, Value.int n0_plots, Value.ref h11, Value.ref h1, Value.ref h2, Value.ref h3, Value.ref h4, Value.int y_19])), (h1, Sum.inl (cAlong, 25, Sum.inr (Sum.inr (Sum.inr (Sum.inr (fun j => some (h5 j))))))), (h2, Sum.inl (cAlong, 5, Sum.inr (Sum.inr (Sum.inr (Sum.inr (fun j => some (h6 j))))))), (h3, Sum.inl (cint, 5, Sum.inl f_20)), (h4, Sum.inl (cint, 5, Sum.inl f_21))]) [0, 1, 2, 3, 4] rfl
    have hD9 := hD.part (cx := [(h0, Sum.inr (2, [Value.ref h7, Value.ref h8, Value.ref h9, Value.int n0_size, Value.ref h10, Value.int n0_names, Value.int n0_plots, Value.ref h11, Value.ref h1, Value.ref h2, Value.ref h3, Value.ref h4, Value.int y_19])), (h1, Sum.inl (cAlong, 25, Sum.inr (Sum.inr (Sum.inr (Sum.inr (fun j => some (h5 j))))))), (h2, Sum.inl (cAlong, 5, Sum.inr (Sum.inr (Sum.inr (Sum.inr (fun j => some (h6 j))))))), (h3, Sum.inl (cint, 5, Sum.inl f_20)), (h4, Sum.inl (cint, 5, Sum.inl f_21))]) [0, 1, 2, 3, 4] (by decide) rfl
    have hK9 := hK.sub (tys' := []) [] rfl
    exact W.vret hx hb hr (fun t ht hW => ⟨⟨(), rfl, trivial, y_19, f_20, f_21, F6, by rw [ht]; exact hP9, va_K.moved hW.alike hK9, hD9⟩, hS.F ht⟩) hS.2.2 dX2_search_15
