set_option maxHeartbeats 4000000 in
set_option maxRecDepth 100000 in
theorem g_X2_search_1 (l : Launch) (dC : Nat → ClassId) (dI : Nat → Nat → Nat) (h0 : Nat) (h1 : Nat) (h2 : Nat) (h3 : Nat) (h4 : Nat) (h5 : Nat → Nat) (h6 : Nat → Nat) (h7 : Nat) (h8 : Nat) (h9 : Nat) (h10 : Nat) (h11 : Nat) (cAlong cint clong : ClassId) (sz : Nat) (n0_size : Int32) (n0_names : Int32) (n0_plots : Int32) (n0_ways : Int32) (f3 : Nat → Int32) (f4 : Nat → Int32) (F5 : Nat → Nat → Int64) (F6 : Nat → Nat → Int64) (tn0_size : kk_bx (0 ≤ n0_size.toInt ∧ n0_size.toInt ≤ 10)) (tn0_names : 1 ≤ n0_names.toInt ∧ n0_names.toInt ≤ 5) (tn0_plots : 0 ≤ n0_plots.toInt ∧ n0_plots.toInt ≤ 40) : Met l yX2_search wsX2_search ({ frames := 4, cells := 0, slots := 0, locals := 93 }) (va_Pc [.ref h0, .int 3] (fun U => U.heap.size = sz ∧ va_P (dC, dI) vwCl (([(h0, kO2 h7 h8 h9 n0_size h10 n0_names n0_plots h11 h1 h2 h3 h4 n0_ways), (h1, kAr cAlong 25 (fun j => some (h5 j))), (h2, kAr cAlong 5 (fun j => some (h6 j))), (h3, kAi cint 5 f3), (h4, kAi cint 5 f4)] : va_W) ++ (kk_rowsL h5 clong 40 F5 25 ++ (kk_rowsL h6 clong 5 F6 5))) U.heap ∧ va_K (dC, dI) vwCl [(cAlong, .array .long), (cint, .int), (clong, .long)] U ∧ va_D (fun _ => True) (([(h0, kO2 h7 h8 h9 n0_size h10 n0_names n0_plots h11 h1 h2 h3 h4 n0_ways), (h1, kAr cAlong 25 (fun j => some (h5 j))), (h2, kAr cAlong 5 (fun j => some (h6 j))), (h3, kAi cint 5 f3), (h4, kAi cint 5 f4)] : va_W) ++ (kk_rowsL h5 clong 40 F5 25 ++ (kk_rowsL h6 clong 5 F6 5))))) (va_Qv (fun (_ : Unit) => True) (fun (_ : Unit) t => ∃ (m0_ways : Int32) (g3 : Nat → Int32) (g4 : Nat → Int32) (g6 : Nat → Nat → Int64), va_P (dC, dI) vwCl (([(h0, kO2 h7 h8 h9 n0_size h10 n0_names n0_plots h11 h1 h2 h3 h4 m0_ways), (h1, kAr cAlong 25 (fun j => some (h5 j))), (h2, kAr cAlong 5 (fun j => some (h6 j))), (h3, kAi cint 5 g3), (h4, kAi cint 5 g4)] : va_W) ++ (kk_rowsL h5 clong 40 F5 25 ++ (kk_rowsL h6 clong 5 g6 5))) t.heap ∧ va_K (dC, dI) vwCl [] t ∧ va_D (va_A (([(h0, kO2 h7 h8 h9 n0_size h10 n0_names n0_plots h11 h1 h2 h3 h4 n0_ways), (h1, kAr cAlong 25 (fun j => some (h5 j))), (h2, kAr cAlong 5 (fun j => some (h6 j))), (h3, kAi cint 5 f3), (h4, kAi cint 5 f4)] : va_W) ++ (kk_rowsL h5 clong 40 F5 25 ++ (kk_rowsL h6 clong 5 F6 5))) sz) (([(h0, kO2 h7 h8 h9 n0_size h10 n0_names n0_plots h11 h1 h2 h3 h4 m0_ways), (h1, kAr cAlong 25 (fun j => some (h5 j))), (h2, kAr cAlong 5 (fun j => some (h6 j))), (h3, kAi cint 5 g3), (h4, kAi cint 5 g4)] : va_W) ++ (kk_rowsL h5 clong 40 F5 25 ++ (kk_rowsL h6 clong 5 g6 5)))) (va_A (([(h0, kO2 h7 h8 h9 n0_size h10 n0_names n0_plots h11 h1 h2 h3 h4 n0_ways), (h1, kAr cAlong 25 (fun j => some (h5 j))), (h2, kAr cAlong 5 (fun j => some (h6 j))), (h3, kAi cint 5 f3), (h4, kAi cint 5 f4)] : va_W) ++ (kk_rowsL h5 clong 40 F5 25 ++ (kk_rowsL h6 clong 5 F6 5))) sz)) 0 0 (va_A (([(h0, kO2 h7 h8 h9 n0_size h10 n0_names n0_plots h11 h1 h2 h3 h4 n0_ways), (h1, kAr cAlong 25 (fun j => some (h5 j))), (h2, kAr cAlong 5 (fun j => some (h6 j))), (h3, kAi cint 5 f3), (h4, kAi cint 5 f4)] : va_W) ++ (kk_rowsL h5 clong 40 F5 25 ++ (kk_rowsL h6 clong 5 F6 5))) sz) := by
  refine Met.ofW (cc := cX2_search) (maxL := 3) (ret := none) (by decide) rfl ?_
  intro p e s m args below meth c s₁ B hml hv
  obtain ⟨rfl, hsz, hP, hK, hD0⟩ := hv
  have hx := B.exec
  have hb := B.bytes
  have hr := B.returns
  have hts := atoms_spec (ws := wsX2_search) B.pre
  have hown : s.vm.findClass RX2 = some m.cls := findClass_of_methodNamed B.named
  have hlocks := B.notSynchronized
  subst hsz
  have hD := hD0.self (sz := s.heap.size)
  generalize hAe : va_A (([(h0, kO2 h7 h8 h9 n0_size h10 n0_names n0_plots h11 h1 h2 h3 h4 n0_ways), (h1, kAr cAlong 25 (fun j => some (h5 j))), (h2, kAr cAlong 5 (fun j => some (h6 j))), (h3, kAi cint 5 f3), (h4, kAi cint 5 f4)] : va_W) ++ (kk_rowsL h5 clong 40 F5 25 ++ (kk_rowsL h6 clong 5 F6 5))) s.heap.size = A at hD ⊢
  have hA : ∀ q : Nat, s.heap.size ≤ q → A q := fun q h => by rw [← hAe]; exact Or.inr h
  have hS : va_S A s.heap s.heap [] := va_S.rf
  have hP : va_P (dC, dI) vwCl (([(h0, kO2 h7 h8 h9 n0_size h10 n0_names n0_plots h11 h1 h2 h3 h4 n0_ways), (h1, kAr cAlong 25 (fun j => some (h5 j))), (h2, kAr cAlong 5 (fun j => some (h6 j))), (h3, kAi cint 5 f3), (h4, kAi cint 5 f4)] : va_W) ++ (kk_rowsL h5 clong 40 F5 25 ++ (kk_rowsL h6 clong 5 F6 5))) s.heap := hP
  have hl := lv_entry ([.ref h0, .int 3]) (n := 3) (Nat.le_of_ble_eq_true rfl)
  rw [lg_entry_eq]
  generalize (lg_sl ([.ref h0, .int 3]) ++ List.replicate (3 - (lg_sl ([.ref h0, .int 3])).length) Slot.unset).toArray = ls at hl ⊢
  have hl : lv_has ls 3 [(0, .ref h0), (1, .int 3)] := hl
  refine lv_iload_n hx hb dX2_search_0 rfl (lv_at hl 1 rfl) ?_
  refine lv_aload_n hx hb dX2_search_1 rfl (lv_at hl 0 rfl) ?_
  refine va_get (D := (dC, dI)) (ci := 2) (v := .int n0_names) (C := RX2) (T := TX2) (N := 13) hx hb hts (fun _ h => List.mem_cons_of_mem _ (List.mem_append_right _ h)) hown hK hP 0 rfl rfl 5 (by decide) (hts (.fieldLink RX2 49 "KinkStreet$Deeds" "names" "I") (List.mem_of_getElem? (i := 1) rfl)) (fun _ h9 => h9) rfl dX2_search_2 ?_
  refine lv_iconst (v := 1) hx hb dX2_search_5 kk_ic_1 ?_
  refine lv_isub hx hb dX2_search_6 ?_
  refine lv_icmp_lt (tgt := 16) hx hb dX2_search_7 (by decide) (fun c_1 => ?_) (fun c_1 => ?_)
  · have t_1 : 3 < (n0_names - 1).toInt := kk_lt c_1
    refine lv_iconst (v := 0) hx hb dX2_search_16 kk_ic_0 ?_
    refine lv_istore_n hx hb dX2_search_17 rfl hl (by decide) (rfl : _ = ([(2, .int 0), (0, .ref h0), (1, .int 3)] : List (Nat × Value))) (fun ls hl => ?_)
    try have := kk_sub2 (x := n0_names) (y := 1) (a := n0_names.toInt) (b := 1) rfl rfl (by omega) (by omega)
    refine kk_loop (σ := Int32 × (Nat → Nat → Int64) × Int32 × (Nat → Int32) × (Nat → Int32)) (fun x H locs ls => (0 ≤ x.1.toInt ∧ x.1.toInt ≤ 40) ∧ va_P (dC, dI) vwCl (([(h0, kO2 h7 h8 h9 n0_size h10 n0_names n0_plots h11 h1 h2 h3 h4 x.2.2.1), (h1, kAr cAlong 25 (fun j => some (h5 j))), (h2, kAr cAlong 5 (fun j => some (h6 j))), (h3, kAi cint 5 x.2.2.2.1), (h4, kAi cint 5 x.2.2.2.2)] : va_W) ++ (kk_rowsL h5 clong 40 F5 25 ++ (kk_rowsL h6 clong 5 x.2.1 5))) H ∧ va_D A (([(h0, kO2 h7 h8 h9 n0_size h10 n0_names n0_plots h11 h1 h2 h3 h4 x.2.2.1), (h1, kAr cAlong 25 (fun j => some (h5 j))), (h2, kAr cAlong 5 (fun j => some (h6 j))), (h3, kAi cint 5 x.2.2.2.1), (h4, kAi cint 5 x.2.2.2.2)] : va_W) ++ (kk_rowsL h5 clong 40 F5 25 ++ (kk_rowsL h6 clong 5 x.2.1 5))) ∧ va_S A s.heap H locs ∧ lv_has ls 3 [(2, .int x.1), (0, .ref h0), (1, .int 3)]) (fun x => ((40 : Int) - x.1.toInt).toNat) ?_ (0, F6, n0_ways, f3, f4) _ _ _ ⟨(by show 0 ≤ (0 : Int32).toInt ∧ (0 : Int32).toInt ≤ 40; first | decide | ((omega))), hP, hD, hS, hl⟩
    rintro ⟨i_2_0, f_2_1, i_2_2, f_2_3, f_2_4⟩ H locs ls ⟨t_2_0, hP, hD, hS, hl⟩ ih_2
    have t_2_0 : (0 ≤ i_2_0.toInt ∧ i_2_0.toInt ≤ 40) := t_2_0
    have hl : lv_has ls 3 [(2, .int i_2_0), (0, .ref h0), (1, .int 3)] := hl
    have hP : va_P (dC, dI) vwCl (([(h0, kO2 h7 h8 h9 n0_size h10 n0_names n0_plots h11 h1 h2 h3 h4 i_2_2), (h1, kAr cAlong 25 (fun j => some (h5 j))), (h2, kAr cAlong 5 (fun j => some (h6 j))), (h3, kAi cint 5 f_2_3), (h4, kAi cint 5 f_2_4)] : va_W) ++ (kk_rowsL h5 clong 40 F5 25 ++ (kk_rowsL h6 clong 5 f_2_1 5))) H := hP
    have hD : va_D A (([(h0, kO2 h7 h8 h9 n0_size h10 n0_names n0_plots h11 h1 h2 h3 h4 i_2_2), (h1, kAr cAlong 25 (fun j => some (h5 j))), (h2, kAr cAlong 5 (fun j => some (h6 j))), (h3, kAi cint 5 f_2_3), (h4, kAi cint 5 f_2_4)] : va_W) ++ (kk_rowsL h5 clong 40 F5 25 ++ (kk_rowsL h6 clong 5 f_2_1 5))) := hD
    refine lv_iload_n hx hb dX2_search_18 rfl (lv_at hl 0 rfl) ?_
    refine lv_aload_n hx hb dX2_search_19 rfl (lv_at hl 1 rfl) ?_
    refine va_get (D := (dC, dI)) (ci := 2) (v := .int n0_plots) (C := RX2) (T := TX2) (N := 13) hx hb hts (fun _ h => List.mem_cons_of_mem _ (List.mem_append_right _ h)) hown hK hP 0 rfl rfl 6 (by decide) (hts (.fieldLink RX2 67 "KinkStreet$Deeds" "plots" "I") (List.mem_of_getElem? (i := 2) rfl)) (fun _ h9 => h9) rfl dX2_search_20 ?_
    refine lv_icmp_ge (tgt := 81) hx hb dX2_search_23 (by decide) (fun c_3 => ?_) (fun c_3 => ?_)
    · have t_3 : n0_plots.toInt ≤ i_2_0.toInt := kk_le c_3
      have hP9 := hP.part (cx := [(h0, kO2 h7 h8 h9 n0_size h10 n0_names n0_plots h11 h1 h2 h3 h4 i_2_2), (h1, kAr cAlong 25 (fun j => some (h5 j))), (h2, kAr cAlong 5 (fun j => some (h6 j))), (h3, kAi cint 5 f_2_3), (h4, kAi cint 5 f_2_4)]) [0, 1, 2, 3, 4] rfl
      have hD9 := hD.part (cx := [(h0, kO2 h7 h8 h9 n0_size h10 n0_names n0_plots h11 h1 h2 h3 h4 i_2_2), (h1, kAr cAlong 25 (fun j => some (h5 j))), (h2, kAr cAlong 5 (fun j => some (h6 j))), (h3, kAi cint 5 f_2_3), (h4, kAi cint 5 f_2_4)]) [0, 1, 2, 3, 4] (by decide) rfl
      have hK9 := kk_Ks (tq := []) hK [] rfl
      exact W.vret hx hb hr (fun t ht hW => ⟨⟨(), rfl, trivial, i_2_2, f_2_3, f_2_4, f_2_1, by rw [ht]; exact hP9, va_K.moved hW.alike hK9, hD9⟩, hS.F ht⟩) hS.2.2 dX2_search_81
    · have t_3 : i_2_0.toInt < n0_plots.toInt := kk_nle c_3
      refine lv_aload_n hx hb dX2_search_26 rfl (lv_at hl 1 rfl) ?_
      refine va_get (D := (dC, dI)) (ci := 2) (v := .int i_2_2) (C := RX2) (T := TX2) (N := 13) hx hb hts (fun _ h => List.mem_cons_of_mem _ (List.mem_append_right _ h)) hown hK hP 0 rfl rfl 12 (by decide) (hts (.fieldLink RX2 70 "KinkStreet$Deeds" "ways" "I") (List.mem_of_getElem? (i := 3) rfl)) (fun _ h9 => h9) rfl dX2_search_27 ?_
      refine lv_ldc hx hb hown (hts _ (List.mem_of_getElem? (i := 4) rfl)) dX2_search_30 ?_
      refine lv_icmp_ge (tgt := 81) hx hb dX2_search_32 (by decide) (fun c_4 => ?_) (fun c_4 => ?_)
      · have t_4 : 1000000 ≤ i_2_2.toInt := kk_le c_4
        have hP9 := hP.part (cx := [(h0, kO2 h7 h8 h9 n0_size h10 n0_names n0_plots h11 h1 h2 h3 h4 i_2_2), (h1, kAr cAlong 25 (fun j => some (h5 j))), (h2, kAr cAlong 5 (fun j => some (h6 j))), (h3, kAi cint 5 f_2_3), (h4, kAi cint 5 f_2_4)]) [0, 1, 2, 3, 4] rfl
        have hD9 := hD.part (cx := [(h0, kO2 h7 h8 h9 n0_size h10 n0_names n0_plots h11 h1 h2 h3 h4 i_2_2), (h1, kAr cAlong 25 (fun j => some (h5 j))), (h2, kAr cAlong 5 (fun j => some (h6 j))), (h3, kAi cint 5 f_2_3), (h4, kAi cint 5 f_2_4)]) [0, 1, 2, 3, 4] (by decide) rfl
        have hK9 := kk_Ks (tq := []) hK [] rfl
        exact W.vret hx hb hr (fun t ht hW => ⟨⟨(), rfl, trivial, i_2_2, f_2_3, f_2_4, f_2_1, by rw [ht]; exact hP9, va_K.moved hW.alike hK9, hD9⟩, hS.F ht⟩) hS.2.2 dX2_search_81
      · have t_4 : i_2_2.toInt < 1000000 := kk_nle c_4
        refine lv_aload_n hx hb dX2_search_35 rfl (lv_at hl 1 rfl) ?_
        refine va_get (D := (dC, dI)) (ci := 2) (v := .ref h2) (C := RX2) (T := TX2) (N := 13) hx hb hts (fun _ h => List.mem_cons_of_mem _ (List.mem_append_right _ h)) hown hK hP 0 rfl rfl 9 (by decide) (hts (.fieldLink RX2 32 "KinkStreet$Deeds" "open" "[[J") (List.mem_of_getElem? (i := 5) rfl)) (fun _ h9 => h9) rfl dX2_search_36 ?_
        refine lv_iload_n hx hb dX2_search_39 rfl (lv_at hl 2 rfl) ?_
        have hi_5 : vp_in (3 : Int32) 5 := (by unfold vp_in; decide)
        have hk_5 : (3 : Int32).toNatClampNeg < 5 := Nat.not_le.mp fun q => hi_5 (Or.inr q)
        refine kk_aald hx hb hK hP 2 0 rfl rfl hi_5 dX2_search_40 ?_
        refine W.eq (g2 := F0 m 41 ls [.ref (h6 (3 : Int32).toNatClampNeg)]) rfl ?_
        refine lv_iload_n hx hb dX2_search_41 rfl (lv_at hl 2 rfl) ?_
        refine va_lald hx hb hK hP _ 2 (kk_getr (kk_getr (kk_rowL hk_5))) rfl (by unfold vp_in; decide) dX2_search_42 ?_
        refine lv_topl (fun y_6 e_6 => ?_)
        clear e_6
        refine lv_iload_n hx hb dX2_search_43 rfl (lv_at hl 0 rfl) ?_
        refine lv_lushr hx hb dX2_search_44 rfl ?_
        refine lv_topl (fun y_7 e_7 => ?_)
        clear e_7
        refine lv_lconst (v := 1) hx hb dX2_search_45 (by decide) ?_
        refine lv_land hx hb dX2_search_46 ?_
        refine lv_topl (fun y_8 e_8 => ?_)
        clear e_8
        refine lv_lconst (v := 0) hx hb dX2_search_47 (by decide) ?_
        refine W.lcmp hx hb dX2_search_48 ?_
        refine lv_if_eq (tgt := 75) hx hb dX2_search_49 (by decide) (fun _ => ?_) (fun _ => ?_)
        · skip
          refine lv_iinc (v := (i_2_0 + 1)) hx hb dX2_search_75 hl (k := 0) rfl (by first | rfl | decide) (by decide) (rfl : _ = ([(2, .int (i_2_0 + 1)), (0, .ref h0), (1, .int 3)] : List (Nat × Value))) (fun ls hl => ?_)
          refine lv_goto (tgt := 18) hx hb dX2_search_78 (by decide) ?_
          try have := kk_rng i_2_2
          try have := kk_add2 (x := i_2_0) (y := 1) (a := i_2_0.toInt) (b := 1) rfl rfl (by omega) (by omega)
          exact ih_2 ((i_2_0 + 1), f_2_1, i_2_2, f_2_3, f_2_4) _ _ _ (by show ((40 : Int) - ((i_2_0 + 1)).toInt).toNat < ((40 : Int) - i_2_0.toInt).toNat; exact kk_mu (by omega) (by omega)) ⟨(by show 0 ≤ ((i_2_0 + 1) : Int32).toInt ∧ ((i_2_0 + 1) : Int32).toInt ≤ 40; first | decide | ((omega))), hP, hD, hS, lv_sub hl [0, 1, 2] rfl⟩
        · skip
          refine lv_aload_n hx hb dX2_search_52 rfl (lv_at hl 1 rfl) ?_
          refine lv_iload_n hx hb dX2_search_53 rfl (lv_at hl 2 rfl) ?_
          refine lv_iload_n hx hb dX2_search_54 rfl (lv_at hl 0 rfl) ?_
          have hPc := hP.part (cx := [(h0, kO2 h7 h8 h9 n0_size h10 n0_names n0_plots h11 h1 h2 h3 h4 i_2_2), (h1, kAr cAlong 25 (fun j => some (h5 j))), (h2, kAr cAlong 5 (fun j => some (h6 j)))]) [0, 1, 2] rfl
          have hDc := hD.part (cx := [(h0, kO2 h7 h8 h9 n0_size h10 n0_names n0_plots h11 h1 h2 h3 h4 i_2_2), (h1, kAr cAlong 25 (fun j => some (h5 j))), (h2, kAr cAlong 5 (fun j => some (h6 j)))]) [0, 1, 2] (by decide) rfl
          have hFc := va_freeP (cx := [(h0, kO2 h7 h8 h9 n0_size h10 n0_names n0_plots h11 h1 h2 h3 h4 i_2_2), (h1, kAr cAlong 25 (fun j => some (h5 j))), (h2, kAr cAlong 5 (fun j => some (h6 j)))]) hD hS hA [0, 1, 2] rfl
          have hKc := kk_Ks (tq := [(cAlong, .array .long), (clong, .long)]) hK [0, 2] rfl
          try have := kk_rng i_2_2
          refine va_calli (va_runV (As := [.int 3, .int i_2_0]) (rest := []) ⟨hx, hb, hml, hown, hts⟩ (g_X2_narrow_3 l dC dI h0 h1 h2 h5 h6 h7 h8 h9 h10 h11 h3 h4 cAlong clong H.size i_2_0 (by show 0 ≤ (i_2_0 : Int32).toInt ∧ (i_2_0 : Int32).toInt ≤ 39; first | decide | ((omega))) n0_size n0_names n0_plots i_2_2 F5 f_2_1 tn0_size tn0_names tn0_plots) (cwV 2 hts gX2_search_X2_narrow rfl rfl rfl ⟨rfl, kh_X2_narrow⟩ ⟨Nat.le_of_ble_eq_true rfl, Nat.le_of_ble_eq_true rfl⟩) ⟨fun a U g mk q => by obtain ⟨q0, q1, qP, qK, qD⟩ := q; exact ⟨q0, q1, qP, va_K.moved (u := U) (U := U.calling g mk a) (Vm.Alike.refl U.vm) qK, qD⟩, va_recv hKc hPc (ci := 2) (q0 := 0) rfl rfl, fun U hU hW => ⟨rfl, by rw [hU], by rw [hU]; exact hPc, va_K.moved hW.alike hKc, hDc.weaken (fun _ _ _ _ => trivial)⟩⟩ rfl rfl hl.1 rfl (lv_room (Nat.le_of_ble_eq_true rfl)) dX2_search_55 ⟨Nat.le_of_ble_eq_true rfl, Nat.le_of_ble_eq_true rfl⟩) hS (fun q _ h => hFc q h) hFc (fun r_9 u t H1 locs ht hvm hw hB hz1 hk1 hS => ?_)
          obtain ⟨f_10, hP1, hK1, hD1⟩ := hB
          rw [ht] at hP1
          have hK1 := va_K.moved hvm.symm hK1
          obtain ⟨hP, hD⟩ := va_joinP (cx := [(h0, kO2 h7 h8 h9 n0_size h10 n0_names n0_plots h11 h1 h2 h3 h4 i_2_2), (h1, kAr cAlong 25 (fun j => some (h5 j))), (h2, kAr cAlong 5 (fun j => some (h6 j)))]) (wr := [(h3, kAi cint 5 f_2_3), (h4, kAi cint 5 f_2_4)]) (rx := [(h0, kO2 h7 h8 h9 n0_size h10 n0_names n0_plots h11 h1 h2 h3 h4 i_2_2), (h1, kAr cAlong 25 (fun j => some (h5 j))), (h2, kAr cAlong 5 (fun j => some (h6 j)))]) hP hD [0, 1, 2] [3, 4] rfl rfl (by decide) (by decide) hk1 hFc hP1 hD1
          generalize H1 = H at hP hS ⊢
          have hP : va_P (dC, dI) vwCl (([(h3, kAi cint 5 f_2_3), (h4, kAi cint 5 f_2_4), (h0, kO2 h7 h8 h9 n0_size h10 n0_names n0_plots h11 h1 h2 h3 h4 i_2_2), (h1, kAr cAlong 25 (fun j => some (h5 j))), (h2, kAr cAlong 5 (fun j => some (h6 j)))] : va_W) ++ (kk_rowsL h5 clong 40 F5 25 ++ (kk_rowsL h6 clong 5 f_10 5))) H := hP
          have hD : va_D A (([(h3, kAi cint 5 f_2_3), (h4, kAi cint 5 f_2_4), (h0, kO2 h7 h8 h9 n0_size h10 n0_names n0_plots h11 h1 h2 h3 h4 i_2_2), (h1, kAr cAlong 25 (fun j => some (h5 j))), (h2, kAr cAlong 5 (fun j => some (h6 j)))] : va_W) ++ (kk_rowsL h5 clong 40 F5 25 ++ (kk_rowsL h6 clong 5 f_10 5))) := hD
          rcases hw with ⟨t_9_0, rfl⟩ | ⟨rfl⟩
          · skip
            have t_9_0 : (5 : Int) ≤ n0_names.toInt := t_9_0
            refine lv_if_eq (tgt := 75) hx hb dX2_search_58 (by decide) (fun _ => ?_) (fun c => absurd c (by decide))
            refine lv_iinc (v := (i_2_0 + 1)) hx hb dX2_search_75 hl (k := 0) rfl (by first | rfl | decide) (by decide) (rfl : _ = ([(2, .int (i_2_0 + 1)), (0, .ref h0), (1, .int 3)] : List (Nat × Value))) (fun ls hl => ?_)
            refine lv_goto (tgt := 18) hx hb dX2_search_78 (by decide) ?_
            try have := kk_add2 (x := i_2_0) (y := 1) (a := i_2_0.toInt) (b := 1) rfl rfl (by omega) (by omega)
            exact ih_2 ((i_2_0 + 1), f_10, i_2_2, f_2_3, f_2_4) _ _ _ (by show ((40 : Int) - ((i_2_0 + 1)).toInt).toNat < ((40 : Int) - i_2_0.toInt).toNat; exact kk_mu (by omega) (by omega)) ⟨(by show 0 ≤ ((i_2_0 + 1) : Int32).toInt ∧ ((i_2_0 + 1) : Int32).toInt ≤ 40; first | decide | ((omega))), hP.part (cx := [(h0, kO2 h7 h8 h9 n0_size h10 n0_names n0_plots h11 h1 h2 h3 h4 i_2_2), (h1, kAr cAlong 25 (fun j => some (h5 j))), (h2, kAr cAlong 5 (fun j => some (h6 j))), (h3, kAi cint 5 f_2_3), (h4, kAi cint 5 f_2_4)]) [2, 3, 4, 0, 1] rfl, hD.part (cx := [(h0, kO2 h7 h8 h9 n0_size h10 n0_names n0_plots h11 h1 h2 h3 h4 i_2_2), (h1, kAr cAlong 25 (fun j => some (h5 j))), (h2, kAr cAlong 5 (fun j => some (h6 j))), (h3, kAi cint 5 f_2_3), (h4, kAi cint 5 f_2_4)]) [2, 3, 4, 0, 1] (by decide) rfl, hS, lv_sub hl [0, 1, 2] rfl⟩
          · skip
            refine lv_if_eq (tgt := 75) hx hb dX2_search_58 (by decide) (fun c => absurd c (by decide)) (fun _ => ?_)
            refine lv_aload_n hx hb dX2_search_61 rfl (lv_at hl 1 rfl) ?_
            refine va_get (D := (dC, dI)) (ci := 2) (v := .ref h3) (C := RX2) (T := TX2) (N := 13) hx hb hts (fun _ h => List.mem_cons_of_mem _ (List.mem_append_right _ h)) hown hK hP 2 rfl rfl 10 (by decide) (hts (.fieldLink RX2 35 "KinkStreet$Deeds" "tried" "[I") (List.mem_of_getElem? (i := 6) rfl)) (fun _ h9 => h9) rfl dX2_search_62 ?_
            refine lv_iload_n hx hb dX2_search_65 rfl (lv_at hl 2 rfl) ?_
            refine lv_iload_n hx hb dX2_search_66 rfl (lv_at hl 0 rfl) ?_
            refine va_iast hx hb hK hP hD hS 0 1 rfl rfl (by unfold vp_in; decide) dX2_search_67 (fun H locs hP hD hS => ?_)
            generalize upd f_2_3 (3 : Int32).toNatClampNeg i_2_0 = f_11 at hP hD
            have hP : va_P (dC, dI) vwCl (([(h3, kAi cint 5 f_11), (h4, kAi cint 5 f_2_4), (h0, kO2 h7 h8 h9 n0_size h10 n0_names n0_plots h11 h1 h2 h3 h4 i_2_2), (h1, kAr cAlong 25 (fun j => some (h5 j))), (h2, kAr cAlong 5 (fun j => some (h6 j)))] : va_W) ++ (kk_rowsL h5 clong 40 F5 25 ++ (kk_rowsL h6 clong 5 f_10 5))) H := hP
            have hD : va_D A (([(h3, kAi cint 5 f_11), (h4, kAi cint 5 f_2_4), (h0, kO2 h7 h8 h9 n0_size h10 n0_names n0_plots h11 h1 h2 h3 h4 i_2_2), (h1, kAr cAlong 25 (fun j => some (h5 j))), (h2, kAr cAlong 5 (fun j => some (h6 j)))] : va_W) ++ (kk_rowsL h5 clong 40 F5 25 ++ (kk_rowsL h6 clong 5 f_10 5))) := hD
            refine lv_aload_n hx hb dX2_search_68 rfl (lv_at hl 1 rfl) ?_
            refine lv_iload_n hx hb dX2_search_69 rfl (lv_at hl 2 rfl) ?_
            refine lv_iconst (v := 1) hx hb dX2_search_70 kk_ic_1 ?_
            refine lv_iadd hx hb dX2_search_71 ?_
            refine lv_topi (fun y_12 e_12 => ?_)
            obtain rfl : y_12 = 4 := e_12.trans (by decide)
            have hPc := hP.part (cx := [(h0, kO2 h7 h8 h9 n0_size h10 n0_names n0_plots h11 h1 h2 h3 h4 i_2_2), (h1, kAr cAlong 25 (fun j => some (h5 j))), (h2, kAr cAlong 5 (fun j => some (h6 j))), (h3, kAi cint 5 f_11), (h4, kAi cint 5 f_2_4)]) [2, 3, 4, 0, 1] rfl
            have hDc := hD.part (cx := [(h0, kO2 h7 h8 h9 n0_size h10 n0_names n0_plots h11 h1 h2 h3 h4 i_2_2), (h1, kAr cAlong 25 (fun j => some (h5 j))), (h2, kAr cAlong 5 (fun j => some (h6 j))), (h3, kAi cint 5 f_11), (h4, kAi cint 5 f_2_4)]) [2, 3, 4, 0, 1] (by decide) rfl
            have hFc := va_freeP (cx := [(h0, kO2 h7 h8 h9 n0_size h10 n0_names n0_plots h11 h1 h2 h3 h4 i_2_2), (h1, kAr cAlong 25 (fun j => some (h5 j))), (h2, kAr cAlong 5 (fun j => some (h6 j))), (h3, kAi cint 5 f_11), (h4, kAi cint 5 f_2_4)]) hD hS hA [2, 3, 4, 0, 1] rfl
            have hKc := kk_Ks (tq := [(cAlong, .array .long), (cint, .int), (clong, .long)]) hK [0, 1, 2] rfl
            refine va_callv (va_runV (As := [.int 4]) (rest := []) ⟨hx, hb, hml, hown, hts⟩ (g_X2_search_0 l dC dI h0 h1 h2 h3 h4 h5 h6 h7 h8 h9 h10 h11 cAlong cint clong H.size n0_size n0_names n0_plots i_2_2 f_11 f_2_4 F5 f_10 tn0_size tn0_names tn0_plots) (cwV 1 hts gX2_search_X2_search rfl rfl rfl ⟨rfl, kh_X2_search⟩ ⟨Nat.le_of_ble_eq_true rfl, Nat.le_of_ble_eq_true rfl⟩) ⟨fun a U g mk q => by obtain ⟨q0, q1, qP, qK, qD⟩ := q; exact ⟨q0, q1, qP, va_K.moved (u := U) (U := U.calling g mk a) (Vm.Alike.refl U.vm) qK, qD⟩, va_recv hKc hPc (ci := 2) (q0 := 0) rfl rfl, fun U hU hW => ⟨rfl, by rw [hU], by rw [hU]; exact hPc, va_K.moved hW.alike hKc, hDc.weaken (fun _ _ _ _ => trivial)⟩⟩ rfl rfl hl.1 rfl (lv_room (Nat.le_of_ble_eq_true rfl)) dX2_search_72 ⟨Nat.le_of_ble_eq_true rfl, Nat.le_of_ble_eq_true rfl⟩) hS (fun q _ h => hFc q h) hFc (fun u t H1 locs ht hvm hw hB hz1 hk1 hS => ?_)
            refine hB.elim (fun y_14 hB => ?_)
            refine hB.elim (fun f_15 hB => ?_)
            refine hB.elim (fun f_16 hB => ?_)
            have hP1 := hB.1
            have hK1 := hB.2.1
            have hD1 := hB.2.2
            rw [ht] at hP1
            have hK1 := va_K.moved hvm.symm hK1
            obtain ⟨hP, hD⟩ := va_joinP (cx := [(h0, kO2 h7 h8 h9 n0_size h10 n0_names n0_plots h11 h1 h2 h3 h4 i_2_2), (h1, kAr cAlong 25 (fun j => some (h5 j))), (h2, kAr cAlong 5 (fun j => some (h6 j))), (h3, kAi cint 5 f_11), (h4, kAi cint 5 f_2_4)]) (wr := []) (rx := [(h0, kO2 h7 h8 h9 n0_size h10 n0_names n0_plots h11 h1 h2 h3 h4 y_14), (h1, kAr cAlong 25 (fun j => some (h5 j))), (h2, kAr cAlong 5 (fun j => some (h6 j))), (h3, kAi cint 5 f_15), (h4, kAi cint 5 f_16)]) hP hD [2, 3, 4, 0, 1] [] rfl rfl (by decide) (by decide) hk1 hFc hP1 hD1
            generalize H1 = H at hP hS ⊢
            have hP : va_P (dC, dI) vwCl (([(h0, kO2 h7 h8 h9 n0_size h10 n0_names n0_plots h11 h1 h2 h3 h4 y_14), (h1, kAr cAlong 25 (fun j => some (h5 j))), (h2, kAr cAlong 5 (fun j => some (h6 j))), (h3, kAi cint 5 f_15), (h4, kAi cint 5 f_16)] : va_W) ++ (kk_rowsL h5 clong 40 F5 25 ++ (kk_rowsL h6 clong 5 f_10 5))) H := hP
            have hD : va_D A (([(h0, kO2 h7 h8 h9 n0_size h10 n0_names n0_plots h11 h1 h2 h3 h4 y_14), (h1, kAr cAlong 25 (fun j => some (h5 j))), (h2, kAr cAlong 5 (fun j => some (h6 j))), (h3, kAi cint 5 f_15), (h4, kAi cint 5 f_16)] : va_W) ++ (kk_rowsL h5 clong 40 F5 25 ++ (kk_rowsL h6 clong 5 f_10 5))) := hD
            refine lv_iinc (v := (i_2_0 + 1)) hx hb dX2_search_75 hl (k := 0) rfl (by first | rfl | decide) (by decide) (rfl : _ = ([(2, .int (i_2_0 + 1)), (0, .ref h0), (1, .int 3)] : List (Nat × Value))) (fun ls hl => ?_)
            refine lv_goto (tgt := 18) hx hb dX2_search_78 (by decide) ?_
            try have := kk_add2 (x := i_2_0) (y := 1) (a := i_2_0.toInt) (b := 1) rfl rfl (by omega) (by omega)
            exact ih_2 ((i_2_0 + 1), f_10, y_14, f_15, f_16) _ _ _ (by show ((40 : Int) - ((i_2_0 + 1)).toInt).toNat < ((40 : Int) - i_2_0.toInt).toNat; exact kk_mu (by omega) (by omega)) ⟨(by show 0 ≤ ((i_2_0 + 1) : Int32).toInt ∧ ((i_2_0 + 1) : Int32).toInt ≤ 40; first | decide | ((omega))), hP, hD, hS, lv_sub hl [0, 1, 2] rfl⟩
  · have t_1 : (n0_names - 1).toInt ≤ 3 := kk_nlt c_1
    refine lv_aload_n hx hb dX2_search_10 rfl (lv_at hl 0 rfl) ?_
    refine lv_iload_n hx hb dX2_search_11 rfl (lv_at hl 1 rfl) ?_
    have hPc := hP.part (cx := [(h0, kO2 h7 h8 h9 n0_size h10 n0_names n0_plots h11 h1 h2 h3 h4 n0_ways), (h1, kAr cAlong 25 (fun j => some (h5 j))), (h2, kAr cAlong 5 (fun j => some (h6 j))), (h3, kAi cint 5 f3), (h4, kAi cint 5 f4)]) [0, 1, 2, 3, 4] rfl
    have hDc := hD.part (cx := [(h0, kO2 h7 h8 h9 n0_size h10 n0_names n0_plots h11 h1 h2 h3 h4 n0_ways), (h1, kAr cAlong 25 (fun j => some (h5 j))), (h2, kAr cAlong 5 (fun j => some (h6 j))), (h3, kAi cint 5 f3), (h4, kAi cint 5 f4)]) [0, 1, 2, 3, 4] (by decide) rfl
    have hFc := va_freeP (cx := [(h0, kO2 h7 h8 h9 n0_size h10 n0_names n0_plots h11 h1 h2 h3 h4 n0_ways), (h1, kAr cAlong 25 (fun j => some (h5 j))), (h2, kAr cAlong 5 (fun j => some (h6 j))), (h3, kAi cint 5 f3), (h4, kAi cint 5 f4)]) hD hS hA [0, 1, 2, 3, 4] rfl
    have hKc := kk_Ks (tq := [(cAlong, .array .long), (cint, .int), (clong, .long)]) hK [0, 1, 2] rfl
    refine va_callv (va_runV (As := [.int 3]) (rest := []) ⟨hx, hb, hml, hown, hts⟩ (g_X2_countWays_1 l dC dI h0 h1 h2 h3 h4 h5 h6 h7 h8 h9 h10 h11 cAlong cint clong s.heap.size n0_size n0_names n0_plots n0_ways f3 f4 F5 F6 tn0_size tn0_names tn0_plots) (cwV 1 hts gX2_search_X2_countWays rfl rfl rfl ⟨rfl, kh_X2_countWays⟩ ⟨Nat.le_of_ble_eq_true rfl, Nat.le_of_ble_eq_true rfl⟩) ⟨fun a U g mk q => by obtain ⟨q0, q1, qP, qK, qD⟩ := q; exact ⟨q0, q1, qP, va_K.moved (u := U) (U := U.calling g mk a) (Vm.Alike.refl U.vm) qK, qD⟩, va_recv hKc hPc (ci := 2) (q0 := 0) rfl rfl, fun U hU hW => ⟨rfl, by rw [hU], by rw [hU]; exact hPc, va_K.moved hW.alike hKc, hDc.weaken (fun _ _ _ _ => trivial)⟩⟩ rfl rfl hl.1 rfl (lv_room (Nat.le_of_ble_eq_true rfl)) dX2_search_12 ⟨Nat.le_of_ble_eq_true rfl, Nat.le_of_ble_eq_true rfl⟩) hS (fun q _ h => hFc q h) hFc (fun u t H1 locs ht hvm hw hB hz1 hk1 hS => ?_)
    refine hB.elim (fun y_18 hB => ?_)
    refine hB.elim (fun f_19 hB => ?_)
    refine hB.elim (fun f_20 hB => ?_)
    have hP1 := hB.1
    have hK1 := hB.2.1
    have hD1 := hB.2.2
    rw [ht] at hP1
    have hK1 := va_K.moved hvm.symm hK1
    obtain ⟨hP, hD⟩ := va_joinP (cx := [(h0, kO2 h7 h8 h9 n0_size h10 n0_names n0_plots h11 h1 h2 h3 h4 n0_ways), (h1, kAr cAlong 25 (fun j => some (h5 j))), (h2, kAr cAlong 5 (fun j => some (h6 j))), (h3, kAi cint 5 f3), (h4, kAi cint 5 f4)]) (wr := []) (rx := [(h0, kO2 h7 h8 h9 n0_size h10 n0_names n0_plots h11 h1 h2 h3 h4 y_18), (h1, kAr cAlong 25 (fun j => some (h5 j))), (h2, kAr cAlong 5 (fun j => some (h6 j))), (h3, kAi cint 5 f_19), (h4, kAi cint 5 f_20)]) hP hD [0, 1, 2, 3, 4] [] rfl rfl (by decide) (by decide) hk1 hFc hP1 hD1
    generalize H1 = H at hP hS ⊢
    have hP : va_P (dC, dI) vwCl (([(h0, kO2 h7 h8 h9 n0_size h10 n0_names n0_plots h11 h1 h2 h3 h4 y_18), (h1, kAr cAlong 25 (fun j => some (h5 j))), (h2, kAr cAlong 5 (fun j => some (h6 j))), (h3, kAi cint 5 f_19), (h4, kAi cint 5 f_20)] : va_W) ++ (kk_rowsL h5 clong 40 F5 25 ++ (kk_rowsL h6 clong 5 F6 5))) H := hP
    have hD : va_D A (([(h0, kO2 h7 h8 h9 n0_size h10 n0_names n0_plots h11 h1 h2 h3 h4 y_18), (h1, kAr cAlong 25 (fun j => some (h5 j))), (h2, kAr cAlong 5 (fun j => some (h6 j))), (h3, kAi cint 5 f_19), (h4, kAi cint 5 f_20)] : va_W) ++ (kk_rowsL h5 clong 40 F5 25 ++ (kk_rowsL h6 clong 5 F6 5))) := hD
    have hP9 := hP.part (cx := [(h0, kO2 h7 h8 h9 n0_size h10 n0_names n0_plots h11 h1 h2 h3 h4 y_18), (h1, kAr cAlong 25 (fun j => some (h5 j))), (h2, kAr cAlong 5 (fun j => some (h6 j))), (h3, kAi cint 5 f_19), (h4, kAi cint 5 f_20)]) [0, 1, 2, 3, 4] rfl
    have hD9 := hD.part (cx := [(h0, kO2 h7 h8 h9 n0_size h10 n0_names n0_plots h11 h1 h2 h3 h4 y_18), (h1, kAr cAlong 25 (fun j => some (h5 j))), (h2, kAr cAlong 5 (fun j => some (h6 j))), (h3, kAi cint 5 f_19), (h4, kAi cint 5 f_20)]) [0, 1, 2, 3, 4] (by decide) rfl
    have hK9 := kk_Ks (tq := []) hK [] rfl
    exact W.vret hx hb hr (fun t ht hW => ⟨⟨(), rfl, trivial, y_18, f_19, f_20, F6, by rw [ht]; exact hP9, va_K.moved hW.alike hK9, hD9⟩, hS.F ht⟩) hS.2.2 dX2_search_15
set_option maxHeartbeats 4000000 in
set_option maxRecDepth 100000 in
theorem g_X2_countWays_2 (l : Launch) (dC : Nat → ClassId) (dI : Nat → Nat → Nat) (h0 : Nat) (h1 : Nat) (h2 : Nat) (h3 : Nat) (h4 : Nat) (h5 : Nat → Nat) (h6 : Nat → Nat) (h7 : Nat) (h8 : Nat) (h9 : Nat) (h10 : Nat) (h11 : Nat) (cAlong cint clong : ClassId) (sz : Nat) (n0_size : Int32) (n0_names : Int32) (n0_plots : Int32) (n0_ways : Int32) (f3 : Nat → Int32) (f4 : Nat → Int32) (F5 : Nat → Nat → Int64) (F6 : Nat → Nat → Int64) (tn0_size : kk_bx (0 ≤ n0_size.toInt ∧ n0_size.toInt ≤ 10)) (tn0_names : kk_bx (1 ≤ n0_names.toInt ∧ n0_names.toInt ≤ 5)) (tn0_plots : kk_bx (0 ≤ n0_plots.toInt ∧ n0_plots.toInt ≤ 40)) : Met l yX2_countWays wsX2_countWays ({ frames := 2, cells := 0, slots := 0, locals := 48 }) (va_Pc [.ref h0, .int 2] (fun U => U.heap.size = sz ∧ va_P (dC, dI) vwCl (([(h0, kO2 h7 h8 h9 n0_size h10 n0_names n0_plots h11 h1 h2 h3 h4 n0_ways), (h1, kAr cAlong 25 (fun j => some (h5 j))), (h2, kAr cAlong 5 (fun j => some (h6 j))), (h3, kAi cint 5 f3), (h4, kAi cint 5 f4)] : va_W) ++ (kk_rowsL h5 clong 40 F5 25 ++ (kk_rowsL h6 clong 5 F6 5))) U.heap ∧ va_K (dC, dI) vwCl [(cAlong, .array .long), (cint, .int), (clong, .long)] U ∧ va_D (fun _ => True) (([(h0, kO2 h7 h8 h9 n0_size h10 n0_names n0_plots h11 h1 h2 h3 h4 n0_ways), (h1, kAr cAlong 25 (fun j => some (h5 j))), (h2, kAr cAlong 5 (fun j => some (h6 j))), (h3, kAi cint 5 f3), (h4, kAi cint 5 f4)] : va_W) ++ (kk_rowsL h5 clong 40 F5 25 ++ (kk_rowsL h6 clong 5 F6 5))))) (va_Qv (fun (_ : Unit) => True) (fun (_ : Unit) t => ∃ (m0_ways : Int32) (g3 : Nat → Int32) (g4 : Nat → Int32), va_P (dC, dI) vwCl (([(h0, kO2 h7 h8 h9 n0_size h10 n0_names n0_plots h11 h1 h2 h3 h4 m0_ways), (h1, kAr cAlong 25 (fun j => some (h5 j))), (h2, kAr cAlong 5 (fun j => some (h6 j))), (h3, kAi cint 5 g3), (h4, kAi cint 5 g4)] : va_W) ++ (kk_rowsL h5 clong 40 F5 25 ++ (kk_rowsL h6 clong 5 F6 5))) t.heap ∧ va_K (dC, dI) vwCl [] t ∧ va_D (va_A (([(h0, kO2 h7 h8 h9 n0_size h10 n0_names n0_plots h11 h1 h2 h3 h4 n0_ways), (h1, kAr cAlong 25 (fun j => some (h5 j))), (h2, kAr cAlong 5 (fun j => some (h6 j))), (h3, kAi cint 5 f3), (h4, kAi cint 5 f4)] : va_W) ++ (kk_rowsL h5 clong 40 F5 25 ++ (kk_rowsL h6 clong 5 F6 5))) sz) (([(h0, kO2 h7 h8 h9 n0_size h10 n0_names n0_plots h11 h1 h2 h3 h4 m0_ways), (h1, kAr cAlong 25 (fun j => some (h5 j))), (h2, kAr cAlong 5 (fun j => some (h6 j))), (h3, kAi cint 5 g3), (h4, kAi cint 5 g4)] : va_W) ++ (kk_rowsL h5 clong 40 F5 25 ++ (kk_rowsL h6 clong 5 F6 5)))) (va_A (([(h0, kO2 h7 h8 h9 n0_size h10 n0_names n0_plots h11 h1 h2 h3 h4 n0_ways), (h1, kAr cAlong 25 (fun j => some (h5 j))), (h2, kAr cAlong 5 (fun j => some (h6 j))), (h3, kAi cint 5 f3), (h4, kAi cint 5 f4)] : va_W) ++ (kk_rowsL h5 clong 40 F5 25 ++ (kk_rowsL h6 clong 5 F6 5))) sz)) 0 0 (va_A (([(h0, kO2 h7 h8 h9 n0_size h10 n0_names n0_plots h11 h1 h2 h3 h4 n0_ways), (h1, kAr cAlong 25 (fun j => some (h5 j))), (h2, kAr cAlong 5 (fun j => some (h6 j))), (h3, kAi cint 5 f3), (h4, kAi cint 5 f4)] : va_W) ++ (kk_rowsL h5 clong 40 F5 25 ++ (kk_rowsL h6 clong 5 F6 5))) sz) := by
  refine Met.ofW (cc := cX2_countWays) (maxL := 4) (ret := none) (by decide) rfl ?_
  intro p e s m args below meth c s₁ B hml hv
  obtain ⟨rfl, hsz, hP, hK, hD0⟩ := hv
  have hx := B.exec
  have hb := B.bytes
  have hr := B.returns
  have hts := atoms_spec (ws := wsX2_countWays) B.pre
  have hown : s.vm.findClass RX2 = some m.cls := findClass_of_methodNamed B.named
  have hlocks := B.notSynchronized
  subst hsz
  have hD := hD0.self (sz := s.heap.size)
  generalize hAe : va_A (([(h0, kO2 h7 h8 h9 n0_size h10 n0_names n0_plots h11 h1 h2 h3 h4 n0_ways), (h1, kAr cAlong 25 (fun j => some (h5 j))), (h2, kAr cAlong 5 (fun j => some (h6 j))), (h3, kAi cint 5 f3), (h4, kAi cint 5 f4)] : va_W) ++ (kk_rowsL h5 clong 40 F5 25 ++ (kk_rowsL h6 clong 5 F6 5))) s.heap.size = A at hD ⊢
  have hA : ∀ q : Nat, s.heap.size ≤ q → A q := fun q h => by rw [← hAe]; exact Or.inr h
  have hS : va_S A s.heap s.heap [] := va_S.rf
  have hP : va_P (dC, dI) vwCl (([(h0, kO2 h7 h8 h9 n0_size h10 n0_names n0_plots h11 h1 h2 h3 h4 n0_ways), (h1, kAr cAlong 25 (fun j => some (h5 j))), (h2, kAr cAlong 5 (fun j => some (h6 j))), (h3, kAi cint 5 f3), (h4, kAi cint 5 f4)] : va_W) ++ (kk_rowsL h5 clong 40 F5 25 ++ (kk_rowsL h6 clong 5 F6 5))) s.heap := hP
  have hl := lv_entry ([.ref h0, .int 2]) (n := 4) (Nat.le_of_ble_eq_true rfl)
  rw [lg_entry_eq]
  generalize (lg_sl ([.ref h0, .int 2]) ++ List.replicate (4 - (lg_sl ([.ref h0, .int 2])).length) Slot.unset).toArray = ls at hl ⊢
  have hl : lv_has ls 4 [(0, .ref h0), (1, .int 2)] := hl
  refine lv_aload_n hx hb dX2_countWays_0 rfl (lv_at hl 0 rfl) ?_
  refine va_get (D := (dC, dI)) (ci := 2) (v := .ref h2) (C := RX2) (T := TX2) (N := 13) hx hb hts (fun _ h => List.mem_cons_of_mem _ (List.mem_append_right _ h)) hown hK hP 0 rfl rfl 9 (by decide) (hts (.fieldLink RX2 32 "KinkStreet$Deeds" "open" "[[J") (List.mem_of_getElem? (i := 1) rfl)) (fun _ h9 => h9) rfl dX2_countWays_1 ?_
  refine lv_iload_n hx hb dX2_countWays_4 rfl (lv_at hl 1 rfl) ?_
  have hi_1 : vp_in (2 : Int32) 5 := (by unfold vp_in; decide)
  have hk_1 : (2 : Int32).toNatClampNeg < 5 := Nat.not_le.mp fun q => hi_1 (Or.inr q)
  refine kk_aald hx hb hK hP 2 0 rfl rfl hi_1 dX2_countWays_5 ?_
  refine W.eq (g2 := F0 m 6 ls [.ref (h6 (2 : Int32).toNatClampNeg)]) rfl ?_
  refine lv_iload_n hx hb dX2_countWays_6 rfl (lv_at hl 1 rfl) ?_
  refine va_lald hx hb hK hP _ 2 (kk_getr (kk_getr (kk_rowL hk_1))) rfl (by unfold vp_in; decide) dX2_countWays_7 ?_
  refine lv_topl (fun y_2 e_2 => ?_)
  clear e_2
  refine lv_lstore_n hx hb dX2_countWays_8 rfl hl (by decide) (rfl : _ = ([(2, .long y_2), (0, .ref h0), (1, .int 2)] : List (Nat × Value))) (fun ls hl => ?_)
  refine lv_lload_n hx hb dX2_countWays_9 rfl (lv_at hl 0 rfl) ?_
  refine lv_lconst (v := 0) hx hb dX2_countWays_10 (by decide) ?_
  refine W.lcmp hx hb dX2_countWays_11 ?_
  refine lv_if_ne (tgt := 16) hx hb dX2_countWays_12 (by decide) (fun _ => ?_) (fun _ => ?_)
  · skip
    refine lv_aload_n hx hb dX2_countWays_16 rfl (lv_at hl 1 rfl) ?_
    refine va_get (D := (dC, dI)) (ci := 2) (v := .int n0_ways) (C := RX2) (T := TX2) (N := 13) hx hb hts (fun _ h => List.mem_cons_of_mem _ (List.mem_append_right _ h)) hown hK hP 0 rfl rfl 12 (by decide) (hts (.fieldLink RX2 70 "KinkStreet$Deeds" "ways" "I") (List.mem_of_getElem? (i := 2) rfl)) (fun _ h9 => h9) rfl dX2_countWays_17 ?_
    refine lv_if_ne (tgt := 47) hx hb dX2_countWays_20 (by decide) (fun c_3 => ?_) (fun c_3 => ?_)
    · have t_3 : n0_ways.toInt ≠ 0 := kk_ne c_3
      refine lv_aload_n hx hb dX2_countWays_47 rfl (lv_at hl 1 rfl) ?_
      refine lv_ldc hx hb hown (hts _ (List.mem_of_getElem? (i := 9) rfl)) dX2_countWays_48 ?_
      refine lv_aload_n hx hb dX2_countWays_50 rfl (lv_at hl 1 rfl) ?_
      refine va_get (D := (dC, dI)) (ci := 2) (v := .int n0_ways) (C := RX2) (T := TX2) (N := 13) hx hb hts (fun _ h => List.mem_cons_of_mem _ (List.mem_append_right _ h)) hown hK hP 0 rfl rfl 12 (by decide) (hts (.fieldLink RX2 70 "KinkStreet$Deeds" "ways" "I") (List.mem_of_getElem? (i := 2) rfl)) (fun _ h9 => h9) rfl dX2_countWays_51 ?_
      refine lv_lload_n hx hb dX2_countWays_54 rfl (lv_at hl 0 rfl) ?_
      obtain ⟨hPc, hDc, hFc⟩ := kk_cutout (wc := []) hP hD hS hA [] (by decide) rfl
      have hKc := kk_Ks (tq := []) hK [] rfl
      refine va_calli (va_runS (As := [.long y_2]) (rest := [.int n0_ways, .int 1000000, .ref h0]) ⟨hx, hb, hml, hown, hts⟩ (g_J13_bitCount_95d88_0 l dC dI s.heap.size y_2 (y_2.toInt) rfl) (va_cwS 1 hts gX2_countWays_J13_bitCount_95d88 rfl rfl rfl kh_J13_bitCount_95d88 ⟨Nat.le_of_ble_eq_true rfl, Nat.le_of_ble_eq_true rfl⟩) ⟨fun a U g mk q => by obtain ⟨q0, q1, qP, qK, qD⟩ := q; exact ⟨q0, q1, qP, va_K.moved (u := U) (U := U.calling g mk a) (Vm.Alike.refl U.vm) qK, qD⟩, fun U hU hW => ⟨rfl, by rw [hU], by rw [hU]; exact hPc, va_K.moved hW.alike hKc, hDc.weaken (fun _ _ _ _ => trivial)⟩⟩ rfl rfl hl.1 rfl (lv_room (Nat.le_of_ble_eq_true rfl)) dX2_countWays_55 ⟨Nat.le_of_ble_eq_true rfl, Nat.le_of_ble_eq_true rfl⟩) hS (fun q _ h => hFc q h) hFc (fun r_4 u t H1 locs ht hvm hw hB hz1 hk1 hS => ?_)
      obtain ⟨hP1, hK1, hD1⟩ := hB
      rw [ht] at hP1
      have hK1 := va_K.moved hvm.symm hK1
      obtain ⟨hP, hD⟩ := va_joinQ (cx := []) (wr := [(h0, kO2 h7 h8 h9 n0_size h10 n0_names n0_plots h11 h1 h2 h3 h4 n0_ways), (h1, kAr cAlong 25 (fun j => some (h5 j))), (h2, kAr cAlong 5 (fun j => some (h6 j))), (h3, kAi cint 5 f3), (h4, kAi cint 5 f4)]) (w1 := []) hP hD [] [0, 1, 2, 3, 4] rfl rfl (by decide) (by decide) hk1 hFc hP1 hD1
      generalize H1 = H at hP hS ⊢
      have hP : va_P (dC, dI) vwCl (([(h0, kO2 h7 h8 h9 n0_size h10 n0_names n0_plots h11 h1 h2 h3 h4 n0_ways), (h1, kAr cAlong 25 (fun j => some (h5 j))), (h2, kAr cAlong 5 (fun j => some (h6 j))), (h3, kAi cint 5 f3), (h4, kAi cint 5 f4)] : va_W) ++ (kk_rowsL h5 clong 40 F5 25 ++ (kk_rowsL h6 clong 5 F6 5))) H := hP
      have hD : va_D A (([(h0, kO2 h7 h8 h9 n0_size h10 n0_names n0_plots h11 h1 h2 h3 h4 n0_ways), (h1, kAr cAlong 25 (fun j => some (h5 j))), (h2, kAr cAlong 5 (fun j => some (h6 j))), (h3, kAi cint 5 f3), (h4, kAi cint 5 f4)] : va_W) ++ (kk_rowsL h5 clong 40 F5 25 ++ (kk_rowsL h6 clong 5 F6 5))) := hD
      refine lv_iadd hx hb dX2_countWays_58 ?_
      refine va_mmin hx hb (hml.trans hl.1.symm) hown (hts (.methodLink RX2 61 Lib.Math.min.name) (List.mem_of_getElem? (i := 10) rfl)) (hts (.static Lib.Math.min.name) (List.mem_of_getElem? (i := 11) rfl)) (hts (.initialized "java/lang/Math") (List.mem_of_getElem? (i := 12) rfl)) (hts (.code Lib.Math.min.name Lib.Math.min.code 2 (some .int)) (List.mem_of_getElem? (i := 13) rfl)) (Nat.le_of_ble_eq_true rfl) (Nat.le_of_ble_eq_true rfl) (Nat.le_of_ble_eq_true rfl) (Nat.le_of_ble_eq_true rfl) dX2_countWays_59 ?_
      refine lv_topi (fun y_5 e_5 => ?_)
      have t_5 : y_5.toInt ≤ 1000000 ∧ y_5.toInt ≤ (n0_ways + r_4).toInt ∧ (y_5.toInt = 1000000 ∨ y_5.toInt = (n0_ways + r_4).toInt) := by rw [e_5]; exact kk_min _ _
      clear e_5
      refine va_put (D := (dC, dI)) (ci := 2) (v := .int y_5) (ty := .int) (C := RX2) (T := TX2) (N := 13) hx hb hts (fun _ h => List.mem_cons_of_mem _ (List.mem_append_right _ h)) tyX2 tyX2_ok nmX2 hown hK hP hD hS 0 rfl rfl 12 (by decide) (hts (.fieldLink RX2 70 "KinkStreet$Deeds" "ways" "I") (List.mem_of_getElem? (i := 2) rfl)) (fun _ h9 => h9) rfl (by decide +kernel) rfl rfl (Nat.le_of_ble_eq_true rfl) dX2_countWays_62 (fun H locs hP hD hS => ?_)
      have hP : va_P (dC, dI) vwCl (([(h0, kO2 h7 h8 h9 n0_size h10 n0_names n0_plots h11 h1 h2 h3 h4 y_5), (h1, kAr cAlong 25 (fun j => some (h5 j))), (h2, kAr cAlong 5 (fun j => some (h6 j))), (h3, kAi cint 5 f3), (h4, kAi cint 5 f4)] : va_W) ++ (kk_rowsL h5 clong 40 F5 25 ++ (kk_rowsL h6 clong 5 F6 5))) H := hP
      have hD : va_D A (([(h0, kO2 h7 h8 h9 n0_size h10 n0_names n0_plots h11 h1 h2 h3 h4 y_5), (h1, kAr cAlong 25 (fun j => some (h5 j))), (h2, kAr cAlong 5 (fun j => some (h6 j))), (h3, kAi cint 5 f3), (h4, kAi cint 5 f4)] : va_W) ++ (kk_rowsL h5 clong 40 F5 25 ++ (kk_rowsL h6 clong 5 F6 5))) := hD
      have hP9 := hP.part (cx := [(h0, kO2 h7 h8 h9 n0_size h10 n0_names n0_plots h11 h1 h2 h3 h4 y_5), (h1, kAr cAlong 25 (fun j => some (h5 j))), (h2, kAr cAlong 5 (fun j => some (h6 j))), (h3, kAi cint 5 f3), (h4, kAi cint 5 f4)]) [0, 1, 2, 3, 4] rfl
      have hD9 := hD.part (cx := [(h0, kO2 h7 h8 h9 n0_size h10 n0_names n0_plots h11 h1 h2 h3 h4 y_5), (h1, kAr cAlong 25 (fun j => some (h5 j))), (h2, kAr cAlong 5 (fun j => some (h6 j))), (h3, kAi cint 5 f3), (h4, kAi cint 5 f4)]) [0, 1, 2, 3, 4] (by decide) rfl
      have hK9 := kk_Ks (tq := []) hK [] rfl
      exact W.vret hx hb hr (fun t ht hW => ⟨⟨(), rfl, trivial, y_5, f3, f4, by rw [ht]; exact hP9, va_K.moved hW.alike hK9, hD9⟩, hS.F ht⟩) hS.2.2 dX2_countWays_65
    · have t_3 : n0_ways.toInt = 0 := kk_eq c_3
      refine lv_aload_n hx hb dX2_countWays_23 rfl (lv_at hl 1 rfl) ?_
      refine va_get (D := (dC, dI)) (ci := 2) (v := .ref h3) (C := RX2) (T := TX2) (N := 13) hx hb hts (fun _ h => List.mem_cons_of_mem _ (List.mem_append_right _ h)) hown hK hP 0 rfl rfl 10 (by decide) (hts (.fieldLink RX2 35 "KinkStreet$Deeds" "tried" "[I") (List.mem_of_getElem? (i := 3) rfl)) (fun _ h9 => h9) rfl dX2_countWays_24 ?_
      refine lv_iload_n hx hb dX2_countWays_27 rfl (lv_at hl 2 rfl) ?_
      refine lv_lload_n hx hb dX2_countWays_28 rfl (lv_at hl 0 rfl) ?_
      obtain ⟨hPc, hDc, hFc⟩ := kk_cutout (wc := []) hP hD hS hA [] (by decide) rfl
      have hKc := kk_Ks (tq := []) hK [] rfl
      refine va_calli (va_runS (As := [.long y_2]) (rest := [.int 2, .ref h3]) ⟨hx, hb, hml, hown, hts⟩ (g_J13_numberOfTrailingZeros_95d88_0 l dC dI s.heap.size y_2 (y_2.toInt) rfl) (va_cwS 1 hts gX2_countWays_J13_numberOfTrailingZeros_95d88 rfl rfl rfl kh_J13_numberOfTrailingZeros_95d88 ⟨Nat.le_of_ble_eq_true rfl, Nat.le_of_ble_eq_true rfl⟩) ⟨fun a U g mk q => by obtain ⟨q0, q1, qP, qK, qD⟩ := q; exact ⟨q0, q1, qP, va_K.moved (u := U) (U := U.calling g mk a) (Vm.Alike.refl U.vm) qK, qD⟩, fun U hU hW => ⟨rfl, by rw [hU], by rw [hU]; exact hPc, va_K.moved hW.alike hKc, hDc.weaken (fun _ _ _ _ => trivial)⟩⟩ rfl rfl hl.1 rfl (lv_room (Nat.le_of_ble_eq_true rfl)) dX2_countWays_29 ⟨Nat.le_of_ble_eq_true rfl, Nat.le_of_ble_eq_true rfl⟩) hS (fun q _ h => hFc q h) hFc (fun r_6 u t H1 locs ht hvm hw hB hz1 hk1 hS => ?_)
      obtain ⟨hP1, hK1, hD1⟩ := hB
      rw [ht] at hP1
      have hK1 := va_K.moved hvm.symm hK1
      obtain ⟨hP, hD⟩ := va_joinQ (cx := []) (wr := [(h0, kO2 h7 h8 h9 n0_size h10 n0_names n0_plots h11 h1 h2 h3 h4 n0_ways), (h1, kAr cAlong 25 (fun j => some (h5 j))), (h2, kAr cAlong 5 (fun j => some (h6 j))), (h3, kAi cint 5 f3), (h4, kAi cint 5 f4)]) (w1 := []) hP hD [] [0, 1, 2, 3, 4] rfl rfl (by decide) (by decide) hk1 hFc hP1 hD1
      generalize H1 = H at hP hS ⊢
      have hP : va_P (dC, dI) vwCl (([(h0, kO2 h7 h8 h9 n0_size h10 n0_names n0_plots h11 h1 h2 h3 h4 n0_ways), (h1, kAr cAlong 25 (fun j => some (h5 j))), (h2, kAr cAlong 5 (fun j => some (h6 j))), (h3, kAi cint 5 f3), (h4, kAi cint 5 f4)] : va_W) ++ (kk_rowsL h5 clong 40 F5 25 ++ (kk_rowsL h6 clong 5 F6 5))) H := hP
      have hD : va_D A (([(h0, kO2 h7 h8 h9 n0_size h10 n0_names n0_plots h11 h1 h2 h3 h4 n0_ways), (h1, kAr cAlong 25 (fun j => some (h5 j))), (h2, kAr cAlong 5 (fun j => some (h6 j))), (h3, kAi cint 5 f3), (h4, kAi cint 5 f4)] : va_W) ++ (kk_rowsL h5 clong 40 F5 25 ++ (kk_rowsL h6 clong 5 F6 5))) := hD
      refine va_iast hx hb hK hP hD hS 3 1 rfl rfl (by unfold vp_in; decide) dX2_countWays_32 (fun H locs hP hD hS => ?_)
      generalize upd f3 (2 : Int32).toNatClampNeg r_6 = f_7 at hP hD
      have hP : va_P (dC, dI) vwCl (([(h0, kO2 h7 h8 h9 n0_size h10 n0_names n0_plots h11 h1 h2 h3 h4 n0_ways), (h1, kAr cAlong 25 (fun j => some (h5 j))), (h2, kAr cAlong 5 (fun j => some (h6 j))), (h3, kAi cint 5 f_7), (h4, kAi cint 5 f4)] : va_W) ++ (kk_rowsL h5 clong 40 F5 25 ++ (kk_rowsL h6 clong 5 F6 5))) H := hP
      have hD : va_D A (([(h0, kO2 h7 h8 h9 n0_size h10 n0_names n0_plots h11 h1 h2 h3 h4 n0_ways), (h1, kAr cAlong 25 (fun j => some (h5 j))), (h2, kAr cAlong 5 (fun j => some (h6 j))), (h3, kAi cint 5 f_7), (h4, kAi cint 5 f4)] : va_W) ++ (kk_rowsL h5 clong 40 F5 25 ++ (kk_rowsL h6 clong 5 F6 5))) := hD
      refine lv_aload_n hx hb dX2_countWays_33 rfl (lv_at hl 1 rfl) ?_
      refine va_get (D := (dC, dI)) (ci := 2) (v := .ref h3) (C := RX2) (T := TX2) (N := 13) hx hb hts (fun _ h => List.mem_cons_of_mem _ (List.mem_append_right _ h)) hown hK hP 0 rfl rfl 10 (by decide) (hts (.fieldLink RX2 35 "KinkStreet$Deeds" "tried" "[I") (List.mem_of_getElem? (i := 3) rfl)) (fun _ h9 => h9) rfl dX2_countWays_34 ?_
      refine lv_iconst (v := 0) hx hb dX2_countWays_37 kk_ic_0 ?_
      refine lv_aload_n hx hb dX2_countWays_38 rfl (lv_at hl 1 rfl) ?_
      refine va_get (D := (dC, dI)) (ci := 2) (v := .ref h4) (C := RX2) (T := TX2) (N := 13) hx hb hts (fun _ h => List.mem_cons_of_mem _ (List.mem_append_right _ h)) hown hK hP 0 rfl rfl 11 (by decide) (hts (.fieldLink RX2 38 "KinkStreet$Deeds" "found" "[I") (List.mem_of_getElem? (i := 4) rfl)) (fun _ h9 => h9) rfl dX2_countWays_39 ?_
      refine lv_iconst (v := 0) hx hb dX2_countWays_42 kk_ic_0 ?_
      refine lv_iconst (v := 5) hx hb dX2_countWays_43 kk_ic_5 ?_
      refine va_copyi (sp := 0) (dp := 0) (n := 5) hx hb (hml.trans hl.1.symm) hown (hts (.methodLink RX2 118 arraycopyName) (List.mem_of_getElem? (i := 5) rfl)) (hts (.native arraycopyName) (List.mem_of_getElem? (i := 6) rfl)) (hts (.static arraycopyName) (List.mem_of_getElem? (i := 7) rfl)) (hts (.initialized "java/lang/System") (List.mem_of_getElem? (i := 8) rfl)) hK hP hD hS 3 4 1 1 rfl rfl rfl rfl rfl (by decide) (by decide) (by decide) (by decide) (by decide) (fun _ _ => rfl) (Nat.le_of_ble_eq_true rfl) (Nat.le_of_ble_eq_true rfl) dX2_countWays_44 (fun H locs hP hD hS => ?_)
      generalize va_cpy f_7 f4 (0 : Int32).toNatClampNeg (0 : Int32).toNatClampNeg (5 : Int32).toNatClampNeg = f_8 at hP hD
      have hP : va_P (dC, dI) vwCl (([(h0, kO2 h7 h8 h9 n0_size h10 n0_names n0_plots h11 h1 h2 h3 h4 n0_ways), (h1, kAr cAlong 25 (fun j => some (h5 j))), (h2, kAr cAlong 5 (fun j => some (h6 j))), (h3, kAi cint 5 f_7), (h4, kAi cint 5 f_8)] : va_W) ++ (kk_rowsL h5 clong 40 F5 25 ++ (kk_rowsL h6 clong 5 F6 5))) H := hP
      have hD : va_D A (([(h0, kO2 h7 h8 h9 n0_size h10 n0_names n0_plots h11 h1 h2 h3 h4 n0_ways), (h1, kAr cAlong 25 (fun j => some (h5 j))), (h2, kAr cAlong 5 (fun j => some (h6 j))), (h3, kAi cint 5 f_7), (h4, kAi cint 5 f_8)] : va_W) ++ (kk_rowsL h5 clong 40 F5 25 ++ (kk_rowsL h6 clong 5 F6 5))) := hD
      refine lv_aload_n hx hb dX2_countWays_47 rfl (lv_at hl 1 rfl) ?_
      refine lv_ldc hx hb hown (hts _ (List.mem_of_getElem? (i := 9) rfl)) dX2_countWays_48 ?_
      refine lv_aload_n hx hb dX2_countWays_50 rfl (lv_at hl 1 rfl) ?_
      refine va_get (D := (dC, dI)) (ci := 2) (v := .int n0_ways) (C := RX2) (T := TX2) (N := 13) hx hb hts (fun _ h => List.mem_cons_of_mem _ (List.mem_append_right _ h)) hown hK hP 0 rfl rfl 12 (by decide) (hts (.fieldLink RX2 70 "KinkStreet$Deeds" "ways" "I") (List.mem_of_getElem? (i := 2) rfl)) (fun _ h9 => h9) rfl dX2_countWays_51 ?_
      refine lv_lload_n hx hb dX2_countWays_54 rfl (lv_at hl 0 rfl) ?_
      obtain ⟨hPc, hDc, hFc⟩ := kk_cutout (wc := []) hP hD hS hA [] (by decide) rfl
      have hKc := kk_Ks (tq := []) hK [] rfl
      refine va_calli (va_runS (As := [.long y_2]) (rest := [.int n0_ways, .int 1000000, .ref h0]) ⟨hx, hb, hml, hown, hts⟩ (g_J13_bitCount_95d88_0 l dC dI H.size y_2 (y_2.toInt) rfl) (va_cwS 1 hts gX2_countWays_J13_bitCount_95d88 rfl rfl rfl kh_J13_bitCount_95d88 ⟨Nat.le_of_ble_eq_true rfl, Nat.le_of_ble_eq_true rfl⟩) ⟨fun a U g mk q => by obtain ⟨q0, q1, qP, qK, qD⟩ := q; exact ⟨q0, q1, qP, va_K.moved (u := U) (U := U.calling g mk a) (Vm.Alike.refl U.vm) qK, qD⟩, fun U hU hW => ⟨rfl, by rw [hU], by rw [hU]; exact hPc, va_K.moved hW.alike hKc, hDc.weaken (fun _ _ _ _ => trivial)⟩⟩ rfl rfl hl.1 rfl (lv_room (Nat.le_of_ble_eq_true rfl)) dX2_countWays_55 ⟨Nat.le_of_ble_eq_true rfl, Nat.le_of_ble_eq_true rfl⟩) hS (fun q _ h => hFc q h) hFc (fun r_9 u t H1 locs ht hvm hw hB hz1 hk1 hS => ?_)
      obtain ⟨hP1, hK1, hD1⟩ := hB
      rw [ht] at hP1
      have hK1 := va_K.moved hvm.symm hK1
      obtain ⟨hP, hD⟩ := va_joinQ (cx := []) (wr := [(h0, kO2 h7 h8 h9 n0_size h10 n0_names n0_plots h11 h1 h2 h3 h4 n0_ways), (h1, kAr cAlong 25 (fun j => some (h5 j))), (h2, kAr cAlong 5 (fun j => some (h6 j))), (h3, kAi cint 5 f_7), (h4, kAi cint 5 f_8)]) (w1 := []) hP hD [] [0, 1, 2, 3, 4] rfl rfl (by decide) (by decide) hk1 hFc hP1 hD1
      generalize H1 = H at hP hS ⊢
      have hP : va_P (dC, dI) vwCl (([(h0, kO2 h7 h8 h9 n0_size h10 n0_names n0_plots h11 h1 h2 h3 h4 n0_ways), (h1, kAr cAlong 25 (fun j => some (h5 j))), (h2, kAr cAlong 5 (fun j => some (h6 j))), (h3, kAi cint 5 f_7), (h4, kAi cint 5 f_8)] : va_W) ++ (kk_rowsL h5 clong 40 F5 25 ++ (kk_rowsL h6 clong 5 F6 5))) H := hP
      have hD : va_D A (([(h0, kO2 h7 h8 h9 n0_size h10 n0_names n0_plots h11 h1 h2 h3 h4 n0_ways), (h1, kAr cAlong 25 (fun j => some (h5 j))), (h2, kAr cAlong 5 (fun j => some (h6 j))), (h3, kAi cint 5 f_7), (h4, kAi cint 5 f_8)] : va_W) ++ (kk_rowsL h5 clong 40 F5 25 ++ (kk_rowsL h6 clong 5 F6 5))) := hD
      refine lv_iadd hx hb dX2_countWays_58 ?_
      refine va_mmin hx hb (hml.trans hl.1.symm) hown (hts (.methodLink RX2 61 Lib.Math.min.name) (List.mem_of_getElem? (i := 10) rfl)) (hts (.static Lib.Math.min.name) (List.mem_of_getElem? (i := 11) rfl)) (hts (.initialized "java/lang/Math") (List.mem_of_getElem? (i := 12) rfl)) (hts (.code Lib.Math.min.name Lib.Math.min.code 2 (some .int)) (List.mem_of_getElem? (i := 13) rfl)) (Nat.le_of_ble_eq_true rfl) (Nat.le_of_ble_eq_true rfl) (Nat.le_of_ble_eq_true rfl) (Nat.le_of_ble_eq_true rfl) dX2_countWays_59 ?_
      refine lv_topi (fun y_10 e_10 => ?_)
      have t_10 : y_10.toInt ≤ 1000000 ∧ y_10.toInt ≤ (n0_ways + r_9).toInt ∧ (y_10.toInt = 1000000 ∨ y_10.toInt = (n0_ways + r_9).toInt) := by rw [e_10]; exact kk_min _ _
      clear e_10
      refine va_put (D := (dC, dI)) (ci := 2) (v := .int y_10) (ty := .int) (C := RX2) (T := TX2) (N := 13) hx hb hts (fun _ h => List.mem_cons_of_mem _ (List.mem_append_right _ h)) tyX2 tyX2_ok nmX2 hown hK hP hD hS 0 rfl rfl 12 (by decide) (hts (.fieldLink RX2 70 "KinkStreet$Deeds" "ways" "I") (List.mem_of_getElem? (i := 2) rfl)) (fun _ h9 => h9) rfl (by decide +kernel) rfl rfl (Nat.le_of_ble_eq_true rfl) dX2_countWays_62 (fun H locs hP hD hS => ?_)
      have hP : va_P (dC, dI) vwCl (([(h0, kO2 h7 h8 h9 n0_size h10 n0_names n0_plots h11 h1 h2 h3 h4 y_10), (h1, kAr cAlong 25 (fun j => some (h5 j))), (h2, kAr cAlong 5 (fun j => some (h6 j))), (h3, kAi cint 5 f_7), (h4, kAi cint 5 f_8)] : va_W) ++ (kk_rowsL h5 clong 40 F5 25 ++ (kk_rowsL h6 clong 5 F6 5))) H := hP
      have hD : va_D A (([(h0, kO2 h7 h8 h9 n0_size h10 n0_names n0_plots h11 h1 h2 h3 h4 y_10), (h1, kAr cAlong 25 (fun j => some (h5 j))), (h2, kAr cAlong 5 (fun j => some (h6 j))), (h3, kAi cint 5 f_7), (h4, kAi cint 5 f_8)] : va_W) ++ (kk_rowsL h5 clong 40 F5 25 ++ (kk_rowsL h6 clong 5 F6 5))) := hD
      have hP9 := hP.part (cx := [(h0, kO2 h7 h8 h9 n0_size h10 n0_names n0_plots h11 h1 h2 h3 h4 y_10), (h1, kAr cAlong 25 (fun j => some (h5 j))), (h2, kAr cAlong 5 (fun j => some (h6 j))), (h3, kAi cint 5 f_7), (h4, kAi cint 5 f_8)]) [0, 1, 2, 3, 4] rfl
      have hD9 := hD.part (cx := [(h0, kO2 h7 h8 h9 n0_size h10 n0_names n0_plots h11 h1 h2 h3 h4 y_10), (h1, kAr cAlong 25 (fun j => some (h5 j))), (h2, kAr cAlong 5 (fun j => some (h6 j))), (h3, kAi cint 5 f_7), (h4, kAi cint 5 f_8)]) [0, 1, 2, 3, 4] (by decide) rfl
      have hK9 := kk_Ks (tq := []) hK [] rfl
      exact W.vret hx hb hr (fun t ht hW => ⟨⟨(), rfl, trivial, y_10, f_7, f_8, by rw [ht]; exact hP9, va_K.moved hW.alike hK9, hD9⟩, hS.F ht⟩) hS.2.2 dX2_countWays_65
  · skip
    have hP9 := hP.part (cx := [(h0, kO2 h7 h8 h9 n0_size h10 n0_names n0_plots h11 h1 h2 h3 h4 n0_ways), (h1, kAr cAlong 25 (fun j => some (h5 j))), (h2, kAr cAlong 5 (fun j => some (h6 j))), (h3, kAi cint 5 f3), (h4, kAi cint 5 f4)]) [0, 1, 2, 3, 4] rfl
    have hD9 := hD.part (cx := [(h0, kO2 h7 h8 h9 n0_size h10 n0_names n0_plots h11 h1 h2 h3 h4 n0_ways), (h1, kAr cAlong 25 (fun j => some (h5 j))), (h2, kAr cAlong 5 (fun j => some (h6 j))), (h3, kAi cint 5 f3), (h4, kAi cint 5 f4)]) [0, 1, 2, 3, 4] (by decide) rfl
    have hK9 := kk_Ks (tq := []) hK [] rfl
    exact W.vret hx hb hr (fun t ht hW => ⟨⟨(), rfl, trivial, n0_ways, f3, f4, by rw [ht]; exact hP9, va_K.moved hW.alike hK9, hD9⟩, hS.F ht⟩) hS.2.2 dX2_countWays_15
set_option maxHeartbeats 4000000 in
set_option maxRecDepth 100000 in
theorem g_X2_search_2 (l : Launch) (dC : Nat → ClassId) (dI : Nat → Nat → Nat) (h0 : Nat) (h1 : Nat) (h2 : Nat) (h3 : Nat) (h4 : Nat) (h5 : Nat → Nat) (h6 : Nat → Nat) (h7 : Nat) (h8 : Nat) (h9 : Nat) (h10 : Nat) (h11 : Nat) (cAlong cint clong : ClassId) (sz : Nat) (n0_size : Int32) (n0_names : Int32) (n0_plots : Int32) (n0_ways : Int32) (f3 : Nat → Int32) (f4 : Nat → Int32) (F5 : Nat → Nat → Int64) (F6 : Nat → Nat → Int64) (tn0_size : kk_bx (0 ≤ n0_size.toInt ∧ n0_size.toInt ≤ 10)) (tn0_names : 1 ≤ n0_names.toInt ∧ n0_names.toInt ≤ 5) (tn0_plots : 0 ≤ n0_plots.toInt ∧ n0_plots.toInt ≤ 40) : Met l yX2_search wsX2_search ({ frames := 5, cells := 0, slots := 0, locals := 115 }) (va_Pc [.ref h0, .int 2] (fun U => U.heap.size = sz ∧ va_P (dC, dI) vwCl (([(h0, kO2 h7 h8 h9 n0_size h10 n0_names n0_plots h11 h1 h2 h3 h4 n0_ways), (h1, kAr cAlong 25 (fun j => some (h5 j))), (h2, kAr cAlong 5 (fun j => some (h6 j))), (h3, kAi cint 5 f3), (h4, kAi cint 5 f4)] : va_W) ++ (kk_rowsL h5 clong 40 F5 25 ++ (kk_rowsL h6 clong 5 F6 5))) U.heap ∧ va_K (dC, dI) vwCl [(cAlong, .array .long), (cint, .int), (clong, .long)] U ∧ va_D (fun _ => True) (([(h0, kO2 h7 h8 h9 n0_size h10 n0_names n0_plots h11 h1 h2 h3 h4 n0_ways), (h1, kAr cAlong 25 (fun j => some (h5 j))), (h2, kAr cAlong 5 (fun j => some (h6 j))), (h3, kAi cint 5 f3), (h4, kAi cint 5 f4)] : va_W) ++ (kk_rowsL h5 clong 40 F5 25 ++ (kk_rowsL h6 clong 5 F6 5))))) (va_Qv (fun (_ : Unit) => True) (fun (_ : Unit) t => ∃ (m0_ways : Int32) (g3 : Nat → Int32) (g4 : Nat → Int32) (g6 : Nat → Nat → Int64), va_P (dC, dI) vwCl (([(h0, kO2 h7 h8 h9 n0_size h10 n0_names n0_plots h11 h1 h2 h3 h4 m0_ways), (h1, kAr cAlong 25 (fun j => some (h5 j))), (h2, kAr cAlong 5 (fun j => some (h6 j))), (h3, kAi cint 5 g3), (h4, kAi cint 5 g4)] : va_W) ++ (kk_rowsL h5 clong 40 F5 25 ++ (kk_rowsL h6 clong 5 g6 5))) t.heap ∧ va_K (dC, dI) vwCl [] t ∧ va_D (va_A (([(h0, kO2 h7 h8 h9 n0_size h10 n0_names n0_plots h11 h1 h2 h3 h4 n0_ways), (h1, kAr cAlong 25 (fun j => some (h5 j))), (h2, kAr cAlong 5 (fun j => some (h6 j))), (h3, kAi cint 5 f3), (h4, kAi cint 5 f4)] : va_W) ++ (kk_rowsL h5 clong 40 F5 25 ++ (kk_rowsL h6 clong 5 F6 5))) sz) (([(h0, kO2 h7 h8 h9 n0_size h10 n0_names n0_plots h11 h1 h2 h3 h4 m0_ways), (h1, kAr cAlong 25 (fun j => some (h5 j))), (h2, kAr cAlong 5 (fun j => some (h6 j))), (h3, kAi cint 5 g3), (h4, kAi cint 5 g4)] : va_W) ++ (kk_rowsL h5 clong 40 F5 25 ++ (kk_rowsL h6 clong 5 g6 5)))) (va_A (([(h0, kO2 h7 h8 h9 n0_size h10 n0_names n0_plots h11 h1 h2 h3 h4 n0_ways), (h1, kAr cAlong 25 (fun j => some (h5 j))), (h2, kAr cAlong 5 (fun j => some (h6 j))), (h3, kAi cint 5 f3), (h4, kAi cint 5 f4)] : va_W) ++ (kk_rowsL h5 clong 40 F5 25 ++ (kk_rowsL h6 clong 5 F6 5))) sz)) 0 0 (va_A (([(h0, kO2 h7 h8 h9 n0_size h10 n0_names n0_plots h11 h1 h2 h3 h4 n0_ways), (h1, kAr cAlong 25 (fun j => some (h5 j))), (h2, kAr cAlong 5 (fun j => some (h6 j))), (h3, kAi cint 5 f3), (h4, kAi cint 5 f4)] : va_W) ++ (kk_rowsL h5 clong 40 F5 25 ++ (kk_rowsL h6 clong 5 F6 5))) sz) := by
  refine Met.ofW (cc := cX2_search) (maxL := 3) (ret := none) (by decide) rfl ?_
  intro p e s m args below meth c s₁ B hml hv
  obtain ⟨rfl, hsz, hP, hK, hD0⟩ := hv
  have hx := B.exec
  have hb := B.bytes
  have hr := B.returns
  have hts := atoms_spec (ws := wsX2_search) B.pre
  have hown : s.vm.findClass RX2 = some m.cls := findClass_of_methodNamed B.named
  have hlocks := B.notSynchronized
  subst hsz
  have hD := hD0.self (sz := s.heap.size)
  generalize hAe : va_A (([(h0, kO2 h7 h8 h9 n0_size h10 n0_names n0_plots h11 h1 h2 h3 h4 n0_ways), (h1, kAr cAlong 25 (fun j => some (h5 j))), (h2, kAr cAlong 5 (fun j => some (h6 j))), (h3, kAi cint 5 f3), (h4, kAi cint 5 f4)] : va_W) ++ (kk_rowsL h5 clong 40 F5 25 ++ (kk_rowsL h6 clong 5 F6 5))) s.heap.size = A at hD ⊢
  have hA : ∀ q : Nat, s.heap.size ≤ q → A q := fun q h => by rw [← hAe]; exact Or.inr h
  have hS : va_S A s.heap s.heap [] := va_S.rf
  have hP : va_P (dC, dI) vwCl (([(h0, kO2 h7 h8 h9 n0_size h10 n0_names n0_plots h11 h1 h2 h3 h4 n0_ways), (h1, kAr cAlong 25 (fun j => some (h5 j))), (h2, kAr cAlong 5 (fun j => some (h6 j))), (h3, kAi cint 5 f3), (h4, kAi cint 5 f4)] : va_W) ++ (kk_rowsL h5 clong 40 F5 25 ++ (kk_rowsL h6 clong 5 F6 5))) s.heap := hP
  have hl := lv_entry ([.ref h0, .int 2]) (n := 3) (Nat.le_of_ble_eq_true rfl)
  rw [lg_entry_eq]
  generalize (lg_sl ([.ref h0, .int 2]) ++ List.replicate (3 - (lg_sl ([.ref h0, .int 2])).length) Slot.unset).toArray = ls at hl ⊢
  have hl : lv_has ls 3 [(0, .ref h0), (1, .int 2)] := hl
  refine lv_iload_n hx hb dX2_search_0 rfl (lv_at hl 1 rfl) ?_
  refine lv_aload_n hx hb dX2_search_1 rfl (lv_at hl 0 rfl) ?_
  refine va_get (D := (dC, dI)) (ci := 2) (v := .int n0_names) (C := RX2) (T := TX2) (N := 13) hx hb hts (fun _ h => List.mem_cons_of_mem _ (List.mem_append_right _ h)) hown hK hP 0 rfl rfl 5 (by decide) (hts (.fieldLink RX2 49 "KinkStreet$Deeds" "names" "I") (List.mem_of_getElem? (i := 1) rfl)) (fun _ h9 => h9) rfl dX2_search_2 ?_
  refine lv_iconst (v := 1) hx hb dX2_search_5 kk_ic_1 ?_
  refine lv_isub hx hb dX2_search_6 ?_
  refine lv_icmp_lt (tgt := 16) hx hb dX2_search_7 (by decide) (fun c_1 => ?_) (fun c_1 => ?_)
  · have t_1 : 2 < (n0_names - 1).toInt := kk_lt c_1
    refine lv_iconst (v := 0) hx hb dX2_search_16 kk_ic_0 ?_
    refine lv_istore_n hx hb dX2_search_17 rfl hl (by decide) (rfl : _ = ([(2, .int 0), (0, .ref h0), (1, .int 2)] : List (Nat × Value))) (fun ls hl => ?_)
    try have := kk_sub2 (x := n0_names) (y := 1) (a := n0_names.toInt) (b := 1) rfl rfl (by omega) (by omega)
    refine kk_loop (σ := Int32 × (Nat → Nat → Int64) × Int32 × (Nat → Int32) × (Nat → Int32)) (fun x H locs ls => (0 ≤ x.1.toInt ∧ x.1.toInt ≤ 40) ∧ va_P (dC, dI) vwCl (([(h0, kO2 h7 h8 h9 n0_size h10 n0_names n0_plots h11 h1 h2 h3 h4 x.2.2.1), (h1, kAr cAlong 25 (fun j => some (h5 j))), (h2, kAr cAlong 5 (fun j => some (h6 j))), (h3, kAi cint 5 x.2.2.2.1), (h4, kAi cint 5 x.2.2.2.2)] : va_W) ++ (kk_rowsL h5 clong 40 F5 25 ++ (kk_rowsL h6 clong 5 x.2.1 5))) H ∧ va_D A (([(h0, kO2 h7 h8 h9 n0_size h10 n0_names n0_plots h11 h1 h2 h3 h4 x.2.2.1), (h1, kAr cAlong 25 (fun j => some (h5 j))), (h2, kAr cAlong 5 (fun j => some (h6 j))), (h3, kAi cint 5 x.2.2.2.1), (h4, kAi cint 5 x.2.2.2.2)] : va_W) ++ (kk_rowsL h5 clong 40 F5 25 ++ (kk_rowsL h6 clong 5 x.2.1 5))) ∧ va_S A s.heap H locs ∧ lv_has ls 3 [(2, .int x.1), (0, .ref h0), (1, .int 2)]) (fun x => ((40 : Int) - x.1.toInt).toNat) ?_ (0, F6, n0_ways, f3, f4) _ _ _ ⟨(by show 0 ≤ (0 : Int32).toInt ∧ (0 : Int32).toInt ≤ 40; first | decide | ((omega))), hP, hD, hS, hl⟩
    rintro ⟨i_2_0, f_2_1, i_2_2, f_2_3, f_2_4⟩ H locs ls ⟨t_2_0, hP, hD, hS, hl⟩ ih_2
    have t_2_0 : (0 ≤ i_2_0.toInt ∧ i_2_0.toInt ≤ 40) := t_2_0
    have hl : lv_has ls 3 [(2, .int i_2_0), (0, .ref h0), (1, .int 2)] := hl
    have hP : va_P (dC, dI) vwCl (([(h0, kO2 h7 h8 h9 n0_size h10 n0_names n0_plots h11 h1 h2 h3 h4 i_2_2), (h1, kAr cAlong 25 (fun j => some (h5 j))), (h2, kAr cAlong 5 (fun j => some (h6 j))), (h3, kAi cint 5 f_2_3), (h4, kAi cint 5 f_2_4)] : va_W) ++ (kk_rowsL h5 clong 40 F5 25 ++ (kk_rowsL h6 clong 5 f_2_1 5))) H := hP
    have hD : va_D A (([(h0, kO2 h7 h8 h9 n0_size h10 n0_names n0_plots h11 h1 h2 h3 h4 i_2_2), (h1, kAr cAlong 25 (fun j => some (h5 j))), (h2, kAr cAlong 5 (fun j => some (h6 j))), (h3, kAi cint 5 f_2_3), (h4, kAi cint 5 f_2_4)] : va_W) ++ (kk_rowsL h5 clong 40 F5 25 ++ (kk_rowsL h6 clong 5 f_2_1 5))) := hD
    refine lv_iload_n hx hb dX2_search_18 rfl (lv_at hl 0 rfl) ?_
    refine lv_aload_n hx hb dX2_search_19 rfl (lv_at hl 1 rfl) ?_
    refine va_get (D := (dC, dI)) (ci := 2) (v := .int n0_plots) (C := RX2) (T := TX2) (N := 13) hx hb hts (fun _ h => List.mem_cons_of_mem _ (List.mem_append_right _ h)) hown hK hP 0 rfl rfl 6 (by decide) (hts (.fieldLink RX2 67 "KinkStreet$Deeds" "plots" "I") (List.mem_of_getElem? (i := 2) rfl)) (fun _ h9 => h9) rfl dX2_search_20 ?_
    refine lv_icmp_ge (tgt := 81) hx hb dX2_search_23 (by decide) (fun c_3 => ?_) (fun c_3 => ?_)
    · have t_3 : n0_plots.toInt ≤ i_2_0.toInt := kk_le c_3
      have hP9 := hP.part (cx := [(h0, kO2 h7 h8 h9 n0_size h10 n0_names n0_plots h11 h1 h2 h3 h4 i_2_2), (h1, kAr cAlong 25 (fun j => some (h5 j))), (h2, kAr cAlong 5 (fun j => some (h6 j))), (h3, kAi cint 5 f_2_3), (h4, kAi cint 5 f_2_4)]) [0, 1, 2, 3, 4] rfl
      have hD9 := hD.part (cx := [(h0, kO2 h7 h8 h9 n0_size h10 n0_names n0_plots h11 h1 h2 h3 h4 i_2_2), (h1, kAr cAlong 25 (fun j => some (h5 j))), (h2, kAr cAlong 5 (fun j => some (h6 j))), (h3, kAi cint 5 f_2_3), (h4, kAi cint 5 f_2_4)]) [0, 1, 2, 3, 4] (by decide) rfl
      have hK9 := kk_Ks (tq := []) hK [] rfl
      exact W.vret hx hb hr (fun t ht hW => ⟨⟨(), rfl, trivial, i_2_2, f_2_3, f_2_4, f_2_1, by rw [ht]; exact hP9, va_K.moved hW.alike hK9, hD9⟩, hS.F ht⟩) hS.2.2 dX2_search_81
    · have t_3 : i_2_0.toInt < n0_plots.toInt := kk_nle c_3
      refine lv_aload_n hx hb dX2_search_26 rfl (lv_at hl 1 rfl) ?_
      refine va_get (D := (dC, dI)) (ci := 2) (v := .int i_2_2) (C := RX2) (T := TX2) (N := 13) hx hb hts (fun _ h => List.mem_cons_of_mem _ (List.mem_append_right _ h)) hown hK hP 0 rfl rfl 12 (by decide) (hts (.fieldLink RX2 70 "KinkStreet$Deeds" "ways" "I") (List.mem_of_getElem? (i := 3) rfl)) (fun _ h9 => h9) rfl dX2_search_27 ?_
      refine lv_ldc hx hb hown (hts _ (List.mem_of_getElem? (i := 4) rfl)) dX2_search_30 ?_
      refine lv_icmp_ge (tgt := 81) hx hb dX2_search_32 (by decide) (fun c_4 => ?_) (fun c_4 => ?_)
      · have t_4 : 1000000 ≤ i_2_2.toInt := kk_le c_4
        have hP9 := hP.part (cx := [(h0, kO2 h7 h8 h9 n0_size h10 n0_names n0_plots h11 h1 h2 h3 h4 i_2_2), (h1, kAr cAlong 25 (fun j => some (h5 j))), (h2, kAr cAlong 5 (fun j => some (h6 j))), (h3, kAi cint 5 f_2_3), (h4, kAi cint 5 f_2_4)]) [0, 1, 2, 3, 4] rfl
        have hD9 := hD.part (cx := [(h0, kO2 h7 h8 h9 n0_size h10 n0_names n0_plots h11 h1 h2 h3 h4 i_2_2), (h1, kAr cAlong 25 (fun j => some (h5 j))), (h2, kAr cAlong 5 (fun j => some (h6 j))), (h3, kAi cint 5 f_2_3), (h4, kAi cint 5 f_2_4)]) [0, 1, 2, 3, 4] (by decide) rfl
        have hK9 := kk_Ks (tq := []) hK [] rfl
        exact W.vret hx hb hr (fun t ht hW => ⟨⟨(), rfl, trivial, i_2_2, f_2_3, f_2_4, f_2_1, by rw [ht]; exact hP9, va_K.moved hW.alike hK9, hD9⟩, hS.F ht⟩) hS.2.2 dX2_search_81
      · have t_4 : i_2_2.toInt < 1000000 := kk_nle c_4
        refine lv_aload_n hx hb dX2_search_35 rfl (lv_at hl 1 rfl) ?_
        refine va_get (D := (dC, dI)) (ci := 2) (v := .ref h2) (C := RX2) (T := TX2) (N := 13) hx hb hts (fun _ h => List.mem_cons_of_mem _ (List.mem_append_right _ h)) hown hK hP 0 rfl rfl 9 (by decide) (hts (.fieldLink RX2 32 "KinkStreet$Deeds" "open" "[[J") (List.mem_of_getElem? (i := 5) rfl)) (fun _ h9 => h9) rfl dX2_search_36 ?_
        refine lv_iload_n hx hb dX2_search_39 rfl (lv_at hl 2 rfl) ?_
        have hi_5 : vp_in (2 : Int32) 5 := (by unfold vp_in; decide)
        have hk_5 : (2 : Int32).toNatClampNeg < 5 := Nat.not_le.mp fun q => hi_5 (Or.inr q)
        refine kk_aald hx hb hK hP 2 0 rfl rfl hi_5 dX2_search_40 ?_
        refine W.eq (g2 := F0 m 41 ls [.ref (h6 (2 : Int32).toNatClampNeg)]) rfl ?_
        refine lv_iload_n hx hb dX2_search_41 rfl (lv_at hl 2 rfl) ?_
        refine va_lald hx hb hK hP _ 2 (kk_getr (kk_getr (kk_rowL hk_5))) rfl (by unfold vp_in; decide) dX2_search_42 ?_
        refine lv_topl (fun y_6 e_6 => ?_)
        clear e_6
        refine lv_iload_n hx hb dX2_search_43 rfl (lv_at hl 0 rfl) ?_
        refine lv_lushr hx hb dX2_search_44 rfl ?_
        refine lv_topl (fun y_7 e_7 => ?_)
        clear e_7
        refine lv_lconst (v := 1) hx hb dX2_search_45 (by decide) ?_
        refine lv_land hx hb dX2_search_46 ?_
        refine lv_topl (fun y_8 e_8 => ?_)
        clear e_8
        refine lv_lconst (v := 0) hx hb dX2_search_47 (by decide) ?_
        refine W.lcmp hx hb dX2_search_48 ?_
        refine lv_if_eq (tgt := 75) hx hb dX2_search_49 (by decide) (fun _ => ?_) (fun _ => ?_)
        · skip
          refine lv_iinc (v := (i_2_0 + 1)) hx hb dX2_search_75 hl (k := 0) rfl (by first | rfl | decide) (by decide) (rfl : _ = ([(2, .int (i_2_0 + 1)), (0, .ref h0), (1, .int 2)] : List (Nat × Value))) (fun ls hl => ?_)
          refine lv_goto (tgt := 18) hx hb dX2_search_78 (by decide) ?_
          try have := kk_rng i_2_2
          try have := kk_add2 (x := i_2_0) (y := 1) (a := i_2_0.toInt) (b := 1) rfl rfl (by omega) (by omega)
          exact ih_2 ((i_2_0 + 1), f_2_1, i_2_2, f_2_3, f_2_4) _ _ _ (by show ((40 : Int) - ((i_2_0 + 1)).toInt).toNat < ((40 : Int) - i_2_0.toInt).toNat; exact kk_mu (by omega) (by omega)) ⟨(by show 0 ≤ ((i_2_0 + 1) : Int32).toInt ∧ ((i_2_0 + 1) : Int32).toInt ≤ 40; first | decide | ((omega))), hP, hD, hS, lv_sub hl [0, 1, 2] rfl⟩
        · skip
          refine lv_aload_n hx hb dX2_search_52 rfl (lv_at hl 1 rfl) ?_
          refine lv_iload_n hx hb dX2_search_53 rfl (lv_at hl 2 rfl) ?_
          refine lv_iload_n hx hb dX2_search_54 rfl (lv_at hl 0 rfl) ?_
          have hPc := hP.part (cx := [(h0, kO2 h7 h8 h9 n0_size h10 n0_names n0_plots h11 h1 h2 h3 h4 i_2_2), (h1, kAr cAlong 25 (fun j => some (h5 j))), (h2, kAr cAlong 5 (fun j => some (h6 j)))]) [0, 1, 2] rfl
          have hDc := hD.part (cx := [(h0, kO2 h7 h8 h9 n0_size h10 n0_names n0_plots h11 h1 h2 h3 h4 i_2_2), (h1, kAr cAlong 25 (fun j => some (h5 j))), (h2, kAr cAlong 5 (fun j => some (h6 j)))]) [0, 1, 2] (by decide) rfl
          have hFc := va_freeP (cx := [(h0, kO2 h7 h8 h9 n0_size h10 n0_names n0_plots h11 h1 h2 h3 h4 i_2_2), (h1, kAr cAlong 25 (fun j => some (h5 j))), (h2, kAr cAlong 5 (fun j => some (h6 j)))]) hD hS hA [0, 1, 2] rfl
          have hKc := kk_Ks (tq := [(cAlong, .array .long), (clong, .long)]) hK [0, 2] rfl
          try have := kk_rng i_2_2
          refine va_calli (va_runV (As := [.int 2, .int i_2_0]) (rest := []) ⟨hx, hb, hml, hown, hts⟩ (g_X2_narrow_2 l dC dI h0 h1 h2 h5 h6 h7 h8 h9 h10 h11 h3 h4 cAlong clong H.size i_2_0 (by show 0 ≤ (i_2_0 : Int32).toInt ∧ (i_2_0 : Int32).toInt ≤ 39; first | decide | ((omega))) n0_size n0_names n0_plots i_2_2 F5 f_2_1 tn0_size tn0_names tn0_plots) (cwV 2 hts gX2_search_X2_narrow rfl rfl rfl ⟨rfl, kh_X2_narrow⟩ ⟨Nat.le_of_ble_eq_true rfl, Nat.le_of_ble_eq_true rfl⟩) ⟨fun a U g mk q => by obtain ⟨q0, q1, qP, qK, qD⟩ := q; exact ⟨q0, q1, qP, va_K.moved (u := U) (U := U.calling g mk a) (Vm.Alike.refl U.vm) qK, qD⟩, va_recv hKc hPc (ci := 2) (q0 := 0) rfl rfl, fun U hU hW => ⟨rfl, by rw [hU], by rw [hU]; exact hPc, va_K.moved hW.alike hKc, hDc.weaken (fun _ _ _ _ => trivial)⟩⟩ rfl rfl hl.1 rfl (lv_room (Nat.le_of_ble_eq_true rfl)) dX2_search_55 ⟨Nat.le_of_ble_eq_true rfl, Nat.le_of_ble_eq_true rfl⟩) hS (fun q _ h => hFc q h) hFc (fun r_9 u t H1 locs ht hvm hw hB hz1 hk1 hS => ?_)
          obtain ⟨f_10, hP1, hK1, hD1⟩ := hB
          rw [ht] at hP1
          have hK1 := va_K.moved hvm.symm hK1
          obtain ⟨hP, hD⟩ := va_joinP (cx := [(h0, kO2 h7 h8 h9 n0_size h10 n0_names n0_plots h11 h1 h2 h3 h4 i_2_2), (h1, kAr cAlong 25 (fun j => some (h5 j))), (h2, kAr cAlong 5 (fun j => some (h6 j)))]) (wr := [(h3, kAi cint 5 f_2_3), (h4, kAi cint 5 f_2_4)]) (rx := [(h0, kO2 h7 h8 h9 n0_size h10 n0_names n0_plots h11 h1 h2 h3 h4 i_2_2), (h1, kAr cAlong 25 (fun j => some (h5 j))), (h2, kAr cAlong 5 (fun j => some (h6 j)))]) hP hD [0, 1, 2] [3, 4] rfl rfl (by decide) (by decide) hk1 hFc hP1 hD1
          generalize H1 = H at hP hS ⊢
          have hP : va_P (dC, dI) vwCl (([(h3, kAi cint 5 f_2_3), (h4, kAi cint 5 f_2_4), (h0, kO2 h7 h8 h9 n0_size h10 n0_names n0_plots h11 h1 h2 h3 h4 i_2_2), (h1, kAr cAlong 25 (fun j => some (h5 j))), (h2, kAr cAlong 5 (fun j => some (h6 j)))] : va_W) ++ (kk_rowsL h5 clong 40 F5 25 ++ (kk_rowsL h6 clong 5 f_10 5))) H := hP
          have hD : va_D A (([(h3, kAi cint 5 f_2_3), (h4, kAi cint 5 f_2_4), (h0, kO2 h7 h8 h9 n0_size h10 n0_names n0_plots h11 h1 h2 h3 h4 i_2_2), (h1, kAr cAlong 25 (fun j => some (h5 j))), (h2, kAr cAlong 5 (fun j => some (h6 j)))] : va_W) ++ (kk_rowsL h5 clong 40 F5 25 ++ (kk_rowsL h6 clong 5 f_10 5))) := hD
          rcases hw with ⟨t_9_0, rfl⟩ | ⟨rfl⟩
          · skip
            have t_9_0 : (4 : Int) ≤ n0_names.toInt := t_9_0
            refine lv_if_eq (tgt := 75) hx hb dX2_search_58 (by decide) (fun _ => ?_) (fun c => absurd c (by decide))
            refine lv_iinc (v := (i_2_0 + 1)) hx hb dX2_search_75 hl (k := 0) rfl (by first | rfl | decide) (by decide) (rfl : _ = ([(2, .int (i_2_0 + 1)), (0, .ref h0), (1, .int 2)] : List (Nat × Value))) (fun ls hl => ?_)
            refine lv_goto (tgt := 18) hx hb dX2_search_78 (by decide) ?_
            try have := kk_add2 (x := i_2_0) (y := 1) (a := i_2_0.toInt) (b := 1) rfl rfl (by omega) (by omega)
            exact ih_2 ((i_2_0 + 1), f_10, i_2_2, f_2_3, f_2_4) _ _ _ (by show ((40 : Int) - ((i_2_0 + 1)).toInt).toNat < ((40 : Int) - i_2_0.toInt).toNat; exact kk_mu (by omega) (by omega)) ⟨(by show 0 ≤ ((i_2_0 + 1) : Int32).toInt ∧ ((i_2_0 + 1) : Int32).toInt ≤ 40; first | decide | ((omega))), hP.part (cx := [(h0, kO2 h7 h8 h9 n0_size h10 n0_names n0_plots h11 h1 h2 h3 h4 i_2_2), (h1, kAr cAlong 25 (fun j => some (h5 j))), (h2, kAr cAlong 5 (fun j => some (h6 j))), (h3, kAi cint 5 f_2_3), (h4, kAi cint 5 f_2_4)]) [2, 3, 4, 0, 1] rfl, hD.part (cx := [(h0, kO2 h7 h8 h9 n0_size h10 n0_names n0_plots h11 h1 h2 h3 h4 i_2_2), (h1, kAr cAlong 25 (fun j => some (h5 j))), (h2, kAr cAlong 5 (fun j => some (h6 j))), (h3, kAi cint 5 f_2_3), (h4, kAi cint 5 f_2_4)]) [2, 3, 4, 0, 1] (by decide) rfl, hS, lv_sub hl [0, 1, 2] rfl⟩
          · skip
            refine lv_if_eq (tgt := 75) hx hb dX2_search_58 (by decide) (fun c => absurd c (by decide)) (fun _ => ?_)
            refine lv_aload_n hx hb dX2_search_61 rfl (lv_at hl 1 rfl) ?_
            refine va_get (D := (dC, dI)) (ci := 2) (v := .ref h3) (C := RX2) (T := TX2) (N := 13) hx hb hts (fun _ h => List.mem_cons_of_mem _ (List.mem_append_right _ h)) hown hK hP 2 rfl rfl 10 (by decide) (hts (.fieldLink RX2 35 "KinkStreet$Deeds" "tried" "[I") (List.mem_of_getElem? (i := 6) rfl)) (fun _ h9 => h9) rfl dX2_search_62 ?_
            refine lv_iload_n hx hb dX2_search_65 rfl (lv_at hl 2 rfl) ?_
            refine lv_iload_n hx hb dX2_search_66 rfl (lv_at hl 0 rfl) ?_
            refine va_iast hx hb hK hP hD hS 0 1 rfl rfl (by unfold vp_in; decide) dX2_search_67 (fun H locs hP hD hS => ?_)
            generalize upd f_2_3 (2 : Int32).toNatClampNeg i_2_0 = f_11 at hP hD
            have hP : va_P (dC, dI) vwCl (([(h3, kAi cint 5 f_11), (h4, kAi cint 5 f_2_4), (h0, kO2 h7 h8 h9 n0_size h10 n0_names n0_plots h11 h1 h2 h3 h4 i_2_2), (h1, kAr cAlong 25 (fun j => some (h5 j))), (h2, kAr cAlong 5 (fun j => some (h6 j)))] : va_W) ++ (kk_rowsL h5 clong 40 F5 25 ++ (kk_rowsL h6 clong 5 f_10 5))) H := hP
            have hD : va_D A (([(h3, kAi cint 5 f_11), (h4, kAi cint 5 f_2_4), (h0, kO2 h7 h8 h9 n0_size h10 n0_names n0_plots h11 h1 h2 h3 h4 i_2_2), (h1, kAr cAlong 25 (fun j => some (h5 j))), (h2, kAr cAlong 5 (fun j => some (h6 j)))] : va_W) ++ (kk_rowsL h5 clong 40 F5 25 ++ (kk_rowsL h6 clong 5 f_10 5))) := hD
            refine lv_aload_n hx hb dX2_search_68 rfl (lv_at hl 1 rfl) ?_
            refine lv_iload_n hx hb dX2_search_69 rfl (lv_at hl 2 rfl) ?_
            refine lv_iconst (v := 1) hx hb dX2_search_70 kk_ic_1 ?_
            refine lv_iadd hx hb dX2_search_71 ?_
            refine lv_topi (fun y_12 e_12 => ?_)
            obtain rfl : y_12 = 3 := e_12.trans (by decide)
            have hPc := hP.part (cx := [(h0, kO2 h7 h8 h9 n0_size h10 n0_names n0_plots h11 h1 h2 h3 h4 i_2_2), (h1, kAr cAlong 25 (fun j => some (h5 j))), (h2, kAr cAlong 5 (fun j => some (h6 j))), (h3, kAi cint 5 f_11), (h4, kAi cint 5 f_2_4)]) [2, 3, 4, 0, 1] rfl
            have hDc := hD.part (cx := [(h0, kO2 h7 h8 h9 n0_size h10 n0_names n0_plots h11 h1 h2 h3 h4 i_2_2), (h1, kAr cAlong 25 (fun j => some (h5 j))), (h2, kAr cAlong 5 (fun j => some (h6 j))), (h3, kAi cint 5 f_11), (h4, kAi cint 5 f_2_4)]) [2, 3, 4, 0, 1] (by decide) rfl
            have hFc := va_freeP (cx := [(h0, kO2 h7 h8 h9 n0_size h10 n0_names n0_plots h11 h1 h2 h3 h4 i_2_2), (h1, kAr cAlong 25 (fun j => some (h5 j))), (h2, kAr cAlong 5 (fun j => some (h6 j))), (h3, kAi cint 5 f_11), (h4, kAi cint 5 f_2_4)]) hD hS hA [2, 3, 4, 0, 1] rfl
            have hKc := kk_Ks (tq := [(cAlong, .array .long), (cint, .int), (clong, .long)]) hK [0, 1, 2] rfl
            refine va_callv (va_runV (As := [.int 3]) (rest := []) ⟨hx, hb, hml, hown, hts⟩ (g_X2_search_1 l dC dI h0 h1 h2 h3 h4 h5 h6 h7 h8 h9 h10 h11 cAlong cint clong H.size n0_size n0_names n0_plots i_2_2 f_11 f_2_4 F5 f_10 tn0_size tn0_names tn0_plots) (cwV 1 hts gX2_search_X2_search rfl rfl rfl ⟨rfl, kh_X2_search⟩ ⟨Nat.le_of_ble_eq_true rfl, Nat.le_of_ble_eq_true rfl⟩) ⟨fun a U g mk q => by obtain ⟨q0, q1, qP, qK, qD⟩ := q; exact ⟨q0, q1, qP, va_K.moved (u := U) (U := U.calling g mk a) (Vm.Alike.refl U.vm) qK, qD⟩, va_recv hKc hPc (ci := 2) (q0 := 0) rfl rfl, fun U hU hW => ⟨rfl, by rw [hU], by rw [hU]; exact hPc, va_K.moved hW.alike hKc, hDc.weaken (fun _ _ _ _ => trivial)⟩⟩ rfl rfl hl.1 rfl (lv_room (Nat.le_of_ble_eq_true rfl)) dX2_search_72 ⟨Nat.le_of_ble_eq_true rfl, Nat.le_of_ble_eq_true rfl⟩) hS (fun q _ h => hFc q h) hFc (fun u t H1 locs ht hvm hw hB hz1 hk1 hS => ?_)
            refine hB.elim (fun y_14 hB => ?_)
            refine hB.elim (fun f_15 hB => ?_)
            refine hB.elim (fun f_16 hB => ?_)
            refine hB.elim (fun f_17 hB => ?_)
            have hP1 := hB.1
            have hK1 := hB.2.1
            have hD1 := hB.2.2
            rw [ht] at hP1
            have hK1 := va_K.moved hvm.symm hK1
            obtain ⟨hP, hD⟩ := va_joinP (cx := [(h0, kO2 h7 h8 h9 n0_size h10 n0_names n0_plots h11 h1 h2 h3 h4 i_2_2), (h1, kAr cAlong 25 (fun j => some (h5 j))), (h2, kAr cAlong 5 (fun j => some (h6 j))), (h3, kAi cint 5 f_11), (h4, kAi cint 5 f_2_4)]) (wr := []) (rx := [(h0, kO2 h7 h8 h9 n0_size h10 n0_names n0_plots h11 h1 h2 h3 h4 y_14), (h1, kAr cAlong 25 (fun j => some (h5 j))), (h2, kAr cAlong 5 (fun j => some (h6 j))), (h3, kAi cint 5 f_15), (h4, kAi cint 5 f_16)]) hP hD [2, 3, 4, 0, 1] [] rfl rfl (by decide) (by decide) hk1 hFc hP1 hD1
            generalize H1 = H at hP hS ⊢
            have hP : va_P (dC, dI) vwCl (([(h0, kO2 h7 h8 h9 n0_size h10 n0_names n0_plots h11 h1 h2 h3 h4 y_14), (h1, kAr cAlong 25 (fun j => some (h5 j))), (h2, kAr cAlong 5 (fun j => some (h6 j))), (h3, kAi cint 5 f_15), (h4, kAi cint 5 f_16)] : va_W) ++ (kk_rowsL h5 clong 40 F5 25 ++ (kk_rowsL h6 clong 5 f_17 5))) H := hP
            have hD : va_D A (([(h0, kO2 h7 h8 h9 n0_size h10 n0_names n0_plots h11 h1 h2 h3 h4 y_14), (h1, kAr cAlong 25 (fun j => some (h5 j))), (h2, kAr cAlong 5 (fun j => some (h6 j))), (h3, kAi cint 5 f_15), (h4, kAi cint 5 f_16)] : va_W) ++ (kk_rowsL h5 clong 40 F5 25 ++ (kk_rowsL h6 clong 5 f_17 5))) := hD
            refine lv_iinc (v := (i_2_0 + 1)) hx hb dX2_search_75 hl (k := 0) rfl (by first | rfl | decide) (by decide) (rfl : _ = ([(2, .int (i_2_0 + 1)), (0, .ref h0), (1, .int 2)] : List (Nat × Value))) (fun ls hl => ?_)
            refine lv_goto (tgt := 18) hx hb dX2_search_78 (by decide) ?_
            try have := kk_add2 (x := i_2_0) (y := 1) (a := i_2_0.toInt) (b := 1) rfl rfl (by omega) (by omega)
            exact ih_2 ((i_2_0 + 1), f_17, y_14, f_15, f_16) _ _ _ (by show ((40 : Int) - ((i_2_0 + 1)).toInt).toNat < ((40 : Int) - i_2_0.toInt).toNat; exact kk_mu (by omega) (by omega)) ⟨(by show 0 ≤ ((i_2_0 + 1) : Int32).toInt ∧ ((i_2_0 + 1) : Int32).toInt ≤ 40; first | decide | ((omega))), hP, hD, hS, lv_sub hl [0, 1, 2] rfl⟩
  · have t_1 : (n0_names - 1).toInt ≤ 2 := kk_nlt c_1
    refine lv_aload_n hx hb dX2_search_10 rfl (lv_at hl 0 rfl) ?_
    refine lv_iload_n hx hb dX2_search_11 rfl (lv_at hl 1 rfl) ?_
    have hPc := hP.part (cx := [(h0, kO2 h7 h8 h9 n0_size h10 n0_names n0_plots h11 h1 h2 h3 h4 n0_ways), (h1, kAr cAlong 25 (fun j => some (h5 j))), (h2, kAr cAlong 5 (fun j => some (h6 j))), (h3, kAi cint 5 f3), (h4, kAi cint 5 f4)]) [0, 1, 2, 3, 4] rfl
    have hDc := hD.part (cx := [(h0, kO2 h7 h8 h9 n0_size h10 n0_names n0_plots h11 h1 h2 h3 h4 n0_ways), (h1, kAr cAlong 25 (fun j => some (h5 j))), (h2, kAr cAlong 5 (fun j => some (h6 j))), (h3, kAi cint 5 f3), (h4, kAi cint 5 f4)]) [0, 1, 2, 3, 4] (by decide) rfl
    have hFc := va_freeP (cx := [(h0, kO2 h7 h8 h9 n0_size h10 n0_names n0_plots h11 h1 h2 h3 h4 n0_ways), (h1, kAr cAlong 25 (fun j => some (h5 j))), (h2, kAr cAlong 5 (fun j => some (h6 j))), (h3, kAi cint 5 f3), (h4, kAi cint 5 f4)]) hD hS hA [0, 1, 2, 3, 4] rfl
    have hKc := kk_Ks (tq := [(cAlong, .array .long), (cint, .int), (clong, .long)]) hK [0, 1, 2] rfl
    refine va_callv (va_runV (As := [.int 2]) (rest := []) ⟨hx, hb, hml, hown, hts⟩ (g_X2_countWays_2 l dC dI h0 h1 h2 h3 h4 h5 h6 h7 h8 h9 h10 h11 cAlong cint clong s.heap.size n0_size n0_names n0_plots n0_ways f3 f4 F5 F6 tn0_size tn0_names tn0_plots) (cwV 1 hts gX2_search_X2_countWays rfl rfl rfl ⟨rfl, kh_X2_countWays⟩ ⟨Nat.le_of_ble_eq_true rfl, Nat.le_of_ble_eq_true rfl⟩) ⟨fun a U g mk q => by obtain ⟨q0, q1, qP, qK, qD⟩ := q; exact ⟨q0, q1, qP, va_K.moved (u := U) (U := U.calling g mk a) (Vm.Alike.refl U.vm) qK, qD⟩, va_recv hKc hPc (ci := 2) (q0 := 0) rfl rfl, fun U hU hW => ⟨rfl, by rw [hU], by rw [hU]; exact hPc, va_K.moved hW.alike hKc, hDc.weaken (fun _ _ _ _ => trivial)⟩⟩ rfl rfl hl.1 rfl (lv_room (Nat.le_of_ble_eq_true rfl)) dX2_search_12 ⟨Nat.le_of_ble_eq_true rfl, Nat.le_of_ble_eq_true rfl⟩) hS (fun q _ h => hFc q h) hFc (fun u t H1 locs ht hvm hw hB hz1 hk1 hS => ?_)
    refine hB.elim (fun y_19 hB => ?_)
    refine hB.elim (fun f_20 hB => ?_)
    refine hB.elim (fun f_21 hB => ?_)
    have hP1 := hB.1
    have hK1 := hB.2.1
    have hD1 := hB.2.2
    rw [ht] at hP1
    have hK1 := va_K.moved hvm.symm hK1
    obtain ⟨hP, hD⟩ := va_joinP (cx := [(h0, kO2 h7 h8 h9 n0_size h10 n0_names n0_plots h11 h1 h2 h3 h4 n0_ways), (h1, kAr cAlong 25 (fun j => some (h5 j))), (h2, kAr cAlong 5 (fun j => some (h6 j))), (h3, kAi cint 5 f3), (h4, kAi cint 5 f4)]) (wr := []) (rx := [(h0, kO2 h7 h8 h9 n0_size h10 n0_names n0_plots h11 h1 h2 h3 h4 y_19), (h1, kAr cAlong 25 (fun j => some (h5 j))), (h2, kAr cAlong 5 (fun j => some (h6 j))), (h3, kAi cint 5 f_20), (h4, kAi cint 5 f_21)]) hP hD [0, 1, 2, 3, 4] [] rfl rfl (by decide) (by decide) hk1 hFc hP1 hD1
    generalize H1 = H at hP hS ⊢
    have hP : va_P (dC, dI) vwCl (([(h0, kO2 h7 h8 h9 n0_size h10 n0_names n0_plots h11 h1 h2 h3 h4 y_19), (h1, kAr cAlong 25 (fun j => some (h5 j))), (h2, kAr cAlong 5 (fun j => some (h6 j))), (h3, kAi cint 5 f_20), (h4, kAi cint 5 f_21)] : va_W) ++ (kk_rowsL h5 clong 40 F5 25 ++ (kk_rowsL h6 clong 5 F6 5))) H := hP
    have hD : va_D A (([(h0, kO2 h7 h8 h9 n0_size h10 n0_names n0_plots h11 h1 h2 h3 h4 y_19), (h1, kAr cAlong 25 (fun j => some (h5 j))), (h2, kAr cAlong 5 (fun j => some (h6 j))), (h3, kAi cint 5 f_20), (h4, kAi cint 5 f_21)] : va_W) ++ (kk_rowsL h5 clong 40 F5 25 ++ (kk_rowsL h6 clong 5 F6 5))) := hD
    have hP9 := hP.part (cx := [(h0, kO2 h7 h8 h9 n0_size h10 n0_names n0_plots h11 h1 h2 h3 h4 y_19), (h1, kAr cAlong 25 (fun j => some (h5 j))), (h2, kAr cAlong 5 (fun j => some (h6 j))), (h3, kAi cint 5 f_20), (h4, kAi cint 5 f_21)]) [0, 1, 2, 3, 4] rfl
    have hD9 := hD.part (cx := [(h0, kO2 h7 h8 h9 n0_size h10 n0_names n0_plots h11 h1 h2 h3 h4 y_19), (h1, kAr cAlong 25 (fun j => some (h5 j))), (h2, kAr cAlong 5 (fun j => some (h6 j))), (h3, kAi cint 5 f_20), (h4, kAi cint 5 f_21)]) [0, 1, 2, 3, 4] (by decide) rfl
    have hK9 := kk_Ks (tq := []) hK [] rfl
    exact W.vret hx hb hr (fun t ht hW => ⟨⟨(), rfl, trivial, y_19, f_20, f_21, F6, by rw [ht]; exact hP9, va_K.moved hW.alike hK9, hD9⟩, hS.F ht⟩) hS.2.2 dX2_search_15
set_option maxHeartbeats 4000000 in
set_option maxRecDepth 100000 in
theorem g_X2_countWays_3 (l : Launch) (dC : Nat → ClassId) (dI : Nat → Nat → Nat) (h0 : Nat) (h1 : Nat) (h2 : Nat) (h3 : Nat) (h4 : Nat) (h5 : Nat → Nat) (h6 : Nat → Nat) (h7 : Nat) (h8 : Nat) (h9 : Nat) (h10 : Nat) (h11 : Nat) (cAlong cint clong : ClassId) (sz : Nat) (n0_size : Int32) (n0_names : Int32) (n0_plots : Int32) (n0_ways : Int32) (f3 : Nat → Int32) (f4 : Nat → Int32) (F5 : Nat → Nat → Int64) (F6 : Nat → Nat → Int64) (tn0_size : kk_bx (0 ≤ n0_size.toInt ∧ n0_size.toInt ≤ 10)) (tn0_names : kk_bx (1 ≤ n0_names.toInt ∧ n0_names.toInt ≤ 5)) (tn0_plots : kk_bx (0 ≤ n0_plots.toInt ∧ n0_plots.toInt ≤ 40)) : Met l yX2_countWays wsX2_countWays ({ frames := 2, cells := 0, slots := 0, locals := 48 }) (va_Pc [.ref h0, .int 1] (fun U => U.heap.size = sz ∧ va_P (dC, dI) vwCl (([(h0, kO2 h7 h8 h9 n0_size h10 n0_names n0_plots h11 h1 h2 h3 h4 n0_ways), (h1, kAr cAlong 25 (fun j => some (h5 j))), (h2, kAr cAlong 5 (fun j => some (h6 j))), (h3, kAi cint 5 f3), (h4, kAi cint 5 f4)] : va_W) ++ (kk_rowsL h5 clong 40 F5 25 ++ (kk_rowsL h6 clong 5 F6 5))) U.heap ∧ va_K (dC, dI) vwCl [(cAlong, .array .long), (cint, .int), (clong, .long)] U ∧ va_D (fun _ => True) (([(h0, kO2 h7 h8 h9 n0_size h10 n0_names n0_plots h11 h1 h2 h3 h4 n0_ways), (h1, kAr cAlong 25 (fun j => some (h5 j))), (h2, kAr cAlong 5 (fun j => some (h6 j))), (h3, kAi cint 5 f3), (h4, kAi cint 5 f4)] : va_W) ++ (kk_rowsL h5 clong 40 F5 25 ++ (kk_rowsL h6 clong 5 F6 5))))) (va_Qv (fun (_ : Unit) => True) (fun (_ : Unit) t => ∃ (m0_ways : Int32) (g3 : Nat → Int32) (g4 : Nat → Int32), va_P (dC, dI) vwCl (([(h0, kO2 h7 h8 h9 n0_size h10 n0_names n0_plots h11 h1 h2 h3 h4 m0_ways), (h1, kAr cAlong 25 (fun j => some (h5 j))), (h2, kAr cAlong 5 (fun j => some (h6 j))), (h3, kAi cint 5 g3), (h4, kAi cint 5 g4)] : va_W) ++ (kk_rowsL h5 clong 40 F5 25 ++ (kk_rowsL h6 clong 5 F6 5))) t.heap ∧ va_K (dC, dI) vwCl [] t ∧ va_D (va_A (([(h0, kO2 h7 h8 h9 n0_size h10 n0_names n0_plots h11 h1 h2 h3 h4 n0_ways), (h1, kAr cAlong 25 (fun j => some (h5 j))), (h2, kAr cAlong 5 (fun j => some (h6 j))), (h3, kAi cint 5 f3), (h4, kAi cint 5 f4)] : va_W) ++ (kk_rowsL h5 clong 40 F5 25 ++ (kk_rowsL h6 clong 5 F6 5))) sz) (([(h0, kO2 h7 h8 h9 n0_size h10 n0_names n0_plots h11 h1 h2 h3 h4 m0_ways), (h1, kAr cAlong 25 (fun j => some (h5 j))), (h2, kAr cAlong 5 (fun j => some (h6 j))), (h3, kAi cint 5 g3), (h4, kAi cint 5 g4)] : va_W) ++ (kk_rowsL h5 clong 40 F5 25 ++ (kk_rowsL h6 clong 5 F6 5)))) (va_A (([(h0, kO2 h7 h8 h9 n0_size h10 n0_names n0_plots h11 h1 h2 h3 h4 n0_ways), (h1, kAr cAlong 25 (fun j => some (h5 j))), (h2, kAr cAlong 5 (fun j => some (h6 j))), (h3, kAi cint 5 f3), (h4, kAi cint 5 f4)] : va_W) ++ (kk_rowsL h5 clong 40 F5 25 ++ (kk_rowsL h6 clong 5 F6 5))) sz)) 0 0 (va_A (([(h0, kO2 h7 h8 h9 n0_size h10 n0_names n0_plots h11 h1 h2 h3 h4 n0_ways), (h1, kAr cAlong 25 (fun j => some (h5 j))), (h2, kAr cAlong 5 (fun j => some (h6 j))), (h3, kAi cint 5 f3), (h4, kAi cint 5 f4)] : va_W) ++ (kk_rowsL h5 clong 40 F5 25 ++ (kk_rowsL h6 clong 5 F6 5))) sz) := by
  refine Met.ofW (cc := cX2_countWays) (maxL := 4) (ret := none) (by decide) rfl ?_
  intro p e s m args below meth c s₁ B hml hv
  obtain ⟨rfl, hsz, hP, hK, hD0⟩ := hv
  have hx := B.exec
  have hb := B.bytes
  have hr := B.returns
  have hts := atoms_spec (ws := wsX2_countWays) B.pre
  have hown : s.vm.findClass RX2 = some m.cls := findClass_of_methodNamed B.named
  have hlocks := B.notSynchronized
  subst hsz
  have hD := hD0.self (sz := s.heap.size)
  generalize hAe : va_A (([(h0, kO2 h7 h8 h9 n0_size h10 n0_names n0_plots h11 h1 h2 h3 h4 n0_ways), (h1, kAr cAlong 25 (fun j => some (h5 j))), (h2, kAr cAlong 5 (fun j => some (h6 j))), (h3, kAi cint 5 f3), (h4, kAi cint 5 f4)] : va_W) ++ (kk_rowsL h5 clong 40 F5 25 ++ (kk_rowsL h6 clong 5 F6 5))) s.heap.size = A at hD ⊢
  have hA : ∀ q : Nat, s.heap.size ≤ q → A q := fun q h => by rw [← hAe]; exact Or.inr h
  have hS : va_S A s.heap s.heap [] := va_S.rf
  have hP : va_P (dC, dI) vwCl (([(h0, kO2 h7 h8 h9 n0_size h10 n0_names n0_plots h11 h1 h2 h3 h4 n0_ways), (h1, kAr cAlong 25 (fun j => some (h5 j))), (h2, kAr cAlong 5 (fun j => some (h6 j))), (h3, kAi cint 5 f3), (h4, kAi cint 5 f4)] : va_W) ++ (kk_rowsL h5 clong 40 F5 25 ++ (kk_rowsL h6 clong 5 F6 5))) s.heap := hP
  have hl := lv_entry ([.ref h0, .int 1]) (n := 4) (Nat.le_of_ble_eq_true rfl)
  rw [lg_entry_eq]
  generalize (lg_sl ([.ref h0, .int 1]) ++ List.replicate (4 - (lg_sl ([.ref h0, .int 1])).length) Slot.unset).toArray = ls at hl ⊢
  have hl : lv_has ls 4 [(0, .ref h0), (1, .int 1)] := hl
  refine lv_aload_n hx hb dX2_countWays_0 rfl (lv_at hl 0 rfl) ?_
  refine va_get (D := (dC, dI)) (ci := 2) (v := .ref h2) (C := RX2) (T := TX2) (N := 13) hx hb hts (fun _ h => List.mem_cons_of_mem _ (List.mem_append_right _ h)) hown hK hP 0 rfl rfl 9 (by decide) (hts (.fieldLink RX2 32 "KinkStreet$Deeds" "open" "[[J") (List.mem_of_getElem? (i := 1) rfl)) (fun _ h9 => h9) rfl dX2_countWays_1 ?_
  refine lv_iload_n hx hb dX2_countWays_4 rfl (lv_at hl 1 rfl) ?_
  have hi_1 : vp_in (1 : Int32) 5 := (by unfold vp_in; decide)
  have hk_1 : (1 : Int32).toNatClampNeg < 5 := Nat.not_le.mp fun q => hi_1 (Or.inr q)
  refine kk_aald hx hb hK hP 2 0 rfl rfl hi_1 dX2_countWays_5 ?_
  refine W.eq (g2 := F0 m 6 ls [.ref (h6 (1 : Int32).toNatClampNeg)]) rfl ?_
  refine lv_iload_n hx hb dX2_countWays_6 rfl (lv_at hl 1 rfl) ?_
  refine va_lald hx hb hK hP _ 2 (kk_getr (kk_getr (kk_rowL hk_1))) rfl (by unfold vp_in; decide) dX2_countWays_7 ?_
  refine lv_topl (fun y_2 e_2 => ?_)
  clear e_2
  refine lv_lstore_n hx hb dX2_countWays_8 rfl hl (by decide) (rfl : _ = ([(2, .long y_2), (0, .ref h0), (1, .int 1)] : List (Nat × Value))) (fun ls hl => ?_)
  refine lv_lload_n hx hb dX2_countWays_9 rfl (lv_at hl 0 rfl) ?_
  refine lv_lconst (v := 0) hx hb dX2_countWays_10 (by decide) ?_
  refine W.lcmp hx hb dX2_countWays_11 ?_
  refine lv_if_ne (tgt := 16) hx hb dX2_countWays_12 (by decide) (fun _ => ?_) (fun _ => ?_)
  · skip
    refine lv_aload_n hx hb dX2_countWays_16 rfl (lv_at hl 1 rfl) ?_
    refine va_get (D := (dC, dI)) (ci := 2) (v := .int n0_ways) (C := RX2) (T := TX2) (N := 13) hx hb hts (fun _ h => List.mem_cons_of_mem _ (List.mem_append_right _ h)) hown hK hP 0 rfl rfl 12 (by decide) (hts (.fieldLink RX2 70 "KinkStreet$Deeds" "ways" "I") (List.mem_of_getElem? (i := 2) rfl)) (fun _ h9 => h9) rfl dX2_countWays_17 ?_
    refine lv_if_ne (tgt := 47) hx hb dX2_countWays_20 (by decide) (fun c_3 => ?_) (fun c_3 => ?_)
    · have t_3 : n0_ways.toInt ≠ 0 := kk_ne c_3
      refine lv_aload_n hx hb dX2_countWays_47 rfl (lv_at hl 1 rfl) ?_
      refine lv_ldc hx hb hown (hts _ (List.mem_of_getElem? (i := 9) rfl)) dX2_countWays_48 ?_
      refine lv_aload_n hx hb dX2_countWays_50 rfl (lv_at hl 1 rfl) ?_
      refine va_get (D := (dC, dI)) (ci := 2) (v := .int n0_ways) (C := RX2) (T := TX2) (N := 13) hx hb hts (fun _ h => List.mem_cons_of_mem _ (List.mem_append_right _ h)) hown hK hP 0 rfl rfl 12 (by decide) (hts (.fieldLink RX2 70 "KinkStreet$Deeds" "ways" "I") (List.mem_of_getElem? (i := 2) rfl)) (fun _ h9 => h9) rfl dX2_countWays_51 ?_
      refine lv_lload_n hx hb dX2_countWays_54 rfl (lv_at hl 0 rfl) ?_
      obtain ⟨hPc, hDc, hFc⟩ := kk_cutout (wc := []) hP hD hS hA [] (by decide) rfl
      have hKc := kk_Ks (tq := []) hK [] rfl
      refine va_calli (va_runS (As := [.long y_2]) (rest := [.int n0_ways, .int 1000000, .ref h0]) ⟨hx, hb, hml, hown, hts⟩ (g_J13_bitCount_95d88_0 l dC dI s.heap.size y_2 (y_2.toInt) rfl) (va_cwS 1 hts gX2_countWays_J13_bitCount_95d88 rfl rfl rfl kh_J13_bitCount_95d88 ⟨Nat.le_of_ble_eq_true rfl, Nat.le_of_ble_eq_true rfl⟩) ⟨fun a U g mk q => by obtain ⟨q0, q1, qP, qK, qD⟩ := q; exact ⟨q0, q1, qP, va_K.moved (u := U) (U := U.calling g mk a) (Vm.Alike.refl U.vm) qK, qD⟩, fun U hU hW => ⟨rfl, by rw [hU], by rw [hU]; exact hPc, va_K.moved hW.alike hKc, hDc.weaken (fun _ _ _ _ => trivial)⟩⟩ rfl rfl hl.1 rfl (lv_room (Nat.le_of_ble_eq_true rfl)) dX2_countWays_55 ⟨Nat.le_of_ble_eq_true rfl, Nat.le_of_ble_eq_true rfl⟩) hS (fun q _ h => hFc q h) hFc (fun r_4 u t H1 locs ht hvm hw hB hz1 hk1 hS => ?_)
      obtain ⟨hP1, hK1, hD1⟩ := hB
      rw [ht] at hP1
      have hK1 := va_K.moved hvm.symm hK1
      obtain ⟨hP, hD⟩ := va_joinQ (cx := []) (wr := [(h0, kO2 h7 h8 h9 n0_size h10 n0_names n0_plots h11 h1 h2 h3 h4 n0_ways), (h1, kAr cAlong 25 (fun j => some (h5 j))), (h2, kAr cAlong 5 (fun j => some (h6 j))), (h3, kAi cint 5 f3), (h4, kAi cint 5 f4)]) (w1 := []) hP hD [] [0, 1, 2, 3, 4] rfl rfl (by decide) (by decide) hk1 hFc hP1 hD1
      generalize H1 = H at hP hS ⊢
      have hP : va_P (dC, dI) vwCl (([(h0, kO2 h7 h8 h9 n0_size h10 n0_names n0_plots h11 h1 h2 h3 h4 n0_ways), (h1, kAr cAlong 25 (fun j => some (h5 j))), (h2, kAr cAlong 5 (fun j => some (h6 j))), (h3, kAi cint 5 f3), (h4, kAi cint 5 f4)] : va_W) ++ (kk_rowsL h5 clong 40 F5 25 ++ (kk_rowsL h6 clong 5 F6 5))) H := hP
      have hD : va_D A (([(h0, kO2 h7 h8 h9 n0_size h10 n0_names n0_plots h11 h1 h2 h3 h4 n0_ways), (h1, kAr cAlong 25 (fun j => some (h5 j))), (h2, kAr cAlong 5 (fun j => some (h6 j))), (h3, kAi cint 5 f3), (h4, kAi cint 5 f4)] : va_W) ++ (kk_rowsL h5 clong 40 F5 25 ++ (kk_rowsL h6 clong 5 F6 5))) := hD
      refine lv_iadd hx hb dX2_countWays_58 ?_
      refine va_mmin hx hb (hml.trans hl.1.symm) hown (hts (.methodLink RX2 61 Lib.Math.min.name) (List.mem_of_getElem? (i := 10) rfl)) (hts (.static Lib.Math.min.name) (List.mem_of_getElem? (i := 11) rfl)) (hts (.initialized "java/lang/Math") (List.mem_of_getElem? (i := 12) rfl)) (hts (.code Lib.Math.min.name Lib.Math.min.code 2 (some .int)) (List.mem_of_getElem? (i := 13) rfl)) (Nat.le_of_ble_eq_true rfl) (Nat.le_of_ble_eq_true rfl) (Nat.le_of_ble_eq_true rfl) (Nat.le_of_ble_eq_true rfl) dX2_countWays_59 ?_
      refine lv_topi (fun y_5 e_5 => ?_)
      have t_5 : y_5.toInt ≤ 1000000 ∧ y_5.toInt ≤ (n0_ways + r_4).toInt ∧ (y_5.toInt = 1000000 ∨ y_5.toInt = (n0_ways + r_4).toInt) := by rw [e_5]; exact kk_min _ _
      clear e_5
      refine va_put (D := (dC, dI)) (ci := 2) (v := .int y_5) (ty := .int) (C := RX2) (T := TX2) (N := 13) hx hb hts (fun _ h => List.mem_cons_of_mem _ (List.mem_append_right _ h)) tyX2 tyX2_ok nmX2 hown hK hP hD hS 0 rfl rfl 12 (by decide) (hts (.fieldLink RX2 70 "KinkStreet$Deeds" "ways" "I") (List.mem_of_getElem? (i := 2) rfl)) (fun _ h9 => h9) rfl (by decide +kernel) rfl rfl (Nat.le_of_ble_eq_true rfl) dX2_countWays_62 (fun H locs hP hD hS => ?_)
      have hP : va_P (dC, dI) vwCl (([(h0, kO2 h7 h8 h9 n0_size h10 n0_names n0_plots h11 h1 h2 h3 h4 y_5), (h1, kAr cAlong 25 (fun j => some (h5 j))), (h2, kAr cAlong 5 (fun j => some (h6 j))), (h3, kAi cint 5 f3), (h4, kAi cint 5 f4)] : va_W) ++ (kk_rowsL h5 clong 40 F5 25 ++ (kk_rowsL h6 clong 5 F6 5))) H := hP
      have hD : va_D A (([(h0, kO2 h7 h8 h9 n0_size h10 n0_names n0_plots h11 h1 h2 h3 h4 y_5), (h1, kAr cAlong 25 (fun j => some (h5 j))), (h2, kAr cAlong 5 (fun j => some (h6 j))), (h3, kAi cint 5 f3), (h4, kAi cint 5 f4)] : va_W) ++ (kk_rowsL h5 clong 40 F5 25 ++ (kk_rowsL h6 clong 5 F6 5))) := hD
      have hP9 := hP.part (cx := [(h0, kO2 h7 h8 h9 n0_size h10 n0_names n0_plots h11 h1 h2 h3 h4 y_5), (h1, kAr cAlong 25 (fun j => some (h5 j))), (h2, kAr cAlong 5 (fun j => some (h6 j))), (h3, kAi cint 5 f3), (h4, kAi cint 5 f4)]) [0, 1, 2, 3, 4] rfl
      have hD9 := hD.part (cx := [(h0, kO2 h7 h8 h9 n0_size h10 n0_names n0_plots h11 h1 h2 h3 h4 y_5), (h1, kAr cAlong 25 (fun j => some (h5 j))), (h2, kAr cAlong 5 (fun j => some (h6 j))), (h3, kAi cint 5 f3), (h4, kAi cint 5 f4)]) [0, 1, 2, 3, 4] (by decide) rfl
      have hK9 := kk_Ks (tq := []) hK [] rfl
      exact W.vret hx hb hr (fun t ht hW => ⟨⟨(), rfl, trivial, y_5, f3, f4, by rw [ht]; exact hP9, va_K.moved hW.alike hK9, hD9⟩, hS.F ht⟩) hS.2.2 dX2_countWays_65
    · have t_3 : n0_ways.toInt = 0 := kk_eq c_3
      refine lv_aload_n hx hb dX2_countWays_23 rfl (lv_at hl 1 rfl) ?_
      refine va_get (D := (dC, dI)) (ci := 2) (v := .ref h3) (C := RX2) (T := TX2) (N := 13) hx hb hts (fun _ h => List.mem_cons_of_mem _ (List.mem_append_right _ h)) hown hK hP 0 rfl rfl 10 (by decide) (hts (.fieldLink RX2 35 "KinkStreet$Deeds" "tried" "[I") (List.mem_of_getElem? (i := 3) rfl)) (fun _ h9 => h9) rfl dX2_countWays_24 ?_
      refine lv_iload_n hx hb dX2_countWays_27 rfl (lv_at hl 2 rfl) ?_
      refine lv_lload_n hx hb dX2_countWays_28 rfl (lv_at hl 0 rfl) ?_
      obtain ⟨hPc, hDc, hFc⟩ := kk_cutout (wc := []) hP hD hS hA [] (by decide) rfl
      have hKc := kk_Ks (tq := []) hK [] rfl
      refine va_calli (va_runS (As := [.long y_2]) (rest := [.int 1, .ref h3]) ⟨hx, hb, hml, hown, hts⟩ (g_J13_numberOfTrailingZeros_95d88_0 l dC dI s.heap.size y_2 (y_2.toInt) rfl) (va_cwS 1 hts gX2_countWays_J13_numberOfTrailingZeros_95d88 rfl rfl rfl kh_J13_numberOfTrailingZeros_95d88 ⟨Nat.le_of_ble_eq_true rfl, Nat.le_of_ble_eq_true rfl⟩) ⟨fun a U g mk q => by obtain ⟨q0, q1, qP, qK, qD⟩ := q; exact ⟨q0, q1, qP, va_K.moved (u := U) (U := U.calling g mk a) (Vm.Alike.refl U.vm) qK, qD⟩, fun U hU hW => ⟨rfl, by rw [hU], by rw [hU]; exact hPc, va_K.moved hW.alike hKc, hDc.weaken (fun _ _ _ _ => trivial)⟩⟩ rfl rfl hl.1 rfl (lv_room (Nat.le_of_ble_eq_true rfl)) dX2_countWays_29 ⟨Nat.le_of_ble_eq_true rfl, Nat.le_of_ble_eq_true rfl⟩) hS (fun q _ h => hFc q h) hFc (fun r_6 u t H1 locs ht hvm hw hB hz1 hk1 hS => ?_)
      obtain ⟨hP1, hK1, hD1⟩ := hB
      rw [ht] at hP1
      have hK1 := va_K.moved hvm.symm hK1
      obtain ⟨hP, hD⟩ := va_joinQ (cx := []) (wr := [(h0, kO2 h7 h8 h9 n0_size h10 n0_names n0_plots h11 h1 h2 h3 h4 n0_ways), (h1, kAr cAlong 25 (fun j => some (h5 j))), (h2, kAr cAlong 5 (fun j => some (h6 j))), (h3, kAi cint 5 f3), (h4, kAi cint 5 f4)]) (w1 := []) hP hD [] [0, 1, 2, 3, 4] rfl rfl (by decide) (by decide) hk1 hFc hP1 hD1
      generalize H1 = H at hP hS ⊢
      have hP : va_P (dC, dI) vwCl (([(h0, kO2 h7 h8 h9 n0_size h10 n0_names n0_plots h11 h1 h2 h3 h4 n0_ways), (h1, kAr cAlong 25 (fun j => some (h5 j))), (h2, kAr cAlong 5 (fun j => some (h6 j))), (h3, kAi cint 5 f3), (h4, kAi cint 5 f4)] : va_W) ++ (kk_rowsL h5 clong 40 F5 25 ++ (kk_rowsL h6 clong 5 F6 5))) H := hP
      have hD : va_D A (([(h0, kO2 h7 h8 h9 n0_size h10 n0_names n0_plots h11 h1 h2 h3 h4 n0_ways), (h1, kAr cAlong 25 (fun j => some (h5 j))), (h2, kAr cAlong 5 (fun j => some (h6 j))), (h3, kAi cint 5 f3), (h4, kAi cint 5 f4)] : va_W) ++ (kk_rowsL h5 clong 40 F5 25 ++ (kk_rowsL h6 clong 5 F6 5))) := hD
      refine va_iast hx hb hK hP hD hS 3 1 rfl rfl (by unfold vp_in; decide) dX2_countWays_32 (fun H locs hP hD hS => ?_)
      generalize upd f3 (1 : Int32).toNatClampNeg r_6 = f_7 at hP hD
      have hP : va_P (dC, dI) vwCl (([(h0, kO2 h7 h8 h9 n0_size h10 n0_names n0_plots h11 h1 h2 h3 h4 n0_ways), (h1, kAr cAlong 25 (fun j => some (h5 j))), (h2, kAr cAlong 5 (fun j => some (h6 j))), (h3, kAi cint 5 f_7), (h4, kAi cint 5 f4)] : va_W) ++ (kk_rowsL h5 clong 40 F5 25 ++ (kk_rowsL h6 clong 5 F6 5))) H := hP
      have hD : va_D A (([(h0, kO2 h7 h8 h9 n0_size h10 n0_names n0_plots h11 h1 h2 h3 h4 n0_ways), (h1, kAr cAlong 25 (fun j => some (h5 j))), (h2, kAr cAlong 5 (fun j => some (h6 j))), (h3, kAi cint 5 f_7), (h4, kAi cint 5 f4)] : va_W) ++ (kk_rowsL h5 clong 40 F5 25 ++ (kk_rowsL h6 clong 5 F6 5))) := hD
      refine lv_aload_n hx hb dX2_countWays_33 rfl (lv_at hl 1 rfl) ?_
      refine va_get (D := (dC, dI)) (ci := 2) (v := .ref h3) (C := RX2) (T := TX2) (N := 13) hx hb hts (fun _ h => List.mem_cons_of_mem _ (List.mem_append_right _ h)) hown hK hP 0 rfl rfl 10 (by decide) (hts (.fieldLink RX2 35 "KinkStreet$Deeds" "tried" "[I") (List.mem_of_getElem? (i := 3) rfl)) (fun _ h9 => h9) rfl dX2_countWays_34 ?_
      refine lv_iconst (v := 0) hx hb dX2_countWays_37 kk_ic_0 ?_
      refine lv_aload_n hx hb dX2_countWays_38 rfl (lv_at hl 1 rfl) ?_
      refine va_get (D := (dC, dI)) (ci := 2) (v := .ref h4) (C := RX2) (T := TX2) (N := 13) hx hb hts (fun _ h => List.mem_cons_of_mem _ (List.mem_append_right _ h)) hown hK hP 0 rfl rfl 11 (by decide) (hts (.fieldLink RX2 38 "KinkStreet$Deeds" "found" "[I") (List.mem_of_getElem? (i := 4) rfl)) (fun _ h9 => h9) rfl dX2_countWays_39 ?_
      refine lv_iconst (v := 0) hx hb dX2_countWays_42 kk_ic_0 ?_
      refine lv_iconst (v := 5) hx hb dX2_countWays_43 kk_ic_5 ?_
      refine va_copyi (sp := 0) (dp := 0) (n := 5) hx hb (hml.trans hl.1.symm) hown (hts (.methodLink RX2 118 arraycopyName) (List.mem_of_getElem? (i := 5) rfl)) (hts (.native arraycopyName) (List.mem_of_getElem? (i := 6) rfl)) (hts (.static arraycopyName) (List.mem_of_getElem? (i := 7) rfl)) (hts (.initialized "java/lang/System") (List.mem_of_getElem? (i := 8) rfl)) hK hP hD hS 3 4 1 1 rfl rfl rfl rfl rfl (by decide) (by decide) (by decide) (by decide) (by decide) (fun _ _ => rfl) (Nat.le_of_ble_eq_true rfl) (Nat.le_of_ble_eq_true rfl) dX2_countWays_44 (fun H locs hP hD hS => ?_)
      generalize va_cpy f_7 f4 (0 : Int32).toNatClampNeg (0 : Int32).toNatClampNeg (5 : Int32).toNatClampNeg = f_8 at hP hD
      have hP : va_P (dC, dI) vwCl (([(h0, kO2 h7 h8 h9 n0_size h10 n0_names n0_plots h11 h1 h2 h3 h4 n0_ways), (h1, kAr cAlong 25 (fun j => some (h5 j))), (h2, kAr cAlong 5 (fun j => some (h6 j))), (h3, kAi cint 5 f_7), (h4, kAi cint 5 f_8)] : va_W) ++ (kk_rowsL h5 clong 40 F5 25 ++ (kk_rowsL h6 clong 5 F6 5))) H := hP
      have hD : va_D A (([(h0, kO2 h7 h8 h9 n0_size h10 n0_names n0_plots h11 h1 h2 h3 h4 n0_ways), (h1, kAr cAlong 25 (fun j => some (h5 j))), (h2, kAr cAlong 5 (fun j => some (h6 j))), (h3, kAi cint 5 f_7), (h4, kAi cint 5 f_8)] : va_W) ++ (kk_rowsL h5 clong 40 F5 25 ++ (kk_rowsL h6 clong 5 F6 5))) := hD
      refine lv_aload_n hx hb dX2_countWays_47 rfl (lv_at hl 1 rfl) ?_
      refine lv_ldc hx hb hown (hts _ (List.mem_of_getElem? (i := 9) rfl)) dX2_countWays_48 ?_
      refine lv_aload_n hx hb dX2_countWays_50 rfl (lv_at hl 1 rfl) ?_
      refine va_get (D := (dC, dI)) (ci := 2) (v := .int n0_ways) (C := RX2) (T := TX2) (N := 13) hx hb hts (fun _ h => List.mem_cons_of_mem _ (List.mem_append_right _ h)) hown hK hP 0 rfl rfl 12 (by decide) (hts (.fieldLink RX2 70 "KinkStreet$Deeds" "ways" "I") (List.mem_of_getElem? (i := 2) rfl)) (fun _ h9 => h9) rfl dX2_countWays_51 ?_
      refine lv_lload_n hx hb dX2_countWays_54 rfl (lv_at hl 0 rfl) ?_
      obtain ⟨hPc, hDc, hFc⟩ := kk_cutout (wc := []) hP hD hS hA [] (by decide) rfl
      have hKc := kk_Ks (tq := []) hK [] rfl
      refine va_calli (va_runS (As := [.long y_2]) (rest := [.int n0_ways, .int 1000000, .ref h0]) ⟨hx, hb, hml, hown, hts⟩ (g_J13_bitCount_95d88_0 l dC dI H.size y_2 (y_2.toInt) rfl) (va_cwS 1 hts gX2_countWays_J13_bitCount_95d88 rfl rfl rfl kh_J13_bitCount_95d88 ⟨Nat.le_of_ble_eq_true rfl, Nat.le_of_ble_eq_true rfl⟩) ⟨fun a U g mk q => by obtain ⟨q0, q1, qP, qK, qD⟩ := q; exact ⟨q0, q1, qP, va_K.moved (u := U) (U := U.calling g mk a) (Vm.Alike.refl U.vm) qK, qD⟩, fun U hU hW => ⟨rfl, by rw [hU], by rw [hU]; exact hPc, va_K.moved hW.alike hKc, hDc.weaken (fun _ _ _ _ => trivial)⟩⟩ rfl rfl hl.1 rfl (lv_room (Nat.le_of_ble_eq_true rfl)) dX2_countWays_55 ⟨Nat.le_of_ble_eq_true rfl, Nat.le_of_ble_eq_true rfl⟩) hS (fun q _ h => hFc q h) hFc (fun r_9 u t H1 locs ht hvm hw hB hz1 hk1 hS => ?_)
      obtain ⟨hP1, hK1, hD1⟩ := hB
      rw [ht] at hP1
      have hK1 := va_K.moved hvm.symm hK1
      obtain ⟨hP, hD⟩ := va_joinQ (cx := []) (wr := [(h0, kO2 h7 h8 h9 n0_size h10 n0_names n0_plots h11 h1 h2 h3 h4 n0_ways), (h1, kAr cAlong 25 (fun j => some (h5 j))), (h2, kAr cAlong 5 (fun j => some (h6 j))), (h3, kAi cint 5 f_7), (h4, kAi cint 5 f_8)]) (w1 := []) hP hD [] [0, 1, 2, 3, 4] rfl rfl (by decide) (by decide) hk1 hFc hP1 hD1
      generalize H1 = H at hP hS ⊢
      have hP : va_P (dC, dI) vwCl (([(h0, kO2 h7 h8 h9 n0_size h10 n0_names n0_plots h11 h1 h2 h3 h4 n0_ways), (h1, kAr cAlong 25 (fun j => some (h5 j))), (h2, kAr cAlong 5 (fun j => some (h6 j))), (h3, kAi cint 5 f_7), (h4, kAi cint 5 f_8)] : va_W) ++ (kk_rowsL h5 clong 40 F5 25 ++ (kk_rowsL h6 clong 5 F6 5))) H := hP
      have hD : va_D A (([(h0, kO2 h7 h8 h9 n0_size h10 n0_names n0_plots h11 h1 h2 h3 h4 n0_ways), (h1, kAr cAlong 25 (fun j => some (h5 j))), (h2, kAr cAlong 5 (fun j => some (h6 j))), (h3, kAi cint 5 f_7), (h4, kAi cint 5 f_8)] : va_W) ++ (kk_rowsL h5 clong 40 F5 25 ++ (kk_rowsL h6 clong 5 F6 5))) := hD
      refine lv_iadd hx hb dX2_countWays_58 ?_
      refine va_mmin hx hb (hml.trans hl.1.symm) hown (hts (.methodLink RX2 61 Lib.Math.min.name) (List.mem_of_getElem? (i := 10) rfl)) (hts (.static Lib.Math.min.name) (List.mem_of_getElem? (i := 11) rfl)) (hts (.initialized "java/lang/Math") (List.mem_of_getElem? (i := 12) rfl)) (hts (.code Lib.Math.min.name Lib.Math.min.code 2 (some .int)) (List.mem_of_getElem? (i := 13) rfl)) (Nat.le_of_ble_eq_true rfl) (Nat.le_of_ble_eq_true rfl) (Nat.le_of_ble_eq_true rfl) (Nat.le_of_ble_eq_true rfl) dX2_countWays_59 ?_
      refine lv_topi (fun y_10 e_10 => ?_)
      have t_10 : y_10.toInt ≤ 1000000 ∧ y_10.toInt ≤ (n0_ways + r_9).toInt ∧ (y_10.toInt = 1000000 ∨ y_10.toInt = (n0_ways + r_9).toInt) := by rw [e_10]; exact kk_min _ _
      clear e_10
      refine va_put (D := (dC, dI)) (ci := 2) (v := .int y_10) (ty := .int) (C := RX2) (T := TX2) (N := 13) hx hb hts (fun _ h => List.mem_cons_of_mem _ (List.mem_append_right _ h)) tyX2 tyX2_ok nmX2 hown hK hP hD hS 0 rfl rfl 12 (by decide) (hts (.fieldLink RX2 70 "KinkStreet$Deeds" "ways" "I") (List.mem_of_getElem? (i := 2) rfl)) (fun _ h9 => h9) rfl (by decide +kernel) rfl rfl (Nat.le_of_ble_eq_true rfl) dX2_countWays_62 (fun H locs hP hD hS => ?_)
      have hP : va_P (dC, dI) vwCl (([(h0, kO2 h7 h8 h9 n0_size h10 n0_names n0_plots h11 h1 h2 h3 h4 y_10), (h1, kAr cAlong 25 (fun j => some (h5 j))), (h2, kAr cAlong 5 (fun j => some (h6 j))), (h3, kAi cint 5 f_7), (h4, kAi cint 5 f_8)] : va_W) ++ (kk_rowsL h5 clong 40 F5 25 ++ (kk_rowsL h6 clong 5 F6 5))) H := hP
      have hD : va_D A (([(h0, kO2 h7 h8 h9 n0_size h10 n0_names n0_plots h11 h1 h2 h3 h4 y_10), (h1, kAr cAlong 25 (fun j => some (h5 j))), (h2, kAr cAlong 5 (fun j => some (h6 j))), (h3, kAi cint 5 f_7), (h4, kAi cint 5 f_8)] : va_W) ++ (kk_rowsL h5 clong 40 F5 25 ++ (kk_rowsL h6 clong 5 F6 5))) := hD
      have hP9 := hP.part (cx := [(h0, kO2 h7 h8 h9 n0_size h10 n0_names n0_plots h11 h1 h2 h3 h4 y_10), (h1, kAr cAlong 25 (fun j => some (h5 j))), (h2, kAr cAlong 5 (fun j => some (h6 j))), (h3, kAi cint 5 f_7), (h4, kAi cint 5 f_8)]) [0, 1, 2, 3, 4] rfl
      have hD9 := hD.part (cx := [(h0, kO2 h7 h8 h9 n0_size h10 n0_names n0_plots h11 h1 h2 h3 h4 y_10), (h1, kAr cAlong 25 (fun j => some (h5 j))), (h2, kAr cAlong 5 (fun j => some (h6 j))), (h3, kAi cint 5 f_7), (h4, kAi cint 5 f_8)]) [0, 1, 2, 3, 4] (by decide) rfl
      have hK9 := kk_Ks (tq := []) hK [] rfl
      exact W.vret hx hb hr (fun t ht hW => ⟨⟨(), rfl, trivial, y_10, f_7, f_8, by rw [ht]; exact hP9, va_K.moved hW.alike hK9, hD9⟩, hS.F ht⟩) hS.2.2 dX2_countWays_65
  · skip
    have hP9 := hP.part (cx := [(h0, kO2 h7 h8 h9 n0_size h10 n0_names n0_plots h11 h1 h2 h3 h4 n0_ways), (h1, kAr cAlong 25 (fun j => some (h5 j))), (h2, kAr cAlong 5 (fun j => some (h6 j))), (h3, kAi cint 5 f3), (h4, kAi cint 5 f4)]) [0, 1, 2, 3, 4] rfl
    have hD9 := hD.part (cx := [(h0, kO2 h7 h8 h9 n0_size h10 n0_names n0_plots h11 h1 h2 h3 h4 n0_ways), (h1, kAr cAlong 25 (fun j => some (h5 j))), (h2, kAr cAlong 5 (fun j => some (h6 j))), (h3, kAi cint 5 f3), (h4, kAi cint 5 f4)]) [0, 1, 2, 3, 4] (by decide) rfl
    have hK9 := kk_Ks (tq := []) hK [] rfl
    exact W.vret hx hb hr (fun t ht hW => ⟨⟨(), rfl, trivial, n0_ways, f3, f4, by rw [ht]; exact hP9, va_K.moved hW.alike hK9, hD9⟩, hS.F ht⟩) hS.2.2 dX2_countWays_15
set_option maxHeartbeats 4000000 in
set_option maxRecDepth 100000 in
theorem g_X2_search_3 (l : Launch) (dC : Nat → ClassId) (dI : Nat → Nat → Nat) (h0 : Nat) (h1 : Nat) (h2 : Nat) (h3 : Nat) (h4 : Nat) (h5 : Nat → Nat) (h6 : Nat → Nat) (h7 : Nat) (h8 : Nat) (h9 : Nat) (h10 : Nat) (h11 : Nat) (cAlong cint clong : ClassId) (sz : Nat) (n0_size : Int32) (n0_names : Int32) (n0_plots : Int32) (n0_ways : Int32) (f3 : Nat → Int32) (f4 : Nat → Int32) (F5 : Nat → Nat → Int64) (F6 : Nat → Nat → Int64) (tn0_size : kk_bx (0 ≤ n0_size.toInt ∧ n0_size.toInt ≤ 10)) (tn0_names : 1 ≤ n0_names.toInt ∧ n0_names.toInt ≤ 5) (tn0_plots : 0 ≤ n0_plots.toInt ∧ n0_plots.toInt ≤ 40) : Met l yX2_search wsX2_search ({ frames := 6, cells := 0, slots := 0, locals := 137 }) (va_Pc [.ref h0, .int 1] (fun U => U.heap.size = sz ∧ va_P (dC, dI) vwCl (([(h0, kO2 h7 h8 h9 n0_size h10 n0_names n0_plots h11 h1 h2 h3 h4 n0_ways), (h1, kAr cAlong 25 (fun j => some (h5 j))), (h2, kAr cAlong 5 (fun j => some (h6 j))), (h3, kAi cint 5 f3), (h4, kAi cint 5 f4)] : va_W) ++ (kk_rowsL h5 clong 40 F5 25 ++ (kk_rowsL h6 clong 5 F6 5))) U.heap ∧ va_K (dC, dI) vwCl [(cAlong, .array .long), (cint, .int), (clong, .long)] U ∧ va_D (fun _ => True) (([(h0, kO2 h7 h8 h9 n0_size h10 n0_names n0_plots h11 h1 h2 h3 h4 n0_ways), (h1, kAr cAlong 25 (fun j => some (h5 j))), (h2, kAr cAlong 5 (fun j => some (h6 j))), (h3, kAi cint 5 f3), (h4, kAi cint 5 f4)] : va_W) ++ (kk_rowsL h5 clong 40 F5 25 ++ (kk_rowsL h6 clong 5 F6 5))))) (va_Qv (fun (_ : Unit) => True) (fun (_ : Unit) t => ∃ (m0_ways : Int32) (g3 : Nat → Int32) (g4 : Nat → Int32) (g6 : Nat → Nat → Int64), va_P (dC, dI) vwCl (([(h0, kO2 h7 h8 h9 n0_size h10 n0_names n0_plots h11 h1 h2 h3 h4 m0_ways), (h1, kAr cAlong 25 (fun j => some (h5 j))), (h2, kAr cAlong 5 (fun j => some (h6 j))), (h3, kAi cint 5 g3), (h4, kAi cint 5 g4)] : va_W) ++ (kk_rowsL h5 clong 40 F5 25 ++ (kk_rowsL h6 clong 5 g6 5))) t.heap ∧ va_K (dC, dI) vwCl [] t ∧ va_D (va_A (([(h0, kO2 h7 h8 h9 n0_size h10 n0_names n0_plots h11 h1 h2 h3 h4 n0_ways), (h1, kAr cAlong 25 (fun j => some (h5 j))), (h2, kAr cAlong 5 (fun j => some (h6 j))), (h3, kAi cint 5 f3), (h4, kAi cint 5 f4)] : va_W) ++ (kk_rowsL h5 clong 40 F5 25 ++ (kk_rowsL h6 clong 5 F6 5))) sz) (([(h0, kO2 h7 h8 h9 n0_size h10 n0_names n0_plots h11 h1 h2 h3 h4 m0_ways), (h1, kAr cAlong 25 (fun j => some (h5 j))), (h2, kAr cAlong 5 (fun j => some (h6 j))), (h3, kAi cint 5 g3), (h4, kAi cint 5 g4)] : va_W) ++ (kk_rowsL h5 clong 40 F5 25 ++ (kk_rowsL h6 clong 5 g6 5)))) (va_A (([(h0, kO2 h7 h8 h9 n0_size h10 n0_names n0_plots h11 h1 h2 h3 h4 n0_ways), (h1, kAr cAlong 25 (fun j => some (h5 j))), (h2, kAr cAlong 5 (fun j => some (h6 j))), (h3, kAi cint 5 f3), (h4, kAi cint 5 f4)] : va_W) ++ (kk_rowsL h5 clong 40 F5 25 ++ (kk_rowsL h6 clong 5 F6 5))) sz)) 0 0 (va_A (([(h0, kO2 h7 h8 h9 n0_size h10 n0_names n0_plots h11 h1 h2 h3 h4 n0_ways), (h1, kAr cAlong 25 (fun j => some (h5 j))), (h2, kAr cAlong 5 (fun j => some (h6 j))), (h3, kAi cint 5 f3), (h4, kAi cint 5 f4)] : va_W) ++ (kk_rowsL h5 clong 40 F5 25 ++ (kk_rowsL h6 clong 5 F6 5))) sz) := by
  refine Met.ofW (cc := cX2_search) (maxL := 3) (ret := none) (by decide) rfl ?_
  intro p e s m args below meth c s₁ B hml hv
  obtain ⟨rfl, hsz, hP, hK, hD0⟩ := hv
  have hx := B.exec
  have hb := B.bytes
  have hr := B.returns
  have hts := atoms_spec (ws := wsX2_search) B.pre
  have hown : s.vm.findClass RX2 = some m.cls := findClass_of_methodNamed B.named
  have hlocks := B.notSynchronized
  subst hsz
  have hD := hD0.self (sz := s.heap.size)
  generalize hAe : va_A (([(h0, kO2 h7 h8 h9 n0_size h10 n0_names n0_plots h11 h1 h2 h3 h4 n0_ways), (h1, kAr cAlong 25 (fun j => some (h5 j))), (h2, kAr cAlong 5 (fun j => some (h6 j))), (h3, kAi cint 5 f3), (h4, kAi cint 5 f4)] : va_W) ++ (kk_rowsL h5 clong 40 F5 25 ++ (kk_rowsL h6 clong 5 F6 5))) s.heap.size = A at hD ⊢
  have hA : ∀ q : Nat, s.heap.size ≤ q → A q := fun q h => by rw [← hAe]; exact Or.inr h
  have hS : va_S A s.heap s.heap [] := va_S.rf
  have hP : va_P (dC, dI) vwCl (([(h0, kO2 h7 h8 h9 n0_size h10 n0_names n0_plots h11 h1 h2 h3 h4 n0_ways), (h1, kAr cAlong 25 (fun j => some (h5 j))), (h2, kAr cAlong 5 (fun j => some (h6 j))), (h3, kAi cint 5 f3), (h4, kAi cint 5 f4)] : va_W) ++ (kk_rowsL h5 clong 40 F5 25 ++ (kk_rowsL h6 clong 5 F6 5))) s.heap := hP
  have hl := lv_entry ([.ref h0, .int 1]) (n := 3) (Nat.le_of_ble_eq_true rfl)
  rw [lg_entry_eq]
  generalize (lg_sl ([.ref h0, .int 1]) ++ List.replicate (3 - (lg_sl ([.ref h0, .int 1])).length) Slot.unset).toArray = ls at hl ⊢
  have hl : lv_has ls 3 [(0, .ref h0), (1, .int 1)] := hl
  refine lv_iload_n hx hb dX2_search_0 rfl (lv_at hl 1 rfl) ?_
  refine lv_aload_n hx hb dX2_search_1 rfl (lv_at hl 0 rfl) ?_
  refine va_get (D := (dC, dI)) (ci := 2) (v := .int n0_names) (C := RX2) (T := TX2) (N := 13) hx hb hts (fun _ h => List.mem_cons_of_mem _ (List.mem_append_right _ h)) hown hK hP 0 rfl rfl 5 (by decide) (hts (.fieldLink RX2 49 "KinkStreet$Deeds" "names" "I") (List.mem_of_getElem? (i := 1) rfl)) (fun _ h9 => h9) rfl dX2_search_2 ?_
  refine lv_iconst (v := 1) hx hb dX2_search_5 kk_ic_1 ?_
  refine lv_isub hx hb dX2_search_6 ?_
  refine lv_icmp_lt (tgt := 16) hx hb dX2_search_7 (by decide) (fun c_1 => ?_) (fun c_1 => ?_)
  · have t_1 : 1 < (n0_names - 1).toInt := kk_lt c_1
    refine lv_iconst (v := 0) hx hb dX2_search_16 kk_ic_0 ?_
    refine lv_istore_n hx hb dX2_search_17 rfl hl (by decide) (rfl : _ = ([(2, .int 0), (0, .ref h0), (1, .int 1)] : List (Nat × Value))) (fun ls hl => ?_)
    try have := kk_sub2 (x := n0_names) (y := 1) (a := n0_names.toInt) (b := 1) rfl rfl (by omega) (by omega)
    refine kk_loop (σ := Int32 × (Nat → Nat → Int64) × Int32 × (Nat → Int32) × (Nat → Int32)) (fun x H locs ls => (0 ≤ x.1.toInt ∧ x.1.toInt ≤ 40) ∧ va_P (dC, dI) vwCl (([(h0, kO2 h7 h8 h9 n0_size h10 n0_names n0_plots h11 h1 h2 h3 h4 x.2.2.1), (h1, kAr cAlong 25 (fun j => some (h5 j))), (h2, kAr cAlong 5 (fun j => some (h6 j))), (h3, kAi cint 5 x.2.2.2.1), (h4, kAi cint 5 x.2.2.2.2)] : va_W) ++ (kk_rowsL h5 clong 40 F5 25 ++ (kk_rowsL h6 clong 5 x.2.1 5))) H ∧ va_D A (([(h0, kO2 h7 h8 h9 n0_size h10 n0_names n0_plots h11 h1 h2 h3 h4 x.2.2.1), (h1, kAr cAlong 25 (fun j => some (h5 j))), (h2, kAr cAlong 5 (fun j => some (h6 j))), (h3, kAi cint 5 x.2.2.2.1), (h4, kAi cint 5 x.2.2.2.2)] : va_W) ++ (kk_rowsL h5 clong 40 F5 25 ++ (kk_rowsL h6 clong 5 x.2.1 5))) ∧ va_S A s.heap H locs ∧ lv_has ls 3 [(2, .int x.1), (0, .ref h0), (1, .int 1)]) (fun x => ((40 : Int) - x.1.toInt).toNat) ?_ (0, F6, n0_ways, f3, f4) _ _ _ ⟨(by show 0 ≤ (0 : Int32).toInt ∧ (0 : Int32).toInt ≤ 40; first | decide | ((omega))), hP, hD, hS, hl⟩
    rintro ⟨i_2_0, f_2_1, i_2_2, f_2_3, f_2_4⟩ H locs ls ⟨t_2_0, hP, hD, hS, hl⟩ ih_2
    have t_2_0 : (0 ≤ i_2_0.toInt ∧ i_2_0.toInt ≤ 40) := t_2_0
    have hl : lv_has ls 3 [(2, .int i_2_0), (0, .ref h0), (1, .int 1)] := hl
    have hP : va_P (dC, dI) vwCl (([(h0, kO2 h7 h8 h9 n0_size h10 n0_names n0_plots h11 h1 h2 h3 h4 i_2_2), (h1, kAr cAlong 25 (fun j => some (h5 j))), (h2, kAr cAlong 5 (fun j => some (h6 j))), (h3, kAi cint 5 f_2_3), (h4, kAi cint 5 f_2_4)] : va_W) ++ (kk_rowsL h5 clong 40 F5 25 ++ (kk_rowsL h6 clong 5 f_2_1 5))) H := hP
    have hD : va_D A (([(h0, kO2 h7 h8 h9 n0_size h10 n0_names n0_plots h11 h1 h2 h3 h4 i_2_2), (h1, kAr cAlong 25 (fun j => some (h5 j))), (h2, kAr cAlong 5 (fun j => some (h6 j))), (h3, kAi cint 5 f_2_3), (h4, kAi cint 5 f_2_4)] : va_W) ++ (kk_rowsL h5 clong 40 F5 25 ++ (kk_rowsL h6 clong 5 f_2_1 5))) := hD
    refine lv_iload_n hx hb dX2_search_18 rfl (lv_at hl 0 rfl) ?_
    refine lv_aload_n hx hb dX2_search_19 rfl (lv_at hl 1 rfl) ?_
    refine va_get (D := (dC, dI)) (ci := 2) (v := .int n0_plots) (C := RX2) (T := TX2) (N := 13) hx hb hts (fun _ h => List.mem_cons_of_mem _ (List.mem_append_right _ h)) hown hK hP 0 rfl rfl 6 (by decide) (hts (.fieldLink RX2 67 "KinkStreet$Deeds" "plots" "I") (List.mem_of_getElem? (i := 2) rfl)) (fun _ h9 => h9) rfl dX2_search_20 ?_
    refine lv_icmp_ge (tgt := 81) hx hb dX2_search_23 (by decide) (fun c_3 => ?_) (fun c_3 => ?_)
    · have t_3 : n0_plots.toInt ≤ i_2_0.toInt := kk_le c_3
      have hP9 := hP.part (cx := [(h0, kO2 h7 h8 h9 n0_size h10 n0_names n0_plots h11 h1 h2 h3 h4 i_2_2), (h1, kAr cAlong 25 (fun j => some (h5 j))), (h2, kAr cAlong 5 (fun j => some (h6 j))), (h3, kAi cint 5 f_2_3), (h4, kAi cint 5 f_2_4)]) [0, 1, 2, 3, 4] rfl
      have hD9 := hD.part (cx := [(h0, kO2 h7 h8 h9 n0_size h10 n0_names n0_plots h11 h1 h2 h3 h4 i_2_2), (h1, kAr cAlong 25 (fun j => some (h5 j))), (h2, kAr cAlong 5 (fun j => some (h6 j))), (h3, kAi cint 5 f_2_3), (h4, kAi cint 5 f_2_4)]) [0, 1, 2, 3, 4] (by decide) rfl
      have hK9 := kk_Ks (tq := []) hK [] rfl
      exact W.vret hx hb hr (fun t ht hW => ⟨⟨(), rfl, trivial, i_2_2, f_2_3, f_2_4, f_2_1, by rw [ht]; exact hP9, va_K.moved hW.alike hK9, hD9⟩, hS.F ht⟩) hS.2.2 dX2_search_81
    · have t_3 : i_2_0.toInt < n0_plots.toInt := kk_nle c_3
      refine lv_aload_n hx hb dX2_search_26 rfl (lv_at hl 1 rfl) ?_
      refine va_get (D := (dC, dI)) (ci := 2) (v := .int i_2_2) (C := RX2) (T := TX2) (N := 13) hx hb hts (fun _ h => List.mem_cons_of_mem _ (List.mem_append_right _ h)) hown hK hP 0 rfl rfl 12 (by decide) (hts (.fieldLink RX2 70 "KinkStreet$Deeds" "ways" "I") (List.mem_of_getElem? (i := 3) rfl)) (fun _ h9 => h9) rfl dX2_search_27 ?_
      refine lv_ldc hx hb hown (hts _ (List.mem_of_getElem? (i := 4) rfl)) dX2_search_30 ?_
      refine lv_icmp_ge (tgt := 81) hx hb dX2_search_32 (by decide) (fun c_4 => ?_) (fun c_4 => ?_)
      · have t_4 : 1000000 ≤ i_2_2.toInt := kk_le c_4
        have hP9 := hP.part (cx := [(h0, kO2 h7 h8 h9 n0_size h10 n0_names n0_plots h11 h1 h2 h3 h4 i_2_2), (h1, kAr cAlong 25 (fun j => some (h5 j))), (h2, kAr cAlong 5 (fun j => some (h6 j))), (h3, kAi cint 5 f_2_3), (h4, kAi cint 5 f_2_4)]) [0, 1, 2, 3, 4] rfl
        have hD9 := hD.part (cx := [(h0, kO2 h7 h8 h9 n0_size h10 n0_names n0_plots h11 h1 h2 h3 h4 i_2_2), (h1, kAr cAlong 25 (fun j => some (h5 j))), (h2, kAr cAlong 5 (fun j => some (h6 j))), (h3, kAi cint 5 f_2_3), (h4, kAi cint 5 f_2_4)]) [0, 1, 2, 3, 4] (by decide) rfl
        have hK9 := kk_Ks (tq := []) hK [] rfl
        exact W.vret hx hb hr (fun t ht hW => ⟨⟨(), rfl, trivial, i_2_2, f_2_3, f_2_4, f_2_1, by rw [ht]; exact hP9, va_K.moved hW.alike hK9, hD9⟩, hS.F ht⟩) hS.2.2 dX2_search_81
      · have t_4 : i_2_2.toInt < 1000000 := kk_nle c_4
        refine lv_aload_n hx hb dX2_search_35 rfl (lv_at hl 1 rfl) ?_
        refine va_get (D := (dC, dI)) (ci := 2) (v := .ref h2) (C := RX2) (T := TX2) (N := 13) hx hb hts (fun _ h => List.mem_cons_of_mem _ (List.mem_append_right _ h)) hown hK hP 0 rfl rfl 9 (by decide) (hts (.fieldLink RX2 32 "KinkStreet$Deeds" "open" "[[J") (List.mem_of_getElem? (i := 5) rfl)) (fun _ h9 => h9) rfl dX2_search_36 ?_
        refine lv_iload_n hx hb dX2_search_39 rfl (lv_at hl 2 rfl) ?_
        have hi_5 : vp_in (1 : Int32) 5 := (by unfold vp_in; decide)
        have hk_5 : (1 : Int32).toNatClampNeg < 5 := Nat.not_le.mp fun q => hi_5 (Or.inr q)
        refine kk_aald hx hb hK hP 2 0 rfl rfl hi_5 dX2_search_40 ?_
        refine W.eq (g2 := F0 m 41 ls [.ref (h6 (1 : Int32).toNatClampNeg)]) rfl ?_
        refine lv_iload_n hx hb dX2_search_41 rfl (lv_at hl 2 rfl) ?_
        refine va_lald hx hb hK hP _ 2 (kk_getr (kk_getr (kk_rowL hk_5))) rfl (by unfold vp_in; decide) dX2_search_42 ?_
        refine lv_topl (fun y_6 e_6 => ?_)
        clear e_6
        refine lv_iload_n hx hb dX2_search_43 rfl (lv_at hl 0 rfl) ?_
        refine lv_lushr hx hb dX2_search_44 rfl ?_
        refine lv_topl (fun y_7 e_7 => ?_)
        clear e_7
        refine lv_lconst (v := 1) hx hb dX2_search_45 (by decide) ?_
        refine lv_land hx hb dX2_search_46 ?_
        refine lv_topl (fun y_8 e_8 => ?_)
        clear e_8
        refine lv_lconst (v := 0) hx hb dX2_search_47 (by decide) ?_
        refine W.lcmp hx hb dX2_search_48 ?_
        refine lv_if_eq (tgt := 75) hx hb dX2_search_49 (by decide) (fun _ => ?_) (fun _ => ?_)
        · skip
          refine lv_iinc (v := (i_2_0 + 1)) hx hb dX2_search_75 hl (k := 0) rfl (by first | rfl | decide) (by decide) (rfl : _ = ([(2, .int (i_2_0 + 1)), (0, .ref h0), (1, .int 1)] : List (Nat × Value))) (fun ls hl => ?_)
          refine lv_goto (tgt := 18) hx hb dX2_search_78 (by decide) ?_
          try have := kk_rng i_2_2
          try have := kk_add2 (x := i_2_0) (y := 1) (a := i_2_0.toInt) (b := 1) rfl rfl (by omega) (by omega)
          exact ih_2 ((i_2_0 + 1), f_2_1, i_2_2, f_2_3, f_2_4) _ _ _ (by show ((40 : Int) - ((i_2_0 + 1)).toInt).toNat < ((40 : Int) - i_2_0.toInt).toNat; exact kk_mu (by omega) (by omega)) ⟨(by show 0 ≤ ((i_2_0 + 1) : Int32).toInt ∧ ((i_2_0 + 1) : Int32).toInt ≤ 40; first | decide | ((omega))), hP, hD, hS, lv_sub hl [0, 1, 2] rfl⟩
        · skip
          refine lv_aload_n hx hb dX2_search_52 rfl (lv_at hl 1 rfl) ?_
          refine lv_iload_n hx hb dX2_search_53 rfl (lv_at hl 2 rfl) ?_
          refine lv_iload_n hx hb dX2_search_54 rfl (lv_at hl 0 rfl) ?_
          have hPc := hP.part (cx := [(h0, kO2 h7 h8 h9 n0_size h10 n0_names n0_plots h11 h1 h2 h3 h4 i_2_2), (h1, kAr cAlong 25 (fun j => some (h5 j))), (h2, kAr cAlong 5 (fun j => some (h6 j)))]) [0, 1, 2] rfl
          have hDc := hD.part (cx := [(h0, kO2 h7 h8 h9 n0_size h10 n0_names n0_plots h11 h1 h2 h3 h4 i_2_2), (h1, kAr cAlong 25 (fun j => some (h5 j))), (h2, kAr cAlong 5 (fun j => some (h6 j)))]) [0, 1, 2] (by decide) rfl
          have hFc := va_freeP (cx := [(h0, kO2 h7 h8 h9 n0_size h10 n0_names n0_plots h11 h1 h2 h3 h4 i_2_2), (h1, kAr cAlong 25 (fun j => some (h5 j))), (h2, kAr cAlong 5 (fun j => some (h6 j)))]) hD hS hA [0, 1, 2] rfl
          have hKc := kk_Ks (tq := [(cAlong, .array .long), (clong, .long)]) hK [0, 2] rfl
          try have := kk_rng i_2_2
          refine va_calli (va_runV (As := [.int 1, .int i_2_0]) (rest := []) ⟨hx, hb, hml, hown, hts⟩ (g_X2_narrow_1 l dC dI h0 h1 h2 h5 h6 h7 h8 h9 h10 h11 h3 h4 cAlong clong H.size i_2_0 (by show 0 ≤ (i_2_0 : Int32).toInt ∧ (i_2_0 : Int32).toInt ≤ 39; first | decide | ((omega))) n0_size n0_names n0_plots i_2_2 F5 f_2_1 tn0_size tn0_names tn0_plots) (cwV 2 hts gX2_search_X2_narrow rfl rfl rfl ⟨rfl, kh_X2_narrow⟩ ⟨Nat.le_of_ble_eq_true rfl, Nat.le_of_ble_eq_true rfl⟩) ⟨fun a U g mk q => by obtain ⟨q0, q1, qP, qK, qD⟩ := q; exact ⟨q0, q1, qP, va_K.moved (u := U) (U := U.calling g mk a) (Vm.Alike.refl U.vm) qK, qD⟩, va_recv hKc hPc (ci := 2) (q0 := 0) rfl rfl, fun U hU hW => ⟨rfl, by rw [hU], by rw [hU]; exact hPc, va_K.moved hW.alike hKc, hDc.weaken (fun _ _ _ _ => trivial)⟩⟩ rfl rfl hl.1 rfl (lv_room (Nat.le_of_ble_eq_true rfl)) dX2_search_55 ⟨Nat.le_of_ble_eq_true rfl, Nat.le_of_ble_eq_true rfl⟩) hS (fun q _ h => hFc q h) hFc (fun r_9 u t H1 locs ht hvm hw hB hz1 hk1 hS => ?_)
          obtain ⟨f_10, hP1, hK1, hD1⟩ := hB
          rw [ht] at hP1
          have hK1 := va_K.moved hvm.symm hK1
          obtain ⟨hP, hD⟩ := va_joinP (cx := [(h0, kO2 h7 h8 h9 n0_size h10 n0_names n0_plots h11 h1 h2 h3 h4 i_2_2), (h1, kAr cAlong 25 (fun j => some (h5 j))), (h2, kAr cAlong 5 (fun j => some (h6 j)))]) (wr := [(h3, kAi cint 5 f_2_3), (h4, kAi cint 5 f_2_4)]) (rx := [(h0, kO2 h7 h8 h9 n0_size h10 n0_names n0_plots h11 h1 h2 h3 h4 i_2_2), (h1, kAr cAlong 25 (fun j => some (h5 j))), (h2, kAr cAlong 5 (fun j => some (h6 j)))]) hP hD [0, 1, 2] [3, 4] rfl rfl (by decide) (by decide) hk1 hFc hP1 hD1
          generalize H1 = H at hP hS ⊢
          have hP : va_P (dC, dI) vwCl (([(h3, kAi cint 5 f_2_3), (h4, kAi cint 5 f_2_4), (h0, kO2 h7 h8 h9 n0_size h10 n0_names n0_plots h11 h1 h2 h3 h4 i_2_2), (h1, kAr cAlong 25 (fun j => some (h5 j))), (h2, kAr cAlong 5 (fun j => some (h6 j)))] : va_W) ++ (kk_rowsL h5 clong 40 F5 25 ++ (kk_rowsL h6 clong 5 f_10 5))) H := hP
          have hD : va_D A (([(h3, kAi cint 5 f_2_3), (h4, kAi cint 5 f_2_4), (h0, kO2 h7 h8 h9 n0_size h10 n0_names n0_plots h11 h1 h2 h3 h4 i_2_2), (h1, kAr cAlong 25 (fun j => some (h5 j))), (h2, kAr cAlong 5 (fun j => some (h6 j)))] : va_W) ++ (kk_rowsL h5 clong 40 F5 25 ++ (kk_rowsL h6 clong 5 f_10 5))) := hD
          rcases hw with ⟨t_9_0, rfl⟩ | ⟨rfl⟩
          · skip
            have t_9_0 : (3 : Int) ≤ n0_names.toInt := t_9_0
            refine lv_if_eq (tgt := 75) hx hb dX2_search_58 (by decide) (fun _ => ?_) (fun c => absurd c (by decide))
            refine lv_iinc (v := (i_2_0 + 1)) hx hb dX2_search_75 hl (k := 0) rfl (by first | rfl | decide) (by decide) (rfl : _ = ([(2, .int (i_2_0 + 1)), (0, .ref h0), (1, .int 1)] : List (Nat × Value))) (fun ls hl => ?_)
            refine lv_goto (tgt := 18) hx hb dX2_search_78 (by decide) ?_
            try have := kk_add2 (x := i_2_0) (y := 1) (a := i_2_0.toInt) (b := 1) rfl rfl (by omega) (by omega)
            exact ih_2 ((i_2_0 + 1), f_10, i_2_2, f_2_3, f_2_4) _ _ _ (by show ((40 : Int) - ((i_2_0 + 1)).toInt).toNat < ((40 : Int) - i_2_0.toInt).toNat; exact kk_mu (by omega) (by omega)) ⟨(by show 0 ≤ ((i_2_0 + 1) : Int32).toInt ∧ ((i_2_0 + 1) : Int32).toInt ≤ 40; first | decide | ((omega))), hP.part (cx := [(h0, kO2 h7 h8 h9 n0_size h10 n0_names n0_plots h11 h1 h2 h3 h4 i_2_2), (h1, kAr cAlong 25 (fun j => some (h5 j))), (h2, kAr cAlong 5 (fun j => some (h6 j))), (h3, kAi cint 5 f_2_3), (h4, kAi cint 5 f_2_4)]) [2, 3, 4, 0, 1] rfl, hD.part (cx := [(h0, kO2 h7 h8 h9 n0_size h10 n0_names n0_plots h11 h1 h2 h3 h4 i_2_2), (h1, kAr cAlong 25 (fun j => some (h5 j))), (h2, kAr cAlong 5 (fun j => some (h6 j))), (h3, kAi cint 5 f_2_3), (h4, kAi cint 5 f_2_4)]) [2, 3, 4, 0, 1] (by decide) rfl, hS, lv_sub hl [0, 1, 2] rfl⟩
          · skip
            refine lv_if_eq (tgt := 75) hx hb dX2_search_58 (by decide) (fun c => absurd c (by decide)) (fun _ => ?_)
            refine lv_aload_n hx hb dX2_search_61 rfl (lv_at hl 1 rfl) ?_
            refine va_get (D := (dC, dI)) (ci := 2) (v := .ref h3) (C := RX2) (T := TX2) (N := 13) hx hb hts (fun _ h => List.mem_cons_of_mem _ (List.mem_append_right _ h)) hown hK hP 2 rfl rfl 10 (by decide) (hts (.fieldLink RX2 35 "KinkStreet$Deeds" "tried" "[I") (List.mem_of_getElem? (i := 6) rfl)) (fun _ h9 => h9) rfl dX2_search_62 ?_
            refine lv_iload_n hx hb dX2_search_65 rfl (lv_at hl 2 rfl) ?_
            refine lv_iload_n hx hb dX2_search_66 rfl (lv_at hl 0 rfl) ?_
            refine va_iast hx hb hK hP hD hS 0 1 rfl rfl (by unfold vp_in; decide) dX2_search_67 (fun H locs hP hD hS => ?_)
            generalize upd f_2_3 (1 : Int32).toNatClampNeg i_2_0 = f_11 at hP hD
            have hP : va_P (dC, dI) vwCl (([(h3, kAi cint 5 f_11), (h4, kAi cint 5 f_2_4), (h0, kO2 h7 h8 h9 n0_size h10 n0_names n0_plots h11 h1 h2 h3 h4 i_2_2), (h1, kAr cAlong 25 (fun j => some (h5 j))), (h2, kAr cAlong 5 (fun j => some (h6 j)))] : va_W) ++ (kk_rowsL h5 clong 40 F5 25 ++ (kk_rowsL h6 clong 5 f_10 5))) H := hP
            have hD : va_D A (([(h3, kAi cint 5 f_11), (h4, kAi cint 5 f_2_4), (h0, kO2 h7 h8 h9 n0_size h10 n0_names n0_plots h11 h1 h2 h3 h4 i_2_2), (h1, kAr cAlong 25 (fun j => some (h5 j))), (h2, kAr cAlong 5 (fun j => some (h6 j)))] : va_W) ++ (kk_rowsL h5 clong 40 F5 25 ++ (kk_rowsL h6 clong 5 f_10 5))) := hD
            refine lv_aload_n hx hb dX2_search_68 rfl (lv_at hl 1 rfl) ?_
            refine lv_iload_n hx hb dX2_search_69 rfl (lv_at hl 2 rfl) ?_
            refine lv_iconst (v := 1) hx hb dX2_search_70 kk_ic_1 ?_
            refine lv_iadd hx hb dX2_search_71 ?_
            refine lv_topi (fun y_12 e_12 => ?_)
            obtain rfl : y_12 = 2 := e_12.trans (by decide)
            have hPc := hP.part (cx := [(h0, kO2 h7 h8 h9 n0_size h10 n0_names n0_plots h11 h1 h2 h3 h4 i_2_2), (h1, kAr cAlong 25 (fun j => some (h5 j))), (h2, kAr cAlong 5 (fun j => some (h6 j))), (h3, kAi cint 5 f_11), (h4, kAi cint 5 f_2_4)]) [2, 3, 4, 0, 1] rfl
            have hDc := hD.part (cx := [(h0, kO2 h7 h8 h9 n0_size h10 n0_names n0_plots h11 h1 h2 h3 h4 i_2_2), (h1, kAr cAlong 25 (fun j => some (h5 j))), (h2, kAr cAlong 5 (fun j => some (h6 j))), (h3, kAi cint 5 f_11), (h4, kAi cint 5 f_2_4)]) [2, 3, 4, 0, 1] (by decide) rfl
            have hFc := va_freeP (cx := [(h0, kO2 h7 h8 h9 n0_size h10 n0_names n0_plots h11 h1 h2 h3 h4 i_2_2), (h1, kAr cAlong 25 (fun j => some (h5 j))), (h2, kAr cAlong 5 (fun j => some (h6 j))), (h3, kAi cint 5 f_11), (h4, kAi cint 5 f_2_4)]) hD hS hA [2, 3, 4, 0, 1] rfl
            have hKc := kk_Ks (tq := [(cAlong, .array .long), (cint, .int), (clong, .long)]) hK [0, 1, 2] rfl
            refine va_callv (va_runV (As := [.int 2]) (rest := []) ⟨hx, hb, hml, hown, hts⟩ (g_X2_search_2 l dC dI h0 h1 h2 h3 h4 h5 h6 h7 h8 h9 h10 h11 cAlong cint clong H.size n0_size n0_names n0_plots i_2_2 f_11 f_2_4 F5 f_10 tn0_size tn0_names tn0_plots) (cwV 1 hts gX2_search_X2_search rfl rfl rfl ⟨rfl, kh_X2_search⟩ ⟨Nat.le_of_ble_eq_true rfl, Nat.le_of_ble_eq_true rfl⟩) ⟨fun a U g mk q => by obtain ⟨q0, q1, qP, qK, qD⟩ := q; exact ⟨q0, q1, qP, va_K.moved (u := U) (U := U.calling g mk a) (Vm.Alike.refl U.vm) qK, qD⟩, va_recv hKc hPc (ci := 2) (q0 := 0) rfl rfl, fun U hU hW => ⟨rfl, by rw [hU], by rw [hU]; exact hPc, va_K.moved hW.alike hKc, hDc.weaken (fun _ _ _ _ => trivial)⟩⟩ rfl rfl hl.1 rfl (lv_room (Nat.le_of_ble_eq_true rfl)) dX2_search_72 ⟨Nat.le_of_ble_eq_true rfl, Nat.le_of_ble_eq_true rfl⟩) hS (fun q _ h => hFc q h) hFc (fun u t H1 locs ht hvm hw hB hz1 hk1 hS => ?_)
            refine hB.elim (fun y_14 hB => ?_)
            refine hB.elim (fun f_15 hB => ?_)
            refine hB.elim (fun f_16 hB => ?_)
            refine hB.elim (fun f_17 hB => ?_)
            have hP1 := hB.1
            have hK1 := hB.2.1
            have hD1 := hB.2.2
            rw [ht] at hP1
            have hK1 := va_K.moved hvm.symm hK1
            obtain ⟨hP, hD⟩ := va_joinP (cx := [(h0, kO2 h7 h8 h9 n0_size h10 n0_names n0_plots h11 h1 h2 h3 h4 i_2_2), (h1, kAr cAlong 25 (fun j => some (h5 j))), (h2, kAr cAlong 5 (fun j => some (h6 j))), (h3, kAi cint 5 f_11), (h4, kAi cint 5 f_2_4)]) (wr := []) (rx := [(h0, kO2 h7 h8 h9 n0_size h10 n0_names n0_plots h11 h1 h2 h3 h4 y_14), (h1, kAr cAlong 25 (fun j => some (h5 j))), (h2, kAr cAlong 5 (fun j => some (h6 j))), (h3, kAi cint 5 f_15), (h4, kAi cint 5 f_16)]) hP hD [2, 3, 4, 0, 1] [] rfl rfl (by decide) (by decide) hk1 hFc hP1 hD1
            generalize H1 = H at hP hS ⊢
            have hP : va_P (dC, dI) vwCl (([(h0, kO2 h7 h8 h9 n0_size h10 n0_names n0_plots h11 h1 h2 h3 h4 y_14), (h1, kAr cAlong 25 (fun j => some (h5 j))), (h2, kAr cAlong 5 (fun j => some (h6 j))), (h3, kAi cint 5 f_15), (h4, kAi cint 5 f_16)] : va_W) ++ (kk_rowsL h5 clong 40 F5 25 ++ (kk_rowsL h6 clong 5 f_17 5))) H := hP
            have hD : va_D A (([(h0, kO2 h7 h8 h9 n0_size h10 n0_names n0_plots h11 h1 h2 h3 h4 y_14), (h1, kAr cAlong 25 (fun j => some (h5 j))), (h2, kAr cAlong 5 (fun j => some (h6 j))), (h3, kAi cint 5 f_15), (h4, kAi cint 5 f_16)] : va_W) ++ (kk_rowsL h5 clong 40 F5 25 ++ (kk_rowsL h6 clong 5 f_17 5))) := hD
            refine lv_iinc (v := (i_2_0 + 1)) hx hb dX2_search_75 hl (k := 0) rfl (by first | rfl | decide) (by decide) (rfl : _ = ([(2, .int (i_2_0 + 1)), (0, .ref h0), (1, .int 1)] : List (Nat × Value))) (fun ls hl => ?_)
            refine lv_goto (tgt := 18) hx hb dX2_search_78 (by decide) ?_
            try have := kk_add2 (x := i_2_0) (y := 1) (a := i_2_0.toInt) (b := 1) rfl rfl (by omega) (by omega)
            exact ih_2 ((i_2_0 + 1), f_17, y_14, f_15, f_16) _ _ _ (by show ((40 : Int) - ((i_2_0 + 1)).toInt).toNat < ((40 : Int) - i_2_0.toInt).toNat; exact kk_mu (by omega) (by omega)) ⟨(by show 0 ≤ ((i_2_0 + 1) : Int32).toInt ∧ ((i_2_0 + 1) : Int32).toInt ≤ 40; first | decide | ((omega))), hP, hD, hS, lv_sub hl [0, 1, 2] rfl⟩
  · have t_1 : (n0_names - 1).toInt ≤ 1 := kk_nlt c_1
    refine lv_aload_n hx hb dX2_search_10 rfl (lv_at hl 0 rfl) ?_
    refine lv_iload_n hx hb dX2_search_11 rfl (lv_at hl 1 rfl) ?_
    have hPc := hP.part (cx := [(h0, kO2 h7 h8 h9 n0_size h10 n0_names n0_plots h11 h1 h2 h3 h4 n0_ways), (h1, kAr cAlong 25 (fun j => some (h5 j))), (h2, kAr cAlong 5 (fun j => some (h6 j))), (h3, kAi cint 5 f3), (h4, kAi cint 5 f4)]) [0, 1, 2, 3, 4] rfl
    have hDc := hD.part (cx := [(h0, kO2 h7 h8 h9 n0_size h10 n0_names n0_plots h11 h1 h2 h3 h4 n0_ways), (h1, kAr cAlong 25 (fun j => some (h5 j))), (h2, kAr cAlong 5 (fun j => some (h6 j))), (h3, kAi cint 5 f3), (h4, kAi cint 5 f4)]) [0, 1, 2, 3, 4] (by decide) rfl
    have hFc := va_freeP (cx := [(h0, kO2 h7 h8 h9 n0_size h10 n0_names n0_plots h11 h1 h2 h3 h4 n0_ways), (h1, kAr cAlong 25 (fun j => some (h5 j))), (h2, kAr cAlong 5 (fun j => some (h6 j))), (h3, kAi cint 5 f3), (h4, kAi cint 5 f4)]) hD hS hA [0, 1, 2, 3, 4] rfl
    have hKc := kk_Ks (tq := [(cAlong, .array .long), (cint, .int), (clong, .long)]) hK [0, 1, 2] rfl
    refine va_callv (va_runV (As := [.int 1]) (rest := []) ⟨hx, hb, hml, hown, hts⟩ (g_X2_countWays_3 l dC dI h0 h1 h2 h3 h4 h5 h6 h7 h8 h9 h10 h11 cAlong cint clong s.heap.size n0_size n0_names n0_plots n0_ways f3 f4 F5 F6 tn0_size tn0_names tn0_plots) (cwV 1 hts gX2_search_X2_countWays rfl rfl rfl ⟨rfl, kh_X2_countWays⟩ ⟨Nat.le_of_ble_eq_true rfl, Nat.le_of_ble_eq_true rfl⟩) ⟨fun a U g mk q => by obtain ⟨q0, q1, qP, qK, qD⟩ := q; exact ⟨q0, q1, qP, va_K.moved (u := U) (U := U.calling g mk a) (Vm.Alike.refl U.vm) qK, qD⟩, va_recv hKc hPc (ci := 2) (q0 := 0) rfl rfl, fun U hU hW => ⟨rfl, by rw [hU], by rw [hU]; exact hPc, va_K.moved hW.alike hKc, hDc.weaken (fun _ _ _ _ => trivial)⟩⟩ rfl rfl hl.1 rfl (lv_room (Nat.le_of_ble_eq_true rfl)) dX2_search_12 ⟨Nat.le_of_ble_eq_true rfl, Nat.le_of_ble_eq_true rfl⟩) hS (fun q _ h => hFc q h) hFc (fun u t H1 locs ht hvm hw hB hz1 hk1 hS => ?_)
    refine hB.elim (fun y_19 hB => ?_)
    refine hB.elim (fun f_20 hB => ?_)
    refine hB.elim (fun f_21 hB => ?_)
    have hP1 := hB.1
    have hK1 := hB.2.1
    have hD1 := hB.2.2
    rw [ht] at hP1
    have hK1 := va_K.moved hvm.symm hK1
    obtain ⟨hP, hD⟩ := va_joinP (cx := [(h0, kO2 h7 h8 h9 n0_size h10 n0_names n0_plots h11 h1 h2 h3 h4 n0_ways), (h1, kAr cAlong 25 (fun j => some (h5 j))), (h2, kAr cAlong 5 (fun j => some (h6 j))), (h3, kAi cint 5 f3), (h4, kAi cint 5 f4)]) (wr := []) (rx := [(h0, kO2 h7 h8 h9 n0_size h10 n0_names n0_plots h11 h1 h2 h3 h4 y_19), (h1, kAr cAlong 25 (fun j => some (h5 j))), (h2, kAr cAlong 5 (fun j => some (h6 j))), (h3, kAi cint 5 f_20), (h4, kAi cint 5 f_21)]) hP hD [0, 1, 2, 3, 4] [] rfl rfl (by decide) (by decide) hk1 hFc hP1 hD1
    generalize H1 = H at hP hS ⊢
    have hP : va_P (dC, dI) vwCl (([(h0, kO2 h7 h8 h9 n0_size h10 n0_names n0_plots h11 h1 h2 h3 h4 y_19), (h1, kAr cAlong 25 (fun j => some (h5 j))), (h2, kAr cAlong 5 (fun j => some (h6 j))), (h3, kAi cint 5 f_20), (h4, kAi cint 5 f_21)] : va_W) ++ (kk_rowsL h5 clong 40 F5 25 ++ (kk_rowsL h6 clong 5 F6 5))) H := hP
    have hD : va_D A (([(h0, kO2 h7 h8 h9 n0_size h10 n0_names n0_plots h11 h1 h2 h3 h4 y_19), (h1, kAr cAlong 25 (fun j => some (h5 j))), (h2, kAr cAlong 5 (fun j => some (h6 j))), (h3, kAi cint 5 f_20), (h4, kAi cint 5 f_21)] : va_W) ++ (kk_rowsL h5 clong 40 F5 25 ++ (kk_rowsL h6 clong 5 F6 5))) := hD
    have hP9 := hP.part (cx := [(h0, kO2 h7 h8 h9 n0_size h10 n0_names n0_plots h11 h1 h2 h3 h4 y_19), (h1, kAr cAlong 25 (fun j => some (h5 j))), (h2, kAr cAlong 5 (fun j => some (h6 j))), (h3, kAi cint 5 f_20), (h4, kAi cint 5 f_21)]) [0, 1, 2, 3, 4] rfl
    have hD9 := hD.part (cx := [(h0, kO2 h7 h8 h9 n0_size h10 n0_names n0_plots h11 h1 h2 h3 h4 y_19), (h1, kAr cAlong 25 (fun j => some (h5 j))), (h2, kAr cAlong 5 (fun j => some (h6 j))), (h3, kAi cint 5 f_20), (h4, kAi cint 5 f_21)]) [0, 1, 2, 3, 4] (by decide) rfl
    have hK9 := kk_Ks (tq := []) hK [] rfl
    exact W.vret hx hb hr (fun t ht hW => ⟨⟨(), rfl, trivial, y_19, f_20, f_21, F6, by rw [ht]; exact hP9, va_K.moved hW.alike hK9, hD9⟩, hS.F ht⟩) hS.2.2 dX2_search_15
set_option maxHeartbeats 4000000 in
set_option maxRecDepth 100000 in
theorem g_X2_countWays_4 (l : Launch) (dC : Nat → ClassId) (dI : Nat → Nat → Nat) (h0 : Nat) (h1 : Nat) (h2 : Nat) (h3 : Nat) (h4 : Nat) (h5 : Nat → Nat) (h6 : Nat → Nat) (h7 : Nat) (h8 : Nat) (h9 : Nat) (h10 : Nat) (h11 : Nat) (cAlong cint clong : ClassId) (sz : Nat) (n0_size : Int32) (n0_names : Int32) (n0_plots : Int32) (n0_ways : Int32) (f3 : Nat → Int32) (f4 : Nat → Int32) (F5 : Nat → Nat → Int64) (F6 : Nat → Nat → Int64) (tn0_size : kk_bx (0 ≤ n0_size.toInt ∧ n0_size.toInt ≤ 10)) (tn0_names : kk_bx (1 ≤ n0_names.toInt ∧ n0_names.toInt ≤ 5)) (tn0_plots : kk_bx (0 ≤ n0_plots.toInt ∧ n0_plots.toInt ≤ 40)) : Met l yX2_countWays wsX2_countWays ({ frames := 2, cells := 0, slots := 0, locals := 48 }) (va_Pc [.ref h0, .int 0] (fun U => U.heap.size = sz ∧ va_P (dC, dI) vwCl (([(h0, kO2 h7 h8 h9 n0_size h10 n0_names n0_plots h11 h1 h2 h3 h4 n0_ways), (h1, kAr cAlong 25 (fun j => some (h5 j))), (h2, kAr cAlong 5 (fun j => some (h6 j))), (h3, kAi cint 5 f3), (h4, kAi cint 5 f4)] : va_W) ++ (kk_rowsL h5 clong 40 F5 25 ++ (kk_rowsL h6 clong 5 F6 5))) U.heap ∧ va_K (dC, dI) vwCl [(cAlong, .array .long), (cint, .int), (clong, .long)] U ∧ va_D (fun _ => True) (([(h0, kO2 h7 h8 h9 n0_size h10 n0_names n0_plots h11 h1 h2 h3 h4 n0_ways), (h1, kAr cAlong 25 (fun j => some (h5 j))), (h2, kAr cAlong 5 (fun j => some (h6 j))), (h3, kAi cint 5 f3), (h4, kAi cint 5 f4)] : va_W) ++ (kk_rowsL h5 clong 40 F5 25 ++ (kk_rowsL h6 clong 5 F6 5))))) (va_Qv (fun (_ : Unit) => True) (fun (_ : Unit) t => ∃ (m0_ways : Int32) (g3 : Nat → Int32) (g4 : Nat → Int32), va_P (dC, dI) vwCl (([(h0, kO2 h7 h8 h9 n0_size h10 n0_names n0_plots h11 h1 h2 h3 h4 m0_ways), (h1, kAr cAlong 25 (fun j => some (h5 j))), (h2, kAr cAlong 5 (fun j => some (h6 j))), (h3, kAi cint 5 g3), (h4, kAi cint 5 g4)] : va_W) ++ (kk_rowsL h5 clong 40 F5 25 ++ (kk_rowsL h6 clong 5 F6 5))) t.heap ∧ va_K (dC, dI) vwCl [] t ∧ va_D (va_A (([(h0, kO2 h7 h8 h9 n0_size h10 n0_names n0_plots h11 h1 h2 h3 h4 n0_ways), (h1, kAr cAlong 25 (fun j => some (h5 j))), (h2, kAr cAlong 5 (fun j => some (h6 j))), (h3, kAi cint 5 f3), (h4, kAi cint 5 f4)] : va_W) ++ (kk_rowsL h5 clong 40 F5 25 ++ (kk_rowsL h6 clong 5 F6 5))) sz) (([(h0, kO2 h7 h8 h9 n0_size h10 n0_names n0_plots h11 h1 h2 h3 h4 m0_ways), (h1, kAr cAlong 25 (fun j => some (h5 j))), (h2, kAr cAlong 5 (fun j => some (h6 j))), (h3, kAi cint 5 g3), (h4, kAi cint 5 g4)] : va_W) ++ (kk_rowsL h5 clong 40 F5 25 ++ (kk_rowsL h6 clong 5 F6 5)))) (va_A (([(h0, kO2 h7 h8 h9 n0_size h10 n0_names n0_plots h11 h1 h2 h3 h4 n0_ways), (h1, kAr cAlong 25 (fun j => some (h5 j))), (h2, kAr cAlong 5 (fun j => some (h6 j))), (h3, kAi cint 5 f3), (h4, kAi cint 5 f4)] : va_W) ++ (kk_rowsL h5 clong 40 F5 25 ++ (kk_rowsL h6 clong 5 F6 5))) sz)) 0 0 (va_A (([(h0, kO2 h7 h8 h9 n0_size h10 n0_names n0_plots h11 h1 h2 h3 h4 n0_ways), (h1, kAr cAlong 25 (fun j => some (h5 j))), (h2, kAr cAlong 5 (fun j => some (h6 j))), (h3, kAi cint 5 f3), (h4, kAi cint 5 f4)] : va_W) ++ (kk_rowsL h5 clong 40 F5 25 ++ (kk_rowsL h6 clong 5 F6 5))) sz) := by
  refine Met.ofW (cc := cX2_countWays) (maxL := 4) (ret := none) (by decide) rfl ?_
  intro p e s m args below meth c s₁ B hml hv
  obtain ⟨rfl, hsz, hP, hK, hD0⟩ := hv
  have hx := B.exec
  have hb := B.bytes
  have hr := B.returns
  have hts := atoms_spec (ws := wsX2_countWays) B.pre
  have hown : s.vm.findClass RX2 = some m.cls := findClass_of_methodNamed B.named
  have hlocks := B.notSynchronized
  subst hsz
  have hD := hD0.self (sz := s.heap.size)
  generalize hAe : va_A (([(h0, kO2 h7 h8 h9 n0_size h10 n0_names n0_plots h11 h1 h2 h3 h4 n0_ways), (h1, kAr cAlong 25 (fun j => some (h5 j))), (h2, kAr cAlong 5 (fun j => some (h6 j))), (h3, kAi cint 5 f3), (h4, kAi cint 5 f4)] : va_W) ++ (kk_rowsL h5 clong 40 F5 25 ++ (kk_rowsL h6 clong 5 F6 5))) s.heap.size = A at hD ⊢
  have hA : ∀ q : Nat, s.heap.size ≤ q → A q := fun q h => by rw [← hAe]; exact Or.inr h
  have hS : va_S A s.heap s.heap [] := va_S.rf
  have hP : va_P (dC, dI) vwCl (([(h0, kO2 h7 h8 h9 n0_size h10 n0_names n0_plots h11 h1 h2 h3 h4 n0_ways), (h1, kAr cAlong 25 (fun j => some (h5 j))), (h2, kAr cAlong 5 (fun j => some (h6 j))), (h3, kAi cint 5 f3), (h4, kAi cint 5 f4)] : va_W) ++ (kk_rowsL h5 clong 40 F5 25 ++ (kk_rowsL h6 clong 5 F6 5))) s.heap := hP
  have hl := lv_entry ([.ref h0, .int 0]) (n := 4) (Nat.le_of_ble_eq_true rfl)
  rw [lg_entry_eq]
  generalize (lg_sl ([.ref h0, .int 0]) ++ List.replicate (4 - (lg_sl ([.ref h0, .int 0])).length) Slot.unset).toArray = ls at hl ⊢
  have hl : lv_has ls 4 [(0, .ref h0), (1, .int 0)] := hl
  refine lv_aload_n hx hb dX2_countWays_0 rfl (lv_at hl 0 rfl) ?_
  refine va_get (D := (dC, dI)) (ci := 2) (v := .ref h2) (C := RX2) (T := TX2) (N := 13) hx hb hts (fun _ h => List.mem_cons_of_mem _ (List.mem_append_right _ h)) hown hK hP 0 rfl rfl 9 (by decide) (hts (.fieldLink RX2 32 "KinkStreet$Deeds" "open" "[[J") (List.mem_of_getElem? (i := 1) rfl)) (fun _ h9 => h9) rfl dX2_countWays_1 ?_
  refine lv_iload_n hx hb dX2_countWays_4 rfl (lv_at hl 1 rfl) ?_
  have hi_1 : vp_in (0 : Int32) 5 := (by unfold vp_in; decide)
  have hk_1 : (0 : Int32).toNatClampNeg < 5 := Nat.not_le.mp fun q => hi_1 (Or.inr q)
  refine kk_aald hx hb hK hP 2 0 rfl rfl hi_1 dX2_countWays_5 ?_
  refine W.eq (g2 := F0 m 6 ls [.ref (h6 (0 : Int32).toNatClampNeg)]) rfl ?_
  refine lv_iload_n hx hb dX2_countWays_6 rfl (lv_at hl 1 rfl) ?_
  refine va_lald hx hb hK hP _ 2 (kk_getr (kk_getr (kk_rowL hk_1))) rfl (by unfold vp_in; decide) dX2_countWays_7 ?_
  refine lv_topl (fun y_2 e_2 => ?_)
  clear e_2
  refine lv_lstore_n hx hb dX2_countWays_8 rfl hl (by decide) (rfl : _ = ([(2, .long y_2), (0, .ref h0), (1, .int 0)] : List (Nat × Value))) (fun ls hl => ?_)
  refine lv_lload_n hx hb dX2_countWays_9 rfl (lv_at hl 0 rfl) ?_
  refine lv_lconst (v := 0) hx hb dX2_countWays_10 (by decide) ?_
  refine W.lcmp hx hb dX2_countWays_11 ?_
  refine lv_if_ne (tgt := 16) hx hb dX2_countWays_12 (by decide) (fun _ => ?_) (fun _ => ?_)
  · skip
    refine lv_aload_n hx hb dX2_countWays_16 rfl (lv_at hl 1 rfl) ?_
    refine va_get (D := (dC, dI)) (ci := 2) (v := .int n0_ways) (C := RX2) (T := TX2) (N := 13) hx hb hts (fun _ h => List.mem_cons_of_mem _ (List.mem_append_right _ h)) hown hK hP 0 rfl rfl 12 (by decide) (hts (.fieldLink RX2 70 "KinkStreet$Deeds" "ways" "I") (List.mem_of_getElem? (i := 2) rfl)) (fun _ h9 => h9) rfl dX2_countWays_17 ?_
    refine lv_if_ne (tgt := 47) hx hb dX2_countWays_20 (by decide) (fun c_3 => ?_) (fun c_3 => ?_)
    · have t_3 : n0_ways.toInt ≠ 0 := kk_ne c_3
      refine lv_aload_n hx hb dX2_countWays_47 rfl (lv_at hl 1 rfl) ?_
      refine lv_ldc hx hb hown (hts _ (List.mem_of_getElem? (i := 9) rfl)) dX2_countWays_48 ?_
      refine lv_aload_n hx hb dX2_countWays_50 rfl (lv_at hl 1 rfl) ?_
      refine va_get (D := (dC, dI)) (ci := 2) (v := .int n0_ways) (C := RX2) (T := TX2) (N := 13) hx hb hts (fun _ h => List.mem_cons_of_mem _ (List.mem_append_right _ h)) hown hK hP 0 rfl rfl 12 (by decide) (hts (.fieldLink RX2 70 "KinkStreet$Deeds" "ways" "I") (List.mem_of_getElem? (i := 2) rfl)) (fun _ h9 => h9) rfl dX2_countWays_51 ?_
      refine lv_lload_n hx hb dX2_countWays_54 rfl (lv_at hl 0 rfl) ?_
      obtain ⟨hPc, hDc, hFc⟩ := kk_cutout (wc := []) hP hD hS hA [] (by decide) rfl
      have hKc := kk_Ks (tq := []) hK [] rfl
      refine va_calli (va_runS (As := [.long y_2]) (rest := [.int n0_ways, .int 1000000, .ref h0]) ⟨hx, hb, hml, hown, hts⟩ (g_J13_bitCount_95d88_0 l dC dI s.heap.size y_2 (y_2.toInt) rfl) (va_cwS 1 hts gX2_countWays_J13_bitCount_95d88 rfl rfl rfl kh_J13_bitCount_95d88 ⟨Nat.le_of_ble_eq_true rfl, Nat.le_of_ble_eq_true rfl⟩) ⟨fun a U g mk q => by obtain ⟨q0, q1, qP, qK, qD⟩ := q; exact ⟨q0, q1, qP, va_K.moved (u := U) (U := U.calling g mk a) (Vm.Alike.refl U.vm) qK, qD⟩, fun U hU hW => ⟨rfl, by rw [hU], by rw [hU]; exact hPc, va_K.moved hW.alike hKc, hDc.weaken (fun _ _ _ _ => trivial)⟩⟩ rfl rfl hl.1 rfl (lv_room (Nat.le_of_ble_eq_true rfl)) dX2_countWays_55 ⟨Nat.le_of_ble_eq_true rfl, Nat.le_of_ble_eq_true rfl⟩) hS (fun q _ h => hFc q h) hFc (fun r_4 u t H1 locs ht hvm hw hB hz1 hk1 hS => ?_)
      obtain ⟨hP1, hK1, hD1⟩ := hB
      rw [ht] at hP1
      have hK1 := va_K.moved hvm.symm hK1
      obtain ⟨hP, hD⟩ := va_joinQ (cx := []) (wr := [(h0, kO2 h7 h8 h9 n0_size h10 n0_names n0_plots h11 h1 h2 h3 h4 n0_ways), (h1, kAr cAlong 25 (fun j => some (h5 j))), (h2, kAr cAlong 5 (fun j => some (h6 j))), (h3, kAi cint 5 f3), (h4, kAi cint 5 f4)]) (w1 := []) hP hD [] [0, 1, 2, 3, 4] rfl rfl (by decide) (by decide) hk1 hFc hP1 hD1
      generalize H1 = H at hP hS ⊢
      have hP : va_P (dC, dI) vwCl (([(h0, kO2 h7 h8 h9 n0_size h10 n0_names n0_plots h11 h1 h2 h3 h4 n0_ways), (h1, kAr cAlong 25 (fun j => some (h5 j))), (h2, kAr cAlong 5 (fun j => some (h6 j))), (h3, kAi cint 5 f3), (h4, kAi cint 5 f4)] : va_W) ++ (kk_rowsL h5 clong 40 F5 25 ++ (kk_rowsL h6 clong 5 F6 5))) H := hP
      have hD : va_D A (([(h0, kO2 h7 h8 h9 n0_size h10 n0_names n0_plots h11 h1 h2 h3 h4 n0_ways), (h1, kAr cAlong 25 (fun j => some (h5 j))), (h2, kAr cAlong 5 (fun j => some (h6 j))), (h3, kAi cint 5 f3), (h4, kAi cint 5 f4)] : va_W) ++ (kk_rowsL h5 clong 40 F5 25 ++ (kk_rowsL h6 clong 5 F6 5))) := hD
      refine lv_iadd hx hb dX2_countWays_58 ?_
      refine va_mmin hx hb (hml.trans hl.1.symm) hown (hts (.methodLink RX2 61 Lib.Math.min.name) (List.mem_of_getElem? (i := 10) rfl)) (hts (.static Lib.Math.min.name) (List.mem_of_getElem? (i := 11) rfl)) (hts (.initialized "java/lang/Math") (List.mem_of_getElem? (i := 12) rfl)) (hts (.code Lib.Math.min.name Lib.Math.min.code 2 (some .int)) (List.mem_of_getElem? (i := 13) rfl)) (Nat.le_of_ble_eq_true rfl) (Nat.le_of_ble_eq_true rfl) (Nat.le_of_ble_eq_true rfl) (Nat.le_of_ble_eq_true rfl) dX2_countWays_59 ?_
      refine lv_topi (fun y_5 e_5 => ?_)
      have t_5 : y_5.toInt ≤ 1000000 ∧ y_5.toInt ≤ (n0_ways + r_4).toInt ∧ (y_5.toInt = 1000000 ∨ y_5.toInt = (n0_ways + r_4).toInt) := by rw [e_5]; exact kk_min _ _
      clear e_5
      refine va_put (D := (dC, dI)) (ci := 2) (v := .int y_5) (ty := .int) (C := RX2) (T := TX2) (N := 13) hx hb hts (fun _ h => List.mem_cons_of_mem _ (List.mem_append_right _ h)) tyX2 tyX2_ok nmX2 hown hK hP hD hS 0 rfl rfl 12 (by decide) (hts (.fieldLink RX2 70 "KinkStreet$Deeds" "ways" "I") (List.mem_of_getElem? (i := 2) rfl)) (fun _ h9 => h9) rfl (by decide +kernel) rfl rfl (Nat.le_of_ble_eq_true rfl) dX2_countWays_62 (fun H locs hP hD hS => ?_)
      have hP : va_P (dC, dI) vwCl (([(h0, kO2 h7 h8 h9 n0_size h10 n0_names n0_plots h11 h1 h2 h3 h4 y_5), (h1, kAr cAlong 25 (fun j => some (h5 j))), (h2, kAr cAlong 5 (fun j => some (h6 j))), (h3, kAi cint 5 f3), (h4, kAi cint 5 f4)] : va_W) ++ (kk_rowsL h5 clong 40 F5 25 ++ (kk_rowsL h6 clong 5 F6 5))) H := hP
      have hD : va_D A (([(h0, kO2 h7 h8 h9 n0_size h10 n0_names n0_plots h11 h1 h2 h3 h4 y_5), (h1, kAr cAlong 25 (fun j => some (h5 j))), (h2, kAr cAlong 5 (fun j => some (h6 j))), (h3, kAi cint 5 f3), (h4, kAi cint 5 f4)] : va_W) ++ (kk_rowsL h5 clong 40 F5 25 ++ (kk_rowsL h6 clong 5 F6 5))) := hD
      have hP9 := hP.part (cx := [(h0, kO2 h7 h8 h9 n0_size h10 n0_names n0_plots h11 h1 h2 h3 h4 y_5), (h1, kAr cAlong 25 (fun j => some (h5 j))), (h2, kAr cAlong 5 (fun j => some (h6 j))), (h3, kAi cint 5 f3), (h4, kAi cint 5 f4)]) [0, 1, 2, 3, 4] rfl
      have hD9 := hD.part (cx := [(h0, kO2 h7 h8 h9 n0_size h10 n0_names n0_plots h11 h1 h2 h3 h4 y_5), (h1, kAr cAlong 25 (fun j => some (h5 j))), (h2, kAr cAlong 5 (fun j => some (h6 j))), (h3, kAi cint 5 f3), (h4, kAi cint 5 f4)]) [0, 1, 2, 3, 4] (by decide) rfl
      have hK9 := kk_Ks (tq := []) hK [] rfl
      exact W.vret hx hb hr (fun t ht hW => ⟨⟨(), rfl, trivial, y_5, f3, f4, by rw [ht]; exact hP9, va_K.moved hW.alike hK9, hD9⟩, hS.F ht⟩) hS.2.2 dX2_countWays_65
    · have t_3 : n0_ways.toInt = 0 := kk_eq c_3
      refine lv_aload_n hx hb dX2_countWays_23 rfl (lv_at hl 1 rfl) ?_
      refine va_get (D := (dC, dI)) (ci := 2) (v := .ref h3) (C := RX2) (T := TX2) (N := 13) hx hb hts (fun _ h => List.mem_cons_of_mem _ (List.mem_append_right _ h)) hown hK hP 0 rfl rfl 10 (by decide) (hts (.fieldLink RX2 35 "KinkStreet$Deeds" "tried" "[I") (List.mem_of_getElem? (i := 3) rfl)) (fun _ h9 => h9) rfl dX2_countWays_24 ?_
      refine lv_iload_n hx hb dX2_countWays_27 rfl (lv_at hl 2 rfl) ?_
      refine lv_lload_n hx hb dX2_countWays_28 rfl (lv_at hl 0 rfl) ?_
      obtain ⟨hPc, hDc, hFc⟩ := kk_cutout (wc := []) hP hD hS hA [] (by decide) rfl
      have hKc := kk_Ks (tq := []) hK [] rfl
      refine va_calli (va_runS (As := [.long y_2]) (rest := [.int 0, .ref h3]) ⟨hx, hb, hml, hown, hts⟩ (g_J13_numberOfTrailingZeros_95d88_0 l dC dI s.heap.size y_2 (y_2.toInt) rfl) (va_cwS 1 hts gX2_countWays_J13_numberOfTrailingZeros_95d88 rfl rfl rfl kh_J13_numberOfTrailingZeros_95d88 ⟨Nat.le_of_ble_eq_true rfl, Nat.le_of_ble_eq_true rfl⟩) ⟨fun a U g mk q => by obtain ⟨q0, q1, qP, qK, qD⟩ := q; exact ⟨q0, q1, qP, va_K.moved (u := U) (U := U.calling g mk a) (Vm.Alike.refl U.vm) qK, qD⟩, fun U hU hW => ⟨rfl, by rw [hU], by rw [hU]; exact hPc, va_K.moved hW.alike hKc, hDc.weaken (fun _ _ _ _ => trivial)⟩⟩ rfl rfl hl.1 rfl (lv_room (Nat.le_of_ble_eq_true rfl)) dX2_countWays_29 ⟨Nat.le_of_ble_eq_true rfl, Nat.le_of_ble_eq_true rfl⟩) hS (fun q _ h => hFc q h) hFc (fun r_6 u t H1 locs ht hvm hw hB hz1 hk1 hS => ?_)
      obtain ⟨hP1, hK1, hD1⟩ := hB
      rw [ht] at hP1
      have hK1 := va_K.moved hvm.symm hK1
      obtain ⟨hP, hD⟩ := va_joinQ (cx := []) (wr := [(h0, kO2 h7 h8 h9 n0_size h10 n0_names n0_plots h11 h1 h2 h3 h4 n0_ways), (h1, kAr cAlong 25 (fun j => some (h5 j))), (h2, kAr cAlong 5 (fun j => some (h6 j))), (h3, kAi cint 5 f3), (h4, kAi cint 5 f4)]) (w1 := []) hP hD [] [0, 1, 2, 3, 4] rfl rfl (by decide) (by decide) hk1 hFc hP1 hD1
      generalize H1 = H at hP hS ⊢
      have hP : va_P (dC, dI) vwCl (([(h0, kO2 h7 h8 h9 n0_size h10 n0_names n0_plots h11 h1 h2 h3 h4 n0_ways), (h1, kAr cAlong 25 (fun j => some (h5 j))), (h2, kAr cAlong 5 (fun j => some (h6 j))), (h3, kAi cint 5 f3), (h4, kAi cint 5 f4)] : va_W) ++ (kk_rowsL h5 clong 40 F5 25 ++ (kk_rowsL h6 clong 5 F6 5))) H := hP
      have hD : va_D A (([(h0, kO2 h7 h8 h9 n0_size h10 n0_names n0_plots h11 h1 h2 h3 h4 n0_ways), (h1, kAr cAlong 25 (fun j => some (h5 j))), (h2, kAr cAlong 5 (fun j => some (h6 j))), (h3, kAi cint 5 f3), (h4, kAi cint 5 f4)] : va_W) ++ (kk_rowsL h5 clong 40 F5 25 ++ (kk_rowsL h6 clong 5 F6 5))) := hD
      refine va_iast hx hb hK hP hD hS 3 1 rfl rfl (by unfold vp_in; decide) dX2_countWays_32 (fun H locs hP hD hS => ?_)
      generalize upd f3 (0 : Int32).toNatClampNeg r_6 = f_7 at hP hD
      have hP : va_P (dC, dI) vwCl (([(h0, kO2 h7 h8 h9 n0_size h10 n0_names n0_plots h11 h1 h2 h3 h4 n0_ways), (h1, kAr cAlong 25 (fun j => some (h5 j))), (h2, kAr cAlong 5 (fun j => some (h6 j))), (h3, kAi cint 5 f_7), (h4, kAi cint 5 f4)] : va_W) ++ (kk_rowsL h5 clong 40 F5 25 ++ (kk_rowsL h6 clong 5 F6 5))) H := hP
      have hD : va_D A (([(h0, kO2 h7 h8 h9 n0_size h10 n0_names n0_plots h11 h1 h2 h3 h4 n0_ways), (h1, kAr cAlong 25 (fun j => some (h5 j))), (h2, kAr cAlong 5 (fun j => some (h6 j))), (h3, kAi cint 5 f_7), (h4, kAi cint 5 f4)] : va_W) ++ (kk_rowsL h5 clong 40 F5 25 ++ (kk_rowsL h6 clong 5 F6 5))) := hD
      refine lv_aload_n hx hb dX2_countWays_33 rfl (lv_at hl 1 rfl) ?_
      refine va_get (D := (dC, dI)) (ci := 2) (v := .ref h3) (C := RX2) (T := TX2) (N := 13) hx hb hts (fun _ h => List.mem_cons_of_mem _ (List.mem_append_right _ h)) hown hK hP 0 rfl rfl 10 (by decide) (hts (.fieldLink RX2 35 "KinkStreet$Deeds" "tried" "[I") (List.mem_of_getElem? (i := 3) rfl)) (fun _ h9 => h9) rfl dX2_countWays_34 ?_
      refine lv_iconst (v := 0) hx hb dX2_countWays_37 kk_ic_0 ?_
      refine lv_aload_n hx hb dX2_countWays_38 rfl (lv_at hl 1 rfl) ?_
      refine va_get (D := (dC, dI)) (ci := 2) (v := .ref h4) (C := RX2) (T := TX2) (N := 13) hx hb hts (fun _ h => List.mem_cons_of_mem _ (List.mem_append_right _ h)) hown hK hP 0 rfl rfl 11 (by decide) (hts (.fieldLink RX2 38 "KinkStreet$Deeds" "found" "[I") (List.mem_of_getElem? (i := 4) rfl)) (fun _ h9 => h9) rfl dX2_countWays_39 ?_
      refine lv_iconst (v := 0) hx hb dX2_countWays_42 kk_ic_0 ?_
      refine lv_iconst (v := 5) hx hb dX2_countWays_43 kk_ic_5 ?_
      refine va_copyi (sp := 0) (dp := 0) (n := 5) hx hb (hml.trans hl.1.symm) hown (hts (.methodLink RX2 118 arraycopyName) (List.mem_of_getElem? (i := 5) rfl)) (hts (.native arraycopyName) (List.mem_of_getElem? (i := 6) rfl)) (hts (.static arraycopyName) (List.mem_of_getElem? (i := 7) rfl)) (hts (.initialized "java/lang/System") (List.mem_of_getElem? (i := 8) rfl)) hK hP hD hS 3 4 1 1 rfl rfl rfl rfl rfl (by decide) (by decide) (by decide) (by decide) (by decide) (fun _ _ => rfl) (Nat.le_of_ble_eq_true rfl) (Nat.le_of_ble_eq_true rfl) dX2_countWays_44 (fun H locs hP hD hS => ?_)
      generalize va_cpy f_7 f4 (0 : Int32).toNatClampNeg (0 : Int32).toNatClampNeg (5 : Int32).toNatClampNeg = f_8 at hP hD
      have hP : va_P (dC, dI) vwCl (([(h0, kO2 h7 h8 h9 n0_size h10 n0_names n0_plots h11 h1 h2 h3 h4 n0_ways), (h1, kAr cAlong 25 (fun j => some (h5 j))), (h2, kAr cAlong 5 (fun j => some (h6 j))), (h3, kAi cint 5 f_7), (h4, kAi cint 5 f_8)] : va_W) ++ (kk_rowsL h5 clong 40 F5 25 ++ (kk_rowsL h6 clong 5 F6 5))) H := hP
      have hD : va_D A (([(h0, kO2 h7 h8 h9 n0_size h10 n0_names n0_plots h11 h1 h2 h3 h4 n0_ways), (h1, kAr cAlong 25 (fun j => some (h5 j))), (h2, kAr cAlong 5 (fun j => some (h6 j))), (h3, kAi cint 5 f_7), (h4, kAi cint 5 f_8)] : va_W) ++ (kk_rowsL h5 clong 40 F5 25 ++ (kk_rowsL h6 clong 5 F6 5))) := hD
      refine lv_aload_n hx hb dX2_countWays_47 rfl (lv_at hl 1 rfl) ?_
      refine lv_ldc hx hb hown (hts _ (List.mem_of_getElem? (i := 9) rfl)) dX2_countWays_48 ?_
      refine lv_aload_n hx hb dX2_countWays_50 rfl (lv_at hl 1 rfl) ?_
      refine va_get (D := (dC, dI)) (ci := 2) (v := .int n0_ways) (C := RX2) (T := TX2) (N := 13) hx hb hts (fun _ h => List.mem_cons_of_mem _ (List.mem_append_right _ h)) hown hK hP 0 rfl rfl 12 (by decide) (hts (.fieldLink RX2 70 "KinkStreet$Deeds" "ways" "I") (List.mem_of_getElem? (i := 2) rfl)) (fun _ h9 => h9) rfl dX2_countWays_51 ?_
      refine lv_lload_n hx hb dX2_countWays_54 rfl (lv_at hl 0 rfl) ?_
      obtain ⟨hPc, hDc, hFc⟩ := kk_cutout (wc := []) hP hD hS hA [] (by decide) rfl
      have hKc := kk_Ks (tq := []) hK [] rfl
      refine va_calli (va_runS (As := [.long y_2]) (rest := [.int n0_ways, .int 1000000, .ref h0]) ⟨hx, hb, hml, hown, hts⟩ (g_J13_bitCount_95d88_0 l dC dI H.size y_2 (y_2.toInt) rfl) (va_cwS 1 hts gX2_countWays_J13_bitCount_95d88 rfl rfl rfl kh_J13_bitCount_95d88 ⟨Nat.le_of_ble_eq_true rfl, Nat.le_of_ble_eq_true rfl⟩) ⟨fun a U g mk q => by obtain ⟨q0, q1, qP, qK, qD⟩ := q; exact ⟨q0, q1, qP, va_K.moved (u := U) (U := U.calling g mk a) (Vm.Alike.refl U.vm) qK, qD⟩, fun U hU hW => ⟨rfl, by rw [hU], by rw [hU]; exact hPc, va_K.moved hW.alike hKc, hDc.weaken (fun _ _ _ _ => trivial)⟩⟩ rfl rfl hl.1 rfl (lv_room (Nat.le_of_ble_eq_true rfl)) dX2_countWays_55 ⟨Nat.le_of_ble_eq_true rfl, Nat.le_of_ble_eq_true rfl⟩) hS (fun q _ h => hFc q h) hFc (fun r_9 u t H1 locs ht hvm hw hB hz1 hk1 hS => ?_)
      obtain ⟨hP1, hK1, hD1⟩ := hB
      rw [ht] at hP1
      have hK1 := va_K.moved hvm.symm hK1
      obtain ⟨hP, hD⟩ := va_joinQ (cx := []) (wr := [(h0, kO2 h7 h8 h9 n0_size h10 n0_names n0_plots h11 h1 h2 h3 h4 n0_ways), (h1, kAr cAlong 25 (fun j => some (h5 j))), (h2, kAr cAlong 5 (fun j => some (h6 j))), (h3, kAi cint 5 f_7), (h4, kAi cint 5 f_8)]) (w1 := []) hP hD [] [0, 1, 2, 3, 4] rfl rfl (by decide) (by decide) hk1 hFc hP1 hD1
      generalize H1 = H at hP hS ⊢
      have hP : va_P (dC, dI) vwCl (([(h0, kO2 h7 h8 h9 n0_size h10 n0_names n0_plots h11 h1 h2 h3 h4 n0_ways), (h1, kAr cAlong 25 (fun j => some (h5 j))), (h2, kAr cAlong 5 (fun j => some (h6 j))), (h3, kAi cint 5 f_7), (h4, kAi cint 5 f_8)] : va_W) ++ (kk_rowsL h5 clong 40 F5 25 ++ (kk_rowsL h6 clong 5 F6 5))) H := hP
      have hD : va_D A (([(h0, kO2 h7 h8 h9 n0_size h10 n0_names n0_plots h11 h1 h2 h3 h4 n0_ways), (h1, kAr cAlong 25 (fun j => some (h5 j))), (h2, kAr cAlong 5 (fun j => some (h6 j))), (h3, kAi cint 5 f_7), (h4, kAi cint 5 f_8)] : va_W) ++ (kk_rowsL h5 clong 40 F5 25 ++ (kk_rowsL h6 clong 5 F6 5))) := hD
      refine lv_iadd hx hb dX2_countWays_58 ?_
      refine va_mmin hx hb (hml.trans hl.1.symm) hown (hts (.methodLink RX2 61 Lib.Math.min.name) (List.mem_of_getElem? (i := 10) rfl)) (hts (.static Lib.Math.min.name) (List.mem_of_getElem? (i := 11) rfl)) (hts (.initialized "java/lang/Math") (List.mem_of_getElem? (i := 12) rfl)) (hts (.code Lib.Math.min.name Lib.Math.min.code 2 (some .int)) (List.mem_of_getElem? (i := 13) rfl)) (Nat.le_of_ble_eq_true rfl) (Nat.le_of_ble_eq_true rfl) (Nat.le_of_ble_eq_true rfl) (Nat.le_of_ble_eq_true rfl) dX2_countWays_59 ?_
      refine lv_topi (fun y_10 e_10 => ?_)
      have t_10 : y_10.toInt ≤ 1000000 ∧ y_10.toInt ≤ (n0_ways + r_9).toInt ∧ (y_10.toInt = 1000000 ∨ y_10.toInt = (n0_ways + r_9).toInt) := by rw [e_10]; exact kk_min _ _
      clear e_10
      refine va_put (D := (dC, dI)) (ci := 2) (v := .int y_10) (ty := .int) (C := RX2) (T := TX2) (N := 13) hx hb hts (fun _ h => List.mem_cons_of_mem _ (List.mem_append_right _ h)) tyX2 tyX2_ok nmX2 hown hK hP hD hS 0 rfl rfl 12 (by decide) (hts (.fieldLink RX2 70 "KinkStreet$Deeds" "ways" "I") (List.mem_of_getElem? (i := 2) rfl)) (fun _ h9 => h9) rfl (by decide +kernel) rfl rfl (Nat.le_of_ble_eq_true rfl) dX2_countWays_62 (fun H locs hP hD hS => ?_)
      have hP : va_P (dC, dI) vwCl (([(h0, kO2 h7 h8 h9 n0_size h10 n0_names n0_plots h11 h1 h2 h3 h4 y_10), (h1, kAr cAlong 25 (fun j => some (h5 j))), (h2, kAr cAlong 5 (fun j => some (h6 j))), (h3, kAi cint 5 f_7), (h4, kAi cint 5 f_8)] : va_W) ++ (kk_rowsL h5 clong 40 F5 25 ++ (kk_rowsL h6 clong 5 F6 5))) H := hP
      have hD : va_D A (([(h0, kO2 h7 h8 h9 n0_size h10 n0_names n0_plots h11 h1 h2 h3 h4 y_10), (h1, kAr cAlong 25 (fun j => some (h5 j))), (h2, kAr cAlong 5 (fun j => some (h6 j))), (h3, kAi cint 5 f_7), (h4, kAi cint 5 f_8)] : va_W) ++ (kk_rowsL h5 clong 40 F5 25 ++ (kk_rowsL h6 clong 5 F6 5))) := hD
      have hP9 := hP.part (cx := [(h0, kO2 h7 h8 h9 n0_size h10 n0_names n0_plots h11 h1 h2 h3 h4 y_10), (h1, kAr cAlong 25 (fun j => some (h5 j))), (h2, kAr cAlong 5 (fun j => some (h6 j))), (h3, kAi cint 5 f_7), (h4, kAi cint 5 f_8)]) [0, 1, 2, 3, 4] rfl
      have hD9 := hD.part (cx := [(h0, kO2 h7 h8 h9 n0_size h10 n0_names n0_plots h11 h1 h2 h3 h4 y_10), (h1, kAr cAlong 25 (fun j => some (h5 j))), (h2, kAr cAlong 5 (fun j => some (h6 j))), (h3, kAi cint 5 f_7), (h4, kAi cint 5 f_8)]) [0, 1, 2, 3, 4] (by decide) rfl
      have hK9 := kk_Ks (tq := []) hK [] rfl
      exact W.vret hx hb hr (fun t ht hW => ⟨⟨(), rfl, trivial, y_10, f_7, f_8, by rw [ht]; exact hP9, va_K.moved hW.alike hK9, hD9⟩, hS.F ht⟩) hS.2.2 dX2_countWays_65
  · skip
    have hP9 := hP.part (cx := [(h0, kO2 h7 h8 h9 n0_size h10 n0_names n0_plots h11 h1 h2 h3 h4 n0_ways), (h1, kAr cAlong 25 (fun j => some (h5 j))), (h2, kAr cAlong 5 (fun j => some (h6 j))), (h3, kAi cint 5 f3), (h4, kAi cint 5 f4)]) [0, 1, 2, 3, 4] rfl
    have hD9 := hD.part (cx := [(h0, kO2 h7 h8 h9 n0_size h10 n0_names n0_plots h11 h1 h2 h3 h4 n0_ways), (h1, kAr cAlong 25 (fun j => some (h5 j))), (h2, kAr cAlong 5 (fun j => some (h6 j))), (h3, kAi cint 5 f3), (h4, kAi cint 5 f4)]) [0, 1, 2, 3, 4] (by decide) rfl
    have hK9 := kk_Ks (tq := []) hK [] rfl
    exact W.vret hx hb hr (fun t ht hW => ⟨⟨(), rfl, trivial, n0_ways, f3, f4, by rw [ht]; exact hP9, va_K.moved hW.alike hK9, hD9⟩, hS.F ht⟩) hS.2.2 dX2_countWays_15
set_option maxHeartbeats 4000000 in
set_option maxRecDepth 100000 in
theorem g_X2_search_4 (l : Launch) (dC : Nat → ClassId) (dI : Nat → Nat → Nat) (h0 : Nat) (h1 : Nat) (h2 : Nat) (h3 : Nat) (h4 : Nat) (h5 : Nat → Nat) (h6 : Nat → Nat) (h7 : Nat) (h8 : Nat) (h9 : Nat) (h10 : Nat) (h11 : Nat) (cAlong cint clong : ClassId) (sz : Nat) (n0_size : Int32) (n0_names : Int32) (n0_plots : Int32) (n0_ways : Int32) (f3 : Nat → Int32) (f4 : Nat → Int32) (F5 : Nat → Nat → Int64) (F6 : Nat → Nat → Int64) (tn0_size : kk_bx (0 ≤ n0_size.toInt ∧ n0_size.toInt ≤ 10)) (tn0_names : 1 ≤ n0_names.toInt ∧ n0_names.toInt ≤ 5) (tn0_plots : 0 ≤ n0_plots.toInt ∧ n0_plots.toInt ≤ 40) : Met l yX2_search wsX2_search ({ frames := 7, cells := 0, slots := 0, locals := 159 }) (va_Pc [.ref h0, .int 0] (fun U => U.heap.size = sz ∧ va_P (dC, dI) vwCl (([(h0, kO2 h7 h8 h9 n0_size h10 n0_names n0_plots h11 h1 h2 h3 h4 n0_ways), (h1, kAr cAlong 25 (fun j => some (h5 j))), (h2, kAr cAlong 5 (fun j => some (h6 j))), (h3, kAi cint 5 f3), (h4, kAi cint 5 f4)] : va_W) ++ (kk_rowsL h5 clong 40 F5 25 ++ (kk_rowsL h6 clong 5 F6 5))) U.heap ∧ va_K (dC, dI) vwCl [(cAlong, .array .long), (cint, .int), (clong, .long)] U ∧ va_D (fun _ => True) (([(h0, kO2 h7 h8 h9 n0_size h10 n0_names n0_plots h11 h1 h2 h3 h4 n0_ways), (h1, kAr cAlong 25 (fun j => some (h5 j))), (h2, kAr cAlong 5 (fun j => some (h6 j))), (h3, kAi cint 5 f3), (h4, kAi cint 5 f4)] : va_W) ++ (kk_rowsL h5 clong 40 F5 25 ++ (kk_rowsL h6 clong 5 F6 5))))) (va_Qv (fun (_ : Unit) => True) (fun (_ : Unit) t => ∃ (m0_ways : Int32) (g3 : Nat → Int32) (g4 : Nat → Int32) (g6 : Nat → Nat → Int64), va_P (dC, dI) vwCl (([(h0, kO2 h7 h8 h9 n0_size h10 n0_names n0_plots h11 h1 h2 h3 h4 m0_ways), (h1, kAr cAlong 25 (fun j => some (h5 j))), (h2, kAr cAlong 5 (fun j => some (h6 j))), (h3, kAi cint 5 g3), (h4, kAi cint 5 g4)] : va_W) ++ (kk_rowsL h5 clong 40 F5 25 ++ (kk_rowsL h6 clong 5 g6 5))) t.heap ∧ va_K (dC, dI) vwCl [] t ∧ va_D (va_A (([(h0, kO2 h7 h8 h9 n0_size h10 n0_names n0_plots h11 h1 h2 h3 h4 n0_ways), (h1, kAr cAlong 25 (fun j => some (h5 j))), (h2, kAr cAlong 5 (fun j => some (h6 j))), (h3, kAi cint 5 f3), (h4, kAi cint 5 f4)] : va_W) ++ (kk_rowsL h5 clong 40 F5 25 ++ (kk_rowsL h6 clong 5 F6 5))) sz) (([(h0, kO2 h7 h8 h9 n0_size h10 n0_names n0_plots h11 h1 h2 h3 h4 m0_ways), (h1, kAr cAlong 25 (fun j => some (h5 j))), (h2, kAr cAlong 5 (fun j => some (h6 j))), (h3, kAi cint 5 g3), (h4, kAi cint 5 g4)] : va_W) ++ (kk_rowsL h5 clong 40 F5 25 ++ (kk_rowsL h6 clong 5 g6 5)))) (va_A (([(h0, kO2 h7 h8 h9 n0_size h10 n0_names n0_plots h11 h1 h2 h3 h4 n0_ways), (h1, kAr cAlong 25 (fun j => some (h5 j))), (h2, kAr cAlong 5 (fun j => some (h6 j))), (h3, kAi cint 5 f3), (h4, kAi cint 5 f4)] : va_W) ++ (kk_rowsL h5 clong 40 F5 25 ++ (kk_rowsL h6 clong 5 F6 5))) sz)) 0 0 (va_A (([(h0, kO2 h7 h8 h9 n0_size h10 n0_names n0_plots h11 h1 h2 h3 h4 n0_ways), (h1, kAr cAlong 25 (fun j => some (h5 j))), (h2, kAr cAlong 5 (fun j => some (h6 j))), (h3, kAi cint 5 f3), (h4, kAi cint 5 f4)] : va_W) ++ (kk_rowsL h5 clong 40 F5 25 ++ (kk_rowsL h6 clong 5 F6 5))) sz) := by
  refine Met.ofW (cc := cX2_search) (maxL := 3) (ret := none) (by decide) rfl ?_
  intro p e s m args below meth c s₁ B hml hv
  obtain ⟨rfl, hsz, hP, hK, hD0⟩ := hv
  have hx := B.exec
  have hb := B.bytes
  have hr := B.returns
  have hts := atoms_spec (ws := wsX2_search) B.pre
  have hown : s.vm.findClass RX2 = some m.cls := findClass_of_methodNamed B.named
  have hlocks := B.notSynchronized
  subst hsz
  have hD := hD0.self (sz := s.heap.size)
  generalize hAe : va_A (([(h0, kO2 h7 h8 h9 n0_size h10 n0_names n0_plots h11 h1 h2 h3 h4 n0_ways), (h1, kAr cAlong 25 (fun j => some (h5 j))), (h2, kAr cAlong 5 (fun j => some (h6 j))), (h3, kAi cint 5 f3), (h4, kAi cint 5 f4)] : va_W) ++ (kk_rowsL h5 clong 40 F5 25 ++ (kk_rowsL h6 clong 5 F6 5))) s.heap.size = A at hD ⊢
  have hA : ∀ q : Nat, s.heap.size ≤ q → A q := fun q h => by rw [← hAe]; exact Or.inr h
  have hS : va_S A s.heap s.heap [] := va_S.rf
  have hP : va_P (dC, dI) vwCl (([(h0, kO2 h7 h8 h9 n0_size h10 n0_names n0_plots h11 h1 h2 h3 h4 n0_ways), (h1, kAr cAlong 25 (fun j => some (h5 j))), (h2, kAr cAlong 5 (fun j => some (h6 j))), (h3, kAi cint 5 f3), (h4, kAi cint 5 f4)] : va_W) ++ (kk_rowsL h5 clong 40 F5 25 ++ (kk_rowsL h6 clong 5 F6 5))) s.heap := hP
  have hl := lv_entry ([.ref h0, .int 0]) (n := 3) (Nat.le_of_ble_eq_true rfl)
  rw [lg_entry_eq]
  generalize (lg_sl ([.ref h0, .int 0]) ++ List.replicate (3 - (lg_sl ([.ref h0, .int 0])).length) Slot.unset).toArray = ls at hl ⊢
  have hl : lv_has ls 3 [(0, .ref h0), (1, .int 0)] := hl
  refine lv_iload_n hx hb dX2_search_0 rfl (lv_at hl 1 rfl) ?_
  refine lv_aload_n hx hb dX2_search_1 rfl (lv_at hl 0 rfl) ?_
  refine va_get (D := (dC, dI)) (ci := 2) (v := .int n0_names) (C := RX2) (T := TX2) (N := 13) hx hb hts (fun _ h => List.mem_cons_of_mem _ (List.mem_append_right _ h)) hown hK hP 0 rfl rfl 5 (by decide) (hts (.fieldLink RX2 49 "KinkStreet$Deeds" "names" "I") (List.mem_of_getElem? (i := 1) rfl)) (fun _ h9 => h9) rfl dX2_search_2 ?_
  refine lv_iconst (v := 1) hx hb dX2_search_5 kk_ic_1 ?_
  refine lv_isub hx hb dX2_search_6 ?_
  refine lv_icmp_lt (tgt := 16) hx hb dX2_search_7 (by decide) (fun c_1 => ?_) (fun c_1 => ?_)
  · have t_1 : 0 < (n0_names - 1).toInt := kk_lt c_1
    refine lv_iconst (v := 0) hx hb dX2_search_16 kk_ic_0 ?_
    refine lv_istore_n hx hb dX2_search_17 rfl hl (by decide) (rfl : _ = ([(2, .int 0), (0, .ref h0), (1, .int 0)] : List (Nat × Value))) (fun ls hl => ?_)
    try have := kk_sub2 (x := n0_names) (y := 1) (a := n0_names.toInt) (b := 1) rfl rfl (by omega) (by omega)
    refine kk_loop (σ := Int32 × (Nat → Nat → Int64) × Int32 × (Nat → Int32) × (Nat → Int32)) (fun x H locs ls => (0 ≤ x.1.toInt ∧ x.1.toInt ≤ 40) ∧ va_P (dC, dI) vwCl (([(h0, kO2 h7 h8 h9 n0_size h10 n0_names n0_plots h11 h1 h2 h3 h4 x.2.2.1), (h1, kAr cAlong 25 (fun j => some (h5 j))), (h2, kAr cAlong 5 (fun j => some (h6 j))), (h3, kAi cint 5 x.2.2.2.1), (h4, kAi cint 5 x.2.2.2.2)] : va_W) ++ (kk_rowsL h5 clong 40 F5 25 ++ (kk_rowsL h6 clong 5 x.2.1 5))) H ∧ va_D A (([(h0, kO2 h7 h8 h9 n0_size h10 n0_names n0_plots h11 h1 h2 h3 h4 x.2.2.1), (h1, kAr cAlong 25 (fun j => some (h5 j))), (h2, kAr cAlong 5 (fun j => some (h6 j))), (h3, kAi cint 5 x.2.2.2.1), (h4, kAi cint 5 x.2.2.2.2)] : va_W) ++ (kk_rowsL h5 clong 40 F5 25 ++ (kk_rowsL h6 clong 5 x.2.1 5))) ∧ va_S A s.heap H locs ∧ lv_has ls 3 [(2, .int x.1), (0, .ref h0), (1, .int 0)]) (fun x => ((40 : Int) - x.1.toInt).toNat) ?_ (0, F6, n0_ways, f3, f4) _ _ _ ⟨(by show 0 ≤ (0 : Int32).toInt ∧ (0 : Int32).toInt ≤ 40; first | decide | ((omega))), hP, hD, hS, hl⟩
    rintro ⟨i_2_0, f_2_1, i_2_2, f_2_3, f_2_4⟩ H locs ls ⟨t_2_0, hP, hD, hS, hl⟩ ih_2
    have t_2_0 : (0 ≤ i_2_0.toInt ∧ i_2_0.toInt ≤ 40) := t_2_0
    have hl : lv_has ls 3 [(2, .int i_2_0), (0, .ref h0), (1, .int 0)] := hl
    have hP : va_P (dC, dI) vwCl (([(h0, kO2 h7 h8 h9 n0_size h10 n0_names n0_plots h11 h1 h2 h3 h4 i_2_2), (h1, kAr cAlong 25 (fun j => some (h5 j))), (h2, kAr cAlong 5 (fun j => some (h6 j))), (h3, kAi cint 5 f_2_3), (h4, kAi cint 5 f_2_4)] : va_W) ++ (kk_rowsL h5 clong 40 F5 25 ++ (kk_rowsL h6 clong 5 f_2_1 5))) H := hP
    have hD : va_D A (([(h0, kO2 h7 h8 h9 n0_size h10 n0_names n0_plots h11 h1 h2 h3 h4 i_2_2), (h1, kAr cAlong 25 (fun j => some (h5 j))), (h2, kAr cAlong 5 (fun j => some (h6 j))), (h3, kAi cint 5 f_2_3), (h4, kAi cint 5 f_2_4)] : va_W) ++ (kk_rowsL h5 clong 40 F5 25 ++ (kk_rowsL h6 clong 5 f_2_1 5))) := hD
    refine lv_iload_n hx hb dX2_search_18 rfl (lv_at hl 0 rfl) ?_
    refine lv_aload_n hx hb dX2_search_19 rfl (lv_at hl 1 rfl) ?_
    refine va_get (D := (dC, dI)) (ci := 2) (v := .int n0_plots) (C := RX2) (T := TX2) (N := 13) hx hb hts (fun _ h => List.mem_cons_of_mem _ (List.mem_append_right _ h)) hown hK hP 0 rfl rfl 6 (by decide) (hts (.fieldLink RX2 67 "KinkStreet$Deeds" "plots" "I") (List.mem_of_getElem? (i := 2) rfl)) (fun _ h9 => h9) rfl dX2_search_20 ?_
    refine lv_icmp_ge (tgt := 81) hx hb dX2_search_23 (by decide) (fun c_3 => ?_) (fun c_3 => ?_)
    · have t_3 : n0_plots.toInt ≤ i_2_0.toInt := kk_le c_3
      have hP9 := hP.part (cx := [(h0, kO2 h7 h8 h9 n0_size h10 n0_names n0_plots h11 h1 h2 h3 h4 i_2_2), (h1, kAr cAlong 25 (fun j => some (h5 j))), (h2, kAr cAlong 5 (fun j => some (h6 j))), (h3, kAi cint 5 f_2_3), (h4, kAi cint 5 f_2_4)]) [0, 1, 2, 3, 4] rfl
      have hD9 := hD.part (cx := [(h0, kO2 h7 h8 h9 n0_size h10 n0_names n0_plots h11 h1 h2 h3 h4 i_2_2), (h1, kAr cAlong 25 (fun j => some (h5 j))), (h2, kAr cAlong 5 (fun j => some (h6 j))), (h3, kAi cint 5 f_2_3), (h4, kAi cint 5 f_2_4)]) [0, 1, 2, 3, 4] (by decide) rfl
      have hK9 := kk_Ks (tq := []) hK [] rfl
      exact W.vret hx hb hr (fun t ht hW => ⟨⟨(), rfl, trivial, i_2_2, f_2_3, f_2_4, f_2_1, by rw [ht]; exact hP9, va_K.moved hW.alike hK9, hD9⟩, hS.F ht⟩) hS.2.2 dX2_search_81
    · have t_3 : i_2_0.toInt < n0_plots.toInt := kk_nle c_3
      refine lv_aload_n hx hb dX2_search_26 rfl (lv_at hl 1 rfl) ?_
      refine va_get (D := (dC, dI)) (ci := 2) (v := .int i_2_2) (C := RX2) (T := TX2) (N := 13) hx hb hts (fun _ h => List.mem_cons_of_mem _ (List.mem_append_right _ h)) hown hK hP 0 rfl rfl 12 (by decide) (hts (.fieldLink RX2 70 "KinkStreet$Deeds" "ways" "I") (List.mem_of_getElem? (i := 3) rfl)) (fun _ h9 => h9) rfl dX2_search_27 ?_
      refine lv_ldc hx hb hown (hts _ (List.mem_of_getElem? (i := 4) rfl)) dX2_search_30 ?_
      refine lv_icmp_ge (tgt := 81) hx hb dX2_search_32 (by decide) (fun c_4 => ?_) (fun c_4 => ?_)
      · have t_4 : 1000000 ≤ i_2_2.toInt := kk_le c_4
        have hP9 := hP.part (cx := [(h0, kO2 h7 h8 h9 n0_size h10 n0_names n0_plots h11 h1 h2 h3 h4 i_2_2), (h1, kAr cAlong 25 (fun j => some (h5 j))), (h2, kAr cAlong 5 (fun j => some (h6 j))), (h3, kAi cint 5 f_2_3), (h4, kAi cint 5 f_2_4)]) [0, 1, 2, 3, 4] rfl
        have hD9 := hD.part (cx := [(h0, kO2 h7 h8 h9 n0_size h10 n0_names n0_plots h11 h1 h2 h3 h4 i_2_2), (h1, kAr cAlong 25 (fun j => some (h5 j))), (h2, kAr cAlong 5 (fun j => some (h6 j))), (h3, kAi cint 5 f_2_3), (h4, kAi cint 5 f_2_4)]) [0, 1, 2, 3, 4] (by decide) rfl
        have hK9 := kk_Ks (tq := []) hK [] rfl
        exact W.vret hx hb hr (fun t ht hW => ⟨⟨(), rfl, trivial, i_2_2, f_2_3, f_2_4, f_2_1, by rw [ht]; exact hP9, va_K.moved hW.alike hK9, hD9⟩, hS.F ht⟩) hS.2.2 dX2_search_81
      · have t_4 : i_2_2.toInt < 1000000 := kk_nle c_4
        refine lv_aload_n hx hb dX2_search_35 rfl (lv_at hl 1 rfl) ?_
        refine va_get (D := (dC, dI)) (ci := 2) (v := .ref h2) (C := RX2) (T := TX2) (N := 13) hx hb hts (fun _ h => List.mem_cons_of_mem _ (List.mem_append_right _ h)) hown hK hP 0 rfl rfl 9 (by decide) (hts (.fieldLink RX2 32 "KinkStreet$Deeds" "open" "[[J") (List.mem_of_getElem? (i := 5) rfl)) (fun _ h9 => h9) rfl dX2_search_36 ?_
        refine lv_iload_n hx hb dX2_search_39 rfl (lv_at hl 2 rfl) ?_
        have hi_5 : vp_in (0 : Int32) 5 := (by unfold vp_in; decide)
        have hk_5 : (0 : Int32).toNatClampNeg < 5 := Nat.not_le.mp fun q => hi_5 (Or.inr q)
        refine kk_aald hx hb hK hP 2 0 rfl rfl hi_5 dX2_search_40 ?_
        refine W.eq (g2 := F0 m 41 ls [.ref (h6 (0 : Int32).toNatClampNeg)]) rfl ?_
        refine lv_iload_n hx hb dX2_search_41 rfl (lv_at hl 2 rfl) ?_
        refine va_lald hx hb hK hP _ 2 (kk_getr (kk_getr (kk_rowL hk_5))) rfl (by unfold vp_in; decide) dX2_search_42 ?_
        refine lv_topl (fun y_6 e_6 => ?_)
        clear e_6
        refine lv_iload_n hx hb dX2_search_43 rfl (lv_at hl 0 rfl) ?_
        refine lv_lushr hx hb dX2_search_44 rfl ?_
        refine lv_topl (fun y_7 e_7 => ?_)
        clear e_7
        refine lv_lconst (v := 1) hx hb dX2_search_45 (by decide) ?_
        refine lv_land hx hb dX2_search_46 ?_
        refine lv_topl (fun y_8 e_8 => ?_)
        clear e_8
        refine lv_lconst (v := 0) hx hb dX2_search_47 (by decide) ?_
        refine W.lcmp hx hb dX2_search_48 ?_
        refine lv_if_eq (tgt := 75) hx hb dX2_search_49 (by decide) (fun _ => ?_) (fun _ => ?_)
        · skip
          refine lv_iinc (v := (i_2_0 + 1)) hx hb dX2_search_75 hl (k := 0) rfl (by first | rfl | decide) (by decide) (rfl : _ = ([(2, .int (i_2_0 + 1)), (0, .ref h0), (1, .int 0)] : List (Nat × Value))) (fun ls hl => ?_)
          refine lv_goto (tgt := 18) hx hb dX2_search_78 (by decide) ?_
          try have := kk_rng i_2_2
          try have := kk_add2 (x := i_2_0) (y := 1) (a := i_2_0.toInt) (b := 1) rfl rfl (by omega) (by omega)
          exact ih_2 ((i_2_0 + 1), f_2_1, i_2_2, f_2_3, f_2_4) _ _ _ (by show ((40 : Int) - ((i_2_0 + 1)).toInt).toNat < ((40 : Int) - i_2_0.toInt).toNat; exact kk_mu (by omega) (by omega)) ⟨(by show 0 ≤ ((i_2_0 + 1) : Int32).toInt ∧ ((i_2_0 + 1) : Int32).toInt ≤ 40; first | decide | ((omega))), hP, hD, hS, lv_sub hl [0, 1, 2] rfl⟩
        · skip
          refine lv_aload_n hx hb dX2_search_52 rfl (lv_at hl 1 rfl) ?_
          refine lv_iload_n hx hb dX2_search_53 rfl (lv_at hl 2 rfl) ?_
          refine lv_iload_n hx hb dX2_search_54 rfl (lv_at hl 0 rfl) ?_
          have hPc := hP.part (cx := [(h0, kO2 h7 h8 h9 n0_size h10 n0_names n0_plots h11 h1 h2 h3 h4 i_2_2), (h1, kAr cAlong 25 (fun j => some (h5 j))), (h2, kAr cAlong 5 (fun j => some (h6 j)))]) [0, 1, 2] rfl
          have hDc := hD.part (cx := [(h0, kO2 h7 h8 h9 n0_size h10 n0_names n0_plots h11 h1 h2 h3 h4 i_2_2), (h1, kAr cAlong 25 (fun j => some (h5 j))), (h2, kAr cAlong 5 (fun j => some (h6 j)))]) [0, 1, 2] (by decide) rfl
          have hFc := va_freeP (cx := [(h0, kO2 h7 h8 h9 n0_size h10 n0_names n0_plots h11 h1 h2 h3 h4 i_2_2), (h1, kAr cAlong 25 (fun j => some (h5 j))), (h2, kAr cAlong 5 (fun j => some (h6 j)))]) hD hS hA [0, 1, 2] rfl
          have hKc := kk_Ks (tq := [(cAlong, .array .long), (clong, .long)]) hK [0, 2] rfl
          try have := kk_rng i_2_2
          refine va_calli (va_runV (As := [.int 0, .int i_2_0]) (rest := []) ⟨hx, hb, hml, hown, hts⟩ (g_X2_narrow_0 l dC dI h0 h1 h2 h5 h6 h7 h8 h9 h10 h11 h3 h4 cAlong clong H.size i_2_0 (by show 0 ≤ (i_2_0 : Int32).toInt ∧ (i_2_0 : Int32).toInt ≤ 39; first | decide | ((omega))) n0_size n0_names n0_plots i_2_2 F5 f_2_1 tn0_size tn0_names tn0_plots) (cwV 2 hts gX2_search_X2_narrow rfl rfl rfl ⟨rfl, kh_X2_narrow⟩ ⟨Nat.le_of_ble_eq_true rfl, Nat.le_of_ble_eq_true rfl⟩) ⟨fun a U g mk q => by obtain ⟨q0, q1, qP, qK, qD⟩ := q; exact ⟨q0, q1, qP, va_K.moved (u := U) (U := U.calling g mk a) (Vm.Alike.refl U.vm) qK, qD⟩, va_recv hKc hPc (ci := 2) (q0 := 0) rfl rfl, fun U hU hW => ⟨rfl, by rw [hU], by rw [hU]; exact hPc, va_K.moved hW.alike hKc, hDc.weaken (fun _ _ _ _ => trivial)⟩⟩ rfl rfl hl.1 rfl (lv_room (Nat.le_of_ble_eq_true rfl)) dX2_search_55 ⟨Nat.le_of_ble_eq_true rfl, Nat.le_of_ble_eq_true rfl⟩) hS (fun q _ h => hFc q h) hFc (fun r_9 u t H1 locs ht hvm hw hB hz1 hk1 hS => ?_)
          obtain ⟨f_10, hP1, hK1, hD1⟩ := hB
          rw [ht] at hP1
          have hK1 := va_K.moved hvm.symm hK1
          obtain ⟨hP, hD⟩ := va_joinP (cx := [(h0, kO2 h7 h8 h9 n0_size h10 n0_names n0_plots h11 h1 h2 h3 h4 i_2_2), (h1, kAr cAlong 25 (fun j => some (h5 j))), (h2, kAr cAlong 5 (fun j => some (h6 j)))]) (wr := [(h3, kAi cint 5 f_2_3), (h4, kAi cint 5 f_2_4)]) (rx := [(h0, kO2 h7 h8 h9 n0_size h10 n0_names n0_plots h11 h1 h2 h3 h4 i_2_2), (h1, kAr cAlong 25 (fun j => some (h5 j))), (h2, kAr cAlong 5 (fun j => some (h6 j)))]) hP hD [0, 1, 2] [3, 4] rfl rfl (by decide) (by decide) hk1 hFc hP1 hD1
          generalize H1 = H at hP hS ⊢
          have hP : va_P (dC, dI) vwCl (([(h3, kAi cint 5 f_2_3), (h4, kAi cint 5 f_2_4), (h0, kO2 h7 h8 h9 n0_size h10 n0_names n0_plots h11 h1 h2 h3 h4 i_2_2), (h1, kAr cAlong 25 (fun j => some (h5 j))), (h2, kAr cAlong 5 (fun j => some (h6 j)))] : va_W) ++ (kk_rowsL h5 clong 40 F5 25 ++ (kk_rowsL h6 clong 5 f_10 5))) H := hP
          have hD : va_D A (([(h3, kAi cint 5 f_2_3), (h4, kAi cint 5 f_2_4), (h0, kO2 h7 h8 h9 n0_size h10 n0_names n0_plots h11 h1 h2 h3 h4 i_2_2), (h1, kAr cAlong 25 (fun j => some (h5 j))), (h2, kAr cAlong 5 (fun j => some (h6 j)))] : va_W) ++ (kk_rowsL h5 clong 40 F5 25 ++ (kk_rowsL h6 clong 5 f_10 5))) := hD
          rcases hw with ⟨t_9_0, rfl⟩ | ⟨rfl⟩
          · skip
            have t_9_0 : (2 : Int) ≤ n0_names.toInt := t_9_0
            refine lv_if_eq (tgt := 75) hx hb dX2_search_58 (by decide) (fun _ => ?_) (fun c => absurd c (by decide))
            refine lv_iinc (v := (i_2_0 + 1)) hx hb dX2_search_75 hl (k := 0) rfl (by first | rfl | decide) (by decide) (rfl : _ = ([(2, .int (i_2_0 + 1)), (0, .ref h0), (1, .int 0)] : List (Nat × Value))) (fun ls hl => ?_)
            refine lv_goto (tgt := 18) hx hb dX2_search_78 (by decide) ?_
            try have := kk_add2 (x := i_2_0) (y := 1) (a := i_2_0.toInt) (b := 1) rfl rfl (by omega) (by omega)
            exact ih_2 ((i_2_0 + 1), f_10, i_2_2, f_2_3, f_2_4) _ _ _ (by show ((40 : Int) - ((i_2_0 + 1)).toInt).toNat < ((40 : Int) - i_2_0.toInt).toNat; exact kk_mu (by omega) (by omega)) ⟨(by show 0 ≤ ((i_2_0 + 1) : Int32).toInt ∧ ((i_2_0 + 1) : Int32).toInt ≤ 40; first | decide | ((omega))), hP.part (cx := [(h0, kO2 h7 h8 h9 n0_size h10 n0_names n0_plots h11 h1 h2 h3 h4 i_2_2), (h1, kAr cAlong 25 (fun j => some (h5 j))), (h2, kAr cAlong 5 (fun j => some (h6 j))), (h3, kAi cint 5 f_2_3), (h4, kAi cint 5 f_2_4)]) [2, 3, 4, 0, 1] rfl, hD.part (cx := [(h0, kO2 h7 h8 h9 n0_size h10 n0_names n0_plots h11 h1 h2 h3 h4 i_2_2), (h1, kAr cAlong 25 (fun j => some (h5 j))), (h2, kAr cAlong 5 (fun j => some (h6 j))), (h3, kAi cint 5 f_2_3), (h4, kAi cint 5 f_2_4)]) [2, 3, 4, 0, 1] (by decide) rfl, hS, lv_sub hl [0, 1, 2] rfl⟩
          · skip
            refine lv_if_eq (tgt := 75) hx hb dX2_search_58 (by decide) (fun c => absurd c (by decide)) (fun _ => ?_)
            refine lv_aload_n hx hb dX2_search_61 rfl (lv_at hl 1 rfl) ?_
            refine va_get (D := (dC, dI)) (ci := 2) (v := .ref h3) (C := RX2) (T := TX2) (N := 13) hx hb hts (fun _ h => List.mem_cons_of_mem _ (List.mem_append_right _ h)) hown hK hP 2 rfl rfl 10 (by decide) (hts (.fieldLink RX2 35 "KinkStreet$Deeds" "tried" "[I") (List.mem_of_getElem? (i := 6) rfl)) (fun _ h9 => h9) rfl dX2_search_62 ?_
            refine lv_iload_n hx hb dX2_search_65 rfl (lv_at hl 2 rfl) ?_
            refine lv_iload_n hx hb dX2_search_66 rfl (lv_at hl 0 rfl) ?_
            refine va_iast hx hb hK hP hD hS 0 1 rfl rfl (by unfold vp_in; decide) dX2_search_67 (fun H locs hP hD hS => ?_)
            generalize upd f_2_3 (0 : Int32).toNatClampNeg i_2_0 = f_11 at hP hD
            have hP : va_P (dC, dI) vwCl (([(h3, kAi cint 5 f_11), (h4, kAi cint 5 f_2_4), (h0, kO2 h7 h8 h9 n0_size h10 n0_names n0_plots h11 h1 h2 h3 h4 i_2_2), (h1, kAr cAlong 25 (fun j => some (h5 j))), (h2, kAr cAlong 5 (fun j => some (h6 j)))] : va_W) ++ (kk_rowsL h5 clong 40 F5 25 ++ (kk_rowsL h6 clong 5 f_10 5))) H := hP
            have hD : va_D A (([(h3, kAi cint 5 f_11), (h4, kAi cint 5 f_2_4), (h0, kO2 h7 h8 h9 n0_size h10 n0_names n0_plots h11 h1 h2 h3 h4 i_2_2), (h1, kAr cAlong 25 (fun j => some (h5 j))), (h2, kAr cAlong 5 (fun j => some (h6 j)))] : va_W) ++ (kk_rowsL h5 clong 40 F5 25 ++ (kk_rowsL h6 clong 5 f_10 5))) := hD
            refine lv_aload_n hx hb dX2_search_68 rfl (lv_at hl 1 rfl) ?_
            refine lv_iload_n hx hb dX2_search_69 rfl (lv_at hl 2 rfl) ?_
            refine lv_iconst (v := 1) hx hb dX2_search_70 kk_ic_1 ?_
            refine lv_iadd hx hb dX2_search_71 ?_
            refine lv_topi (fun y_12 e_12 => ?_)
            obtain rfl : y_12 = 1 := e_12.trans (by decide)
            have hPc := hP.part (cx := [(h0, kO2 h7 h8 h9 n0_size h10 n0_names n0_plots h11 h1 h2 h3 h4 i_2_2), (h1, kAr cAlong 25 (fun j => some (h5 j))), (h2, kAr cAlong 5 (fun j => some (h6 j))), (h3, kAi cint 5 f_11), (h4, kAi cint 5 f_2_4)]) [2, 3, 4, 0, 1] rfl
            have hDc := hD.part (cx := [(h0, kO2 h7 h8 h9 n0_size h10 n0_names n0_plots h11 h1 h2 h3 h4 i_2_2), (h1, kAr cAlong 25 (fun j => some (h5 j))), (h2, kAr cAlong 5 (fun j => some (h6 j))), (h3, kAi cint 5 f_11), (h4, kAi cint 5 f_2_4)]) [2, 3, 4, 0, 1] (by decide) rfl
            have hFc := va_freeP (cx := [(h0, kO2 h7 h8 h9 n0_size h10 n0_names n0_plots h11 h1 h2 h3 h4 i_2_2), (h1, kAr cAlong 25 (fun j => some (h5 j))), (h2, kAr cAlong 5 (fun j => some (h6 j))), (h3, kAi cint 5 f_11), (h4, kAi cint 5 f_2_4)]) hD hS hA [2, 3, 4, 0, 1] rfl
            have hKc := kk_Ks (tq := [(cAlong, .array .long), (cint, .int), (clong, .long)]) hK [0, 1, 2] rfl
            refine va_callv (va_runV (As := [.int 1]) (rest := []) ⟨hx, hb, hml, hown, hts⟩ (g_X2_search_3 l dC dI h0 h1 h2 h3 h4 h5 h6 h7 h8 h9 h10 h11 cAlong cint clong H.size n0_size n0_names n0_plots i_2_2 f_11 f_2_4 F5 f_10 tn0_size tn0_names tn0_plots) (cwV 1 hts gX2_search_X2_search rfl rfl rfl ⟨rfl, kh_X2_search⟩ ⟨Nat.le_of_ble_eq_true rfl, Nat.le_of_ble_eq_true rfl⟩) ⟨fun a U g mk q => by obtain ⟨q0, q1, qP, qK, qD⟩ := q; exact ⟨q0, q1, qP, va_K.moved (u := U) (U := U.calling g mk a) (Vm.Alike.refl U.vm) qK, qD⟩, va_recv hKc hPc (ci := 2) (q0 := 0) rfl rfl, fun U hU hW => ⟨rfl, by rw [hU], by rw [hU]; exact hPc, va_K.moved hW.alike hKc, hDc.weaken (fun _ _ _ _ => trivial)⟩⟩ rfl rfl hl.1 rfl (lv_room (Nat.le_of_ble_eq_true rfl)) dX2_search_72 ⟨Nat.le_of_ble_eq_true rfl, Nat.le_of_ble_eq_true rfl⟩) hS (fun q _ h => hFc q h) hFc (fun u t H1 locs ht hvm hw hB hz1 hk1 hS => ?_)
            refine hB.elim (fun y_14 hB => ?_)
            refine hB.elim (fun f_15 hB => ?_)
            refine hB.elim (fun f_16 hB => ?_)
            refine hB.elim (fun f_17 hB => ?_)
            have hP1 := hB.1
            have hK1 := hB.2.1
            have hD1 := hB.2.2
            rw [ht] at hP1
            have hK1 := va_K.moved hvm.symm hK1
            obtain ⟨hP, hD⟩ := va_joinP (cx := [(h0, kO2 h7 h8 h9 n0_size h10 n0_names n0_plots h11 h1 h2 h3 h4 i_2_2), (h1, kAr cAlong 25 (fun j => some (h5 j))), (h2, kAr cAlong 5 (fun j => some (h6 j))), (h3, kAi cint 5 f_11), (h4, kAi cint 5 f_2_4)]) (wr := []) (rx := [(h0, kO2 h7 h8 h9 n0_size h10 n0_names n0_plots h11 h1 h2 h3 h4 y_14), (h1, kAr cAlong 25 (fun j => some (h5 j))), (h2, kAr cAlong 5 (fun j => some (h6 j))), (h3, kAi cint 5 f_15), (h4, kAi cint 5 f_16)]) hP hD [2, 3, 4, 0, 1] [] rfl rfl (by decide) (by decide) hk1 hFc hP1 hD1
            generalize H1 = H at hP hS ⊢
            have hP : va_P (dC, dI) vwCl (([(h0, kO2 h7 h8 h9 n0_size h10 n0_names n0_plots h11 h1 h2 h3 h4 y_14), (h1, kAr cAlong 25 (fun j => some (h5 j))), (h2, kAr cAlong 5 (fun j => some (h6 j))), (h3, kAi cint 5 f_15), (h4, kAi cint 5 f_16)] : va_W) ++ (kk_rowsL h5 clong 40 F5 25 ++ (kk_rowsL h6 clong 5 f_17 5))) H := hP
            have hD : va_D A (([(h0, kO2 h7 h8 h9 n0_size h10 n0_names n0_plots h11 h1 h2 h3 h4 y_14), (h1, kAr cAlong 25 (fun j => some (h5 j))), (h2, kAr cAlong 5 (fun j => some (h6 j))), (h3, kAi cint 5 f_15), (h4, kAi cint 5 f_16)] : va_W) ++ (kk_rowsL h5 clong 40 F5 25 ++ (kk_rowsL h6 clong 5 f_17 5))) := hD
            refine lv_iinc (v := (i_2_0 + 1)) hx hb dX2_search_75 hl (k := 0) rfl (by first | rfl | decide) (by decide) (rfl : _ = ([(2, .int (i_2_0 + 1)), (0, .ref h0), (1, .int 0)] : List (Nat × Value))) (fun ls hl => ?_)
            refine lv_goto (tgt := 18) hx hb dX2_search_78 (by decide) ?_
            try have := kk_add2 (x := i_2_0) (y := 1) (a := i_2_0.toInt) (b := 1) rfl rfl (by omega) (by omega)
            exact ih_2 ((i_2_0 + 1), f_17, y_14, f_15, f_16) _ _ _ (by show ((40 : Int) - ((i_2_0 + 1)).toInt).toNat < ((40 : Int) - i_2_0.toInt).toNat; exact kk_mu (by omega) (by omega)) ⟨(by show 0 ≤ ((i_2_0 + 1) : Int32).toInt ∧ ((i_2_0 + 1) : Int32).toInt ≤ 40; first | decide | ((omega))), hP, hD, hS, lv_sub hl [0, 1, 2] rfl⟩
  · have t_1 : (n0_names - 1).toInt ≤ 0 := kk_nlt c_1
    refine lv_aload_n hx hb dX2_search_10 rfl (lv_at hl 0 rfl) ?_
    refine lv_iload_n hx hb dX2_search_11 rfl (lv_at hl 1 rfl) ?_
    have hPc := hP.part (cx := [(h0, kO2 h7 h8 h9 n0_size h10 n0_names n0_plots h11 h1 h2 h3 h4 n0_ways), (h1, kAr cAlong 25 (fun j => some (h5 j))), (h2, kAr cAlong 5 (fun j => some (h6 j))), (h3, kAi cint 5 f3), (h4, kAi cint 5 f4)]) [0, 1, 2, 3, 4] rfl
    have hDc := hD.part (cx := [(h0, kO2 h7 h8 h9 n0_size h10 n0_names n0_plots h11 h1 h2 h3 h4 n0_ways), (h1, kAr cAlong 25 (fun j => some (h5 j))), (h2, kAr cAlong 5 (fun j => some (h6 j))), (h3, kAi cint 5 f3), (h4, kAi cint 5 f4)]) [0, 1, 2, 3, 4] (by decide) rfl
    have hFc := va_freeP (cx := [(h0, kO2 h7 h8 h9 n0_size h10 n0_names n0_plots h11 h1 h2 h3 h4 n0_ways), (h1, kAr cAlong 25 (fun j => some (h5 j))), (h2, kAr cAlong 5 (fun j => some (h6 j))), (h3, kAi cint 5 f3), (h4, kAi cint 5 f4)]) hD hS hA [0, 1, 2, 3, 4] rfl
    have hKc := kk_Ks (tq := [(cAlong, .array .long), (cint, .int), (clong, .long)]) hK [0, 1, 2] rfl
    refine va_callv (va_runV (As := [.int 0]) (rest := []) ⟨hx, hb, hml, hown, hts⟩ (g_X2_countWays_4 l dC dI h0 h1 h2 h3 h4 h5 h6 h7 h8 h9 h10 h11 cAlong cint clong s.heap.size n0_size n0_names n0_plots n0_ways f3 f4 F5 F6 tn0_size tn0_names tn0_plots) (cwV 1 hts gX2_search_X2_countWays rfl rfl rfl ⟨rfl, kh_X2_countWays⟩ ⟨Nat.le_of_ble_eq_true rfl, Nat.le_of_ble_eq_true rfl⟩) ⟨fun a U g mk q => by obtain ⟨q0, q1, qP, qK, qD⟩ := q; exact ⟨q0, q1, qP, va_K.moved (u := U) (U := U.calling g mk a) (Vm.Alike.refl U.vm) qK, qD⟩, va_recv hKc hPc (ci := 2) (q0 := 0) rfl rfl, fun U hU hW => ⟨rfl, by rw [hU], by rw [hU]; exact hPc, va_K.moved hW.alike hKc, hDc.weaken (fun _ _ _ _ => trivial)⟩⟩ rfl rfl hl.1 rfl (lv_room (Nat.le_of_ble_eq_true rfl)) dX2_search_12 ⟨Nat.le_of_ble_eq_true rfl, Nat.le_of_ble_eq_true rfl⟩) hS (fun q _ h => hFc q h) hFc (fun u t H1 locs ht hvm hw hB hz1 hk1 hS => ?_)
    refine hB.elim (fun y_19 hB => ?_)
    refine hB.elim (fun f_20 hB => ?_)
    refine hB.elim (fun f_21 hB => ?_)
    have hP1 := hB.1
    have hK1 := hB.2.1
    have hD1 := hB.2.2
    rw [ht] at hP1
    have hK1 := va_K.moved hvm.symm hK1
    obtain ⟨hP, hD⟩ := va_joinP (cx := [(h0, kO2 h7 h8 h9 n0_size h10 n0_names n0_plots h11 h1 h2 h3 h4 n0_ways), (h1, kAr cAlong 25 (fun j => some (h5 j))), (h2, kAr cAlong 5 (fun j => some (h6 j))), (h3, kAi cint 5 f3), (h4, kAi cint 5 f4)]) (wr := []) (rx := [(h0, kO2 h7 h8 h9 n0_size h10 n0_names n0_plots h11 h1 h2 h3 h4 y_19), (h1, kAr cAlong 25 (fun j => some (h5 j))), (h2, kAr cAlong 5 (fun j => some (h6 j))), (h3, kAi cint 5 f_20), (h4, kAi cint 5 f_21)]) hP hD [0, 1, 2, 3, 4] [] rfl rfl (by decide) (by decide) hk1 hFc hP1 hD1
    generalize H1 = H at hP hS ⊢
    have hP : va_P (dC, dI) vwCl (([(h0, kO2 h7 h8 h9 n0_size h10 n0_names n0_plots h11 h1 h2 h3 h4 y_19), (h1, kAr cAlong 25 (fun j => some (h5 j))), (h2, kAr cAlong 5 (fun j => some (h6 j))), (h3, kAi cint 5 f_20), (h4, kAi cint 5 f_21)] : va_W) ++ (kk_rowsL h5 clong 40 F5 25 ++ (kk_rowsL h6 clong 5 F6 5))) H := hP
    have hD : va_D A (([(h0, kO2 h7 h8 h9 n0_size h10 n0_names n0_plots h11 h1 h2 h3 h4 y_19), (h1, kAr cAlong 25 (fun j => some (h5 j))), (h2, kAr cAlong 5 (fun j => some (h6 j))), (h3, kAi cint 5 f_20), (h4, kAi cint 5 f_21)] : va_W) ++ (kk_rowsL h5 clong 40 F5 25 ++ (kk_rowsL h6 clong 5 F6 5))) := hD
    have hP9 := hP.part (cx := [(h0, kO2 h7 h8 h9 n0_size h10 n0_names n0_plots h11 h1 h2 h3 h4 y_19), (h1, kAr cAlong 25 (fun j => some (h5 j))), (h2, kAr cAlong 5 (fun j => some (h6 j))), (h3, kAi cint 5 f_20), (h4, kAi cint 5 f_21)]) [0, 1, 2, 3, 4] rfl
    have hD9 := hD.part (cx := [(h0, kO2 h7 h8 h9 n0_size h10 n0_names n0_plots h11 h1 h2 h3 h4 y_19), (h1, kAr cAlong 25 (fun j => some (h5 j))), (h2, kAr cAlong 5 (fun j => some (h6 j))), (h3, kAi cint 5 f_20), (h4, kAi cint 5 f_21)]) [0, 1, 2, 3, 4] (by decide) rfl
    have hK9 := kk_Ks (tq := []) hK [] rfl
    exact W.vret hx hb hr (fun t ht hW => ⟨⟨(), rfl, trivial, y_19, f_20, f_21, F6, by rw [ht]; exact hP9, va_K.moved hW.alike hK9, hD9⟩, hS.F ht⟩) hS.2.2 dX2_search_15
set_option maxHeartbeats 4000000 in
set_option maxRecDepth 100000 in
theorem g_X2_putTogether_0 (l : Launch) (dC : Nat → ClassId) (dI : Nat → Nat → Nat) (h0 : Nat) (h1 : Nat) (h2 : Nat) (h3 : Nat) (h4 : Nat) (h5 : Nat) (h6 : Nat) (h7 : Nat) (h8 : Nat) (h9 : Nat) (h10 : Nat) (h11 : Nat) (h12 : Nat → Nat) (h13 : Nat → Nat) (h14 : Nat) (h15 : Nat) (cint cAlong clong : ClassId) (sz : Nat) (p1 : Int32) (n0_size : Int32) (n0_names : Int32) (n0_plots : Int32) (n0_ways : Int32) (n1_size : Int32) (f2 : Nat → Int32) (f3 : Nat → Int32) (f4 : Nat → Int32) (f5 : Nat → Int32) (f6 : Nat → Int32) (f9 : Nat → Int32) (f10 : Nat → Int32) (f11 : Nat → Int32) (F12 : Nat → Nat → Int64) (F13 : Nat → Nat → Int64) (tn0_size : 0 ≤ n0_size.toInt ∧ n0_size.toInt ≤ 10) (tn0_names : 0 ≤ n0_names.toInt ∧ n0_names.toInt ≤ 8) (tn0_plots : kk_bx (0 ≤ n0_plots.toInt ∧ n0_plots.toInt ≤ 40)) (tn1_size : 0 ≤ n1_size.toInt ∧ n1_size.toInt ≤ 40) : Met l yX2_putTogether wsX2_putTogether ({ frames := 8, cells := 0, slots := 0, locals := 181 }) (va_Pc [.ref h0, .ref h1, .int p1] (fun U => U.heap.size = sz ∧ va_P (dC, dI) vwCl (([(h0, kO2 h2 h3 h4 n0_size h5 n0_names n0_plots h6 h7 h8 h9 h10 n0_ways), (h1, kO9 h11 h14 h15 n1_size), (h2, kAi cint 10 f2), (h3, kAi cint 10 f3), (h4, kAi cint 10 f4), (h5, kAi cint 8 f5), (h6, kAi cint 40 f6), (h7, kAr cAlong 25 (fun j => some (h12 j))), (h8, kAr cAlong 5 (fun j => some (h13 j))), (h9, kAi cint 5 f9), (h10, kAi cint 5 f10), (h11, kAi cint 40 f11)] : va_W) ++ (kk_rowsL h12 clong 40 F12 25 ++ (kk_rowsL h13 clong 5 F13 5))) U.heap ∧ va_K (dC, dI) vwCl [(cint, .int), (cAlong, .array .long), (clong, .long)] U ∧ va_D (fun _ => True) (([(h0, kO2 h2 h3 h4 n0_size h5 n0_names n0_plots h6 h7 h8 h9 h10 n0_ways), (h1, kO9 h11 h14 h15 n1_size), (h2, kAi cint 10 f2), (h3, kAi cint 10 f3), (h4, kAi cint 10 f4), (h5, kAi cint 8 f5), (h6, kAi cint 40 f6), (h7, kAr cAlong 25 (fun j => some (h12 j))), (h8, kAr cAlong 5 (fun j => some (h13 j))), (h9, kAi cint 5 f9), (h10, kAi cint 5 f10), (h11, kAi cint 40 f11)] : va_W) ++ (kk_rowsL h12 clong 40 F12 25 ++ (kk_rowsL h13 clong 5 F13 5))))) (va_Qi (fun (r : Int32) (_ : Unit) => True) (fun (_ : Unit) t => ∃ (m0_plots : Int32) (m0_ways : Int32) (g6 : Nat → Int32) (g9 : Nat → Int32) (g10 : Nat → Int32) (g12 : Nat → Nat → Int64) (g13 : Nat → Nat → Int64), (0 ≤ m0_plots.toInt ∧ m0_plots.toInt ≤ 40) ∧ va_P (dC, dI) vwCl (([(h0, kO2 h2 h3 h4 n0_size h5 n0_names m0_plots h6 h7 h8 h9 h10 m0_ways), (h1, kO9 h11 h14 h15 n1_size), (h2, kAi cint 10 f2), (h3, kAi cint 10 f3), (h4, kAi cint 10 f4), (h5, kAi cint 8 f5), (h6, kAi cint 40 g6), (h7, kAr cAlong 25 (fun j => some (h12 j))), (h8, kAr cAlong 5 (fun j => some (h13 j))), (h9, kAi cint 5 g9), (h10, kAi cint 5 g10), (h11, kAi cint 40 f11)] : va_W) ++ (kk_rowsL h12 clong 40 g12 25 ++ (kk_rowsL h13 clong 5 g13 5))) t.heap ∧ va_K (dC, dI) vwCl [] t ∧ va_D (va_A (([(h0, kO2 h2 h3 h4 n0_size h5 n0_names n0_plots h6 h7 h8 h9 h10 n0_ways), (h1, kO9 h11 h14 h15 n1_size), (h2, kAi cint 10 f2), (h3, kAi cint 10 f3), (h4, kAi cint 10 f4), (h5, kAi cint 8 f5), (h6, kAi cint 40 f6), (h7, kAr cAlong 25 (fun j => some (h12 j))), (h8, kAr cAlong 5 (fun j => some (h13 j))), (h9, kAi cint 5 f9), (h10, kAi cint 5 f10), (h11, kAi cint 40 f11)] : va_W) ++ (kk_rowsL h12 clong 40 F12 25 ++ (kk_rowsL h13 clong 5 F13 5))) sz) (([(h0, kO2 h2 h3 h4 n0_size h5 n0_names m0_plots h6 h7 h8 h9 h10 m0_ways), (h1, kO9 h11 h14 h15 n1_size), (h2, kAi cint 10 f2), (h3, kAi cint 10 f3), (h4, kAi cint 10 f4), (h5, kAi cint 8 f5), (h6, kAi cint 40 g6), (h7, kAr cAlong 25 (fun j => some (h12 j))), (h8, kAr cAlong 5 (fun j => some (h13 j))), (h9, kAi cint 5 g9), (h10, kAi cint 5 g10), (h11, kAi cint 40 f11)] : va_W) ++ (kk_rowsL h12 clong 40 g12 25 ++ (kk_rowsL h13 clong 5 g13 5)))) (va_A (([(h0, kO2 h2 h3 h4 n0_size h5 n0_names n0_plots h6 h7 h8 h9 h10 n0_ways), (h1, kO9 h11 h14 h15 n1_size), (h2, kAi cint 10 f2), (h3, kAi cint 10 f3), (h4, kAi cint 10 f4), (h5, kAi cint 8 f5), (h6, kAi cint 40 f6), (h7, kAr cAlong 25 (fun j => some (h12 j))), (h8, kAr cAlong 5 (fun j => some (h13 j))), (h9, kAi cint 5 f9), (h10, kAi cint 5 f10), (h11, kAi cint 40 f11)] : va_W) ++ (kk_rowsL h12 clong 40 F12 25 ++ (kk_rowsL h13 clong 5 F13 5))) sz)) 0 0 (va_A (([(h0, kO2 h2 h3 h4 n0_size h5 n0_names n0_plots h6 h7 h8 h9 h10 n0_ways), (h1, kO9 h11 h14 h15 n1_size), (h2, kAi cint 10 f2), (h3, kAi cint 10 f3), (h4, kAi cint 10 f4), (h5, kAi cint 8 f5), (h6, kAi cint 40 f6), (h7, kAr cAlong 25 (fun j => some (h12 j))), (h8, kAr cAlong 5 (fun j => some (h13 j))), (h9, kAi cint 5 f9), (h10, kAi cint 5 f10), (h11, kAi cint 40 f11)] : va_W) ++ (kk_rowsL h12 clong 40 F12 25 ++ (kk_rowsL h13 clong 5 F13 5))) sz) := by
  refine Met.ofW (cc := cX2_putTogether) (maxL := 4) (ret := (some .int)) (by decide) rfl ?_
  intro p e s m args below meth c s₁ B hml hv
  obtain ⟨rfl, hsz, hP, hK, hD0⟩ := hv
  have hx := B.exec
  have hb := B.bytes
  have hr := B.returns
  have hts := atoms_spec (ws := wsX2_putTogether) B.pre
  have hown : s.vm.findClass RX2 = some m.cls := findClass_of_methodNamed B.named
  have hlocks := B.notSynchronized
  subst hsz
  have hD := hD0.self (sz := s.heap.size)
  generalize hAe : va_A (([(h0, kO2 h2 h3 h4 n0_size h5 n0_names n0_plots h6 h7 h8 h9 h10 n0_ways), (h1, kO9 h11 h14 h15 n1_size), (h2, kAi cint 10 f2), (h3, kAi cint 10 f3), (h4, kAi cint 10 f4), (h5, kAi cint 8 f5), (h6, kAi cint 40 f6), (h7, kAr cAlong 25 (fun j => some (h12 j))), (h8, kAr cAlong 5 (fun j => some (h13 j))), (h9, kAi cint 5 f9), (h10, kAi cint 5 f10), (h11, kAi cint 40 f11)] : va_W) ++ (kk_rowsL h12 clong 40 F12 25 ++ (kk_rowsL h13 clong 5 F13 5))) s.heap.size = A at hD ⊢
  have hA : ∀ q : Nat, s.heap.size ≤ q → A q := fun q h => by rw [← hAe]; exact Or.inr h
  have hS : va_S A s.heap s.heap [] := va_S.rf
  have hP : va_P (dC, dI) vwCl (([(h0, kO2 h2 h3 h4 n0_size h5 n0_names n0_plots h6 h7 h8 h9 h10 n0_ways), (h1, kO9 h11 h14 h15 n1_size), (h2, kAi cint 10 f2), (h3, kAi cint 10 f3), (h4, kAi cint 10 f4), (h5, kAi cint 8 f5), (h6, kAi cint 40 f6), (h7, kAr cAlong 25 (fun j => some (h12 j))), (h8, kAr cAlong 5 (fun j => some (h13 j))), (h9, kAi cint 5 f9), (h10, kAi cint 5 f10), (h11, kAi cint 40 f11)] : va_W) ++ (kk_rowsL h12 clong 40 F12 25 ++ (kk_rowsL h13 clong 5 F13 5))) s.heap := hP
  have hl := lv_entry ([.ref h0, .ref h1, .int p1]) (n := 4) (Nat.le_of_ble_eq_true rfl)
  rw [lg_entry_eq]
  generalize (lg_sl ([.ref h0, .ref h1, .int p1]) ++ List.replicate (4 - (lg_sl ([.ref h0, .ref h1, .int p1])).length) Slot.unset).toArray = ls at hl ⊢
  have hl : lv_has ls 4 [(0, .ref h0), (1, .ref h1), (2, .int p1)] := hl
  refine lv_aload_n hx hb dX2_putTogether_0 rfl (lv_at hl 0 rfl) ?_
  refine lv_aload_n hx hb dX2_putTogether_1 rfl (lv_at hl 1 rfl) ?_
  obtain ⟨hPc, hDc, hFc⟩ := kk_cutout (wc := [(h1, kO9 h11 h14 h15 n1_size)]) hP hD hS hA [1] (by decide) rfl
  have hKc := kk_Ks (tq := []) hK [] rfl
  refine va_calli (va_runV (As := []) (rest := [.ref h0]) ⟨hx, hb, hml, hown, hts⟩ (g_X9_size_0 l dC dI h1 h11 h14 h15 s.heap.size n1_size tn1_size) (cwV 0 hts gX2_putTogether_X9_size rfl rfl rfl ⟨rfl, kh_X9_size⟩ ⟨Nat.le_of_ble_eq_true rfl, Nat.le_of_ble_eq_true rfl⟩) ⟨fun a U g mk q => by obtain ⟨q0, q1, qP, qK, qD⟩ := q; exact ⟨q0, q1, qP, va_K.moved (u := U) (U := U.calling g mk a) (Vm.Alike.refl U.vm) qK, qD⟩, va_recv hKc hPc (ci := 9) (q0 := 0) rfl rfl, fun U hU hW => ⟨rfl, by rw [hU], by rw [hU]; exact hPc, va_K.moved hW.alike hKc, hDc.weaken (fun _ _ _ _ => trivial)⟩⟩ rfl rfl hl.1 rfl (lv_room (Nat.le_of_ble_eq_true rfl)) dX2_putTogether_2 ⟨Nat.le_of_ble_eq_true rfl, Nat.le_of_ble_eq_true rfl⟩) hS (fun q _ h => hFc q h) hFc (fun r_1 u t H1 locs ht hvm hw hB hz1 hk1 hS => ?_)
  obtain ⟨hP1, hK1, hD1⟩ := hB
  rw [ht] at hP1
  have hK1 := va_K.moved hvm.symm hK1
  obtain ⟨hP, hD⟩ := va_joinQ (cx := [(h1, kO9 h11 h14 h15 n1_size)]) (wr := [(h0, kO2 h2 h3 h4 n0_size h5 n0_names n0_plots h6 h7 h8 h9 h10 n0_ways), (h2, kAi cint 10 f2), (h3, kAi cint 10 f3), (h4, kAi cint 10 f4), (h5, kAi cint 8 f5), (h6, kAi cint 40 f6), (h7, kAr cAlong 25 (fun j => some (h12 j))), (h8, kAr cAlong 5 (fun j => some (h13 j))), (h9, kAi cint 5 f9), (h10, kAi cint 5 f10), (h11, kAi cint 40 f11)]) (w1 := [(h1, kO9 h11 h14 h15 n1_size)]) hP hD [1] [0, 2, 3, 4, 5, 6, 7, 8, 9, 10, 11] rfl rfl (by decide) (by decide) hk1 hFc hP1 hD1
  generalize H1 = H at hP hS ⊢
  have hP : va_P (dC, dI) vwCl (([(h0, kO2 h2 h3 h4 n0_size h5 n0_names n0_plots h6 h7 h8 h9 h10 n0_ways), (h2, kAi cint 10 f2), (h3, kAi cint 10 f3), (h4, kAi cint 10 f4), (h5, kAi cint 8 f5), (h6, kAi cint 40 f6), (h7, kAr cAlong 25 (fun j => some (h12 j))), (h8, kAr cAlong 5 (fun j => some (h13 j))), (h9, kAi cint 5 f9), (h10, kAi cint 5 f10), (h11, kAi cint 40 f11), (h1, kO9 h11 h14 h15 n1_size)] : va_W) ++ (kk_rowsL h12 clong 40 F12 25 ++ (kk_rowsL h13 clong 5 F13 5))) H := hP
  have hD : va_D A (([(h0, kO2 h2 h3 h4 n0_size h5 n0_names n0_plots h6 h7 h8 h9 h10 n0_ways), (h2, kAi cint 10 f2), (h3, kAi cint 10 f3), (h4, kAi cint 10 f4), (h5, kAi cint 8 f5), (h6, kAi cint 40 f6), (h7, kAr cAlong 25 (fun j => some (h12 j))), (h8, kAr cAlong 5 (fun j => some (h13 j))), (h9, kAi cint 5 f9), (h10, kAi cint 5 f10), (h11, kAi cint 40 f11), (h1, kO9 h11 h14 h15 n1_size)] : va_W) ++ (kk_rowsL h12 clong 40 F12 25 ++ (kk_rowsL h13 clong 5 F13 5))) := hD
  obtain rfl := hw
  refine lv_bipush (v := 40) hx hb dX2_putTogether_5 kk_bi_40 ?_
  refine va_mmin hx hb (hml.trans hl.1.symm) hown (hts (.methodLink RX2 61 Lib.Math.min.name) (List.mem_of_getElem? (i := 1) rfl)) (hts (.static Lib.Math.min.name) (List.mem_of_getElem? (i := 2) rfl)) (hts (.initialized "java/lang/Math") (List.mem_of_getElem? (i := 3) rfl)) (hts (.code Lib.Math.min.name Lib.Math.min.code 2 (some .int)) (List.mem_of_getElem? (i := 4) rfl)) (Nat.le_of_ble_eq_true rfl) (Nat.le_of_ble_eq_true rfl) (Nat.le_of_ble_eq_true rfl) (Nat.le_of_ble_eq_true rfl) dX2_putTogether_7 ?_
  refine lv_topi (fun y_2 e_2 => ?_)
  have t_2 : y_2.toInt ≤ n1_size.toInt ∧ y_2.toInt ≤ 40 ∧ (y_2.toInt = n1_size.toInt ∨ y_2.toInt = 40) := by rw [e_2]; exact kk_min _ _
  clear e_2
  refine va_put (D := (dC, dI)) (ci := 2) (v := .int y_2) (ty := .int) (C := RX2) (T := TX2) (N := 13) hx hb hts (fun _ h => List.mem_cons_of_mem _ (List.mem_append_left _ (List.mem_append_right _ h))) tyX2 tyX2_ok nmX2 hown hK hP hD hS 0 rfl rfl 6 (by decide) (hts (.fieldLink RX2 67 "KinkStreet$Deeds" "plots" "I") (List.mem_of_getElem? (i := 5) rfl)) (fun _ h9 => h9) rfl (by decide +kernel) rfl rfl (Nat.le_of_ble_eq_true rfl) dX2_putTogether_10 (fun H locs hP hD hS => ?_)
  have hP : va_P (dC, dI) vwCl (([(h0, kO2 h2 h3 h4 n0_size h5 n0_names y_2 h6 h7 h8 h9 h10 n0_ways), (h2, kAi cint 10 f2), (h3, kAi cint 10 f3), (h4, kAi cint 10 f4), (h5, kAi cint 8 f5), (h6, kAi cint 40 f6), (h7, kAr cAlong 25 (fun j => some (h12 j))), (h8, kAr cAlong 5 (fun j => some (h13 j))), (h9, kAi cint 5 f9), (h10, kAi cint 5 f10), (h11, kAi cint 40 f11), (h1, kO9 h11 h14 h15 n1_size)] : va_W) ++ (kk_rowsL h12 clong 40 F12 25 ++ (kk_rowsL h13 clong 5 F13 5))) H := hP
  have hD : va_D A (([(h0, kO2 h2 h3 h4 n0_size h5 n0_names y_2 h6 h7 h8 h9 h10 n0_ways), (h2, kAi cint 10 f2), (h3, kAi cint 10 f3), (h4, kAi cint 10 f4), (h5, kAi cint 8 f5), (h6, kAi cint 40 f6), (h7, kAr cAlong 25 (fun j => some (h12 j))), (h8, kAr cAlong 5 (fun j => some (h13 j))), (h9, kAi cint 5 f9), (h10, kAi cint 5 f10), (h11, kAi cint 40 f11), (h1, kO9 h11 h14 h15 n1_size)] : va_W) ++ (kk_rowsL h12 clong 40 F12 25 ++ (kk_rowsL h13 clong 5 F13 5))) := hD
  refine lv_aload_n hx hb dX2_putTogether_13 rfl (lv_at hl 0 rfl) ?_
  refine lv_iconst (v := 0) hx hb dX2_putTogether_14 kk_ic_0 ?_
  refine va_put (D := (dC, dI)) (ci := 2) (v := .int 0) (ty := .int) (C := RX2) (T := TX2) (N := 13) hx hb hts (fun _ h => List.mem_cons_of_mem _ (List.mem_append_left _ (List.mem_append_right _ h))) tyX2 tyX2_ok nmX2 hown hK hP hD hS 0 rfl rfl 12 (by decide) (hts (.fieldLink RX2 70 "KinkStreet$Deeds" "ways" "I") (List.mem_of_getElem? (i := 6) rfl)) (fun _ h9 => h9) rfl (by decide +kernel) rfl rfl (Nat.le_of_ble_eq_true rfl) dX2_putTogether_15 (fun H locs hP hD hS => ?_)
  have hP : va_P (dC, dI) vwCl (([(h0, kO2 h2 h3 h4 n0_size h5 n0_names y_2 h6 h7 h8 h9 h10 0), (h2, kAi cint 10 f2), (h3, kAi cint 10 f3), (h4, kAi cint 10 f4), (h5, kAi cint 8 f5), (h6, kAi cint 40 f6), (h7, kAr cAlong 25 (fun j => some (h12 j))), (h8, kAr cAlong 5 (fun j => some (h13 j))), (h9, kAi cint 5 f9), (h10, kAi cint 5 f10), (h11, kAi cint 40 f11), (h1, kO9 h11 h14 h15 n1_size)] : va_W) ++ (kk_rowsL h12 clong 40 F12 25 ++ (kk_rowsL h13 clong 5 F13 5))) H := hP
  have hD : va_D A (([(h0, kO2 h2 h3 h4 n0_size h5 n0_names y_2 h6 h7 h8 h9 h10 0), (h2, kAi cint 10 f2), (h3, kAi cint 10 f3), (h4, kAi cint 10 f4), (h5, kAi cint 8 f5), (h6, kAi cint 40 f6), (h7, kAr cAlong 25 (fun j => some (h12 j))), (h8, kAr cAlong 5 (fun j => some (h13 j))), (h9, kAi cint 5 f9), (h10, kAi cint 5 f10), (h11, kAi cint 40 f11), (h1, kO9 h11 h14 h15 n1_size)] : va_W) ++ (kk_rowsL h12 clong 40 F12 25 ++ (kk_rowsL h13 clong 5 F13 5))) := hD
  refine lv_aload_n hx hb dX2_putTogether_18 rfl (lv_at hl 0 rfl) ?_
  refine va_get (D := (dC, dI)) (ci := 2) (v := .int n0_names) (C := RX2) (T := TX2) (N := 13) hx hb hts (fun _ h => List.mem_cons_of_mem _ (List.mem_append_left _ (List.mem_append_right _ h))) hown hK hP 0 rfl rfl 5 (by decide) (hts (.fieldLink RX2 49 "KinkStreet$Deeds" "names" "I") (List.mem_of_getElem? (i := 7) rfl)) (fun _ h9 => h9) rfl dX2_putTogether_19 ?_
  refine lv_iconst (v := 1) hx hb dX2_putTogether_22 kk_ic_1 ?_
  refine lv_icmp_lt (tgt := 34) hx hb dX2_putTogether_23 (by decide) (fun c_3 => ?_) (fun c_3 => ?_)
  · have t_3 : n0_names.toInt < 1 := kk_lt c_3
    refine lv_iconst (v := 0) hx hb dX2_putTogether_34 kk_ic_0 ?_
    have hP9 := hP.part (cx := [(h0, kO2 h2 h3 h4 n0_size h5 n0_names y_2 h6 h7 h8 h9 h10 0), (h1, kO9 h11 h14 h15 n1_size), (h2, kAi cint 10 f2), (h3, kAi cint 10 f3), (h4, kAi cint 10 f4), (h5, kAi cint 8 f5), (h6, kAi cint 40 f6), (h7, kAr cAlong 25 (fun j => some (h12 j))), (h8, kAr cAlong 5 (fun j => some (h13 j))), (h9, kAi cint 5 f9), (h10, kAi cint 5 f10), (h11, kAi cint 40 f11)]) [0, 11, 1, 2, 3, 4, 5, 6, 7, 8, 9, 10] rfl
    have hD9 := hD.part (cx := [(h0, kO2 h2 h3 h4 n0_size h5 n0_names y_2 h6 h7 h8 h9 h10 0), (h1, kO9 h11 h14 h15 n1_size), (h2, kAi cint 10 f2), (h3, kAi cint 10 f3), (h4, kAi cint 10 f4), (h5, kAi cint 8 f5), (h6, kAi cint 40 f6), (h7, kAr cAlong 25 (fun j => some (h12 j))), (h8, kAr cAlong 5 (fun j => some (h13 j))), (h9, kAi cint 5 f9), (h10, kAi cint 5 f10), (h11, kAi cint 40 f11)]) [0, 11, 1, 2, 3, 4, 5, 6, 7, 8, 9, 10] (by decide) rfl
    have hK9 := kk_Ks (tq := []) hK [] rfl
    exact W.iret (v := 0) hx hb hr (fun t ht hW => ⟨⟨0, (), rfl, trivial, y_2, 0, f6, f9, f10, F12, F13, (by show 0 ≤ (y_2 : Int32).toInt ∧ (y_2 : Int32).toInt ≤ 40; first | decide | ((omega))), by rw [ht]; exact hP9, va_K.moved hW.alike hK9, hD9⟩, hS.F ht⟩) hS.2.2 dX2_putTogether_35
  · have t_3 : 1 ≤ n0_names.toInt := kk_nlt c_3
    refine lv_aload_n hx hb dX2_putTogether_26 rfl (lv_at hl 0 rfl) ?_
    refine va_get (D := (dC, dI)) (ci := 2) (v := .int n0_names) (C := RX2) (T := TX2) (N := 13) hx hb hts (fun _ h => List.mem_cons_of_mem _ (List.mem_append_left _ (List.mem_append_right _ h))) hown hK hP 0 rfl rfl 5 (by decide) (hts (.fieldLink RX2 49 "KinkStreet$Deeds" "names" "I") (List.mem_of_getElem? (i := 7) rfl)) (fun _ h9 => h9) rfl dX2_putTogether_27 ?_
    refine lv_iconst (v := 5) hx hb dX2_putTogether_30 kk_ic_5 ?_
    refine lv_icmp_le (tgt := 36) hx hb dX2_putTogether_31 (by decide) (fun c_4 => ?_) (fun c_4 => ?_)
    · have t_4 : n0_names.toInt ≤ 5 := kk_le c_4
      refine lv_aload_n hx hb dX2_putTogether_36 rfl (lv_at hl 0 rfl) ?_
      refine lv_aload_n hx hb dX2_putTogether_37 rfl (lv_at hl 1 rfl) ?_
      have hPc := hP.part (cx := [(h0, kO2 h2 h3 h4 n0_size h5 n0_names y_2 h6 h7 h8 h9 h10 0), (h1, kO9 h11 h14 h15 n1_size), (h6, kAi cint 40 f6), (h7, kAr cAlong 25 (fun j => some (h12 j))), (h8, kAr cAlong 5 (fun j => some (h13 j))), (h11, kAi cint 40 f11)]) [0, 11, 5, 6, 7, 10] rfl
      have hDc := hD.part (cx := [(h0, kO2 h2 h3 h4 n0_size h5 n0_names y_2 h6 h7 h8 h9 h10 0), (h1, kO9 h11 h14 h15 n1_size), (h6, kAi cint 40 f6), (h7, kAr cAlong 25 (fun j => some (h12 j))), (h8, kAr cAlong 5 (fun j => some (h13 j))), (h11, kAi cint 40 f11)]) [0, 11, 5, 6, 7, 10] (by decide) rfl
      have hFc := va_freeP (cx := [(h0, kO2 h2 h3 h4 n0_size h5 n0_names y_2 h6 h7 h8 h9 h10 0), (h1, kO9 h11 h14 h15 n1_size), (h6, kAi cint 40 f6), (h7, kAr cAlong 25 (fun j => some (h12 j))), (h8, kAr cAlong 5 (fun j => some (h13 j))), (h11, kAi cint 40 f11)]) hD hS hA [0, 11, 5, 6, 7, 10] rfl
      have hKc := kk_Ks (tq := [(cint, .int), (cAlong, .array .long), (clong, .long)]) hK [0, 1, 2] rfl
      refine va_callv (va_runV (As := [.ref h1]) (rest := []) ⟨hx, hb, hml, hown, hts⟩ (g_X2_openAll_0 l dC dI h0 h1 h6 h7 h8 h11 h12 h13 h2 h3 h4 h5 h9 h10 h14 h15 cint cAlong clong H.size n0_size n0_names y_2 0 n1_size f6 f11 F12 F13 tn0_size tn0_names (by show 0 ≤ (y_2 : Int32).toInt ∧ (y_2 : Int32).toInt ≤ 40; first | decide | ((omega))) tn1_size) (cwV 1 hts gX2_putTogether_X2_openAll rfl rfl rfl ⟨rfl, kh_X2_openAll⟩ ⟨Nat.le_of_ble_eq_true rfl, Nat.le_of_ble_eq_true rfl⟩) ⟨fun a U g mk q => by obtain ⟨q0, q1, qP, qK, qD⟩ := q; exact ⟨q0, q1, qP, va_K.moved (u := U) (U := U.calling g mk a) (Vm.Alike.refl U.vm) qK, qD⟩, va_recv hKc hPc (ci := 2) (q0 := 0) rfl rfl, fun U hU hW => ⟨rfl, by rw [hU], by rw [hU]; exact hPc, va_K.moved hW.alike hKc, hDc.weaken (fun _ _ _ _ => trivial)⟩⟩ rfl rfl hl.1 rfl (lv_room (Nat.le_of_ble_eq_true rfl)) dX2_putTogether_38 ⟨Nat.le_of_ble_eq_true rfl, Nat.le_of_ble_eq_true rfl⟩) hS (fun q _ h => hFc q h) hFc (fun u t H1 locs ht hvm hw hB hz1 hk1 hS => ?_)
      refine hB.elim (fun f_6 hB => ?_)
      refine hB.elim (fun f_7 hB => ?_)
      refine hB.elim (fun f_8 hB => ?_)
      have hP1 := hB.1
      have hK1 := hB.2.1
      have hD1 := hB.2.2
      rw [ht] at hP1
      have hK1 := va_K.moved hvm.symm hK1
      obtain ⟨hP, hD⟩ := va_joinP (cx := [(h0, kO2 h2 h3 h4 n0_size h5 n0_names y_2 h6 h7 h8 h9 h10 0), (h1, kO9 h11 h14 h15 n1_size), (h6, kAi cint 40 f6), (h7, kAr cAlong 25 (fun j => some (h12 j))), (h8, kAr cAlong 5 (fun j => some (h13 j))), (h11, kAi cint 40 f11)]) (wr := [(h2, kAi cint 10 f2), (h3, kAi cint 10 f3), (h4, kAi cint 10 f4), (h5, kAi cint 8 f5), (h9, kAi cint 5 f9), (h10, kAi cint 5 f10)]) (rx := [(h0, kO2 h2 h3 h4 n0_size h5 n0_names y_2 h6 h7 h8 h9 h10 0), (h1, kO9 h11 h14 h15 n1_size), (h6, kAi cint 40 f_6), (h7, kAr cAlong 25 (fun j => some (h12 j))), (h8, kAr cAlong 5 (fun j => some (h13 j))), (h11, kAi cint 40 f11)]) hP hD [0, 11, 5, 6, 7, 10] [1, 2, 3, 4, 8, 9] rfl rfl (by decide) (by decide) hk1 hFc hP1 hD1
      generalize H1 = H at hP hS ⊢
      have hP : va_P (dC, dI) vwCl (([(h2, kAi cint 10 f2), (h3, kAi cint 10 f3), (h4, kAi cint 10 f4), (h5, kAi cint 8 f5), (h9, kAi cint 5 f9), (h10, kAi cint 5 f10), (h0, kO2 h2 h3 h4 n0_size h5 n0_names y_2 h6 h7 h8 h9 h10 0), (h1, kO9 h11 h14 h15 n1_size), (h6, kAi cint 40 f_6), (h7, kAr cAlong 25 (fun j => some (h12 j))), (h8, kAr cAlong 5 (fun j => some (h13 j))), (h11, kAi cint 40 f11)] : va_W) ++ (kk_rowsL h12 clong 40 f_7 25 ++ (kk_rowsL h13 clong 5 f_8 5))) H := hP
      have hD : va_D A (([(h2, kAi cint 10 f2), (h3, kAi cint 10 f3), (h4, kAi cint 10 f4), (h5, kAi cint 8 f5), (h9, kAi cint 5 f9), (h10, kAi cint 5 f10), (h0, kO2 h2 h3 h4 n0_size h5 n0_names y_2 h6 h7 h8 h9 h10 0), (h1, kO9 h11 h14 h15 n1_size), (h6, kAi cint 40 f_6), (h7, kAr cAlong 25 (fun j => some (h12 j))), (h8, kAr cAlong 5 (fun j => some (h13 j))), (h11, kAi cint 40 f11)] : va_W) ++ (kk_rowsL h12 clong 40 f_7 25 ++ (kk_rowsL h13 clong 5 f_8 5))) := hD
      refine lv_iconst (v := 0) hx hb dX2_putTogether_41 kk_ic_0 ?_
      refine lv_istore_n hx hb dX2_putTogether_42 rfl hl (by decide) (rfl : _ = ([(3, .int 0), (0, .ref h0), (1, .ref h1), (2, .int p1)] : List (Nat × Value))) (fun ls hl => ?_)
      refine kk_loop (σ := Int32 × (Nat → Nat → Int64) × (Nat → Nat → Int64)) (fun x H locs ls => (0 ≤ x.1.toInt ∧ x.1.toInt ≤ 10) ∧ va_P (dC, dI) vwCl (([(h2, kAi cint 10 f2), (h3, kAi cint 10 f3), (h4, kAi cint 10 f4), (h5, kAi cint 8 f5), (h9, kAi cint 5 f9), (h10, kAi cint 5 f10), (h0, kO2 h2 h3 h4 n0_size h5 n0_names y_2 h6 h7 h8 h9 h10 0), (h1, kO9 h11 h14 h15 n1_size), (h6, kAi cint 40 f_6), (h7, kAr cAlong 25 (fun j => some (h12 j))), (h8, kAr cAlong 5 (fun j => some (h13 j))), (h11, kAi cint 40 f11)] : va_W) ++ (kk_rowsL h12 clong 40 x.2.1 25 ++ (kk_rowsL h13 clong 5 x.2.2 5))) H ∧ va_D A (([(h2, kAi cint 10 f2), (h3, kAi cint 10 f3), (h4, kAi cint 10 f4), (h5, kAi cint 8 f5), (h9, kAi cint 5 f9), (h10, kAi cint 5 f10), (h0, kO2 h2 h3 h4 n0_size h5 n0_names y_2 h6 h7 h8 h9 h10 0), (h1, kO9 h11 h14 h15 n1_size), (h6, kAi cint 40 f_6), (h7, kAr cAlong 25 (fun j => some (h12 j))), (h8, kAr cAlong 5 (fun j => some (h13 j))), (h11, kAi cint 40 f11)] : va_W) ++ (kk_rowsL h12 clong 40 x.2.1 25 ++ (kk_rowsL h13 clong 5 x.2.2 5))) ∧ va_S A s.heap H locs ∧ lv_has ls 4 [(3, .int x.1), (0, .ref h0), (1, .ref h1), (2, .int p1)]) (fun x => ((10 : Int) - x.1.toInt).toNat) ?_ (0, f_7, f_8) _ _ _ ⟨(by show 0 ≤ (0 : Int32).toInt ∧ (0 : Int32).toInt ≤ 10; first | decide | ((omega))), hP, hD, hS, hl⟩
      rintro ⟨i_9_0, f_9_1, f_9_2⟩ H locs ls ⟨t_9_0, hP, hD, hS, hl⟩ ih_9
      have t_9_0 : (0 ≤ i_9_0.toInt ∧ i_9_0.toInt ≤ 10) := t_9_0
      have hl : lv_has ls 4 [(3, .int i_9_0), (0, .ref h0), (1, .ref h1), (2, .int p1)] := hl
      have hP : va_P (dC, dI) vwCl (([(h2, kAi cint 10 f2), (h3, kAi cint 10 f3), (h4, kAi cint 10 f4), (h5, kAi cint 8 f5), (h9, kAi cint 5 f9), (h10, kAi cint 5 f10), (h0, kO2 h2 h3 h4 n0_size h5 n0_names y_2 h6 h7 h8 h9 h10 0), (h1, kO9 h11 h14 h15 n1_size), (h6, kAi cint 40 f_6), (h7, kAr cAlong 25 (fun j => some (h12 j))), (h8, kAr cAlong 5 (fun j => some (h13 j))), (h11, kAi cint 40 f11)] : va_W) ++ (kk_rowsL h12 clong 40 f_9_1 25 ++ (kk_rowsL h13 clong 5 f_9_2 5))) H := hP
      have hD : va_D A (([(h2, kAi cint 10 f2), (h3, kAi cint 10 f3), (h4, kAi cint 10 f4), (h5, kAi cint 8 f5), (h9, kAi cint 5 f9), (h10, kAi cint 5 f10), (h0, kO2 h2 h3 h4 n0_size h5 n0_names y_2 h6 h7 h8 h9 h10 0), (h1, kO9 h11 h14 h15 n1_size), (h6, kAi cint 40 f_6), (h7, kAr cAlong 25 (fun j => some (h12 j))), (h8, kAr cAlong 5 (fun j => some (h13 j))), (h11, kAi cint 40 f11)] : va_W) ++ (kk_rowsL h12 clong 40 f_9_1 25 ++ (kk_rowsL h13 clong 5 f_9_2 5))) := hD
      refine lv_iload_n hx hb dX2_putTogether_43 rfl (lv_at hl 0 rfl) ?_
      refine lv_aload_n hx hb dX2_putTogether_44 rfl (lv_at hl 1 rfl) ?_
      refine va_get (D := (dC, dI)) (ci := 2) (v := .int n0_size) (C := RX2) (T := TX2) (N := 13) hx hb hts (fun _ h => List.mem_cons_of_mem _ (List.mem_append_left _ (List.mem_append_right _ h))) hown hK hP 6 rfl rfl 3 (by decide) (hts (.fieldLink RX2 41 "KinkStreet$Deeds" "size" "I") (List.mem_of_getElem? (i := 8) rfl)) (fun _ h9 => h9) rfl dX2_putTogether_45 ?_
      refine lv_icmp_ge (tgt := 127) hx hb dX2_putTogether_48 (by decide) (fun c_10 => ?_) (fun c_10 => ?_)
      · have t_10 : n0_size.toInt ≤ i_9_0.toInt := kk_le c_10
        refine lv_aload_n hx hb dX2_putTogether_127 rfl (lv_at hl 1 rfl) ?_
        refine lv_iconst (v := 0) hx hb dX2_putTogether_128 kk_ic_0 ?_
        have hPc := hP.part (cx := [(h0, kO2 h2 h3 h4 n0_size h5 n0_names y_2 h6 h7 h8 h9 h10 0), (h7, kAr cAlong 25 (fun j => some (h12 j))), (h8, kAr cAlong 5 (fun j => some (h13 j))), (h9, kAi cint 5 f9), (h10, kAi cint 5 f10)]) [6, 9, 10, 4, 5] rfl
        have hDc := hD.part (cx := [(h0, kO2 h2 h3 h4 n0_size h5 n0_names y_2 h6 h7 h8 h9 h10 0), (h7, kAr cAlong 25 (fun j => some (h12 j))), (h8, kAr cAlong 5 (fun j => some (h13 j))), (h9, kAi cint 5 f9), (h10, kAi cint 5 f10)]) [6, 9, 10, 4, 5] (by decide) rfl
        have hFc := va_freeP (cx := [(h0, kO2 h2 h3 h4 n0_size h5 n0_names y_2 h6 h7 h8 h9 h10 0), (h7, kAr cAlong 25 (fun j => some (h12 j))), (h8, kAr cAlong 5 (fun j => some (h13 j))), (h9, kAi cint 5 f9), (h10, kAi cint 5 f10)]) hD hS hA [6, 9, 10, 4, 5] rfl
        have hKc := kk_Ks (tq := [(cAlong, .array .long), (cint, .int), (clong, .long)]) hK [1, 0, 2] rfl
        refine va_callv (va_runV (As := [.int 0]) (rest := []) ⟨hx, hb, hml, hown, hts⟩ (g_X2_search_4 l dC dI h0 h7 h8 h9 h10 h12 h13 h2 h3 h4 h5 h6 cAlong cint clong H.size n0_size n0_names y_2 0 f9 f10 f_9_1 f_9_2 tn0_size (by show 1 ≤ (n0_names : Int32).toInt ∧ (n0_names : Int32).toInt ≤ 5; first | decide | ((omega))) (by show 0 ≤ (y_2 : Int32).toInt ∧ (y_2 : Int32).toInt ≤ 40; first | decide | ((omega)))) (cwV 1 hts gX2_putTogether_X2_search rfl rfl rfl ⟨rfl, kh_X2_search⟩ ⟨Nat.le_of_ble_eq_true rfl, Nat.le_of_ble_eq_true rfl⟩) ⟨fun a U g mk q => by obtain ⟨q0, q1, qP, qK, qD⟩ := q; exact ⟨q0, q1, qP, va_K.moved (u := U) (U := U.calling g mk a) (Vm.Alike.refl U.vm) qK, qD⟩, va_recv hKc hPc (ci := 2) (q0 := 0) rfl rfl, fun U hU hW => ⟨rfl, by rw [hU], by rw [hU]; exact hPc, va_K.moved hW.alike hKc, hDc.weaken (fun _ _ _ _ => trivial)⟩⟩ rfl rfl hl.1 rfl (lv_room (Nat.le_of_ble_eq_true rfl)) dX2_putTogether_129 ⟨Nat.le_of_ble_eq_true rfl, Nat.le_of_ble_eq_true rfl⟩) hS (fun q _ h => hFc q h) hFc (fun u t H1 locs ht hvm hw hB hz1 hk1 hS => ?_)
        refine hB.elim (fun y_12 hB => ?_)
        refine hB.elim (fun f_13 hB => ?_)
        refine hB.elim (fun f_14 hB => ?_)
        refine hB.elim (fun f_15 hB => ?_)
        have hP1 := hB.1
        have hK1 := hB.2.1
        have hD1 := hB.2.2
        rw [ht] at hP1
        have hK1 := va_K.moved hvm.symm hK1
        obtain ⟨hP, hD⟩ := va_joinP (cx := [(h0, kO2 h2 h3 h4 n0_size h5 n0_names y_2 h6 h7 h8 h9 h10 0), (h7, kAr cAlong 25 (fun j => some (h12 j))), (h8, kAr cAlong 5 (fun j => some (h13 j))), (h9, kAi cint 5 f9), (h10, kAi cint 5 f10)]) (wr := [(h2, kAi cint 10 f2), (h3, kAi cint 10 f3), (h4, kAi cint 10 f4), (h5, kAi cint 8 f5), (h1, kO9 h11 h14 h15 n1_size), (h6, kAi cint 40 f_6), (h11, kAi cint 40 f11)]) (rx := [(h0, kO2 h2 h3 h4 n0_size h5 n0_names y_2 h6 h7 h8 h9 h10 y_12), (h7, kAr cAlong 25 (fun j => some (h12 j))), (h8, kAr cAlong 5 (fun j => some (h13 j))), (h9, kAi cint 5 f_13), (h10, kAi cint 5 f_14)]) hP hD [6, 9, 10, 4, 5] [0, 1, 2, 3, 7, 8, 11] rfl rfl (by decide) (by decide) hk1 hFc hP1 hD1
        generalize H1 = H at hP hS ⊢
        have hP : va_P (dC, dI) vwCl (([(h2, kAi cint 10 f2), (h3, kAi cint 10 f3), (h4, kAi cint 10 f4), (h5, kAi cint 8 f5), (h1, kO9 h11 h14 h15 n1_size), (h6, kAi cint 40 f_6), (h11, kAi cint 40 f11), (h0, kO2 h2 h3 h4 n0_size h5 n0_names y_2 h6 h7 h8 h9 h10 y_12), (h7, kAr cAlong 25 (fun j => some (h12 j))), (h8, kAr cAlong 5 (fun j => some (h13 j))), (h9, kAi cint 5 f_13), (h10, kAi cint 5 f_14)] : va_W) ++ (kk_rowsL h12 clong 40 f_9_1 25 ++ (kk_rowsL h13 clong 5 f_15 5))) H := hP
        have hD : va_D A (([(h2, kAi cint 10 f2), (h3, kAi cint 10 f3), (h4, kAi cint 10 f4), (h5, kAi cint 8 f5), (h1, kO9 h11 h14 h15 n1_size), (h6, kAi cint 40 f_6), (h11, kAi cint 40 f11), (h0, kO2 h2 h3 h4 n0_size h5 n0_names y_2 h6 h7 h8 h9 h10 y_12), (h7, kAr cAlong 25 (fun j => some (h12 j))), (h8, kAr cAlong 5 (fun j => some (h13 j))), (h9, kAi cint 5 f_13), (h10, kAi cint 5 f_14)] : va_W) ++ (kk_rowsL h12 clong 40 f_9_1 25 ++ (kk_rowsL h13 clong 5 f_15 5))) := hD
        refine lv_aload_n hx hb dX2_putTogether_132 rfl (lv_at hl 1 rfl) ?_
        refine va_get (D := (dC, dI)) (ci := 2) (v := .int y_12) (C := RX2) (T := TX2) (N := 13) hx hb hts (fun _ h => List.mem_cons_of_mem _ (List.mem_append_left _ (List.mem_append_right _ h))) hown hK hP 7 rfl rfl 12 (by decide) (hts (.fieldLink RX2 70 "KinkStreet$Deeds" "ways" "I") (List.mem_of_getElem? (i := 6) rfl)) (fun _ h9 => h9) rfl dX2_putTogether_133 ?_
        have hP9 := hP.part (cx := [(h0, kO2 h2 h3 h4 n0_size h5 n0_names y_2 h6 h7 h8 h9 h10 y_12), (h1, kO9 h11 h14 h15 n1_size), (h2, kAi cint 10 f2), (h3, kAi cint 10 f3), (h4, kAi cint 10 f4), (h5, kAi cint 8 f5), (h6, kAi cint 40 f_6), (h7, kAr cAlong 25 (fun j => some (h12 j))), (h8, kAr cAlong 5 (fun j => some (h13 j))), (h9, kAi cint 5 f_13), (h10, kAi cint 5 f_14), (h11, kAi cint 40 f11)]) [7, 4, 0, 1, 2, 3, 5, 8, 9, 10, 11, 6] rfl
        have hD9 := hD.part (cx := [(h0, kO2 h2 h3 h4 n0_size h5 n0_names y_2 h6 h7 h8 h9 h10 y_12), (h1, kO9 h11 h14 h15 n1_size), (h2, kAi cint 10 f2), (h3, kAi cint 10 f3), (h4, kAi cint 10 f4), (h5, kAi cint 8 f5), (h6, kAi cint 40 f_6), (h7, kAr cAlong 25 (fun j => some (h12 j))), (h8, kAr cAlong 5 (fun j => some (h13 j))), (h9, kAi cint 5 f_13), (h10, kAi cint 5 f_14), (h11, kAi cint 40 f11)]) [7, 4, 0, 1, 2, 3, 5, 8, 9, 10, 11, 6] (by decide) rfl
        have hK9 := kk_Ks (tq := []) hK [] rfl
        exact W.iret (v := y_12) hx hb hr (fun t ht hW => ⟨⟨y_12, (), rfl, trivial, y_2, y_12, f_6, f_13, f_14, f_9_1, f_15, (by show 0 ≤ (y_2 : Int32).toInt ∧ (y_2 : Int32).toInt ≤ 40; first | decide | ((omega))), by rw [ht]; exact hP9, va_K.moved hW.alike hK9, hD9⟩, hS.F ht⟩) hS.2.2 dX2_putTogether_136
      · have t_10 : i_9_0.toInt < n0_size.toInt := kk_nle c_10
        refine lv_aload_n hx hb dX2_putTogether_51 rfl (lv_at hl 1 rfl) ?_
        refine va_get (D := (dC, dI)) (ci := 2) (v := .ref h3) (C := RX2) (T := TX2) (N := 13) hx hb hts (fun _ h => List.mem_cons_of_mem _ (List.mem_append_left _ (List.mem_append_right _ h))) hown hK hP 6 rfl rfl 1 (by decide) (hts (.fieldLink RX2 15 "KinkStreet$Deeds" "others" "[I") (List.mem_of_getElem? (i := 9) rfl)) (fun _ h9 => h9) rfl dX2_putTogether_52 ?_
        refine lv_iload_n hx hb dX2_putTogether_55 rfl (lv_at hl 0 rfl) ?_
        have hi_16 : vp_in i_9_0 10 := (vp_in_iff.mpr ⟨by omega, by omega⟩)
        refine va_iald hx hb hK hP 1 0 rfl rfl hi_16 dX2_putTogether_56 ?_
        refine lv_topi (fun y_16 e_16 => ?_)
        clear e_16
        refine lv_iconst (v := (-1)) hx hb dX2_putTogether_57 kk_ic_m1 ?_
        refine lv_icmp_ne (tgt := 84) hx hb dX2_putTogether_58 (by decide) (fun c_17 => ?_) (fun c_17 => ?_)
        · have t_17 : y_16.toInt ≠ (-1) := kk_ne c_17
          refine lv_aload_n hx hb dX2_putTogether_84 rfl (lv_at hl 1 rfl) ?_
          refine lv_aload_n hx hb dX2_putTogether_85 rfl (lv_at hl 1 rfl) ?_
          refine lv_aload_n hx hb dX2_putTogether_86 rfl (lv_at hl 1 rfl) ?_
          refine va_get (D := (dC, dI)) (ci := 2) (v := .ref h2) (C := RX2) (T := TX2) (N := 13) hx hb hts (fun _ h => List.mem_cons_of_mem _ (List.mem_append_left _ (List.mem_append_right _ h))) hown hK hP 6 rfl rfl 0 (by decide) (hts (.fieldLink RX2 11 "KinkStreet$Deeds" "ones" "[I") (List.mem_of_getElem? (i := 10) rfl)) (fun _ h9 => h9) rfl dX2_putTogether_87 ?_
          refine lv_iload_n hx hb dX2_putTogether_90 rfl (lv_at hl 0 rfl) ?_
          have hi_18 : vp_in i_9_0 10 := (vp_in_iff.mpr ⟨by omega, by omega⟩)
          refine va_iald hx hb hK hP 0 0 rfl rfl hi_18 dX2_putTogether_91 ?_
          refine lv_topi (fun y_18 e_18 => ?_)
          clear e_18
          obtain ⟨hPc, hDc, hFc⟩ := kk_cutout (wc := [(h0, kO2 h2 h3 h4 n0_size h5 n0_names y_2 h6 h7 h8 h9 h10 0), (h5, kAi cint 8 f5)]) hP hD hS hA [6, 3] (by decide) rfl
          have hKc := kk_Ks (tq := [(cint, .int)]) hK [0] rfl
          refine va_calli (va_runV (As := [.int y_18]) (rest := [.ref h0]) ⟨hx, hb, hml, hown, hts⟩ (g_X2_seat_0 l dC dI h0 h5 h2 h3 h4 h6 h7 h8 h9 h10 cint H.size y_18 n0_size n0_names y_2 0 f5 tn0_size tn0_names (by show 0 ≤ (y_2 : Int32).toInt ∧ (y_2 : Int32).toInt ≤ 40; first | decide | ((omega)))) (cwV 1 hts gX2_putTogether_X2_seat rfl rfl rfl ⟨rfl, kh_X2_seat⟩ ⟨Nat.le_of_ble_eq_true rfl, Nat.le_of_ble_eq_true rfl⟩) ⟨fun a U g mk q => by obtain ⟨q0, q1, qP, qK, qD⟩ := q; exact ⟨q0, q1, qP, va_K.moved (u := U) (U := U.calling g mk a) (Vm.Alike.refl U.vm) qK, qD⟩, va_recv hKc hPc (ci := 2) (q0 := 0) rfl rfl, fun U hU hW => ⟨rfl, by rw [hU], by rw [hU]; exact hPc, va_K.moved hW.alike hKc, hDc.weaken (fun _ _ _ _ => trivial)⟩⟩ rfl rfl hl.1 rfl (lv_room (Nat.le_of_ble_eq_true rfl)) dX2_putTogether_92 ⟨Nat.le_of_ble_eq_true rfl, Nat.le_of_ble_eq_true rfl⟩) hS (fun q _ h => hFc q h) hFc (fun r_19 u t H1 locs ht hvm hw hB hz1 hk1 hS => ?_)
          obtain ⟨hP1, hK1, hD1⟩ := hB
          rw [ht] at hP1
          have hK1 := va_K.moved hvm.symm hK1
          obtain ⟨hP, hD⟩ := va_joinQ (cx := [(h0, kO2 h2 h3 h4 n0_size h5 n0_names y_2 h6 h7 h8 h9 h10 0), (h5, kAi cint 8 f5)]) (wr := [(h2, kAi cint 10 f2), (h3, kAi cint 10 f3), (h4, kAi cint 10 f4), (h9, kAi cint 5 f9), (h10, kAi cint 5 f10), (h1, kO9 h11 h14 h15 n1_size), (h6, kAi cint 40 f_6), (h7, kAr cAlong 25 (fun j => some (h12 j))), (h8, kAr cAlong 5 (fun j => some (h13 j))), (h11, kAi cint 40 f11)]) (w1 := [(h0, kO2 h2 h3 h4 n0_size h5 n0_names y_2 h6 h7 h8 h9 h10 0), (h5, kAi cint 8 f5)]) hP hD [6, 3] [0, 1, 2, 4, 5, 7, 8, 9, 10, 11] rfl rfl (by decide) (by decide) hk1 hFc hP1 hD1
          generalize H1 = H at hP hS ⊢
          have hP : va_P (dC, dI) vwCl (([(h2, kAi cint 10 f2), (h3, kAi cint 10 f3), (h4, kAi cint 10 f4), (h9, kAi cint 5 f9), (h10, kAi cint 5 f10), (h1, kO9 h11 h14 h15 n1_size), (h6, kAi cint 40 f_6), (h7, kAr cAlong 25 (fun j => some (h12 j))), (h8, kAr cAlong 5 (fun j => some (h13 j))), (h11, kAi cint 40 f11), (h0, kO2 h2 h3 h4 n0_size h5 n0_names y_2 h6 h7 h8 h9 h10 0), (h5, kAi cint 8 f5)] : va_W) ++ (kk_rowsL h12 clong 40 f_9_1 25 ++ (kk_rowsL h13 clong 5 f_9_2 5))) H := hP
          have hD : va_D A (([(h2, kAi cint 10 f2), (h3, kAi cint 10 f3), (h4, kAi cint 10 f4), (h9, kAi cint 5 f9), (h10, kAi cint 5 f10), (h1, kO9 h11 h14 h15 n1_size), (h6, kAi cint 40 f_6), (h7, kAr cAlong 25 (fun j => some (h12 j))), (h8, kAr cAlong 5 (fun j => some (h13 j))), (h11, kAi cint 40 f11), (h0, kO2 h2 h3 h4 n0_size h5 n0_names y_2 h6 h7 h8 h9 h10 0), (h5, kAi cint 8 f5)] : va_W) ++ (kk_rowsL h12 clong 40 f_9_1 25 ++ (kk_rowsL h13 clong 5 f_9_2 5))) := hD
          have t_19 : 0 ≤ r_19.toInt ∧ r_19.toInt ≤ 4 := hw
          refine lv_aload_n hx hb dX2_putTogether_95 rfl (lv_at hl 1 rfl) ?_
          refine lv_aload_n hx hb dX2_putTogether_96 rfl (lv_at hl 1 rfl) ?_
          refine va_get (D := (dC, dI)) (ci := 2) (v := .ref h3) (C := RX2) (T := TX2) (N := 13) hx hb hts (fun _ h => List.mem_cons_of_mem _ (List.mem_append_left _ (List.mem_append_right _ h))) hown hK hP 10 rfl rfl 1 (by decide) (hts (.fieldLink RX2 15 "KinkStreet$Deeds" "others" "[I") (List.mem_of_getElem? (i := 9) rfl)) (fun _ h9 => h9) rfl dX2_putTogether_97 ?_
          refine lv_iload_n hx hb dX2_putTogether_100 rfl (lv_at hl 0 rfl) ?_
          have hi_20 : vp_in i_9_0 10 := (vp_in_iff.mpr ⟨by omega, by omega⟩)
          refine va_iald hx hb hK hP 1 0 rfl rfl hi_20 dX2_putTogether_101 ?_
          refine lv_topi (fun y_20 e_20 => ?_)
          clear e_20
          obtain ⟨hPc, hDc, hFc⟩ := kk_cutout (wc := [(h0, kO2 h2 h3 h4 n0_size h5 n0_names y_2 h6 h7 h8 h9 h10 0), (h5, kAi cint 8 f5)]) hP hD hS hA [10, 11] (by decide) rfl
          have hKc := kk_Ks (tq := [(cint, .int)]) hK [0] rfl
          refine va_calli (va_runV (As := [.int y_20]) (rest := [.int r_19, .ref h0]) ⟨hx, hb, hml, hown, hts⟩ (g_X2_seat_0 l dC dI h0 h5 h2 h3 h4 h6 h7 h8 h9 h10 cint H.size y_20 n0_size n0_names y_2 0 f5 tn0_size tn0_names (by show 0 ≤ (y_2 : Int32).toInt ∧ (y_2 : Int32).toInt ≤ 40; first | decide | ((omega)))) (cwV 1 hts gX2_putTogether_X2_seat rfl rfl rfl ⟨rfl, kh_X2_seat⟩ ⟨Nat.le_of_ble_eq_true rfl, Nat.le_of_ble_eq_true rfl⟩) ⟨fun a U g mk q => by obtain ⟨q0, q1, qP, qK, qD⟩ := q; exact ⟨q0, q1, qP, va_K.moved (u := U) (U := U.calling g mk a) (Vm.Alike.refl U.vm) qK, qD⟩, va_recv hKc hPc (ci := 2) (q0 := 0) rfl rfl, fun U hU hW => ⟨rfl, by rw [hU], by rw [hU]; exact hPc, va_K.moved hW.alike hKc, hDc.weaken (fun _ _ _ _ => trivial)⟩⟩ rfl rfl hl.1 rfl (lv_room (Nat.le_of_ble_eq_true rfl)) dX2_putTogether_102 ⟨Nat.le_of_ble_eq_true rfl, Nat.le_of_ble_eq_true rfl⟩) hS (fun q _ h => hFc q h) hFc (fun r_21 u t H1 locs ht hvm hw hB hz1 hk1 hS => ?_)
          obtain ⟨hP1, hK1, hD1⟩ := hB
          rw [ht] at hP1
          have hK1 := va_K.moved hvm.symm hK1
          obtain ⟨hP, hD⟩ := va_joinQ (cx := [(h0, kO2 h2 h3 h4 n0_size h5 n0_names y_2 h6 h7 h8 h9 h10 0), (h5, kAi cint 8 f5)]) (wr := [(h2, kAi cint 10 f2), (h3, kAi cint 10 f3), (h4, kAi cint 10 f4), (h9, kAi cint 5 f9), (h10, kAi cint 5 f10), (h1, kO9 h11 h14 h15 n1_size), (h6, kAi cint 40 f_6), (h7, kAr cAlong 25 (fun j => some (h12 j))), (h8, kAr cAlong 5 (fun j => some (h13 j))), (h11, kAi cint 40 f11)]) (w1 := [(h0, kO2 h2 h3 h4 n0_size h5 n0_names y_2 h6 h7 h8 h9 h10 0), (h5, kAi cint 8 f5)]) hP hD [10, 11] [0, 1, 2, 3, 4, 5, 6, 7, 8, 9] rfl rfl (by decide) (by decide) hk1 hFc hP1 hD1
          generalize H1 = H at hP hS ⊢
          have hP : va_P (dC, dI) vwCl (([(h2, kAi cint 10 f2), (h3, kAi cint 10 f3), (h4, kAi cint 10 f4), (h9, kAi cint 5 f9), (h10, kAi cint 5 f10), (h1, kO9 h11 h14 h15 n1_size), (h6, kAi cint 40 f_6), (h7, kAr cAlong 25 (fun j => some (h12 j))), (h8, kAr cAlong 5 (fun j => some (h13 j))), (h11, kAi cint 40 f11), (h0, kO2 h2 h3 h4 n0_size h5 n0_names y_2 h6 h7 h8 h9 h10 0), (h5, kAi cint 8 f5)] : va_W) ++ (kk_rowsL h12 clong 40 f_9_1 25 ++ (kk_rowsL h13 clong 5 f_9_2 5))) H := hP
          have hD : va_D A (([(h2, kAi cint 10 f2), (h3, kAi cint 10 f3), (h4, kAi cint 10 f4), (h9, kAi cint 5 f9), (h10, kAi cint 5 f10), (h1, kO9 h11 h14 h15 n1_size), (h6, kAi cint 40 f_6), (h7, kAr cAlong 25 (fun j => some (h12 j))), (h8, kAr cAlong 5 (fun j => some (h13 j))), (h11, kAi cint 40 f11), (h0, kO2 h2 h3 h4 n0_size h5 n0_names y_2 h6 h7 h8 h9 h10 0), (h5, kAi cint 8 f5)] : va_W) ++ (kk_rowsL h12 clong 40 f_9_1 25 ++ (kk_rowsL h13 clong 5 f_9_2 5))) := hD
          have t_21 : 0 ≤ r_21.toInt ∧ r_21.toInt ≤ 4 := hw
          refine lv_bipush (v := 10) hx hb dX2_putTogether_105 kk_bi_10 ?_
          refine lv_aload_n hx hb dX2_putTogether_107 rfl (lv_at hl 1 rfl) ?_
          refine va_get (D := (dC, dI)) (ci := 2) (v := .ref h4) (C := RX2) (T := TX2) (N := 13) hx hb hts (fun _ h => List.mem_cons_of_mem _ (List.mem_append_left _ (List.mem_append_right _ h))) hown hK hP 10 rfl rfl 2 (by decide) (hts (.fieldLink RX2 18 "KinkStreet$Deeds" "tolds" "[I") (List.mem_of_getElem? (i := 11) rfl)) (fun _ h9 => h9) rfl dX2_putTogether_108 ?_
          refine lv_iload_n hx hb dX2_putTogether_111 rfl (lv_at hl 0 rfl) ?_
          have hi_22 : vp_in i_9_0 10 := (vp_in_iff.mpr ⟨by omega, by omega⟩)
          refine va_iald hx hb hK hP 2 0 rfl rfl hi_22 dX2_putTogether_112 ?_
          refine lv_topi (fun y_22 e_22 => ?_)
          clear e_22
          refine lv_imul hx hb dX2_putTogether_113 ?_
          refine lv_bipush (v := 10) hx hb dX2_putTogether_114 kk_bi_10 ?_
          refine lv_iload_n hx hb dX2_putTogether_116 rfl (lv_at hl 3 rfl) ?_
          refine lv_imul hx hb dX2_putTogether_117 ?_
          have hPc := hP.part (cx := [(h0, kO2 h2 h3 h4 n0_size h5 n0_names y_2 h6 h7 h8 h9 h10 0), (h6, kAi cint 40 f_6), (h7, kAr cAlong 25 (fun j => some (h12 j))), (h8, kAr cAlong 5 (fun j => some (h13 j)))]) [10, 6, 7, 8] rfl
          have hDc := hD.part (cx := [(h0, kO2 h2 h3 h4 n0_size h5 n0_names y_2 h6 h7 h8 h9 h10 0), (h6, kAi cint 40 f_6), (h7, kAr cAlong 25 (fun j => some (h12 j))), (h8, kAr cAlong 5 (fun j => some (h13 j)))]) [10, 6, 7, 8] (by decide) rfl
          have hFc := va_freeP (cx := [(h0, kO2 h2 h3 h4 n0_size h5 n0_names y_2 h6 h7 h8 h9 h10 0), (h6, kAi cint 40 f_6), (h7, kAr cAlong 25 (fun j => some (h12 j))), (h8, kAr cAlong 5 (fun j => some (h13 j)))]) hD hS hA [10, 6, 7, 8] rfl
          have hKc := kk_Ks (tq := [(cint, .int), (cAlong, .array .long), (clong, .long)]) hK [0, 1, 2] rfl
          refine va_callv (va_runV (As := [.int r_19, .int r_21, .int (10 * y_22), .int (10 * p1)]) (rest := []) ⟨hx, hb, hml, hown, hts⟩ (g_X2_keepDistance_0 l dC dI h0 h6 h7 h8 h12 h13 h2 h3 h4 h5 h9 h10 cint cAlong clong H.size r_19 r_21 (10 * y_22) (10 * p1) (by show 0 ≤ (r_19 : Int32).toInt ∧ (r_19 : Int32).toInt ≤ 4; first | decide | ((omega))) (by show 0 ≤ (r_21 : Int32).toInt ∧ (r_21 : Int32).toInt ≤ 4; first | decide | ((omega))) n0_size n0_names y_2 0 f_6 f_9_1 f_9_2 tn0_size tn0_names (by show 0 ≤ (y_2 : Int32).toInt ∧ (y_2 : Int32).toInt ≤ 40; first | decide | ((omega)))) (cwV 4 hts gX2_putTogether_X2_keepDistance rfl rfl rfl ⟨rfl, kh_X2_keepDistance⟩ ⟨Nat.le_of_ble_eq_true rfl, Nat.le_of_ble_eq_true rfl⟩) ⟨fun a U g mk q => by obtain ⟨q0, q1, qP, qK, qD⟩ := q; exact ⟨q0, q1, qP, va_K.moved (u := U) (U := U.calling g mk a) (Vm.Alike.refl U.vm) qK, qD⟩, va_recv hKc hPc (ci := 2) (q0 := 0) rfl rfl, fun U hU hW => ⟨rfl, by rw [hU], by rw [hU]; exact hPc, va_K.moved hW.alike hKc, hDc.weaken (fun _ _ _ _ => trivial)⟩⟩ rfl rfl hl.1 rfl (lv_room (Nat.le_of_ble_eq_true rfl)) dX2_putTogether_118 ⟨Nat.le_of_ble_eq_true rfl, Nat.le_of_ble_eq_true rfl⟩) hS (fun q _ h => hFc q h) hFc (fun u t H1 locs ht hvm hw hB hz1 hk1 hS => ?_)
          obtain ⟨f_24, hP1, hK1, hD1⟩ := hB
          rw [ht] at hP1
          have hK1 := va_K.moved hvm.symm hK1
          obtain ⟨hP, hD⟩ := va_joinP (cx := [(h0, kO2 h2 h3 h4 n0_size h5 n0_names y_2 h6 h7 h8 h9 h10 0), (h6, kAi cint 40 f_6), (h7, kAr cAlong 25 (fun j => some (h12 j))), (h8, kAr cAlong 5 (fun j => some (h13 j)))]) (wr := [(h2, kAi cint 10 f2), (h3, kAi cint 10 f3), (h4, kAi cint 10 f4), (h9, kAi cint 5 f9), (h10, kAi cint 5 f10), (h1, kO9 h11 h14 h15 n1_size), (h11, kAi cint 40 f11), (h5, kAi cint 8 f5)]) (rx := [(h0, kO2 h2 h3 h4 n0_size h5 n0_names y_2 h6 h7 h8 h9 h10 0), (h6, kAi cint 40 f_6), (h7, kAr cAlong 25 (fun j => some (h12 j))), (h8, kAr cAlong 5 (fun j => some (h13 j)))]) hP hD [10, 6, 7, 8] [0, 1, 2, 3, 4, 5, 9, 11] rfl rfl (by decide) (by decide) hk1 hFc hP1 hD1
          generalize H1 = H at hP hS ⊢
          have hP : va_P (dC, dI) vwCl (([(h2, kAi cint 10 f2), (h3, kAi cint 10 f3), (h4, kAi cint 10 f4), (h9, kAi cint 5 f9), (h10, kAi cint 5 f10), (h1, kO9 h11 h14 h15 n1_size), (h11, kAi cint 40 f11), (h5, kAi cint 8 f5), (h0, kO2 h2 h3 h4 n0_size h5 n0_names y_2 h6 h7 h8 h9 h10 0), (h6, kAi cint 40 f_6), (h7, kAr cAlong 25 (fun j => some (h12 j))), (h8, kAr cAlong 5 (fun j => some (h13 j)))] : va_W) ++ (kk_rowsL h12 clong 40 f_24 25 ++ (kk_rowsL h13 clong 5 f_9_2 5))) H := hP
          have hD : va_D A (([(h2, kAi cint 10 f2), (h3, kAi cint 10 f3), (h4, kAi cint 10 f4), (h9, kAi cint 5 f9), (h10, kAi cint 5 f10), (h1, kO9 h11 h14 h15 n1_size), (h11, kAi cint 40 f11), (h5, kAi cint 8 f5), (h0, kO2 h2 h3 h4 n0_size h5 n0_names y_2 h6 h7 h8 h9 h10 0), (h6, kAi cint 40 f_6), (h7, kAr cAlong 25 (fun j => some (h12 j))), (h8, kAr cAlong 5 (fun j => some (h13 j)))] : va_W) ++ (kk_rowsL h12 clong 40 f_24 25 ++ (kk_rowsL h13 clong 5 f_9_2 5))) := hD
          refine lv_iinc (v := (i_9_0 + 1)) hx hb dX2_putTogether_121 hl (k := 0) rfl (by first | rfl | decide) (by decide) (rfl : _ = ([(3, .int (i_9_0 + 1)), (0, .ref h0), (1, .ref h1), (2, .int p1)] : List (Nat × Value))) (fun ls hl => ?_)
          refine lv_goto (tgt := 43) hx hb dX2_putTogether_124 (by decide) ?_
          try have := kk_add2 (x := i_9_0) (y := 1) (a := i_9_0.toInt) (b := 1) rfl rfl (by omega) (by omega)
          exact ih_9 ((i_9_0 + 1), f_24, f_9_2) _ _ _ (by show ((10 : Int) - ((i_9_0 + 1)).toInt).toNat < ((10 : Int) - i_9_0.toInt).toNat; exact kk_mu (by omega) (by omega)) ⟨(by show 0 ≤ ((i_9_0 + 1) : Int32).toInt ∧ ((i_9_0 + 1) : Int32).toInt ≤ 10; first | decide | ((omega))), hP.part (cx := [(h2, kAi cint 10 f2), (h3, kAi cint 10 f3), (h4, kAi cint 10 f4), (h5, kAi cint 8 f5), (h9, kAi cint 5 f9), (h10, kAi cint 5 f10), (h0, kO2 h2 h3 h4 n0_size h5 n0_names y_2 h6 h7 h8 h9 h10 0), (h1, kO9 h11 h14 h15 n1_size), (h6, kAi cint 40 f_6), (h7, kAr cAlong 25 (fun j => some (h12 j))), (h8, kAr cAlong 5 (fun j => some (h13 j))), (h11, kAi cint 40 f11)]) [0, 1, 2, 7, 3, 4, 8, 5, 9, 10, 11, 6] rfl, hD.part (cx := [(h2, kAi cint 10 f2), (h3, kAi cint 10 f3), (h4, kAi cint 10 f4), (h5, kAi cint 8 f5), (h9, kAi cint 5 f9), (h10, kAi cint 5 f10), (h0, kO2 h2 h3 h4 n0_size h5 n0_names y_2 h6 h7 h8 h9 h10 0), (h1, kO9 h11 h14 h15 n1_size), (h6, kAi cint 40 f_6), (h7, kAr cAlong 25 (fun j => some (h12 j))), (h8, kAr cAlong 5 (fun j => some (h13 j))), (h11, kAi cint 40 f11)]) [0, 1, 2, 7, 3, 4, 8, 5, 9, 10, 11, 6] (by decide) rfl, hS, lv_sub hl [0, 1, 2, 3] rfl⟩
        · have t_17 : y_16.toInt = (-1) := kk_eq c_17
          refine lv_aload_n hx hb dX2_putTogether_61 rfl (lv_at hl 1 rfl) ?_
          refine lv_aload_n hx hb dX2_putTogether_62 rfl (lv_at hl 1 rfl) ?_
          refine lv_aload_n hx hb dX2_putTogether_63 rfl (lv_at hl 1 rfl) ?_
          refine va_get (D := (dC, dI)) (ci := 2) (v := .ref h2) (C := RX2) (T := TX2) (N := 13) hx hb hts (fun _ h => List.mem_cons_of_mem _ (List.mem_append_left _ (List.mem_append_right _ h))) hown hK hP 6 rfl rfl 0 (by decide) (hts (.fieldLink RX2 11 "KinkStreet$Deeds" "ones" "[I") (List.mem_of_getElem? (i := 10) rfl)) (fun _ h9 => h9) rfl dX2_putTogether_64 ?_
          refine lv_iload_n hx hb dX2_putTogether_67 rfl (lv_at hl 0 rfl) ?_
          have hi_25 : vp_in i_9_0 10 := (vp_in_iff.mpr ⟨by omega, by omega⟩)
          refine va_iald hx hb hK hP 0 0 rfl rfl hi_25 dX2_putTogether_68 ?_
          refine lv_topi (fun y_25 e_25 => ?_)
          clear e_25
          obtain ⟨hPc, hDc, hFc⟩ := kk_cutout (wc := [(h0, kO2 h2 h3 h4 n0_size h5 n0_names y_2 h6 h7 h8 h9 h10 0), (h5, kAi cint 8 f5)]) hP hD hS hA [6, 3] (by decide) rfl
          have hKc := kk_Ks (tq := [(cint, .int)]) hK [0] rfl
          refine va_calli (va_runV (As := [.int y_25]) (rest := [.ref h0]) ⟨hx, hb, hml, hown, hts⟩ (g_X2_seat_0 l dC dI h0 h5 h2 h3 h4 h6 h7 h8 h9 h10 cint H.size y_25 n0_size n0_names y_2 0 f5 tn0_size tn0_names (by show 0 ≤ (y_2 : Int32).toInt ∧ (y_2 : Int32).toInt ≤ 40; first | decide | ((omega)))) (cwV 1 hts gX2_putTogether_X2_seat rfl rfl rfl ⟨rfl, kh_X2_seat⟩ ⟨Nat.le_of_ble_eq_true rfl, Nat.le_of_ble_eq_true rfl⟩) ⟨fun a U g mk q => by obtain ⟨q0, q1, qP, qK, qD⟩ := q; exact ⟨q0, q1, qP, va_K.moved (u := U) (U := U.calling g mk a) (Vm.Alike.refl U.vm) qK, qD⟩, va_recv hKc hPc (ci := 2) (q0 := 0) rfl rfl, fun U hU hW => ⟨rfl, by rw [hU], by rw [hU]; exact hPc, va_K.moved hW.alike hKc, hDc.weaken (fun _ _ _ _ => trivial)⟩⟩ rfl rfl hl.1 rfl (lv_room (Nat.le_of_ble_eq_true rfl)) dX2_putTogether_69 ⟨Nat.le_of_ble_eq_true rfl, Nat.le_of_ble_eq_true rfl⟩) hS (fun q _ h => hFc q h) hFc (fun r_26 u t H1 locs ht hvm hw hB hz1 hk1 hS => ?_)
          obtain ⟨hP1, hK1, hD1⟩ := hB
          rw [ht] at hP1
          have hK1 := va_K.moved hvm.symm hK1
          obtain ⟨hP, hD⟩ := va_joinQ (cx := [(h0, kO2 h2 h3 h4 n0_size h5 n0_names y_2 h6 h7 h8 h9 h10 0), (h5, kAi cint 8 f5)]) (wr := [(h2, kAi cint 10 f2), (h3, kAi cint 10 f3), (h4, kAi cint 10 f4), (h9, kAi cint 5 f9), (h10, kAi cint 5 f10), (h1, kO9 h11 h14 h15 n1_size), (h6, kAi cint 40 f_6), (h7, kAr cAlong 25 (fun j => some (h12 j))), (h8, kAr cAlong 5 (fun j => some (h13 j))), (h11, kAi cint 40 f11)]) (w1 := [(h0, kO2 h2 h3 h4 n0_size h5 n0_names y_2 h6 h7 h8 h9 h10 0), (h5, kAi cint 8 f5)]) hP hD [6, 3] [0, 1, 2, 4, 5, 7, 8, 9, 10, 11] rfl rfl (by decide) (by decide) hk1 hFc hP1 hD1
          generalize H1 = H at hP hS ⊢
          have hP : va_P (dC, dI) vwCl (([(h2, kAi cint 10 f2), (h3, kAi cint 10 f3), (h4, kAi cint 10 f4), (h9, kAi cint 5 f9), (h10, kAi cint 5 f10), (h1, kO9 h11 h14 h15 n1_size), (h6, kAi cint 40 f_6), (h7, kAr cAlong 25 (fun j => some (h12 j))), (h8, kAr cAlong 5 (fun j => some (h13 j))), (h11, kAi cint 40 f11), (h0, kO2 h2 h3 h4 n0_size h5 n0_names y_2 h6 h7 h8 h9 h10 0), (h5, kAi cint 8 f5)] : va_W) ++ (kk_rowsL h12 clong 40 f_9_1 25 ++ (kk_rowsL h13 clong 5 f_9_2 5))) H := hP
          have hD : va_D A (([(h2, kAi cint 10 f2), (h3, kAi cint 10 f3), (h4, kAi cint 10 f4), (h9, kAi cint 5 f9), (h10, kAi cint 5 f10), (h1, kO9 h11 h14 h15 n1_size), (h6, kAi cint 40 f_6), (h7, kAr cAlong 25 (fun j => some (h12 j))), (h8, kAr cAlong 5 (fun j => some (h13 j))), (h11, kAi cint 40 f11), (h0, kO2 h2 h3 h4 n0_size h5 n0_names y_2 h6 h7 h8 h9 h10 0), (h5, kAi cint 8 f5)] : va_W) ++ (kk_rowsL h12 clong 40 f_9_1 25 ++ (kk_rowsL h13 clong 5 f_9_2 5))) := hD
          have t_26 : 0 ≤ r_26.toInt ∧ r_26.toInt ≤ 4 := hw
          refine lv_aload_n hx hb dX2_putTogether_72 rfl (lv_at hl 1 rfl) ?_
          refine va_get (D := (dC, dI)) (ci := 2) (v := .ref h4) (C := RX2) (T := TX2) (N := 13) hx hb hts (fun _ h => List.mem_cons_of_mem _ (List.mem_append_left _ (List.mem_append_right _ h))) hown hK hP 10 rfl rfl 2 (by decide) (hts (.fieldLink RX2 18 "KinkStreet$Deeds" "tolds" "[I") (List.mem_of_getElem? (i := 11) rfl)) (fun _ h9 => h9) rfl dX2_putTogether_73 ?_
          refine lv_iload_n hx hb dX2_putTogether_76 rfl (lv_at hl 0 rfl) ?_
          have hi_27 : vp_in i_9_0 10 := (vp_in_iff.mpr ⟨by omega, by omega⟩)
          refine va_iald hx hb hK hP 2 0 rfl rfl hi_27 dX2_putTogether_77 ?_
          refine lv_topi (fun y_27 e_27 => ?_)
          clear e_27
          have hPc := hP.part (cx := [(h0, kO2 h2 h3 h4 n0_size h5 n0_names y_2 h6 h7 h8 h9 h10 0), (h7, kAr cAlong 25 (fun j => some (h12 j))), (h8, kAr cAlong 5 (fun j => some (h13 j)))]) [10, 7, 8] rfl
          have hDc := hD.part (cx := [(h0, kO2 h2 h3 h4 n0_size h5 n0_names y_2 h6 h7 h8 h9 h10 0), (h7, kAr cAlong 25 (fun j => some (h12 j))), (h8, kAr cAlong 5 (fun j => some (h13 j)))]) [10, 7, 8] (by decide) rfl
          have hFc := va_freeP (cx := [(h0, kO2 h2 h3 h4 n0_size h5 n0_names y_2 h6 h7 h8 h9 h10 0), (h7, kAr cAlong 25 (fun j => some (h12 j))), (h8, kAr cAlong 5 (fun j => some (h13 j)))]) hD hS hA [10, 7, 8] rfl
          have hKc := kk_Ks (tq := [(cAlong, .array .long), (clong, .long)]) hK [1, 2] rfl
          refine va_callv (va_runV (As := [.int r_26, .int y_27]) (rest := []) ⟨hx, hb, hml, hown, hts⟩ (g_X2_keepPlace_0 l dC dI h0 h7 h8 h12 h13 h2 h3 h4 h5 h6 h9 h10 cAlong clong H.size r_26 y_27 (by show 0 ≤ (r_26 : Int32).toInt ∧ (r_26 : Int32).toInt ≤ 4; first | decide | ((omega))) n0_size n0_names y_2 0 f_9_1 f_9_2 tn0_size tn0_names (by show 0 ≤ (y_2 : Int32).toInt ∧ (y_2 : Int32).toInt ≤ 40; first | decide | ((omega)))) (cwV 2 hts gX2_putTogether_X2_keepPlace rfl rfl rfl ⟨rfl, kh_X2_keepPlace⟩ ⟨Nat.le_of_ble_eq_true rfl, Nat.le_of_ble_eq_true rfl⟩) ⟨fun a U g mk q => by obtain ⟨q0, q1, qP, qK, qD⟩ := q; exact ⟨q0, q1, qP, va_K.moved (u := U) (U := U.calling g mk a) (Vm.Alike.refl U.vm) qK, qD⟩, va_recv hKc hPc (ci := 2) (q0 := 0) rfl rfl, fun U hU hW => ⟨rfl, by rw [hU], by rw [hU]; exact hPc, va_K.moved hW.alike hKc, hDc.weaken (fun _ _ _ _ => trivial)⟩⟩ rfl rfl hl.1 rfl (lv_room (Nat.le_of_ble_eq_true rfl)) dX2_putTogether_78 ⟨Nat.le_of_ble_eq_true rfl, Nat.le_of_ble_eq_true rfl⟩) hS (fun q _ h => hFc q h) hFc (fun u t H1 locs ht hvm hw hB hz1 hk1 hS => ?_)
          obtain ⟨f_29, hP1, hK1, hD1⟩ := hB
          rw [ht] at hP1
          have hK1 := va_K.moved hvm.symm hK1
          obtain ⟨hP, hD⟩ := va_joinP (cx := [(h0, kO2 h2 h3 h4 n0_size h5 n0_names y_2 h6 h7 h8 h9 h10 0), (h7, kAr cAlong 25 (fun j => some (h12 j))), (h8, kAr cAlong 5 (fun j => some (h13 j)))]) (wr := [(h2, kAi cint 10 f2), (h3, kAi cint 10 f3), (h4, kAi cint 10 f4), (h9, kAi cint 5 f9), (h10, kAi cint 5 f10), (h1, kO9 h11 h14 h15 n1_size), (h6, kAi cint 40 f_6), (h11, kAi cint 40 f11), (h5, kAi cint 8 f5)]) (rx := [(h0, kO2 h2 h3 h4 n0_size h5 n0_names y_2 h6 h7 h8 h9 h10 0), (h7, kAr cAlong 25 (fun j => some (h12 j))), (h8, kAr cAlong 5 (fun j => some (h13 j)))]) hP hD [10, 7, 8] [0, 1, 2, 3, 4, 5, 6, 9, 11] rfl rfl (by decide) (by decide) hk1 hFc hP1 hD1
          generalize H1 = H at hP hS ⊢
          have hP : va_P (dC, dI) vwCl (([(h2, kAi cint 10 f2), (h3, kAi cint 10 f3), (h4, kAi cint 10 f4), (h9, kAi cint 5 f9), (h10, kAi cint 5 f10), (h1, kO9 h11 h14 h15 n1_size), (h6, kAi cint 40 f_6), (h11, kAi cint 40 f11), (h5, kAi cint 8 f5), (h0, kO2 h2 h3 h4 n0_size h5 n0_names y_2 h6 h7 h8 h9 h10 0), (h7, kAr cAlong 25 (fun j => some (h12 j))), (h8, kAr cAlong 5 (fun j => some (h13 j)))] : va_W) ++ (kk_rowsL h12 clong 40 f_9_1 25 ++ (kk_rowsL h13 clong 5 f_29 5))) H := hP
          have hD : va_D A (([(h2, kAi cint 10 f2), (h3, kAi cint 10 f3), (h4, kAi cint 10 f4), (h9, kAi cint 5 f9), (h10, kAi cint 5 f10), (h1, kO9 h11 h14 h15 n1_size), (h6, kAi cint 40 f_6), (h11, kAi cint 40 f11), (h5, kAi cint 8 f5), (h0, kO2 h2 h3 h4 n0_size h5 n0_names y_2 h6 h7 h8 h9 h10 0), (h7, kAr cAlong 25 (fun j => some (h12 j))), (h8, kAr cAlong 5 (fun j => some (h13 j)))] : va_W) ++ (kk_rowsL h12 clong 40 f_9_1 25 ++ (kk_rowsL h13 clong 5 f_29 5))) := hD
          refine lv_goto (tgt := 121) hx hb dX2_putTogether_81 (by decide) ?_
          refine lv_iinc (v := (i_9_0 + 1)) hx hb dX2_putTogether_121 hl (k := 0) rfl (by first | rfl | decide) (by decide) (rfl : _ = ([(3, .int (i_9_0 + 1)), (0, .ref h0), (1, .ref h1), (2, .int p1)] : List (Nat × Value))) (fun ls hl => ?_)
          refine lv_goto (tgt := 43) hx hb dX2_putTogether_124 (by decide) ?_
          try have := kk_add2 (x := i_9_0) (y := 1) (a := i_9_0.toInt) (b := 1) rfl rfl (by omega) (by omega)
          exact ih_9 ((i_9_0 + 1), f_9_1, f_29) _ _ _ (by show ((10 : Int) - ((i_9_0 + 1)).toInt).toNat < ((10 : Int) - i_9_0.toInt).toNat; exact kk_mu (by omega) (by omega)) ⟨(by show 0 ≤ ((i_9_0 + 1) : Int32).toInt ∧ ((i_9_0 + 1) : Int32).toInt ≤ 10; first | decide | ((omega))), hP.part (cx := [(h2, kAi cint 10 f2), (h3, kAi cint 10 f3), (h4, kAi cint 10 f4), (h5, kAi cint 8 f5), (h9, kAi cint 5 f9), (h10, kAi cint 5 f10), (h0, kO2 h2 h3 h4 n0_size h5 n0_names y_2 h6 h7 h8 h9 h10 0), (h1, kO9 h11 h14 h15 n1_size), (h6, kAi cint 40 f_6), (h7, kAr cAlong 25 (fun j => some (h12 j))), (h8, kAr cAlong 5 (fun j => some (h13 j))), (h11, kAi cint 40 f11)]) [0, 1, 2, 8, 3, 4, 9, 5, 6, 10, 11, 7] rfl, hD.part (cx := [(h2, kAi cint 10 f2), (h3, kAi cint 10 f3), (h4, kAi cint 10 f4), (h5, kAi cint 8 f5), (h9, kAi cint 5 f9), (h10, kAi cint 5 f10), (h0, kO2 h2 h3 h4 n0_size h5 n0_names y_2 h6 h7 h8 h9 h10 0), (h1, kO9 h11 h14 h15 n1_size), (h6, kAi cint 40 f_6), (h7, kAr cAlong 25 (fun j => some (h12 j))), (h8, kAr cAlong 5 (fun j => some (h13 j))), (h11, kAi cint 40 f11)]) [0, 1, 2, 8, 3, 4, 9, 5, 6, 10, 11, 7] (by decide) rfl, hS, lv_sub hl [0, 1, 2, 3] rfl⟩
    · have t_4 : 5 < n0_names.toInt := kk_nle c_4
      refine lv_iconst (v := 0) hx hb dX2_putTogether_34 kk_ic_0 ?_
      have hP9 := hP.part (cx := [(h0, kO2 h2 h3 h4 n0_size h5 n0_names y_2 h6 h7 h8 h9 h10 0), (h1, kO9 h11 h14 h15 n1_size), (h2, kAi cint 10 f2), (h3, kAi cint 10 f3), (h4, kAi cint 10 f4), (h5, kAi cint 8 f5), (h6, kAi cint 40 f6), (h7, kAr cAlong 25 (fun j => some (h12 j))), (h8, kAr cAlong 5 (fun j => some (h13 j))), (h9, kAi cint 5 f9), (h10, kAi cint 5 f10), (h11, kAi cint 40 f11)]) [0, 11, 1, 2, 3, 4, 5, 6, 7, 8, 9, 10] rfl
      have hD9 := hD.part (cx := [(h0, kO2 h2 h3 h4 n0_size h5 n0_names y_2 h6 h7 h8 h9 h10 0), (h1, kO9 h11 h14 h15 n1_size), (h2, kAi cint 10 f2), (h3, kAi cint 10 f3), (h4, kAi cint 10 f4), (h5, kAi cint 8 f5), (h6, kAi cint 40 f6), (h7, kAr cAlong 25 (fun j => some (h12 j))), (h8, kAr cAlong 5 (fun j => some (h13 j))), (h9, kAi cint 5 f9), (h10, kAi cint 5 f10), (h11, kAi cint 40 f11)]) [0, 11, 1, 2, 3, 4, 5, 6, 7, 8, 9, 10] (by decide) rfl
      have hK9 := kk_Ks (tq := []) hK [] rfl
      exact W.iret (v := 0) hx hb hr (fun t ht hW => ⟨⟨0, (), rfl, trivial, y_2, 0, f6, f9, f10, F12, F13, (by show 0 ≤ (y_2 : Int32).toInt ∧ (y_2 : Int32).toInt ≤ 40; first | decide | ((omega))), by rw [ht]; exact hP9, va_K.moved hW.alike hK9, hD9⟩, hS.F ht⟩) hS.2.2 dX2_putTogether_35
set_option maxHeartbeats 4000000 in
set_option maxRecDepth 100000 in
theorem g_X2_foundPlot_0 (l : Launch) (dC : Nat → ClassId) (dI : Nat → Nat → Nat) (h0 : Nat) (h1 : Nat) (h2 : Nat) (h3 : Nat) (h4 : Nat) (h5 : Nat) (h6 : Nat) (h7 : Nat) (h8 : Nat) (h9 : Nat) (cint : ClassId) (sz : Nat) (p0 : Int32) (n0_size : Int32) (n0_names : Int32) (n0_plots : Int32) (n0_ways : Int32) (f1 : Nat → Int32) (f2 : Nat → Int32) (tn0_size : kk_bx (0 ≤ n0_size.toInt ∧ n0_size.toInt ≤ 10)) (tn0_names : kk_bx (0 ≤ n0_names.toInt ∧ n0_names.toInt ≤ 8)) (tn0_plots : kk_bx (0 ≤ n0_plots.toInt ∧ n0_plots.toInt ≤ 40)) : Met l yX2_foundPlot wsX2_foundPlot ({ frames := 2, cells := 0, slots := 0, locals := 42 }) (va_Pc [.ref h0, .int p0] (fun U => U.heap.size = sz ∧ va_P (dC, dI) vwCl [(h0, kO2 h3 h4 h5 n0_size h1 n0_names n0_plots h6 h7 h8 h9 h2 n0_ways), (h1, kAi cint 8 f1), (h2, kAi cint 5 f2)] U.heap ∧ va_K (dC, dI) vwCl [(cint, .int)] U ∧ va_D (fun _ => True) [(h0, kO2 h3 h4 h5 n0_size h1 n0_names n0_plots h6 h7 h8 h9 h2 n0_ways), (h1, kAi cint 8 f1), (h2, kAi cint 5 f2)])) (va_Qi (fun (r : Int32) (_ : Unit) => True) (fun (_ : Unit) t => va_P (dC, dI) vwCl [(h0, kO2 h3 h4 h5 n0_size h1 n0_names n0_plots h6 h7 h8 h9 h2 n0_ways), (h1, kAi cint 8 f1), (h2, kAi cint 5 f2)] t.heap ∧ va_K (dC, dI) vwCl [] t ∧ va_D (va_A [(h0, kO2 h3 h4 h5 n0_size h1 n0_names n0_plots h6 h7 h8 h9 h2 n0_ways), (h1, kAi cint 8 f1), (h2, kAi cint 5 f2)] sz) [(h0, kO2 h3 h4 h5 n0_size h1 n0_names n0_plots h6 h7 h8 h9 h2 n0_ways), (h1, kAi cint 8 f1), (h2, kAi cint 5 f2)]) (va_A [(h0, kO2 h3 h4 h5 n0_size h1 n0_names n0_plots h6 h7 h8 h9 h2 n0_ways), (h1, kAi cint 8 f1), (h2, kAi cint 5 f2)] sz)) 0 0 (va_A [(h0, kO2 h3 h4 h5 n0_size h1 n0_names n0_plots h6 h7 h8 h9 h2 n0_ways), (h1, kAi cint 8 f1), (h2, kAi cint 5 f2)] sz) := by
  refine Met.ofW (cc := cX2_foundPlot) (maxL := 2) (ret := (some .int)) (by decide) rfl ?_
  intro p e s m args below meth c s₁ B hml hv
  obtain ⟨rfl, hsz, hP, hK, hD0⟩ := hv
  have hx := B.exec
  have hb := B.bytes
  have hr := B.returns
  have hts := atoms_spec (ws := wsX2_foundPlot) B.pre
  have hown : s.vm.findClass RX2 = some m.cls := findClass_of_methodNamed B.named
  have hlocks := B.notSynchronized
  subst hsz
  have hD := hD0.self (sz := s.heap.size)
  generalize hAe : va_A [(h0, kO2 h3 h4 h5 n0_size h1 n0_names n0_plots h6 h7 h8 h9 h2 n0_ways), (h1, kAi cint 8 f1), (h2, kAi cint 5 f2)] s.heap.size = A at hD ⊢
  have hA : ∀ q : Nat, s.heap.size ≤ q → A q := fun q h => by rw [← hAe]; exact Or.inr h
  have hS : va_S A s.heap s.heap [] := va_S.rf
  have hP : va_P (dC, dI) vwCl [(h0, kO2 h3 h4 h5 n0_size h1 n0_names n0_plots h6 h7 h8 h9 h2 n0_ways), (h1, kAi cint 8 f1), (h2, kAi cint 5 f2)] s.heap := hP
  have hl := lv_entry ([.ref h0, .int p0]) (n := 2) (Nat.le_of_ble_eq_true rfl)
  rw [lg_entry_eq]
  generalize (lg_sl ([.ref h0, .int p0]) ++ List.replicate (2 - (lg_sl ([.ref h0, .int p0])).length) Slot.unset).toArray = ls at hl ⊢
  have hl : lv_has ls 2 [(0, .ref h0), (1, .int p0)] := hl
  refine lv_aload_n hx hb dX2_foundPlot_0 rfl (lv_at hl 0 rfl) ?_
  refine va_get (D := (dC, dI)) (ci := 2) (v := .ref h2) (C := RX2) (T := TX2) (N := 13) hx hb hts (fun _ h => List.mem_cons_of_mem _ (List.mem_append_right _ h)) hown hK hP 0 rfl rfl 11 (by decide) (hts (.fieldLink RX2 38 "KinkStreet$Deeds" "found" "[I") (List.mem_of_getElem? (i := 1) rfl)) (fun _ h9 => h9) rfl dX2_foundPlot_1 ?_
  refine lv_aload_n hx hb dX2_foundPlot_4 rfl (lv_at hl 0 rfl) ?_
  refine lv_iload_n hx hb dX2_foundPlot_5 rfl (lv_at hl 1 rfl) ?_
  obtain ⟨hPc, hDc, hFc⟩ := kk_cutout (wc := [(h0, kO2 h3 h4 h5 n0_size h1 n0_names n0_plots h6 h7 h8 h9 h2 n0_ways), (h1, kAi cint 8 f1)]) hP hD hS hA [0, 1] (by decide) rfl
  have hKc := kk_Ks (tq := [(cint, .int)]) hK [0] rfl
  refine va_calli (va_runV (As := [.int p0]) (rest := [.ref h2]) ⟨hx, hb, hml, hown, hts⟩ (g_X2_seat_0 l dC dI h0 h1 h3 h4 h5 h6 h7 h8 h9 h2 cint s.heap.size p0 n0_size n0_names n0_plots n0_ways f1 tn0_size tn0_names tn0_plots) (cwV 1 hts gX2_foundPlot_X2_seat rfl rfl rfl ⟨rfl, kh_X2_seat⟩ ⟨Nat.le_of_ble_eq_true rfl, Nat.le_of_ble_eq_true rfl⟩) ⟨fun a U g mk q => by obtain ⟨q0, q1, qP, qK, qD⟩ := q; exact ⟨q0, q1, qP, va_K.moved (u := U) (U := U.calling g mk a) (Vm.Alike.refl U.vm) qK, qD⟩, va_recv hKc hPc (ci := 2) (q0 := 0) rfl rfl, fun U hU hW => ⟨rfl, by rw [hU], by rw [hU]; exact hPc, va_K.moved hW.alike hKc, hDc.weaken (fun _ _ _ _ => trivial)⟩⟩ rfl rfl hl.1 rfl (lv_room (Nat.le_of_ble_eq_true rfl)) dX2_foundPlot_6 ⟨Nat.le_of_ble_eq_true rfl, Nat.le_of_ble_eq_true rfl⟩) hS (fun q _ h => hFc q h) hFc (fun r_1 u t H1 locs ht hvm hw hB hz1 hk1 hS => ?_)
  obtain ⟨hP1, hK1, hD1⟩ := hB
  rw [ht] at hP1
  have hK1 := va_K.moved hvm.symm hK1
  obtain ⟨hP, hD⟩ := va_join (wr := [(h2, kAi cint 5 f2)]) (w1 := [(h0, kO2 h3 h4 h5 n0_size h1 n0_names n0_plots h6 h7 h8 h9 h2 n0_ways), (h1, kAi cint 8 f1)]) hP hD [0, 1] [2] rfl rfl (by decide) (by decide) hk1 hFc hP1 hD1
  generalize H1 = H at hP hS ⊢
  have hP : va_P (dC, dI) vwCl [(h2, kAi cint 5 f2), (h0, kO2 h3 h4 h5 n0_size h1 n0_names n0_plots h6 h7 h8 h9 h2 n0_ways), (h1, kAi cint 8 f1)] H := hP
  have hD : va_D A [(h2, kAi cint 5 f2), (h0, kO2 h3 h4 h5 n0_size h1 n0_names n0_plots h6 h7 h8 h9 h2 n0_ways), (h1, kAi cint 8 f1)] := hD
  have t_1 : 0 ≤ r_1.toInt ∧ r_1.toInt ≤ 4 := hw
  have hi_2 : vp_in r_1 5 := (vp_in_iff.mpr ⟨by omega, by omega⟩)
  refine va_iald hx hb hK hP 0 0 rfl rfl hi_2 dX2_foundPlot_9 ?_
  refine lv_topi (fun y_2 e_2 => ?_)
  clear e_2
  obtain ⟨hP9, hD9⟩ := kk_leafout (wc := [(h0, kO2 h3 h4 h5 n0_size h1 n0_names n0_plots h6 h7 h8 h9 h2 n0_ways), (h1, kAi cint 8 f1), (h2, kAi cint 5 f2)]) hP hD [1, 2, 0] (by decide) rfl
  have hK9 := kk_Ks (tq := []) hK [] rfl
  exact W.iret (v := y_2) hx hb hr (fun t ht hW => ⟨⟨y_2, (), rfl, trivial, by rw [ht]; exact hP9, va_K.moved hW.alike hK9, hD9⟩, hS.F ht⟩) hS.2.2 dX2_foundPlot_10
set_option maxHeartbeats 4000000 in
set_option maxRecDepth 100000 in
theorem g_X6_sortIn_0 (l : Launch) (dC : Nat → ClassId) (dI : Nat → Nat → Nat) (h0 : Nat) (h1 : Nat) (h2 : Nat) (h3 : Nat) (h4 : Nat) (cint : ClassId) (sz : Nat) (p0 : Int32) (p1 : Int32) (tp1 : 0 ≤ p1.toInt ∧ p1.toInt ≤ 39) (n0_pieceCount : Int32) (f1 : Nat → Int32) (tn0_pieceCount : kk_bx (0 ≤ n0_pieceCount.toInt ∧ n0_pieceCount.toInt ≤ 5)) : Met l yX6_sortIn wsX6_sortIn ({ frames := 1, cells := 0, slots := 0, locals := 21 }) (va_Pc [.ref h0, .int p0, .int p1] (fun U => U.heap.size = sz ∧ va_P (dC, dI) vwCl [(h0, kO6 h2 h3 h1 h4 n0_pieceCount), (h1, kAi cint 40 f1)] U.heap ∧ va_K (dC, dI) vwCl [(cint, .int)] U ∧ va_D (fun _ => True) [(h0, kO6 h2 h3 h1 h4 n0_pieceCount), (h1, kAi cint 40 f1)])) (va_Qv (fun (_ : Unit) => True) (fun (_ : Unit) t => ∃ (g1 : Nat → Int32), va_P (dC, dI) vwCl [(h0, kO6 h2 h3 h1 h4 n0_pieceCount), (h1, kAi cint 40 g1)] t.heap ∧ va_K (dC, dI) vwCl [] t ∧ va_D (va_A [(h0, kO6 h2 h3 h1 h4 n0_pieceCount), (h1, kAi cint 40 f1)] sz) [(h0, kO6 h2 h3 h1 h4 n0_pieceCount), (h1, kAi cint 40 g1)]) (va_A [(h0, kO6 h2 h3 h1 h4 n0_pieceCount), (h1, kAi cint 40 f1)] sz)) 0 0 (va_A [(h0, kO6 h2 h3 h1 h4 n0_pieceCount), (h1, kAi cint 40 f1)] sz) := by
  refine Met.ofW (cc := cX6_sortIn) (maxL := 4) (ret := none) (by decide) rfl ?_
  intro p e s m args below meth c s₁ B hml hv
  obtain ⟨rfl, hsz, hP, hK, hD0⟩ := hv
  have hx := B.exec
  have hb := B.bytes
  have hr := B.returns
  have hts := atoms_spec (ws := wsX6_sortIn) B.pre
  have hown : s.vm.findClass RX6 = some m.cls := findClass_of_methodNamed B.named
  have hlocks := B.notSynchronized
  subst hsz
  have hD := hD0.self (sz := s.heap.size)
  generalize hAe : va_A [(h0, kO6 h2 h3 h1 h4 n0_pieceCount), (h1, kAi cint 40 f1)] s.heap.size = A at hD ⊢
  have hA : ∀ q : Nat, s.heap.size ≤ q → A q := fun q h => by rw [← hAe]; exact Or.inr h
  have hS : va_S A s.heap s.heap [] := va_S.rf
  have hP : va_P (dC, dI) vwCl [(h0, kO6 h2 h3 h1 h4 n0_pieceCount), (h1, kAi cint 40 f1)] s.heap := hP
  have hl := lv_entry ([.ref h0, .int p0, .int p1]) (n := 4) (Nat.le_of_ble_eq_true rfl)
  rw [lg_entry_eq]
  generalize (lg_sl ([.ref h0, .int p0, .int p1]) ++ List.replicate (4 - (lg_sl ([.ref h0, .int p0, .int p1])).length) Slot.unset).toArray = ls at hl ⊢
  have hl : lv_has ls 4 [(0, .ref h0), (1, .int p0), (2, .int p1)] := hl
  refine lv_iload_n hx hb dX6_sortIn_0 rfl (lv_at hl 2 rfl) ?_
  refine lv_aload_n hx hb dX6_sortIn_1 rfl (lv_at hl 0 rfl) ?_
  refine va_get (D := (dC, dI)) (ci := 6) (v := .ref h1) (C := RX6) (T := TX6) (N := 5) hx hb hts (fun _ h => List.mem_cons_of_mem _ (List.mem_append_right _ h)) hown hK hP 0 rfl rfl 2 (by decide) (hts (.fieldLink RX6 19 "KinkStreet$Pieces" "sorted" "[I") (List.mem_of_getElem? (i := 1) rfl)) (fun _ h9 => h9) rfl dX6_sortIn_2 ?_
  refine va_alen (v := 40) hx hb hK hP 1 0 rfl rfl rfl dX6_sortIn_5 ?_
  refine lv_iconst (v := 1) hx hb dX6_sortIn_6 kk_ic_1 ?_
  refine lv_isub hx hb dX6_sortIn_7 ?_
  refine lv_topi (fun y_1 e_1 => ?_)
  obtain rfl : y_1 = 39 := e_1.trans (by decide)
  refine va_mmin hx hb (hml.trans hl.1.symm) hown (hts (.methodLink RX6 63 Lib.Math.min.name) (List.mem_of_getElem? (i := 2) rfl)) (hts (.static Lib.Math.min.name) (List.mem_of_getElem? (i := 3) rfl)) (hts (.initialized "java/lang/Math") (List.mem_of_getElem? (i := 4) rfl)) (hts (.code Lib.Math.min.name Lib.Math.min.code 2 (some .int)) (List.mem_of_getElem? (i := 5) rfl)) (Nat.le_of_ble_eq_true rfl) (Nat.le_of_ble_eq_true rfl) (Nat.le_of_ble_eq_true rfl) (Nat.le_of_ble_eq_true rfl) dX6_sortIn_8 ?_
  refine lv_topi (fun y_2 e_2 => ?_)
  have t_2 : y_2.toInt ≤ p1.toInt ∧ y_2.toInt ≤ 39 ∧ (y_2.toInt = p1.toInt ∨ y_2.toInt = 39) := by rw [e_2]; exact kk_min _ _
  clear e_2
  refine lv_istore_n hx hb dX6_sortIn_11 rfl hl (by decide) (rfl : _ = ([(3, .int y_2), (0, .ref h0), (1, .int p0), (2, .int p1)] : List (Nat × Value))) (fun ls hl => ?_)
  refine kk_loop (σ := Int32 × (Nat → Int32)) (fun x H locs ls => (0 ≤ x.1.toInt ∧ x.1.toInt ≤ 39) ∧ x.1.toInt ≤ y_2.toInt ∧ va_P (dC, dI) vwCl [(h0, kO6 h2 h3 h1 h4 n0_pieceCount), (h1, kAi cint 40 x.2)] H ∧ va_D A [(h0, kO6 h2 h3 h1 h4 n0_pieceCount), (h1, kAi cint 40 x.2)] ∧ va_S A s.heap H locs ∧ lv_has ls 4 [(3, .int x.1), (0, .ref h0), (1, .int p0), (2, .int p1)]) (fun x => (x.1.toInt - (0 : Int)).toNat) ?_ (y_2, f1) _ _ _ ⟨(by show 0 ≤ (y_2 : Int32).toInt ∧ (y_2 : Int32).toInt ≤ 39; first | decide | ((omega))), (by show (y_2 : Int32).toInt ≤ (y_2 : Int32).toInt; first | decide | (omega)), hP, hD, hS, hl⟩
  rintro ⟨i_3_0, f_3_1⟩ H locs ls ⟨t_3_0, z_3_0, hP, hD, hS, hl⟩ ih_3
  have t_3_0 : (0 ≤ i_3_0.toInt ∧ i_3_0.toInt ≤ 39) := t_3_0
  have z_3_0 : i_3_0.toInt ≤ y_2.toInt := z_3_0
  have hl : lv_has ls 4 [(3, .int i_3_0), (0, .ref h0), (1, .int p0), (2, .int p1)] := hl
  have hP : va_P (dC, dI) vwCl [(h0, kO6 h2 h3 h1 h4 n0_pieceCount), (h1, kAi cint 40 f_3_1)] H := hP
  have hD : va_D A [(h0, kO6 h2 h3 h1 h4 n0_pieceCount), (h1, kAi cint 40 f_3_1)] := hD
  refine lv_iload_n hx hb dX6_sortIn_12 rfl (lv_at hl 0 rfl) ?_
  refine lv_if_le (tgt := 48) hx hb dX6_sortIn_13 (by decide) (fun c_4 => ?_) (fun c_4 => ?_)
  · have t_4 : i_3_0.toInt ≤ 0 := kk_le c_4
    refine lv_aload_n hx hb dX6_sortIn_48 rfl (lv_at hl 1 rfl) ?_
    refine va_get (D := (dC, dI)) (ci := 6) (v := .ref h1) (C := RX6) (T := TX6) (N := 5) hx hb hts (fun _ h => List.mem_cons_of_mem _ (List.mem_append_right _ h)) hown hK hP 0 rfl rfl 2 (by decide) (hts (.fieldLink RX6 19 "KinkStreet$Pieces" "sorted" "[I") (List.mem_of_getElem? (i := 1) rfl)) (fun _ h9 => h9) rfl dX6_sortIn_49 ?_
    refine lv_iload_n hx hb dX6_sortIn_52 rfl (lv_at hl 0 rfl) ?_
    refine lv_iload_n hx hb dX6_sortIn_53 rfl (lv_at hl 2 rfl) ?_
    refine va_iast hx hb hK hP hD hS 1 0 rfl rfl (vp_in_iff.mpr ⟨by omega, by omega⟩) dX6_sortIn_54 (fun H locs hP hD hS => ?_)
    generalize upd f_3_1 (i_3_0 : Int32).toNatClampNeg p0 = f_5 at hP hD
    have hP : va_P (dC, dI) vwCl [(h0, kO6 h2 h3 h1 h4 n0_pieceCount), (h1, kAi cint 40 f_5)] H := hP
    have hD : va_D A [(h0, kO6 h2 h3 h1 h4 n0_pieceCount), (h1, kAi cint 40 f_5)] := hD
    obtain ⟨hP9, hD9⟩ := kk_leafout (wc := [(h0, kO6 h2 h3 h1 h4 n0_pieceCount), (h1, kAi cint 40 f_5)]) hP hD [0, 1] (by decide) rfl
    have hK9 := kk_Ks (tq := []) hK [] rfl
    exact W.vret hx hb hr (fun t ht hW => ⟨⟨(), rfl, trivial, f_5, by rw [ht]; exact hP9, va_K.moved hW.alike hK9, hD9⟩, hS.F ht⟩) hS.2.2 dX6_sortIn_55
  · have t_4 : 0 < i_3_0.toInt := kk_nle c_4
    refine lv_aload_n hx hb dX6_sortIn_16 rfl (lv_at hl 1 rfl) ?_
    refine va_get (D := (dC, dI)) (ci := 6) (v := .ref h1) (C := RX6) (T := TX6) (N := 5) hx hb hts (fun _ h => List.mem_cons_of_mem _ (List.mem_append_right _ h)) hown hK hP 0 rfl rfl 2 (by decide) (hts (.fieldLink RX6 19 "KinkStreet$Pieces" "sorted" "[I") (List.mem_of_getElem? (i := 1) rfl)) (fun _ h9 => h9) rfl dX6_sortIn_17 ?_
    refine lv_iload_n hx hb dX6_sortIn_20 rfl (lv_at hl 0 rfl) ?_
    refine lv_iconst (v := 1) hx hb dX6_sortIn_21 kk_ic_1 ?_
    refine lv_isub hx hb dX6_sortIn_22 ?_
    try have := kk_sub2 (x := i_3_0) (y := 1) (a := i_3_0.toInt) (b := 1) rfl rfl (by omega) (by omega)
    have hi_6 : vp_in (i_3_0 - 1) 40 := (vp_in_iff.mpr ⟨by omega, by omega⟩)
    refine va_iald hx hb hK hP 1 0 rfl rfl hi_6 dX6_sortIn_23 ?_
    refine lv_topi (fun y_6 e_6 => ?_)
    clear e_6
    refine lv_iload_n hx hb dX6_sortIn_24 rfl (lv_at hl 2 rfl) ?_
    refine lv_icmp_le (tgt := 48) hx hb dX6_sortIn_25 (by decide) (fun c_7 => ?_) (fun c_7 => ?_)
    · have t_7 : y_6.toInt ≤ p0.toInt := kk_le c_7
      refine lv_aload_n hx hb dX6_sortIn_48 rfl (lv_at hl 1 rfl) ?_
      refine va_get (D := (dC, dI)) (ci := 6) (v := .ref h1) (C := RX6) (T := TX6) (N := 5) hx hb hts (fun _ h => List.mem_cons_of_mem _ (List.mem_append_right _ h)) hown hK hP 0 rfl rfl 2 (by decide) (hts (.fieldLink RX6 19 "KinkStreet$Pieces" "sorted" "[I") (List.mem_of_getElem? (i := 1) rfl)) (fun _ h9 => h9) rfl dX6_sortIn_49 ?_
      refine lv_iload_n hx hb dX6_sortIn_52 rfl (lv_at hl 0 rfl) ?_
      refine lv_iload_n hx hb dX6_sortIn_53 rfl (lv_at hl 2 rfl) ?_
      try have := kk_rng y_6
      try have := kk_rng p0
      refine va_iast hx hb hK hP hD hS 1 0 rfl rfl (vp_in_iff.mpr ⟨by omega, by omega⟩) dX6_sortIn_54 (fun H locs hP hD hS => ?_)
      generalize upd f_3_1 (i_3_0 : Int32).toNatClampNeg p0 = f_8 at hP hD
      have hP : va_P (dC, dI) vwCl [(h0, kO6 h2 h3 h1 h4 n0_pieceCount), (h1, kAi cint 40 f_8)] H := hP
      have hD : va_D A [(h0, kO6 h2 h3 h1 h4 n0_pieceCount), (h1, kAi cint 40 f_8)] := hD
      obtain ⟨hP9, hD9⟩ := kk_leafout (wc := [(h0, kO6 h2 h3 h1 h4 n0_pieceCount), (h1, kAi cint 40 f_8)]) hP hD [0, 1] (by decide) rfl
      have hK9 := kk_Ks (tq := []) hK [] rfl
      exact W.vret hx hb hr (fun t ht hW => ⟨⟨(), rfl, trivial, f_8, by rw [ht]; exact hP9, va_K.moved hW.alike hK9, hD9⟩, hS.F ht⟩) hS.2.2 dX6_sortIn_55
    · have t_7 : p0.toInt < y_6.toInt := kk_nle c_7
      refine lv_aload_n hx hb dX6_sortIn_28 rfl (lv_at hl 1 rfl) ?_
      refine va_get (D := (dC, dI)) (ci := 6) (v := .ref h1) (C := RX6) (T := TX6) (N := 5) hx hb hts (fun _ h => List.mem_cons_of_mem _ (List.mem_append_right _ h)) hown hK hP 0 rfl rfl 2 (by decide) (hts (.fieldLink RX6 19 "KinkStreet$Pieces" "sorted" "[I") (List.mem_of_getElem? (i := 1) rfl)) (fun _ h9 => h9) rfl dX6_sortIn_29 ?_
      refine lv_iload_n hx hb dX6_sortIn_32 rfl (lv_at hl 0 rfl) ?_
      refine lv_aload_n hx hb dX6_sortIn_33 rfl (lv_at hl 1 rfl) ?_
      refine va_get (D := (dC, dI)) (ci := 6) (v := .ref h1) (C := RX6) (T := TX6) (N := 5) hx hb hts (fun _ h => List.mem_cons_of_mem _ (List.mem_append_right _ h)) hown hK hP 0 rfl rfl 2 (by decide) (hts (.fieldLink RX6 19 "KinkStreet$Pieces" "sorted" "[I") (List.mem_of_getElem? (i := 1) rfl)) (fun _ h9 => h9) rfl dX6_sortIn_34 ?_
      refine lv_iload_n hx hb dX6_sortIn_37 rfl (lv_at hl 0 rfl) ?_
      refine lv_iconst (v := 1) hx hb dX6_sortIn_38 kk_ic_1 ?_
      refine lv_isub hx hb dX6_sortIn_39 ?_
      try have := kk_rng p0
      try have := kk_rng y_6
      have hi_9 : vp_in (i_3_0 - 1) 40 := (vp_in_iff.mpr ⟨by omega, by omega⟩)
      refine va_iald hx hb hK hP 1 0 rfl rfl hi_9 dX6_sortIn_40 ?_
      refine lv_topi (fun y_9 e_9 => ?_)
      clear e_9
      refine va_iast hx hb hK hP hD hS 1 0 rfl rfl (vp_in_iff.mpr ⟨by omega, by omega⟩) dX6_sortIn_41 (fun H locs hP hD hS => ?_)
      generalize upd f_3_1 (i_3_0 : Int32).toNatClampNeg y_9 = f_10 at hP hD
      have hP : va_P (dC, dI) vwCl [(h0, kO6 h2 h3 h1 h4 n0_pieceCount), (h1, kAi cint 40 f_10)] H := hP
      have hD : va_D A [(h0, kO6 h2 h3 h1 h4 n0_pieceCount), (h1, kAi cint 40 f_10)] := hD
      refine lv_iinc (v := (i_3_0 + (-1))) hx hb dX6_sortIn_42 hl (k := 0) rfl (by first | rfl | decide) (by decide) (rfl : _ = ([(3, .int (i_3_0 + (-1))), (0, .ref h0), (1, .int p0), (2, .int p1)] : List (Nat × Value))) (fun ls hl => ?_)
      refine lv_goto (tgt := 12) hx hb dX6_sortIn_45 (by decide) ?_
      try have := kk_add2 (x := i_3_0) (y := (-1)) (a := i_3_0.toInt) (b := (-1)) rfl rfl (by omega) (by omega)
      exact ih_3 ((i_3_0 + (-1)), f_10) _ _ _ (by show (((i_3_0 + (-1))).toInt - (0 : Int)).toNat < (i_3_0.toInt - (0 : Int)).toNat; exact kk_mu (by omega) (by omega)) ⟨(by show 0 ≤ ((i_3_0 + (-1)) : Int32).toInt ∧ ((i_3_0 + (-1)) : Int32).toInt ≤ 39; first | decide | ((omega))), (by show ((i_3_0 + (-1)) : Int32).toInt ≤ (y_2 : Int32).toInt; first | decide | (omega)), hP, hD, hS, lv_sub hl [0, 1, 2, 3] rfl⟩
