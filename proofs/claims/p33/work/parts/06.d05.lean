set_option maxHeartbeats 4000000 in
set_option maxRecDepth 100000 in
theorem g_J13_numberOfTrailingZeros_95d88_0 (l : Launch) (dC : Nat → ClassId) (dI : Nat → Nat → Nat) (sz : Nat) (v0 : Int64) (xv0 : Int) (exv0 : v0.toInt = xv0) : Met l yJ13_numberOfTrailingZeros_95d88 wsJ13_numberOfTrailingZeros_95d88 ({ frames := 1, cells := 0, slots := 0, locals := 21 }) (va_Pc [.long v0] (fun U => U.heap.size = sz ∧ va_P (dC, dI) vwCl [] U.heap ∧ va_K (dC, dI) vwCl [] U ∧ va_D (fun _ => True) [])) (va_Qi (fun (r : Int32) (_ : Unit) => True) (fun (_ : Unit) t => va_P (dC, dI) vwCl [] t.heap ∧ va_K (dC, dI) vwCl [] t ∧ va_D (va_A [] sz) []) (va_A [] sz)) 0 0 (va_A [] sz) := by
  refine Met.ofW (cc := cJ13_numberOfTrailingZeros_95d88) (maxL := 3) (ret := (some .int)) (by decide) rfl ?_
  intro p e s m args below meth c s₁ B hml hv
  obtain ⟨rfl, hsz, hP, hK, hD0⟩ := hv
  have hx := B.exec
  have hb := B.bytes
  have hr := B.returns
  have hts := atoms_spec (ws := wsJ13_numberOfTrailingZeros_95d88) B.pre
  have hown : s.vm.findClass RJ13 = some m.cls := findClass_of_methodNamed B.named
  have hlocks := B.notSynchronized
  subst hsz
  have hD := hD0.self (sz := s.heap.size)
  generalize hAe : va_A [] s.heap.size = A at hD ⊢
  have hA : ∀ q : Nat, s.heap.size ≤ q → A q := fun q h => by rw [← hAe]; exact Or.inr h
  have hS : va_S A s.heap s.heap [] := va_S.rf
  have hP : va_P (dC, dI) vwCl [] s.heap := hP
  have hl := lv_entry ([.long v0]) (n := 3) (Nat.le_of_ble_eq_true rfl)
  rw [lg_entry_eq]
  generalize (lg_sl ([.long v0]) ++ List.replicate (3 - (lg_sl ([.long v0])).length) Slot.unset).toArray = ls at hl ⊢
  have hl : lv_has ls 3 [(0, .long v0)] := hl
  refine lv_lload_n hx hb dJ13_numberOfTrailingZeros_95d88_0 rfl (lv_at hl 0 rfl) ?_
  refine lv_l2i hx hb dJ13_numberOfTrailingZeros_95d88_1 rfl ?_
  refine lv_topi (fun y_1 e_1 => ?_)
  clear e_1
  refine lv_istore_n (lv' := [(2, .int y_1), (0, .long v0)]) hx hb dJ13_numberOfTrailingZeros_95d88_2 rfl hl (by decide) rfl (fun ls hl => ?_)
  refine lv_iload_n hx hb dJ13_numberOfTrailingZeros_95d88_3 rfl (lv_at hl 0 rfl) ?_
  refine lv_if_ne (tgt := 21) hx hb dJ13_numberOfTrailingZeros_95d88_4 (by decide) (fun c_2 => ?_) (fun c_2 => ?_)
  · have t_2 : y_1.toInt ≠ 0 := kk_ne c_2
    refine lv_iload_n hx hb dJ13_numberOfTrailingZeros_95d88_21 rfl (lv_at hl 0 rfl) ?_
    obtain ⟨hPc, hDc, hFc⟩ := kk_cutout (wc := []) hP hD hS hA [] (by decide) rfl
    have hKc := hK.sub (tys' := []) [] rfl
    refine va_calli (va_runS (As := [.int y_1]) (rest := []) ⟨hx, hb, hml, hown, hts⟩ (g_J6_numberOfTrailingZeros_0f7a4_0 l dC dI s.heap.size y_1) (va_cwS 1 hts gJ13_numberOfTrailingZeros_95d88_J6_numberOfTrailingZeros_0f7a4 rfl rfl rfl (by decide +kernel) ⟨Nat.le_of_ble_eq_true rfl, Nat.le_of_ble_eq_true rfl⟩) ⟨fun a U g mk q => by obtain ⟨q0, q1, qP, qK, qD⟩ := q; exact ⟨q0, q1, qP, va_K.moved (u := U) (U := U.calling g mk a) (Vm.Alike.refl U.vm) qK, qD⟩, fun U hU hW => ⟨rfl, by rw [hU], by rw [hU]; exact hPc, va_K.moved hW.alike hKc, hDc.weaken (fun _ _ _ _ => trivial)⟩⟩ rfl rfl hl.1 rfl (lv_room (Nat.le_of_ble_eq_true rfl)) dJ13_numberOfTrailingZeros_95d88_22 ⟨Nat.le_of_ble_eq_true rfl, Nat.le_of_ble_eq_true rfl⟩) hS (fun q _ h => hFc q h) hFc (fun r_3 u t H1 locs ht hvm hw hB hz1 hk1 hS => ?_)
    obtain ⟨hP1, hK1, hD1⟩ := hB
    rw [ht] at hP1
    have hK1 := va_K.moved hvm.symm hK1
    obtain ⟨hP, hD⟩ := va_join (wr := []) (w1 := []) hP hD [] [] rfl rfl (by decide) (by decide) hk1 hFc hP1 hD1
    generalize H1 = H at hP hS ⊢
    have hP : va_P (dC, dI) vwCl [] H := hP
    have hD : va_D A [] := hD
    obtain ⟨hP9, hD9⟩ := kk_leafout (wc := []) hP hD [] (by decide) rfl
    have hK9 := hK.sub (tys' := []) [] rfl
    exact W.iret (v := r_3) hx hb hr (fun t ht hW => ⟨⟨r_3, (), rfl, trivial, by rw [ht]; exact hP9, va_K.moved hW.alike hK9, hD9⟩, hS.F ht⟩) hS.2.2 dJ13_numberOfTrailingZeros_95d88_25
  · have t_2 : y_1.toInt = 0 := kk_eq c_2
    refine lv_bipush (v := 32) hx hb dJ13_numberOfTrailingZeros_95d88_7 (by decide) ?_
    refine lv_lload_n hx hb dJ13_numberOfTrailingZeros_95d88_9 rfl (lv_at hl 1 rfl) ?_
    refine lv_bipush (v := 32) hx hb dJ13_numberOfTrailingZeros_95d88_10 (by decide) ?_
    refine lv_lushr hx hb dJ13_numberOfTrailingZeros_95d88_12 rfl ?_
    refine lv_topl (fun y_4 e_4 => ?_)
    clear e_4
    refine lv_l2i hx hb dJ13_numberOfTrailingZeros_95d88_13 rfl ?_
    refine lv_topi (fun y_5 e_5 => ?_)
    clear e_5
    obtain ⟨hPc, hDc, hFc⟩ := kk_cutout (wc := []) hP hD hS hA [] (by decide) rfl
    have hKc := hK.sub (tys' := []) [] rfl
    refine va_calli (va_runS (As := [.int y_5]) (rest := [.int 32]) ⟨hx, hb, hml, hown, hts⟩ (g_J6_numberOfTrailingZeros_0f7a4_0 l dC dI s.heap.size y_5) (va_cwS 1 hts gJ13_numberOfTrailingZeros_95d88_J6_numberOfTrailingZeros_0f7a4 rfl rfl rfl (by decide +kernel) ⟨Nat.le_of_ble_eq_true rfl, Nat.le_of_ble_eq_true rfl⟩) ⟨fun a U g mk q => by obtain ⟨q0, q1, qP, qK, qD⟩ := q; exact ⟨q0, q1, qP, va_K.moved (u := U) (U := U.calling g mk a) (Vm.Alike.refl U.vm) qK, qD⟩, fun U hU hW => ⟨rfl, by rw [hU], by rw [hU]; exact hPc, va_K.moved hW.alike hKc, hDc.weaken (fun _ _ _ _ => trivial)⟩⟩ rfl rfl hl.1 rfl (lv_room (Nat.le_of_ble_eq_true rfl)) dJ13_numberOfTrailingZeros_95d88_14 ⟨Nat.le_of_ble_eq_true rfl, Nat.le_of_ble_eq_true rfl⟩) hS (fun q _ h => hFc q h) hFc (fun r_6 u t H1 locs ht hvm hw hB hz1 hk1 hS => ?_)
    obtain ⟨hP1, hK1, hD1⟩ := hB
    rw [ht] at hP1
    have hK1 := va_K.moved hvm.symm hK1
    obtain ⟨hP, hD⟩ := va_join (wr := []) (w1 := []) hP hD [] [] rfl rfl (by decide) (by decide) hk1 hFc hP1 hD1
    generalize H1 = H at hP hS ⊢
    have hP : va_P (dC, dI) vwCl [] H := hP
    have hD : va_D A [] := hD
    refine lv_iadd hx hb dJ13_numberOfTrailingZeros_95d88_17 ?_
    refine lv_goto (tgt := 25) hx hb dJ13_numberOfTrailingZeros_95d88_18 (by decide) ?_
    obtain ⟨hP9, hD9⟩ := kk_leafout (wc := []) hP hD [] (by decide) rfl
    have hK9 := hK.sub (tys' := []) [] rfl
    exact W.iret (v := (32 + r_6)) hx hb hr (fun t ht hW => ⟨⟨(32 + r_6), (), rfl, trivial, by rw [ht]; exact hP9, va_K.moved hW.alike hK9, hD9⟩, hS.F ht⟩) hS.2.2 dJ13_numberOfTrailingZeros_95d88_25
set_option maxHeartbeats 4000000 in
set_option maxRecDepth 100000 in
theorem g_X2_countWays_0 (l : Launch) (dC : Nat → ClassId) (dI : Nat → Nat → Nat) (h0 : Nat) (h1 : Nat) (h2 : Nat) (h3 : Nat) (h4 : Nat) (h5 : Nat → Nat) (h6 : Nat → Nat) (h7 : Nat) (h8 : Nat) (h9 : Nat) (h10 : Nat) (h11 : Nat) (cAlong cint clong : ClassId) (sz : Nat) (n0_size : Int32) (n0_names : Int32) (n0_plots : Int32) (n0_ways : Int32) (f3 : Nat → Int32) (f4 : Nat → Int32) (F5 : Nat → Nat → Int64) (F6 : Nat → Nat → Int64) (tn0_size : 0 ≤ n0_size.toInt ∧ n0_size.toInt ≤ 10) (tn0_names : 1 ≤ n0_names.toInt ∧ n0_names.toInt ≤ 5) (tn0_plots : 0 ≤ n0_plots.toInt ∧ n0_plots.toInt ≤ 40) : Met l yX2_countWays wsX2_countWays ({ frames := 2, cells := 0, slots := 0, locals := 48 }) (va_Pc [.ref h0, .int 4] (fun U => U.heap.size = sz ∧ va_P (dC, dI) vwCl (([(h0, .inr (2, [.ref h7, .ref h8, .ref h9, .int n0_size, .ref h10, .int n0_names, .int n0_plots, .ref h11, .ref h1, .ref h2, .ref h3, .ref h4, .int n0_ways])), (h1, .inl (cAlong, 25, .inr (.inr (.inr (.inr (fun j => some (h5 j))))))), (h2, .inl (cAlong, 5, .inr (.inr (.inr (.inr (fun j => some (h6 j))))))), (h3, .inl (cint, 5, .inl f3)), (h4, .inl (cint, 5, .inl f4))] : va_W) ++ (kk_rowsL h5 clong 40 F5 25 ++ (kk_rowsL h6 clong 5 F6 5))) U.heap ∧ va_K (dC, dI) vwCl [(cAlong, .array .long), (cint, .int), (clong, .long)] U ∧ va_D (fun _ => True) (([(h0, .inr (2, [.ref h7, .ref h8, .ref h9, .int n0_size, .ref h10, .int n0_names, .int n0_plots, .ref h11, .ref h1, .ref h2, .ref h3, .ref h4, .int n0_ways])), (h1, .inl (cAlong, 25, .inr (.inr (.inr (.inr (fun j => some (h5 j))))))), (h2, .inl (cAlong, 5, .inr (.inr (.inr (.inr (fun j => some (h6 j))))))), (h3, .inl (cint, 5, .inl f3)), (h4, .inl (cint, 5, .inl f4))] : va_W) ++ (kk_rowsL h5 clong 40 F5 25 ++ (kk_rowsL h6 clong 5 F6 5))))) (va_Qv (fun (_ : Unit) => True) (fun (_ : Unit) t => ∃ (m0_ways : Int32) (g3 : Nat → Int32) (g4 : Nat → Int32), va_P (dC, dI) vwCl (([(h0, .inr (2, [.ref h7, .ref h8, .ref h9, .int n0_size, .ref h10, .int n0_names, .int n0_plots, .ref h11, .ref h1, .ref h2, .ref h3, .ref h4, .int m0_ways])), (h1, .inl (cAlong, 25, .inr (.inr (.inr (.inr (fun j => some (h5 j))))))), (h2, .inl (cAlong, 5, .inr (.inr (.inr (.inr (fun j => some (h6 j))))))), (h3, .inl (cint, 5, .inl g3)), (h4, .inl (cint, 5, .inl g4))] : va_W) ++ (kk_rowsL h5 clong 40 F5 25 ++ (kk_rowsL h6 clong 5 F6 5))) t.heap ∧ va_K (dC, dI) vwCl [] t ∧ va_D (va_A (([(h0, .inr (2, [.ref h7, .ref h8, .ref h9, .int n0_size, .ref h10, .int n0_names, .int n0_plots, .ref h11, .ref h1, .ref h2, .ref h3, .ref h4, .int n0_ways])), (h1, .inl (cAlong, 25, .inr (.inr (.inr (.inr (fun j => some (h5 j))))))), (h2, .inl (cAlong, 5, .inr (.inr (.inr (.inr (fun j => some (h6 j))))))), (h3, .inl (cint, 5, .inl f3)), (h4, .inl (cint, 5, .inl f4))] : va_W) ++ (kk_rowsL h5 clong 40 F5 25 ++ (kk_rowsL h6 clong 5 F6 5))) sz) (([(h0, .inr (2, [.ref h7, .ref h8, .ref h9, .int n0_size, .ref h10, .int n0_names, .int n0_plots, .ref h11, .ref h1, .ref h2, .ref h3, .ref h4, .int m0_ways])), (h1, .inl (cAlong, 25, .inr (.inr (.inr (.inr (fun j => some (h5 j))))))), (h2, .inl (cAlong, 5, .inr (.inr (.inr (.inr (fun j => some (h6 j))))))), (h3, .inl (cint, 5, .inl g3)), (h4, .inl (cint, 5, .inl g4))] : va_W) ++ (kk_rowsL h5 clong 40 F5 25 ++ (kk_rowsL h6 clong 5 F6 5)))) (va_A (([(h0, .inr (2, [.ref h7, .ref h8, .ref h9, .int n0_size, .ref h10, .int n0_names, .int n0_plots, .ref h11, .ref h1, .ref h2, .ref h3, .ref h4, .int n0_ways])), (h1, .inl (cAlong, 25, .inr (.inr (.inr (.inr (fun j => some (h5 j))))))), (h2, .inl (cAlong, 5, .inr (.inr (.inr (.inr (fun j => some (h6 j))))))), (h3, .inl (cint, 5, .inl f3)), (h4, .inl (cint, 5, .inl f4))] : va_W) ++ (kk_rowsL h5 clong 40 F5 25 ++ (kk_rowsL h6 clong 5 F6 5))) sz)) 0 0 (va_A (([(h0, .inr (2, [.ref h7, .ref h8, .ref h9, .int n0_size, .ref h10, .int n0_names, .int n0_plots, .ref h11, .ref h1, .ref h2, .ref h3, .ref h4, .int n0_ways])), (h1, .inl (cAlong, 25, .inr (.inr (.inr (.inr (fun j => some (h5 j))))))), (h2, .inl (cAlong, 5, .inr (.inr (.inr (.inr (fun j => some (h6 j))))))), (h3, .inl (cint, 5, .inl f3)), (h4, .inl (cint, 5, .inl f4))] : va_W) ++ (kk_rowsL h5 clong 40 F5 25 ++ (kk_rowsL h6 clong 5 F6 5))) sz) := by
  refine Met.ofW (cc := cX2_countWays) (maxL := 4) (ret := none) (by decide) rfl ?_
  intro p e s m args below meth c s₁ B hml hv
  obtain ⟨rfl, hsz, hP, hK, hD0⟩ := hv
  have hx := B.exec
  have hb := B.bytes
  have hr := B.returns
  have hts := atoms_spec (ws := wsX2_countWays) B.pre
  have hown : s.vm.findClass RX2 = some m.cls := findClass_of_methodNamed B.named
  have hlocks := B.notSynchronized
  subst hsz
  have hD := hD0.self (sz := s.heap.size)
  generalize hAe : va_A (([(h0, .inr (2, [.ref h7, .ref h8, .ref h9, .int n0_size, .ref h10, .int n0_names, .int n0_plots, .ref h11, .ref h1, .ref h2, .ref h3, .ref h4, .int n0_ways])), (h1, .inl (cAlong, 25, .inr (.inr (.inr (.inr (fun j => some (h5 j))))))), (h2, .inl (cAlong, 5, .inr (.inr (.inr (.inr (fun j => some (h6 j))))))), (h3, .inl (cint, 5, .inl f3)), (h4, .inl (cint, 5, .inl f4))] : va_W) ++ (kk_rowsL h5 clong 40 F5 25 ++ (kk_rowsL h6 clong 5 F6 5))) s.heap.size = A at hD ⊢
  have hA : ∀ q : Nat, s.heap.size ≤ q → A q := fun q h => by rw [← hAe]; exact Or.inr h
  have hS : va_S A s.heap s.heap [] := va_S.rf
  have hP : va_P (dC, dI) vwCl (([(h0, .inr (2, [.ref h7, .ref h8, .ref h9, .int n0_size, .ref h10, .int n0_names, .int n0_plots, .ref h11, .ref h1, .ref h2, .ref h3, .ref h4, .int n0_ways])), (h1, .inl (cAlong, 25, .inr (.inr (.inr (.inr (fun j => some (h5 j))))))), (h2, .inl (cAlong, 5, .inr (.inr (.inr (.inr (fun j => some (h6 j))))))), (h3, .inl (cint, 5, .inl f3)), (h4, .inl (cint, 5, .inl f4))] : va_W) ++ (kk_rowsL h5 clong 40 F5 25 ++ (kk_rowsL h6 clong 5 F6 5))) s.heap := hP
  have hl := lv_entry ([.ref h0, .int 4]) (n := 4) (Nat.le_of_ble_eq_true rfl)
  rw [lg_entry_eq]
  generalize (lg_sl ([.ref h0, .int 4]) ++ List.replicate (4 - (lg_sl ([.ref h0, .int 4])).length) Slot.unset).toArray = ls at hl ⊢
  have hl : lv_has ls 4 [(0, .ref h0), (1, .int 4)] := hl
  refine lv_aload_n hx hb dX2_countWays_0 rfl (lv_at hl 0 rfl) ?_
  refine va_get (D := (dC, dI)) (ci := 2) (v := .ref h2) (C := RX2) (T := TX2) (N := 13) hx hb hts (fun _ h => List.mem_cons_of_mem _ (List.mem_append_right _ h)) hown hK hP 0 rfl rfl 9 (by decide) (hts (.fieldLink RX2 32 "KinkStreet$Deeds" "open" "[[J") (List.mem_of_getElem? (i := 1) rfl)) (fun _ h9 => h9) rfl dX2_countWays_1 ?_
  refine lv_iload_n hx hb dX2_countWays_4 rfl (lv_at hl 1 rfl) ?_
  have hi_1 : vp_in (4 : Int32) 5 := (by unfold vp_in; decide)
  have hk_1 : (4 : Int32).toNatClampNeg < 5 := Nat.not_le.mp fun q => hi_1 (Or.inr q)
  refine kk_aald hx hb hK hP 2 0 rfl rfl hi_1 dX2_countWays_5 ?_
  refine W.eq (g2 := F0 m 6 ls [.ref (h6 (4 : Int32).toNatClampNeg)]) rfl ?_
  refine lv_iload_n hx hb dX2_countWays_6 rfl (lv_at hl 1 rfl) ?_
  refine va_lald hx hb hK hP _ 2 (kk_getr (kk_getr (kk_rowL hk_1))) rfl (by unfold vp_in; decide) dX2_countWays_7 ?_
  refine lv_topl (fun y_2 e_2 => ?_)
  clear e_2
  refine lv_lstore_n (lv' := [(2, .long y_2), (0, .ref h0), (1, .int 4)]) hx hb dX2_countWays_8 rfl hl (by decide) rfl (fun ls hl => ?_)
  refine lv_lload_n hx hb dX2_countWays_9 rfl (lv_at hl 0 rfl) ?_
  refine lv_lconst (v := 0) hx hb dX2_countWays_10 (by decide) ?_
  refine W.lcmp hx hb dX2_countWays_11 ?_
  refine lv_if_ne (tgt := 16) hx hb dX2_countWays_12 (by decide) (fun _ => ?_) (fun _ => ?_)
  · skip
    refine lv_aload_n hx hb dX2_countWays_16 rfl (lv_at hl 1 rfl) ?_
    refine va_get (D := (dC, dI)) (ci := 2) (v := .int n0_ways) (C := RX2) (T := TX2) (N := 13) hx hb hts (fun _ h => List.mem_cons_of_mem _ (List.mem_append_right _ h)) hown hK hP 0 rfl rfl 12 (by decide) (hts (.fieldLink RX2 70 "KinkStreet$Deeds" "ways" "I") (List.mem_of_getElem? (i := 2) rfl)) (fun _ h9 => h9) rfl dX2_countWays_17 ?_
    refine lv_if_ne (tgt := 47) hx hb dX2_countWays_20 (by decide) (fun c_3 => ?_) (fun c_3 => ?_)
    · have t_3 : n0_ways.toInt ≠ 0 := kk_ne c_3
      refine lv_aload_n hx hb dX2_countWays_47 rfl (lv_at hl 1 rfl) ?_
      refine lv_ldc hx hb hown (hts _ (List.mem_of_getElem? (i := 9) rfl)) dX2_countWays_48 ?_
      refine lv_aload_n hx hb dX2_countWays_50 rfl (lv_at hl 1 rfl) ?_
      refine va_get (D := (dC, dI)) (ci := 2) (v := .int n0_ways) (C := RX2) (T := TX2) (N := 13) hx hb hts (fun _ h => List.mem_cons_of_mem _ (List.mem_append_right _ h)) hown hK hP 0 rfl rfl 12 (by decide) (hts (.fieldLink RX2 70 "KinkStreet$Deeds" "ways" "I") (List.mem_of_getElem? (i := 2) rfl)) (fun _ h9 => h9) rfl dX2_countWays_51 ?_
      refine lv_lload_n hx hb dX2_countWays_54 rfl (lv_at hl 0 rfl) ?_
      obtain ⟨hPc, hDc, hFc⟩ := kk_cutout (wc := []) hP hD hS hA [] (by decide) rfl
      have hKc := hK.sub (tys' := []) [] rfl
      refine va_calli (va_runS (As := [.long y_2]) (rest := [.int n0_ways, .int 1000000, .ref h0]) ⟨hx, hb, hml, hown, hts⟩ (g_J13_bitCount_95d88_0 l dC dI s.heap.size y_2 (y_2.toInt) rfl) (va_cwS 1 hts gX2_countWays_J13_bitCount_95d88 rfl rfl rfl (by decide +kernel) ⟨Nat.le_of_ble_eq_true rfl, Nat.le_of_ble_eq_true rfl⟩) ⟨fun a U g mk q => by obtain ⟨q0, q1, qP, qK, qD⟩ := q; exact ⟨q0, q1, qP, va_K.moved (u := U) (U := U.calling g mk a) (Vm.Alike.refl U.vm) qK, qD⟩, fun U hU hW => ⟨rfl, by rw [hU], by rw [hU]; exact hPc, va_K.moved hW.alike hKc, hDc.weaken (fun _ _ _ _ => trivial)⟩⟩ rfl rfl hl.1 rfl (lv_room (Nat.le_of_ble_eq_true rfl)) dX2_countWays_55 ⟨Nat.le_of_ble_eq_true rfl, Nat.le_of_ble_eq_true rfl⟩) hS (fun q _ h => hFc q h) hFc (fun r_4 u t H1 locs ht hvm hw hB hz1 hk1 hS => ?_)
      obtain ⟨hP1, hK1, hD1⟩ := hB
      rw [ht] at hP1
      have hK1 := va_K.moved hvm.symm hK1
      obtain ⟨hP, hD⟩ := va_joinQ (cx := []) (wr := [(h0, .inr (2, [.ref h7, .ref h8, .ref h9, .int n0_size, .ref h10, .int n0_names, .int n0_plots, .ref h11, .ref h1, .ref h2, .ref h3, .ref h4, .int n0_ways])), (h1, .inl (cAlong, 25, .inr (.inr (.inr (.inr (fun j => some (h5 j))))))), (h2, .inl (cAlong, 5, .inr (.inr (.inr (.inr (fun j => some (h6 j))))))), (h3, .inl (cint, 5, .inl f3)), (h4, .inl (cint, 5, .inl f4))]) (w1 := []) hP hD [] [0, 1, 2, 3, 4] rfl rfl (by decide) (by decide) hk1 hFc hP1 hD1
      generalize H1 = H at hP hS ⊢
      have hP : va_P (dC, dI) vwCl (([(h0, .inr (2, [.ref h7, .ref h8, .ref h9, .int n0_size, .ref h10, .int n0_names, .int n0_plots, .ref h11, .ref h1, .ref h2, .ref h3, .ref h4, .int n0_ways])), (h1, .inl (cAlong, 25, .inr (.inr (.inr (.inr (fun j => some (h5 j))))))), (h2, .inl (cAlong, 5, .inr (.inr (.inr (.inr (fun j => some (h6 j))))))), (h3, .inl (cint, 5, .inl f3)), (h4, .inl (cint, 5, .inl f4))] : va_W) ++ (kk_rowsL h5 clong 40 F5 25 ++ (kk_rowsL h6 clong 5 F6 5))) H := hP
      have hD : va_D A (([(h0, .inr (2, [.ref h7, .ref h8, .ref h9, .int n0_size, .ref h10, .int n0_names, .int n0_plots, .ref h11, .ref h1, .ref h2, .ref h3, .ref h4, .int n0_ways])), (h1, .inl (cAlong, 25, .inr (.inr (.inr (.inr (fun j => some (h5 j))))))), (h2, .inl (cAlong, 5, .inr (.inr (.inr (.inr (fun j => some (h6 j))))))), (h3, .inl (cint, 5, .inl f3)), (h4, .inl (cint, 5, .inl f4))] : va_W) ++ (kk_rowsL h5 clong 40 F5 25 ++ (kk_rowsL h6 clong 5 F6 5))) := hD
      refine lv_iadd hx hb dX2_countWays_58 ?_
      refine va_mmin hx hb (hml.trans hl.1.symm) hown (hts (.methodLink RX2 61 Lib.Math.min.name) (List.mem_of_getElem? (i := 10) rfl)) (hts (.static Lib.Math.min.name) (List.mem_of_getElem? (i := 11) rfl)) (hts (.initialized "java/lang/Math") (List.mem_of_getElem? (i := 12) rfl)) (hts (.code Lib.Math.min.name Lib.Math.min.code 2 (some .int)) (List.mem_of_getElem? (i := 13) rfl)) (Nat.le_of_ble_eq_true rfl) (Nat.le_of_ble_eq_true rfl) (Nat.le_of_ble_eq_true rfl) (Nat.le_of_ble_eq_true rfl) dX2_countWays_59 ?_
      refine lv_topi (fun y_5 e_5 => ?_)
      have t_5 : y_5.toInt ≤ 1000000 ∧ y_5.toInt ≤ (n0_ways + r_4).toInt ∧ (y_5.toInt = 1000000 ∨ y_5.toInt = (n0_ways + r_4).toInt) := by rw [e_5]; exact kk_min _ _
      clear e_5
      refine va_put (D := (dC, dI)) (ci := 2) (v := .int y_5) (ty := .int) (C := RX2) (T := TX2) (N := 13) hx hb hts (fun _ h => List.mem_cons_of_mem _ (List.mem_append_right _ h)) tyX2 tyX2_ok nmX2 hown hK hP hD hS 0 rfl rfl 12 (by decide) (hts (.fieldLink RX2 70 "KinkStreet$Deeds" "ways" "I") (List.mem_of_getElem? (i := 2) rfl)) (fun _ h9 => h9) rfl (by decide +kernel) rfl rfl (Nat.le_of_ble_eq_true rfl) dX2_countWays_62 (fun H locs hP hD hS => ?_)
      have hP : va_P (dC, dI) vwCl (([(h0, .inr (2, [.ref h7, .ref h8, .ref h9, .int n0_size, .ref h10, .int n0_names, .int n0_plots, .ref h11, .ref h1, .ref h2, .ref h3, .ref h4, .int y_5])), (h1, .inl (cAlong, 25, .inr (.inr (.inr (.inr (fun j => some (h5 j))))))), (h2, .inl (cAlong, 5, .inr (.inr (.inr (.inr (fun j => some (h6 j))))))), (h3, .inl (cint, 5, .inl f3)), (h4, .inl (cint, 5, .inl f4))] : va_W) ++ (kk_rowsL h5 clong 40 F5 25 ++ (kk_rowsL h6 clong 5 F6 5))) H := hP
      have hD : va_D A (([(h0, .inr (2, [.ref h7, .ref h8, .ref h9, .int n0_size, .ref h10, .int n0_names, .int n0_plots, .ref h11, .ref h1, .ref h2, .ref h3, .ref h4, .int y_5])), (h1, .inl (cAlong, 25, .inr (.inr (.inr (.inr (fun j => some (h5 j))))))), (h2, .inl (cAlong, 5, .inr (.inr (.inr (.inr (fun j => some (h6 j))))))), (h3, .inl (cint, 5, .inl f3)), (h4, .inl (cint, 5, .inl f4))] : va_W) ++ (kk_rowsL h5 clong 40 F5 25 ++ (kk_rowsL h6 clong 5 F6 5))) := hD
      have hP9 := hP.part (cx := [(h0, .inr (2, [.ref h7, .ref h8, .ref h9, .int n0_size, .ref h10, .int n0_names, .int n0_plots, .ref h11, .ref h1, .ref h2, .ref h3, .ref h4, .int y_5])), (h1, .inl (cAlong, 25, .inr (.inr (.inr (.inr (fun j => some (h5 j))))))), (h2, .inl (cAlong, 5, .inr (.inr (.inr (.inr (fun j => some (h6 j))))))), (h3, .inl (cint, 5, .inl f3)), (h4, .inl (cint, 5, .inl f4))]) [0, 1, 2, 3, 4] rfl
      have hD9 := hD.part (cx := [(h0, .inr (2, [.ref h7, .ref h8, .ref h9, .int n0_size, .ref h10, .int n0_names, .int n0_plots, .ref h11, .ref h1, .ref h2, .ref h3, .ref h4, .int y_5])), (h1, .inl (cAlong, 25, .inr (.inr (.inr (.inr (fun j => some (h5 j))))))), (h2, .inl (cAlong, 5, .inr (.inr (.inr (.inr (fun j => some (h6 j))))))), (h3, .inl (cint, 5, .inl f3)), (h4, .inl (cint, 5, .inl f4))]) [0, 1, 2, 3, 4] (by decide) rfl
      have hK9 := hK.sub (tys' := []) [] rfl
      exact W.vret hx hb hr (fun t ht hW => ⟨⟨(), rfl, trivial, y_5, f3, f4, by rw [ht]; exact hP9, va_K.moved hW.alike hK9, hD9⟩, hS.F ht⟩) hS.2.2 dX2_countWays_65
    · have t_3 : n0_ways.toInt = 0 := kk_eq c_3
      refine lv_aload_n hx hb dX2_countWays_23 rfl (lv_at hl 1 rfl) ?_
      refine va_get (D := (dC, dI)) (ci := 2) (v := .ref h3) (C := RX2) (T := TX2) (N := 13) hx hb hts (fun _ h => List.mem_cons_of_mem _ (List.mem_append_right _ h)) hown hK hP 0 rfl rfl 10 (by decide) (hts (.fieldLink RX2 35 "KinkStreet$Deeds" "tried" "[I") (List.mem_of_getElem? (i := 3) rfl)) (fun _ h9 => h9) rfl dX2_countWays_24 ?_
      refine lv_iload_n hx hb dX2_countWays_27 rfl (lv_at hl 2 rfl) ?_
      refine lv_lload_n hx hb dX2_countWays_28 rfl (lv_at hl 0 rfl) ?_
      obtain ⟨hPc, hDc, hFc⟩ := kk_cutout (wc := []) hP hD hS hA [] (by decide) rfl
      have hKc := hK.sub (tys' := []) [] rfl
      refine va_calli (va_runS (As := [.long y_2]) (rest := [.int 4, .ref h3]) ⟨hx, hb, hml, hown, hts⟩ (g_J13_numberOfTrailingZeros_95d88_0 l dC dI s.heap.size y_2 (y_2.toInt) rfl) (va_cwS 1 hts gX2_countWays_J13_numberOfTrailingZeros_95d88 rfl rfl rfl (by decide +kernel) ⟨Nat.le_of_ble_eq_true rfl, Nat.le_of_ble_eq_true rfl⟩) ⟨fun a U g mk q => by obtain ⟨q0, q1, qP, qK, qD⟩ := q; exact ⟨q0, q1, qP, va_K.moved (u := U) (U := U.calling g mk a) (Vm.Alike.refl U.vm) qK, qD⟩, fun U hU hW => ⟨rfl, by rw [hU], by rw [hU]; exact hPc, va_K.moved hW.alike hKc, hDc.weaken (fun _ _ _ _ => trivial)⟩⟩ rfl rfl hl.1 rfl (lv_room (Nat.le_of_ble_eq_true rfl)) dX2_countWays_29 ⟨Nat.le_of_ble_eq_true rfl, Nat.le_of_ble_eq_true rfl⟩) hS (fun q _ h => hFc q h) hFc (fun r_6 u t H1 locs ht hvm hw hB hz1 hk1 hS => ?_)
      obtain ⟨hP1, hK1, hD1⟩ := hB
      rw [ht] at hP1
      have hK1 := va_K.moved hvm.symm hK1
      obtain ⟨hP, hD⟩ := va_joinQ (cx := []) (wr := [(h0, .inr (2, [.ref h7, .ref h8, .ref h9, .int n0_size, .ref h10, .int n0_names, .int n0_plots, .ref h11, .ref h1, .ref h2, .ref h3, .ref h4, .int n0_ways])), (h1, .inl (cAlong, 25, .inr (.inr (.inr (.inr (fun j => some (h5 j))))))), (h2, .inl (cAlong, 5, .inr (.inr (.inr (.inr (fun j => some (h6 j))))))), (h3, .inl (cint, 5, .inl f3)), (h4, .inl (cint, 5, .inl f4))]) (w1 := []) hP hD [] [0, 1, 2, 3, 4] rfl rfl (by decide) (by decide) hk1 hFc hP1 hD1
      generalize H1 = H at hP hS ⊢
      have hP : va_P (dC, dI) vwCl (([(h0, .inr (2, [.ref h7, .ref h8, .ref h9, .int n0_size, .ref h10, .int n0_names, .int n0_plots, .ref h11, .ref h1, .ref h2, .ref h3, .ref h4, .int n0_ways])), (h1, .inl (cAlong, 25, .inr (.inr (.inr (.inr (fun j => some (h5 j))))))), (h2, .inl (cAlong, 5, .inr (.inr (.inr (.inr (fun j => some (h6 j))))))), (h3, .inl (cint, 5, .inl f3)), (h4, .inl (cint, 5, .inl f4))] : va_W) ++ (kk_rowsL h5 clong 40 F5 25 ++ (kk_rowsL h6 clong 5 F6 5))) H := hP
      have hD : va_D A (([(h0, .inr (2, [.ref h7, .ref h8, .ref h9, .int n0_size, .ref h10, .int n0_names, .int n0_plots, .ref h11, .ref h1, .ref h2, .ref h3, .ref h4, .int n0_ways])), (h1, .inl (cAlong, 25, .inr (.inr (.inr (.inr (fun j => some (h5 j))))))), (h2, .inl (cAlong, 5, .inr (.inr (.inr (.inr (fun j => some (h6 j))))))), (h3, .inl (cint, 5, .inl f3)), (h4, .inl (cint, 5, .inl f4))] : va_W) ++ (kk_rowsL h5 clong 40 F5 25 ++ (kk_rowsL h6 clong 5 F6 5))) := hD
      refine va_iast hx hb hK hP hD hS 3 1 rfl rfl (by unfold vp_in; decide) dX2_countWays_32 (fun H locs hP hD hS => ?_)
      generalize upd f3 (4 : Int32).toNatClampNeg r_6 = f_7 at hP hD
      have hP : va_P (dC, dI) vwCl (([(h0, .inr (2, [.ref h7, .ref h8, .ref h9, .int n0_size, .ref h10, .int n0_names, .int n0_plots, .ref h11, .ref h1, .ref h2, .ref h3, .ref h4, .int n0_ways])), (h1, .inl (cAlong, 25, .inr (.inr (.inr (.inr (fun j => some (h5 j))))))), (h2, .inl (cAlong, 5, .inr (.inr (.inr (.inr (fun j => some (h6 j))))))), (h3, .inl (cint, 5, .inl f_7)), (h4, .inl (cint, 5, .inl f4))] : va_W) ++ (kk_rowsL h5 clong 40 F5 25 ++ (kk_rowsL h6 clong 5 F6 5))) H := hP
      have hD : va_D A (([(h0, .inr (2, [.ref h7, .ref h8, .ref h9, .int n0_size, .ref h10, .int n0_names, .int n0_plots, .ref h11, .ref h1, .ref h2, .ref h3, .ref h4, .int n0_ways])), (h1, .inl (cAlong, 25, .inr (.inr (.inr (.inr (fun j => some (h5 j))))))), (h2, .inl (cAlong, 5, .inr (.inr (.inr (.inr (fun j => some (h6 j))))))), (h3, .inl (cint, 5, .inl f_7)), (h4, .inl (cint, 5, .inl f4))] : va_W) ++ (kk_rowsL h5 clong 40 F5 25 ++ (kk_rowsL h6 clong 5 F6 5))) := hD
      refine lv_aload_n hx hb dX2_countWays_33 rfl (lv_at hl 1 rfl) ?_
      refine va_get (D := (dC, dI)) (ci := 2) (v := .ref h3) (C := RX2) (T := TX2) (N := 13) hx hb hts (fun _ h => List.mem_cons_of_mem _ (List.mem_append_right _ h)) hown hK hP 0 rfl rfl 10 (by decide) (hts (.fieldLink RX2 35 "KinkStreet$Deeds" "tried" "[I") (List.mem_of_getElem? (i := 3) rfl)) (fun _ h9 => h9) rfl dX2_countWays_34 ?_
      refine lv_iconst (v := 0) hx hb dX2_countWays_37 (by decide) ?_
      refine lv_aload_n hx hb dX2_countWays_38 rfl (lv_at hl 1 rfl) ?_
      refine va_get (D := (dC, dI)) (ci := 2) (v := .ref h4) (C := RX2) (T := TX2) (N := 13) hx hb hts (fun _ h => List.mem_cons_of_mem _ (List.mem_append_right _ h)) hown hK hP 0 rfl rfl 11 (by decide) (hts (.fieldLink RX2 38 "KinkStreet$Deeds" "found" "[I") (List.mem_of_getElem? (i := 4) rfl)) (fun _ h9 => h9) rfl dX2_countWays_39 ?_
      refine lv_iconst (v := 0) hx hb dX2_countWays_42 (by decide) ?_
      refine lv_iconst (v := 5) hx hb dX2_countWays_43 (by decide) ?_
      refine va_copyi (sp := 0) (dp := 0) (n := 5) hx hb (hml.trans hl.1.symm) hown (hts (.methodLink RX2 118 arraycopyName) (List.mem_of_getElem? (i := 5) rfl)) (hts (.native arraycopyName) (List.mem_of_getElem? (i := 6) rfl)) (hts (.static arraycopyName) (List.mem_of_getElem? (i := 7) rfl)) (hts (.initialized "java/lang/System") (List.mem_of_getElem? (i := 8) rfl)) hK hP hD hS 3 4 1 1 rfl rfl rfl rfl rfl (by decide) (by decide) (by decide) (by decide) (by decide) (fun _ _ => rfl) (Nat.le_of_ble_eq_true rfl) (Nat.le_of_ble_eq_true rfl) dX2_countWays_44 (fun H locs hP hD hS => ?_)
      generalize va_cpy f_7 f4 (0 : Int32).toNatClampNeg (0 : Int32).toNatClampNeg (5 : Int32).toNatClampNeg = f_8 at hP hD
      have hP : va_P (dC, dI) vwCl (([(h0, .inr (2, [.ref h7, .ref h8, .ref h9, .int n0_size, .ref h10, .int n0_names, .int n0_plots, .ref h11, .ref h1, .ref h2, .ref h3, .ref h4, .int n0_ways])), (h1, .inl (cAlong, 25, .inr (.inr (.inr (.inr (fun j => some (h5 j))))))), (h2, .inl (cAlong, 5, .inr (.inr (.inr (.inr (fun j => some (h6 j))))))), (h3, .inl (cint, 5, .inl f_7)), (h4, .inl (cint, 5, .inl f_8))] : va_W) ++ (kk_rowsL h5 clong 40 F5 25 ++ (kk_rowsL h6 clong 5 F6 5))) H := hP
      have hD : va_D A (([(h0, .inr (2, [.ref h7, .ref h8, .ref h9, .int n0_size, .ref h10, .int n0_names, .int n0_plots, .ref h11, .ref h1, .ref h2, .ref h3, .ref h4, .int n0_ways])), (h1, .inl (cAlong, 25, .inr (.inr (.inr (.inr (fun j => some (h5 j))))))), (h2, .inl (cAlong, 5, .inr (.inr (.inr (.inr (fun j => some (h6 j))))))), (h3, .inl (cint, 5, .inl f_7)), (h4, .inl (cint, 5, .inl f_8))] : va_W) ++ (kk_rowsL h5 clong 40 F5 25 ++ (kk_rowsL h6 clong 5 F6 5))) := hD
      refine lv_aload_n hx hb dX2_countWays_47 rfl (lv_at hl 1 rfl) ?_
      refine lv_ldc hx hb hown (hts _ (List.mem_of_getElem? (i := 9) rfl)) dX2_countWays_48 ?_
      refine lv_aload_n hx hb dX2_countWays_50 rfl (lv_at hl 1 rfl) ?_
      refine va_get (D := (dC, dI)) (ci := 2) (v := .int n0_ways) (C := RX2) (T := TX2) (N := 13) hx hb hts (fun _ h => List.mem_cons_of_mem _ (List.mem_append_right _ h)) hown hK hP 0 rfl rfl 12 (by decide) (hts (.fieldLink RX2 70 "KinkStreet$Deeds" "ways" "I") (List.mem_of_getElem? (i := 2) rfl)) (fun _ h9 => h9) rfl dX2_countWays_51 ?_
      refine lv_lload_n hx hb dX2_countWays_54 rfl (lv_at hl 0 rfl) ?_
      obtain ⟨hPc, hDc, hFc⟩ := kk_cutout (wc := []) hP hD hS hA [] (by decide) rfl
      have hKc := hK.sub (tys' := []) [] rfl
      refine va_calli (va_runS (As := [.long y_2]) (rest := [.int n0_ways, .int 1000000, .ref h0]) ⟨hx, hb, hml, hown, hts⟩ (g_J13_bitCount_95d88_0 l dC dI H.size y_2 (y_2.toInt) rfl) (va_cwS 1 hts gX2_countWays_J13_bitCount_95d88 rfl rfl rfl (by decide +kernel) ⟨Nat.le_of_ble_eq_true rfl, Nat.le_of_ble_eq_true rfl⟩) ⟨fun a U g mk q => by obtain ⟨q0, q1, qP, qK, qD⟩ := q; exact ⟨q0, q1, qP, va_K.moved (u := U) (U := U.calling g mk a) (Vm.Alike.refl U.vm) qK, qD⟩, fun U hU hW => ⟨rfl, by rw [hU], by rw [hU]; exact hPc, va_K.moved hW.alike hKc, hDc.weaken (fun _ _ _ _ => trivial)⟩⟩ rfl rfl hl.1 rfl (lv_room (Nat.le_of_ble_eq_true rfl)) dX2_countWays_55 ⟨Nat.le_of_ble_eq_true rfl, Nat.le_of_ble_eq_true rfl⟩) hS (fun q _ h => hFc q h) hFc (fun r_9 u t H1 locs ht hvm hw hB hz1 hk1 hS => ?_)
      obtain ⟨hP1, hK1, hD1⟩ := hB
      rw [ht] at hP1
      have hK1 := va_K.moved hvm.symm hK1
      obtain ⟨hP, hD⟩ := va_joinQ (cx := []) (wr := [(h0, .inr (2, [.ref h7, .ref h8, .ref h9, .int n0_size, .ref h10, .int n0_names, .int n0_plots, .ref h11, .ref h1, .ref h2, .ref h3, .ref h4, .int n0_ways])), (h1, .inl (cAlong, 25, .inr (.inr (.inr (.inr (fun j => some (h5 j))))))), (h2, .inl (cAlong, 5, .inr (.inr (.inr (.inr (fun j => some (h6 j))))))), (h3, .inl (cint, 5, .inl f_7)), (h4, .inl (cint, 5, .inl f_8))]) (w1 := []) hP hD [] [0, 1, 2, 3, 4] rfl rfl (by decide) (by decide) hk1 hFc hP1 hD1
      generalize H1 = H at hP hS ⊢
      have hP : va_P (dC, dI) vwCl (([(h0, .inr (2, [.ref h7, .ref h8, .ref h9, .int n0_size, .ref h10, .int n0_names, .int n0_plots, .ref h11, .ref h1, .ref h2, .ref h3, .ref h4, .int n0_ways])), (h1, .inl (cAlong, 25, .inr (.inr (.inr (.inr (fun j => some (h5 j))))))), (h2, .inl (cAlong, 5, .inr (.inr (.inr (.inr (fun j => some (h6 j))))))), (h3, .inl (cint, 5, .inl f_7)), (h4, .inl (cint, 5, .inl f_8))] : va_W) ++ (kk_rowsL h5 clong 40 F5 25 ++ (kk_rowsL h6 clong 5 F6 5))) H := hP
      have hD : va_D A (([(h0, .inr (2, [.ref h7, .ref h8, .ref h9, .int n0_size, .ref h10, .int n0_names, .int n0_plots, .ref h11, .ref h1, .ref h2, .ref h3, .ref h4, .int n0_ways])), (h1, .inl (cAlong, 25, .inr (.inr (.inr (.inr (fun j => some (h5 j))))))), (h2, .inl (cAlong, 5, .inr (.inr (.inr (.inr (fun j => some (h6 j))))))), (h3, .inl (cint, 5, .inl f_7)), (h4, .inl (cint, 5, .inl f_8))] : va_W) ++ (kk_rowsL h5 clong 40 F5 25 ++ (kk_rowsL h6 clong 5 F6 5))) := hD
      refine lv_iadd hx hb dX2_countWays_58 ?_
      refine va_mmin hx hb (hml.trans hl.1.symm) hown (hts (.methodLink RX2 61 Lib.Math.min.name) (List.mem_of_getElem? (i := 10) rfl)) (hts (.static Lib.Math.min.name) (List.mem_of_getElem? (i := 11) rfl)) (hts (.initialized "java/lang/Math") (List.mem_of_getElem? (i := 12) rfl)) (hts (.code Lib.Math.min.name Lib.Math.min.code 2 (some .int)) (List.mem_of_getElem? (i := 13) rfl)) (Nat.le_of_ble_eq_true rfl) (Nat.le_of_ble_eq_true rfl) (Nat.le_of_ble_eq_true rfl) (Nat.le_of_ble_eq_true rfl) dX2_countWays_59 ?_
      refine lv_topi (fun y_10 e_10 => ?_)
      have t_10 : y_10.toInt ≤ 1000000 ∧ y_10.toInt ≤ (n0_ways + r_9).toInt ∧ (y_10.toInt = 1000000 ∨ y_10.toInt = (n0_ways + r_9).toInt) := by rw [e_10]; exact kk_min _ _
      clear e_10
      refine va_put (D := (dC, dI)) (ci := 2) (v := .int y_10) (ty := .int) (C := RX2) (T := TX2) (N := 13) hx hb hts (fun _ h => List.mem_cons_of_mem _ (List.mem_append_right _ h)) tyX2 tyX2_ok nmX2 hown hK hP hD hS 0 rfl rfl 12 (by decide) (hts (.fieldLink RX2 70 "KinkStreet$Deeds" "ways" "I") (List.mem_of_getElem? (i := 2) rfl)) (fun _ h9 => h9) rfl (by decide +kernel) rfl rfl (Nat.le_of_ble_eq_true rfl) dX2_countWays_62 (fun H locs hP hD hS => ?_)
      have hP : va_P (dC, dI) vwCl (([(h0, .inr (2, [.ref h7, .ref h8, .ref h9, .int n0_size, .ref h10, .int n0_names, .int n0_plots, .ref h11, .ref h1, .ref h2, .ref h3, .ref h4, .int y_10])), (h1, .inl (cAlong, 25, .inr (.inr (.inr (.inr (fun j => some (h5 j))))))), (h2, .inl (cAlong, 5, .inr (.inr (.inr (.inr (fun j => some (h6 j))))))), (h3, .inl (cint, 5, .inl f_7)), (h4, .inl (cint, 5, .inl f_8))] : va_W) ++ (kk_rowsL h5 clong 40 F5 25 ++ (kk_rowsL h6 clong 5 F6 5))) H := hP
      have hD : va_D A (([(h0, .inr (2, [.ref h7, .ref h8, .ref h9, .int n0_size, .ref h10, .int n0_names, .int n0_plots, .ref h11, .ref h1, .ref h2, .ref h3, .ref h4, .int y_10])), (h1, .inl (cAlong, 25, .inr (.inr (.inr (.inr (fun j => some (h5 j))))))), (h2, .inl (cAlong, 5, .inr (.inr (.inr (.inr (fun j => some (h6 j))))))), (h3, .inl (cint, 5, .inl f_7)), (h4, .inl (cint, 5, .inl f_8))] : va_W) ++ (kk_rowsL h5 clong 40 F5 25 ++ (kk_rowsL h6 clong 5 F6 5))) := hD
      have hP9 := hP.part (cx := [(h0, .inr (2, [.ref h7, .ref h8, .ref h9, .int n0_size, .ref h10, .int n0_names, .int n0_plots, .ref h11, .ref h1, .ref h2, .ref h3, .ref h4, .int y_10])), (h1, .inl (cAlong, 25, .inr (.inr (.inr (.inr (fun j => some (h5 j))))))), (h2, .inl (cAlong, 5, .inr (.inr (.inr (.inr (fun j => some (h6 j))))))), (h3, .inl (cint, 5, .inl f_7)), (h4, .inl (cint, 5, .inl f_8))]) [0, 1, 2, 3, 4] rfl
      have hD9 := hD.part (cx := [(h0, .inr (2, [.ref h7, .ref h8, .ref h9, .int n0_size, .ref h10, .int n0_names, .int n0_plots, .ref h11, .ref h1, .ref h2, .ref h3, .ref h4, .int y_10])), (h1, .inl (cAlong, 25, .inr (.inr (.inr (.inr (fun j => some (h5 j))))))), (h2, .inl (cAlong, 5, .inr (.inr (.inr (.inr (fun j => some (h6 j))))))), (h3, .inl (cint, 5, .inl f_7)), (h4, .inl (cint, 5, .inl f_8))]) [0, 1, 2, 3, 4] (by decide) rfl
      have hK9 := hK.sub (tys' := []) [] rfl
      exact W.vret hx hb hr (fun t ht hW => ⟨⟨(), rfl, trivial, y_10, f_7, f_8, by rw [ht]; exact hP9, va_K.moved hW.alike hK9, hD9⟩, hS.F ht⟩) hS.2.2 dX2_countWays_65
  · skip
    have hP9 := hP.part (cx := [(h0, .inr (2, [.ref h7, .ref h8, .ref h9, .int n0_size, .ref h10, .int n0_names, .int n0_plots, .ref h11, .ref h1, .ref h2, .ref h3, .ref h4, .int n0_ways])), (h1, .inl (cAlong, 25, .inr (.inr (.inr (.inr (fun j => some (h5 j))))))), (h2, .inl (cAlong, 5, .inr (.inr (.inr (.inr (fun j => some (h6 j))))))), (h3, .inl (cint, 5, .inl f3)), (h4, .inl (cint, 5, .inl f4))]) [0, 1, 2, 3, 4] rfl
    have hD9 := hD.part (cx := [(h0, .inr (2, [.ref h7, .ref h8, .ref h9, .int n0_size, .ref h10, .int n0_names, .int n0_plots, .ref h11, .ref h1, .ref h2, .ref h3, .ref h4, .int n0_ways])), (h1, .inl (cAlong, 25, .inr (.inr (.inr (.inr (fun j => some (h5 j))))))), (h2, .inl (cAlong, 5, .inr (.inr (.inr (.inr (fun j => some (h6 j))))))), (h3, .inl (cint, 5, .inl f3)), (h4, .inl (cint, 5, .inl f4))]) [0, 1, 2, 3, 4] (by decide) rfl
    have hK9 := hK.sub (tys' := []) [] rfl
    exact W.vret hx hb hr (fun t ht hW => ⟨⟨(), rfl, trivial, n0_ways, f3, f4, by rw [ht]; exact hP9, va_K.moved hW.alike hK9, hD9⟩, hS.F ht⟩) hS.2.2 dX2_countWays_15
set_option maxHeartbeats 4000000 in
set_option maxRecDepth 100000 in
theorem g_X2_search_0 (l : Launch) (dC : Nat → ClassId) (dI : Nat → Nat → Nat) (h0 : Nat) (h1 : Nat) (h2 : Nat) (h3 : Nat) (h4 : Nat) (h5 : Nat → Nat) (h6 : Nat → Nat) (h7 : Nat) (h8 : Nat) (h9 : Nat) (h10 : Nat) (h11 : Nat) (cAlong cint clong : ClassId) (sz : Nat) (n0_size : Int32) (n0_names : Int32) (n0_plots : Int32) (n0_ways : Int32) (f3 : Nat → Int32) (f4 : Nat → Int32) (F5 : Nat → Nat → Int64) (F6 : Nat → Nat → Int64) (tn0_size : 0 ≤ n0_size.toInt ∧ n0_size.toInt ≤ 10) (tn0_names : 1 ≤ n0_names.toInt ∧ n0_names.toInt ≤ 5) (tn0_plots : 0 ≤ n0_plots.toInt ∧ n0_plots.toInt ≤ 40) : Met l yX2_search wsX2_search ({ frames := 3, cells := 0, slots := 0, locals := 71 }) (va_Pc [.ref h0, .int 4] (fun U => U.heap.size = sz ∧ va_P (dC, dI) vwCl (([(h0, .inr (2, [.ref h7, .ref h8, .ref h9, .int n0_size, .ref h10, .int n0_names, .int n0_plots, .ref h11, .ref h1, .ref h2, .ref h3, .ref h4, .int n0_ways])), (h1, .inl (cAlong, 25, .inr (.inr (.inr (.inr (fun j => some (h5 j))))))), (h2, .inl (cAlong, 5, .inr (.inr (.inr (.inr (fun j => some (h6 j))))))), (h3, .inl (cint, 5, .inl f3)), (h4, .inl (cint, 5, .inl f4))] : va_W) ++ (kk_rowsL h5 clong 40 F5 25 ++ (kk_rowsL h6 clong 5 F6 5))) U.heap ∧ va_K (dC, dI) vwCl [(cAlong, .array .long), (cint, .int), (clong, .long)] U ∧ va_D (fun _ => True) (([(h0, .inr (2, [.ref h7, .ref h8, .ref h9, .int n0_size, .ref h10, .int n0_names, .int n0_plots, .ref h11, .ref h1, .ref h2, .ref h3, .ref h4, .int n0_ways])), (h1, .inl (cAlong, 25, .inr (.inr (.inr (.inr (fun j => some (h5 j))))))), (h2, .inl (cAlong, 5, .inr (.inr (.inr (.inr (fun j => some (h6 j))))))), (h3, .inl (cint, 5, .inl f3)), (h4, .inl (cint, 5, .inl f4))] : va_W) ++ (kk_rowsL h5 clong 40 F5 25 ++ (kk_rowsL h6 clong 5 F6 5))))) (va_Qv (fun (_ : Unit) => True) (fun (_ : Unit) t => ∃ (m0_ways : Int32) (g3 : Nat → Int32) (g4 : Nat → Int32), va_P (dC, dI) vwCl (([(h0, .inr (2, [.ref h7, .ref h8, .ref h9, .int n0_size, .ref h10, .int n0_names, .int n0_plots, .ref h11, .ref h1, .ref h2, .ref h3, .ref h4, .int m0_ways])), (h1, .inl (cAlong, 25, .inr (.inr (.inr (.inr (fun j => some (h5 j))))))), (h2, .inl (cAlong, 5, .inr (.inr (.inr (.inr (fun j => some (h6 j))))))), (h3, .inl (cint, 5, .inl g3)), (h4, .inl (cint, 5, .inl g4))] : va_W) ++ (kk_rowsL h5 clong 40 F5 25 ++ (kk_rowsL h6 clong 5 F6 5))) t.heap ∧ va_K (dC, dI) vwCl [] t ∧ va_D (va_A (([(h0, .inr (2, [.ref h7, .ref h8, .ref h9, .int n0_size, .ref h10, .int n0_names, .int n0_plots, .ref h11, .ref h1, .ref h2, .ref h3, .ref h4, .int n0_ways])), (h1, .inl (cAlong, 25, .inr (.inr (.inr (.inr (fun j => some (h5 j))))))), (h2, .inl (cAlong, 5, .inr (.inr (.inr (.inr (fun j => some (h6 j))))))), (h3, .inl (cint, 5, .inl f3)), (h4, .inl (cint, 5, .inl f4))] : va_W) ++ (kk_rowsL h5 clong 40 F5 25 ++ (kk_rowsL h6 clong 5 F6 5))) sz) (([(h0, .inr (2, [.ref h7, .ref h8, .ref h9, .int n0_size, .ref h10, .int n0_names, .int n0_plots, .ref h11, .ref h1, .ref h2, .ref h3, .ref h4, .int m0_ways])), (h1, .inl (cAlong, 25, .inr (.inr (.inr (.inr (fun j => some (h5 j))))))), (h2, .inl (cAlong, 5, .inr (.inr (.inr (.inr (fun j => some (h6 j))))))), (h3, .inl (cint, 5, .inl g3)), (h4, .inl (cint, 5, .inl g4))] : va_W) ++ (kk_rowsL h5 clong 40 F5 25 ++ (kk_rowsL h6 clong 5 F6 5)))) (va_A (([(h0, .inr (2, [.ref h7, .ref h8, .ref h9, .int n0_size, .ref h10, .int n0_names, .int n0_plots, .ref h11, .ref h1, .ref h2, .ref h3, .ref h4, .int n0_ways])), (h1, .inl (cAlong, 25, .inr (.inr (.inr (.inr (fun j => some (h5 j))))))), (h2, .inl (cAlong, 5, .inr (.inr (.inr (.inr (fun j => some (h6 j))))))), (h3, .inl (cint, 5, .inl f3)), (h4, .inl (cint, 5, .inl f4))] : va_W) ++ (kk_rowsL h5 clong 40 F5 25 ++ (kk_rowsL h6 clong 5 F6 5))) sz)) 0 0 (va_A (([(h0, .inr (2, [.ref h7, .ref h8, .ref h9, .int n0_size, .ref h10, .int n0_names, .int n0_plots, .ref h11, .ref h1, .ref h2, .ref h3, .ref h4, .int n0_ways])), (h1, .inl (cAlong, 25, .inr (.inr (.inr (.inr (fun j => some (h5 j))))))), (h2, .inl (cAlong, 5, .inr (.inr (.inr (.inr (fun j => some (h6 j))))))), (h3, .inl (cint, 5, .inl f3)), (h4, .inl (cint, 5, .inl f4))] : va_W) ++ (kk_rowsL h5 clong 40 F5 25 ++ (kk_rowsL h6 clong 5 F6 5))) sz) := by
  refine Met.ofW (cc := cX2_search) (maxL := 3) (ret := none) (by decide) rfl ?_
  intro p e s m args below meth c s₁ B hml hv
  obtain ⟨rfl, hsz, hP, hK, hD0⟩ := hv
  have hx := B.exec
  have hb := B.bytes
  have hr := B.returns
  have hts := atoms_spec (ws := wsX2_search) B.pre
  have hown : s.vm.findClass RX2 = some m.cls := findClass_of_methodNamed B.named
  have hlocks := B.notSynchronized
  subst hsz
  have hD := hD0.self (sz := s.heap.size)
  generalize hAe : va_A (([(h0, .inr (2, [.ref h7, .ref h8, .ref h9, .int n0_size, .ref h10, .int n0_names, .int n0_plots, .ref h11, .ref h1, .ref h2, .ref h3, .ref h4, .int n0_ways])), (h1, .inl (cAlong, 25, .inr (.inr (.inr (.inr (fun j => some (h5 j))))))), (h2, .inl (cAlong, 5, .inr (.inr (.inr (.inr (fun j => some (h6 j))))))), (h3, .inl (cint, 5, .inl f3)), (h4, .inl (cint, 5, .inl f4))] : va_W) ++ (kk_rowsL h5 clong 40 F5 25 ++ (kk_rowsL h6 clong 5 F6 5))) s.heap.size = A at hD ⊢
  have hA : ∀ q : Nat, s.heap.size ≤ q → A q := fun q h => by rw [← hAe]; exact Or.inr h
  have hS : va_S A s.heap s.heap [] := va_S.rf
  have hP : va_P (dC, dI) vwCl (([(h0, .inr (2, [.ref h7, .ref h8, .ref h9, .int n0_size, .ref h10, .int n0_names, .int n0_plots, .ref h11, .ref h1, .ref h2, .ref h3, .ref h4, .int n0_ways])), (h1, .inl (cAlong, 25, .inr (.inr (.inr (.inr (fun j => some (h5 j))))))), (h2, .inl (cAlong, 5, .inr (.inr (.inr (.inr (fun j => some (h6 j))))))), (h3, .inl (cint, 5, .inl f3)), (h4, .inl (cint, 5, .inl f4))] : va_W) ++ (kk_rowsL h5 clong 40 F5 25 ++ (kk_rowsL h6 clong 5 F6 5))) s.heap := hP
  have hl := lv_entry ([.ref h0, .int 4]) (n := 3) (Nat.le_of_ble_eq_true rfl)
  rw [lg_entry_eq]
  generalize (lg_sl ([.ref h0, .int 4]) ++ List.replicate (3 - (lg_sl ([.ref h0, .int 4])).length) Slot.unset).toArray = ls at hl ⊢
  have hl : lv_has ls 3 [(0, .ref h0), (1, .int 4)] := hl
  refine lv_iload_n hx hb dX2_search_0 rfl (lv_at hl 1 rfl) ?_
  refine lv_aload_n hx hb dX2_search_1 rfl (lv_at hl 0 rfl) ?_
  refine va_get (D := (dC, dI)) (ci := 2) (v := .int n0_names) (C := RX2) (T := TX2) (N := 13) hx hb hts (fun _ h => List.mem_cons_of_mem _ (List.mem_append_right _ h)) hown hK hP 0 rfl rfl 5 (by decide) (hts (.fieldLink RX2 49 "KinkStreet$Deeds" "names" "I") (List.mem_of_getElem? (i := 1) rfl)) (fun _ h9 => h9) rfl dX2_search_2 ?_
  refine lv_iconst (v := 1) hx hb dX2_search_5 (by decide) ?_
  refine lv_isub hx hb dX2_search_6 ?_
  refine lv_icmp_lt (tgt := 16) hx hb dX2_search_7 (by decide) (fun c_1 => ?_) (fun c_1 => ?_)
  · have t_1 : 4 < (n0_names - 1).toInt := kk_lt c_1
    exfalso; have := kk_sub2 (x := n0_names) (y := 1) (a := n0_names.toInt) (b := 1) rfl rfl (by omega) (by omega); omega
  · have t_1 : (n0_names - 1).toInt ≤ 4 := kk_nlt c_1
    refine lv_aload_n hx hb dX2_search_10 rfl (lv_at hl 0 rfl) ?_
    refine lv_iload_n hx hb dX2_search_11 rfl (lv_at hl 1 rfl) ?_
    have hPc := hP.part (cx := [(h0, .inr (2, [.ref h7, .ref h8, .ref h9, .int n0_size, .ref h10, .int n0_names, .int n0_plots, .ref h11, .ref h1, .ref h2, .ref h3, .ref h4, .int n0_ways])), (h1, .inl (cAlong, 25, .inr (.inr (.inr (.inr (fun j => some (h5 j))))))), (h2, .inl (cAlong, 5, .inr (.inr (.inr (.inr (fun j => some (h6 j))))))), (h3, .inl (cint, 5, .inl f3)), (h4, .inl (cint, 5, .inl f4))]) [0, 1, 2, 3, 4] rfl
    have hDc := hD.part (cx := [(h0, .inr (2, [.ref h7, .ref h8, .ref h9, .int n0_size, .ref h10, .int n0_names, .int n0_plots, .ref h11, .ref h1, .ref h2, .ref h3, .ref h4, .int n0_ways])), (h1, .inl (cAlong, 25, .inr (.inr (.inr (.inr (fun j => some (h5 j))))))), (h2, .inl (cAlong, 5, .inr (.inr (.inr (.inr (fun j => some (h6 j))))))), (h3, .inl (cint, 5, .inl f3)), (h4, .inl (cint, 5, .inl f4))]) [0, 1, 2, 3, 4] (by decide) rfl
    have hFc := va_freeP (cx := [(h0, .inr (2, [.ref h7, .ref h8, .ref h9, .int n0_size, .ref h10, .int n0_names, .int n0_plots, .ref h11, .ref h1, .ref h2, .ref h3, .ref h4, .int n0_ways])), (h1, .inl (cAlong, 25, .inr (.inr (.inr (.inr (fun j => some (h5 j))))))), (h2, .inl (cAlong, 5, .inr (.inr (.inr (.inr (fun j => some (h6 j))))))), (h3, .inl (cint, 5, .inl f3)), (h4, .inl (cint, 5, .inl f4))]) hD hS hA [0, 1, 2, 3, 4] rfl
    have hKc := hK.sub (tys' := [(cAlong, .array .long), (cint, .int), (clong, .long)]) [0, 1, 2] rfl
    refine va_callv (va_runV (As := [.int 4]) (rest := []) ⟨hx, hb, hml, hown, hts⟩ (g_X2_countWays_0 l dC dI h0 h1 h2 h3 h4 h5 h6 h7 h8 h9 h10 h11 cAlong cint clong s.heap.size n0_size n0_names n0_plots n0_ways f3 f4 F5 F6 (by show 0 ≤ (n0_size : Int32).toInt ∧ (n0_size : Int32).toInt ≤ 10; first | decide | (constructor <;> (have := kk_sub2 (x := n0_names) (y := 1) (a := n0_names.toInt) (b := 1) rfl rfl (by omega) (by omega); omega))) (by show 1 ≤ (n0_names : Int32).toInt ∧ (n0_names : Int32).toInt ≤ 5; first | decide | (constructor <;> (have := kk_sub2 (x := n0_names) (y := 1) (a := n0_names.toInt) (b := 1) rfl rfl (by omega) (by omega); omega))) (by show 0 ≤ (n0_plots : Int32).toInt ∧ (n0_plots : Int32).toInt ≤ 40; first | decide | (constructor <;> (have := kk_sub2 (x := n0_names) (y := 1) (a := n0_names.toInt) (b := 1) rfl rfl (by omega) (by omega); omega)))) (cwV 1 hts gX2_search_X2_countWays rfl rfl rfl (by decide +kernel) ⟨Nat.le_of_ble_eq_true rfl, Nat.le_of_ble_eq_true rfl⟩) ⟨fun a U g mk q => by obtain ⟨q0, q1, qP, qK, qD⟩ := q; exact ⟨q0, q1, qP, va_K.moved (u := U) (U := U.calling g mk a) (Vm.Alike.refl U.vm) qK, qD⟩, va_recv hKc hPc (ci := 2) (q0 := 0) rfl rfl, fun U hU hW => ⟨rfl, by rw [hU], by rw [hU]; exact hPc, va_K.moved hW.alike hKc, hDc.weaken (fun _ _ _ _ => trivial)⟩⟩ rfl rfl hl.1 rfl (lv_room (Nat.le_of_ble_eq_true rfl)) dX2_search_12 ⟨Nat.le_of_ble_eq_true rfl, Nat.le_of_ble_eq_true rfl⟩) hS (fun q _ h => hFc q h) hFc (fun u t H1 locs ht hvm hw hB hz1 hk1 hS => ?_)
    obtain ⟨y_3, f_4, f_5, hP1, hK1, hD1⟩ := hB
    rw [ht] at hP1
    have hK1 := va_K.moved hvm.symm hK1
    obtain ⟨hP, hD⟩ := va_joinP (cx := [(h0, .inr (2, [.ref h7, .ref h8, .ref h9, .int n0_size, .ref h10, .int n0_names, .int n0_plots, .ref h11, .ref h1, .ref h2, .ref h3, .ref h4, .int n0_ways])), (h1, .inl (cAlong, 25, .inr (.inr (.inr (.inr (fun j => some (h5 j))))))), (h2, .inl (cAlong, 5, .inr (.inr (.inr (.inr (fun j => some (h6 j))))))), (h3, .inl (cint, 5, .inl f3)), (h4, .inl (cint, 5, .inl f4))]) (wr := []) (rx := [(h0, .inr (2, [.ref h7, .ref h8, .ref h9, .int n0_size, .ref h10, .int n0_names, .int n0_plots, .ref h11, .ref h1, .ref h2, .ref h3, .ref h4, .int y_3])), (h1, .inl (cAlong, 25, .inr (.inr (.inr (.inr (fun j => some (h5 j))))))), (h2, .inl (cAlong, 5, .inr (.inr (.inr (.inr (fun j => some (h6 j))))))), (h3, .inl (cint, 5, .inl f_4)), (h4, .inl (cint, 5, .inl f_5))]) hP hD [0, 1, 2, 3, 4] [] rfl rfl (by decide) (by decide) hk1 hFc hP1 hD1
    generalize H1 = H at hP hS ⊢
    have hP : va_P (dC, dI) vwCl (([(h0, .inr (2, [.ref h7, .ref h8, .ref h9, .int n0_size, .ref h10, .int n0_names, .int n0_plots, .ref h11, .ref h1, .ref h2, .ref h3, .ref h4, .int y_3])), (h1, .inl (cAlong, 25, .inr (.inr (.inr (.inr (fun j => some (h5 j))))))), (h2, .inl (cAlong, 5, .inr (.inr (.inr (.inr (fun j => some (h6 j))))))), (h3, .inl (cint, 5, .inl f_4)), (h4, .inl (cint, 5, .inl f_5))] : va_W) ++ (kk_rowsL h5 clong 40 F5 25 ++ (kk_rowsL h6 clong 5 F6 5))) H := hP
    have hD : va_D A (([(h0, .inr (2, [.ref h7, .ref h8, .ref h9, .int n0_size, .ref h10, .int n0_names, .int n0_plots, .ref h11, .ref h1, .ref h2, .ref h3, .ref h4, .int y_3])), (h1, .inl (cAlong, 25, .inr (.inr (.inr (.inr (fun j => some (h5 j))))))), (h2, .inl (cAlong, 5, .inr (.inr (.inr (.inr (fun j => some (h6 j))))))), (h3, .inl (cint, 5, .inl f_4)), (h4, .inl (cint, 5, .inl f_5))] : va_W) ++ (kk_rowsL h5 clong 40 F5 25 ++ (kk_rowsL h6 clong 5 F6 5))) := hD
    have hP9 := hP.part (cx := [(h0, .inr (2, [.ref h7, .ref h8, .ref h9, .int n0_size, .ref h10, .int n0_names, .int n0_plots, .ref h11, .ref h1, .ref h2, .ref h3, .ref h4, .int y_3])), (h1, .inl (cAlong, 25, .inr (.inr (.inr (.inr (fun j => some (h5 j))))))), (h2, .inl (cAlong, 5, .inr (.inr (.inr (.inr (fun j => some (h6 j))))))), (h3, .inl (cint, 5, .inl f_4)), (h4, .inl (cint, 5, .inl f_5))]) [0, 1, 2, 3, 4] rfl
    have hD9 := hD.part (cx := [(h0, .inr (2, [.ref h7, .ref h8, .ref h9, .int n0_size, .ref h10, .int n0_names, .int n0_plots, .ref h11, .ref h1, .ref h2, .ref h3, .ref h4, .int y_3])), (h1, .inl (cAlong, 25, .inr (.inr (.inr (.inr (fun j => some (h5 j))))))), (h2, .inl (cAlong, 5, .inr (.inr (.inr (.inr (fun j => some (h6 j))))))), (h3, .inl (cint, 5, .inl f_4)), (h4, .inl (cint, 5, .inl f_5))]) [0, 1, 2, 3, 4] (by decide) rfl
    have hK9 := hK.sub (tys' := []) [] rfl
    exact W.vret hx hb hr (fun t ht hW => ⟨⟨(), rfl, trivial, y_3, f_4, f_5, by rw [ht]; exact hP9, va_K.moved hW.alike hK9, hD9⟩, hS.F ht⟩) hS.2.2 dX2_search_15
