set_option maxHeartbeats 4000000 in
set_option maxRecDepth 100000 in
theorem g_X2_countWays_4 (l : Launch) (dC : Nat → ClassId) (dI : Nat → Nat → Nat) (h0 : Nat) (h1 : Nat) (h2 : Nat) (h3 : Nat) (h4 : Nat) (h5 : Nat → Nat) (h6 : Nat → Nat) (h7 : Nat) (h8 : Nat) (h9 : Nat) (h10 : Nat) (h11 : Nat) (cAlong cint clong : ClassId) (sz : Nat) (n0_size : Int32) (n0_names : Int32) (n0_plots : Int32) (n0_ways : Int32) (f3 : Nat → Int32) (f4 : Nat → Int32) (F5 : Nat → Nat → Int64) (F6 : Nat → Nat → Int64) (tn0_size : 0 ≤ n0_size.toInt ∧ n0_size.toInt ≤ 10) (tn0_names : 1 ≤ n0_names.toInt ∧ n0_names.toInt ≤ 5) (tn0_plots : 0 ≤ n0_plots.toInt ∧ n0_plots.toInt ≤ 40) : Met l yX2_countWays wsX2_countWays ({ frames := 2, cells := 0, slots := 0, locals := 48 }) (va_Pc [.ref h0, .int 0] (fun U => U.heap.size = sz ∧ va_P (dC, dI) vwCl (([(h0, Sum.inr (2, [Value.ref h7, Value.ref h8, Value.ref h9, Value.int n0_size, Value.ref h10, Value.int n0_names, Value.int n0_plots, Value.ref h11, Value.ref h1, Value.ref h2, Value.ref h3, Value.ref h4, Value.int n0_ways])), (h1, Sum.inl (cAlong, 25, Sum.inr (Sum.inr (Sum.inr (Sum.inr (fun j => some (h5 j))))))), (h2, Sum.inl (cAlong, 5, Sum.inr (Sum.inr (Sum.inr (Sum.inr (fun j => some (h6 j))))))), (h3, Sum.inl (cint, 5, Sum.inl f3)), (h4, Sum.inl (cint, 5, Sum.inl f4))] : va_W) ++ (kk_rowsL h5 clong 40 F5 25 ++ (kk_rowsL h6 clong 5 F6 5))) U.heap ∧ va_K (dC, dI) vwCl [(cAlong, .array .long), (cint, .int), (clong, .long)] U ∧ va_D (fun _ => True) (([(h0, Sum.inr (2, [Value.ref h7, Value.ref h8, Value.ref h9, Value.int n0_size, Value.ref h10, Value.int n0_names, Value.int n0_plots, Value.ref h11, Value.ref h1, Value.ref h2, Value.ref h3, Value.ref h4, Value.int n0_ways])), (h1, Sum.inl (cAlong, 25, Sum.inr (Sum.inr (Sum.inr (Sum.inr (fun j => some (h5 j))))))), (h2, Sum.inl (cAlong, 5, Sum.inr (Sum.inr (Sum.inr (Sum.inr (fun j => some (h6 j))))))), (h3, Sum.inl (cint, 5, Sum.inl f3)), (h4, Sum.inl (cint, 5, Sum.inl f4))] : va_W) ++ (kk_rowsL h5 clong 40 F5 25 ++ (kk_rowsL h6 clong 5 F6 5))))) (va_Qv (fun (_ : Unit) => True) (fun (_ : Unit) t => ∃ (m0_ways : Int32) (g3 : Nat → Int32) (g4 : Nat → Int32), va_P (dC, dI) vwCl (([(h0, Sum.inr (2, [Value.ref h7, Value.ref h8, Value.ref h9, Value.int n0_size, Value.ref h10, Value.int n0_names, Value.int n0_plots, Value.ref h11, Value.ref h1, Value.ref h2, Value.ref h3, Value.ref h4, Value.int m0_ways])), (h1, Sum.inl (cAlong, 25, Sum.inr (Sum.inr (Sum.inr (Sum.inr (fun j => some (h5 j))))))), (h2, Sum.inl (cAlong, 5, Sum.inr (Sum.inr (Sum.inr (Sum.inr (fun j => some (h6 j))))))), (h3, Sum.inl (cint, 5, Sum.inl g3)), (h4, Sum.inl (cint, 5, Sum.inl g4))] : va_W) ++ (kk_rowsL h5 clong 40 F5 25 ++ (kk_rowsL h6 clong 5 F6 5))) t.heap ∧ va_K (dC, dI) vwCl [] t ∧ va_D (va_A (([(h0, Sum.inr (2, [Value.ref h7, Value.ref h8, Value.ref h9, Value.int n0_size, Value.ref h10, Value.int n0_names, Value.int n0_plots, Value.ref h11, Value.ref h1, Value.ref h2, Value.ref h3, Value.ref h4, Value.int n0_ways])), (h1, Sum.inl (cAlong, 25, Sum.inr (Sum.inr (Sum.inr (Sum.inr (fun j => some (h5 j))))))), (h2, Sum.inl (cAlong, 5, Sum.inr (Sum.inr (Sum.inr (Sum.inr (fun j => some (h6 j))))))), (h3, Sum.inl (cint, 5, Sum.inl f3)), (h4, Sum.inl (cint, 5, Sum.inl f4))] : va_W) ++ (kk_rowsL h5 clong 40 F5 25 ++ (kk_rowsL h6 clong 5 F6 5))) sz) (([(h0, Sum.inr (2, [Value.ref h7, Value.ref h8, Value.ref h9, Value.int n0_size, Value.ref h10, Value.int n0_names, Value.int n0_plots, Value.ref h11, Value.ref h1, Value.ref h2, Value.ref h3, Value.ref h4, Value.int m0_ways])), (h1, Sum.inl (cAlong, 25, Sum.inr (Sum.inr (Sum.inr (Sum.inr (fun j => some (h5 j))))))), (h2, Sum.inl (cAlong, 5, Sum.inr (Sum.inr (Sum.inr (Sum.inr (fun j => some (h6 j))))))), (h3, Sum.inl (cint, 5, Sum.inl g3)), (h4, Sum.inl (cint, 5, Sum.inl g4))] : va_W) ++ (kk_rowsL h5 clong 40 F5 25 ++ (kk_rowsL h6 clong 5 F6 5)))) (va_A (([(h0, Sum.inr (2, [Value.ref h7, Value.ref h8, Value.ref h9, Value.int n0_size, Value.ref h10, Value.int n0_names, Value.int n0_plots, Value.ref h11, Value.ref h1, Value.ref h2, Value.ref h3, Value.ref h4, Value.int n0_ways])), (h1, Sum.inl (cAlong, 25, Sum.inr (Sum.inr (Sum.inr (Sum.inr (fun j => some (h5 j))))))), (h2, Sum.inl (cAlong, 5, Sum.inr (Sum.inr (Sum.inr (Sum.inr (fun j => some (h6 j))))))), (h3, Sum.inl (cint, 5, Sum.inl f3)), (h4, Sum.inl (cint, 5, Sum.inl f4))] : va_W) ++ (kk_rowsL h5 clong 40 F5 25 ++ (kk_rowsL h6 clong 5 F6 5))) sz)) 0 0 (va_A (([(h0, Sum.inr (2, [Value.ref h7, Value.ref h8, Value.ref h9, Value.int n0_size, Value.ref h10, Value.int n0_names, Value.int n0_plots, Value.ref h11, Value.ref h1, Value.ref h2, Value.ref h3, Value.ref h4, Value.int n0_ways])), (h1, Sum.inl (cAlong, 25, Sum.inr (Sum.inr (Sum.inr (Sum.inr (fun j => some (h5 j))))))), (h2, Sum.inl (cAlong, 5, Sum.inr (Sum.inr (Sum.inr (Sum.inr (fun j => some (h6 j))))))), (h3, Sum.inl (cint, 5, Sum.inl f3)), (h4, Sum.inl (cint, 5, Sum.inl f4))] : va_W) ++ (kk_rowsL h5 clong 40 F5 25 ++ (kk_rowsL h6 clong 5 F6 5))) sz) := by
  refine Met.ofW (cc := cX2_countWays) (maxL := 4) (ret := none) (by decide) rfl ?_
  intro p e s m args below meth c s₁ B hml hv
  obtain ⟨rfl, hsz, hP, hK, hD0⟩ := hv
  have hx := B.exec
  have hb := B.bytes
  have hr := B.returns
  have hts := atoms_spec (ws := wsX2_countWays) B.pre
  have hown : s.vm.findClass RX2 = some m.cls := findClass_of_methodNamed B.named
  have hlocks := B.notSynchronized
  subst hsz
  have hD := hD0.self (sz := s.heap.size)
  generalize hAe : va_A (([(h0, Sum.inr (2, [Value.ref h7, Value.ref h8, Value.ref h9, Value.int n0_size, Value.ref h10, Value.int n0_names, Value.int n0_plots, Value.ref h11, Value.ref h1, Value.ref h2, Value.ref h3, Value.ref h4, Value.int n0_ways])), (h1, Sum.inl (cAlong, 25, Sum.inr (Sum.inr (Sum.inr (Sum.inr (fun j => some (h5 j))))))), (h2, Sum.inl (cAlong, 5, Sum.inr (Sum.inr (Sum.inr (Sum.inr (fun j => some (h6 j))))))), (h3, Sum.inl (cint, 5, Sum.inl f3)), (h4, Sum.inl (cint, 5, Sum.inl f4))] : va_W) ++ (kk_rowsL h5 clong 40 F5 25 ++ (kk_rowsL h6 clong 5 F6 5))) s.heap.size = A at hD ⊢
  have hA : ∀ q : Nat, s.heap.size ≤ q → A q := fun q h => by rw [← hAe]; exact Or.inr h
  have hS : va_S A s.heap s.heap [] := va_S.rf
  have hP : va_P (dC, dI) vwCl (([(h0, Sum.inr (2, [Value.ref h7, Value.ref h8, Value.ref h9, Value.int n0_size, Value.ref h10, Value.int n0_names, Value.int n0_plots, Value.ref h11, Value.ref h1, Value.ref h2, Value.ref h3, Value.ref h4, Value.int n0_ways])), (h1, Sum.inl (cAlong, 25, Sum.inr (Sum.inr (Sum.inr (Sum.inr (fun j => some (h5 j))))))), (h2, Sum.inl (cAlong, 5, Sum.inr (Sum.inr (Sum.inr (Sum.inr (fun j => some (h6 j))))))), (h3, Sum.inl (cint, 5, Sum.inl f3)), (h4, Sum.inl (cint, 5, Sum.inl f4))] : va_W) ++ (kk_rowsL h5 clong 40 F5 25 ++ (kk_rowsL h6 clong 5 F6 5))) s.heap := hP
  have hl := lv_entry ([.ref h0, .int 0]) (n := 4) (Nat.le_of_ble_eq_true rfl)
  rw [lg_entry_eq]
  generalize (lg_sl ([.ref h0, .int 0]) ++ List.replicate (4 - (lg_sl ([.ref h0, .int 0])).length) Slot.unset).toArray = ls at hl ⊢
  have hl : lv_has ls 4 [(0, .ref h0), (1, .int 0)] := hl
  refine lv_aload_n hx hb dX2_countWays_0 rfl (lv_at hl 0 rfl) ?_
  refine va_get (D := (dC, dI)) (ci := 2) (v := .ref h2) (C := RX2) (T := TX2) (N := 13) hx hb hts (fun _ h => List.mem_cons_of_mem _ (List.mem_append_right _ h)) hown hK hP 0 rfl rfl 9 (by decide) (hts (.fieldLink RX2 32 "KinkStreet$Deeds" "open" "[[J") (List.mem_of_getElem? (i := 1) rfl)) (fun _ h9 => h9) rfl dX2_countWays_1 ?_
  refine lv_iload_n hx hb dX2_countWays_4 rfl (lv_at hl 1 rfl) ?_
  have hi_1 : vp_in (0 : Int32) 5 := (by unfold vp_in; decide)
  have hk_1 : (0 : Int32).toNatClampNeg < 5 := Nat.not_le.mp fun q => hi_1 (Or.inr q)
  refine kk_aald hx hb hK hP 2 0 rfl rfl hi_1 dX2_countWays_5 ?_
  refine W.eq (g2 := F0 m 6 ls [.ref (h6 (0 : Int32).toNatClampNeg)]) rfl ?_
  refine lv_iload_n hx hb dX2_countWays_6 rfl (lv_at hl 1 rfl) ?_
  refine va_lald hx hb hK hP _ 2 (kk_getr (kk_getr (kk_rowL hk_1))) rfl (by unfold vp_in; decide) dX2_countWays_7 ?_
  refine lv_topl (fun y_2 e_2 => ?_)
  clear e_2
  refine lv_lstore_n (lv' := [(2, .long y_2), (0, .ref h0), (1, .int 0)]) hx hb dX2_countWays_8 rfl hl (by decide) rfl (fun ls hl => ?_)
  refine lv_lload_n hx hb dX2_countWays_9 rfl (lv_at hl 0 rfl) ?_
  refine lv_lconst (v := 0) hx hb dX2_countWays_10 (by decide) ?_
  refine W.lcmp hx hb dX2_countWays_11 ?_
  refine lv_if_ne (tgt := 16) hx hb dX2_countWays_12 (by decide) (fun _ => ?_) (fun _ => ?_)
  · skip
    refine lv_aload_n hx hb dX2_countWays_16 rfl (lv_at hl 1 rfl) ?_
    refine va_get (D := (dC, dI)) (ci := 2) (v := .int n0_ways) (C := RX2) (T := TX2) (N := 13) hx hb hts (fun _ h => List.mem_cons_of_mem _ (List.mem_append_right _ h)) hown hK hP 0 rfl rfl 12 (by decide) (hts (.fieldLink RX2 70 "KinkStreet$Deeds" "ways" "I") (List.mem_of_getElem? (i := 2) rfl)) (fun _ h9 => h9) rfl dX2_countWays_17 ?_
    refine lv_if_ne (tgt := 47) hx hb dX2_countWays_20 (by decide) (fun c_3 => ?_) (fun c_3 => ?_)
    · have t_3 : n0_ways.toInt ≠ 0 := kk_ne c_3
      refine lv_aload_n hx hb dX2_countWays_47 rfl (lv_at hl 1 rfl) ?_
      refine lv_ldc hx hb hown (hts _ (List.mem_of_getElem? (i := 9) rfl)) dX2_countWays_48 ?_
      refine lv_aload_n hx hb dX2_countWays_50 rfl (lv_at hl 1 rfl) ?_
      refine va_get (D := (dC, dI)) (ci := 2) (v := .int n0_ways) (C := RX2) (T := TX2) (N := 13) hx hb hts (fun _ h => List.mem_cons_of_mem _ (List.mem_append_right _ h)) hown hK hP 0 rfl rfl 12 (by decide) (hts (.fieldLink RX2 70 "KinkStreet$Deeds" "ways" "I") (List.mem_of_getElem? (i := 2) rfl)) (fun _ h9 => h9) rfl dX2_countWays_51 ?_
      refine lv_lload_n hx hb dX2_countWays_54 rfl (lv_at hl 0 rfl) ?_
      obtain ⟨hPc, hDc, hFc⟩ := kk_cutout (wc := []) hP hD hS hA [] (by decide) rfl
      have hKc := hK.sub (tys' := []) [] rfl
      refine va_calli (va_runS (As := [.long y_2]) (rest := [.int n0_ways, .int 1000000, .ref h0]) ⟨hx, hb, hml, hown, hts⟩ (g_J13_bitCount_95d88_0 l dC dI s.heap.size y_2 (y_2.toInt) rfl) (va_cwS 1 hts gX2_countWays_J13_bitCount_95d88 rfl rfl rfl (by decide +kernel) ⟨Nat.le_of_ble_eq_true rfl, Nat.le_of_ble_eq_true rfl⟩) ⟨fun a U g mk q => by obtain ⟨q0, q1, qP, qK, qD⟩ := q; exact ⟨q0, q1, qP, va_K.moved (u := U) (U := U.calling g mk a) (Vm.Alike.refl U.vm) qK, qD⟩, fun U hU hW => ⟨rfl, by rw [hU], by rw [hU]; exact hPc, va_K.moved hW.alike hKc, hDc.weaken (fun _ _ _ _ => trivial)⟩⟩ rfl rfl hl.1 rfl (lv_room (Nat.le_of_ble_eq_true rfl)) dX2_countWays_55 ⟨Nat.le_of_ble_eq_true rfl, Nat.le_of_ble_eq_true rfl⟩) hS (fun q _ h => hFc q h) hFc (fun r_4 u t H1 locs ht hvm hw hB hz1 hk1 hS => ?_)
      obtain ⟨hP1, hK1, hD1⟩ := hB
      rw [ht] at hP1
      have hK1 := va_K.moved hvm.symm hK1
      obtain ⟨hP, hD⟩ := va_joinQ (cx := []) (wr := [(h0, Sum.inr (2, [Value.ref h7, Value.ref h8, Value.ref h9, Value.int n0_size, Value.ref h10, Value.int n0_names, Value.int n0_plots, Value.ref h11, Value.ref h1, Value.ref h2, Value.ref h3, Value.ref h4, Value.int n0_ways])), (h1, Sum.inl (cAlong, 25, Sum.inr (Sum.inr (Sum.inr (Sum.inr (fun j => some (h5 j))))))), (h2, Sum.inl (cAlong, 5, Sum.inr (Sum.inr (Sum.inr (Sum.inr (fun j => some (h6 j))))))), (h3, Sum.inl (cint, 5, Sum.inl f3)), (h4, Sum.inl (cint, 5, Sum.inl f4))]) (w1 := []) hP hD [] [0, 1, 2, 3, 4] rfl rfl (by decide) (by decide) hk1 hFc hP1 hD1
      generalize H1 = H at hP hS ⊢
      have hP : va_P (dC, dI) vwCl (([(h0, Sum.inr (2, [Value.ref h7, Value.ref h8, Value.ref h9, Value.int n0_size, Value.ref h10, Value.int n0_names, Value.int n0_plots, Value.ref h11, Value.ref h1, Value.ref h2, Value.ref h3, Value.ref h4, Value.int n0_ways])), (h1, Sum.inl (cAlong, 25, Sum.inr (Sum.inr (Sum.inr (Sum.inr (fun j => some (h5 j))))))), (h2, Sum.inl (cAlong, 5, Sum.inr (Sum.inr (Sum.inr (Sum.inr (fun j => some (h6 j))))))), (h3, Sum.inl (cint, 5, Sum.inl f3)), (h4, Sum.inl (cint, 5, Sum.inl f4))] : va_W) ++ (kk_rowsL h5 clong 40 F5 25 ++ (kk_rowsL h6 clong 5 F6 5))) H := hP
      have hD : va_D A (([(h0, Sum.inr (2, [Value.ref h7, Value.ref h8, Value.ref h9, Value.int n0_size, Value.ref h10, Value.int n0_names, Value.int n0_plots, Value.ref h11, Value.ref h1, Value.ref h2, Value.ref h3, Value.ref h4, Value.int n0_ways])), (h1, Sum.inl (cAlong, 25, Sum.inr (Sum.inr (Sum.inr (Sum.inr (fun j => some (h5 j))))))), (h2, Sum.inl (cAlong, 5, Sum.inr (Sum.inr (Sum.inr (Sum.inr (fun j => some (h6 j))))))), (h3, Sum.inl (cint, 5, Sum.inl f3)), (h4, Sum.inl (cint, 5, Sum.inl f4))] : va_W) ++ (kk_rowsL h5 clong 40 F5 25 ++ (kk_rowsL h6 clong 5 F6 5))) := hD
      refine lv_iadd hx hb dX2_countWays_58 ?_
      refine va_mmin hx hb (hml.trans hl.1.symm) hown (hts (.methodLink RX2 61 Lib.Math.min.name) (List.mem_of_getElem? (i := 10) rfl)) (hts (.static Lib.Math.min.name) (List.mem_of_getElem? (i := 11) rfl)) (hts (.initialized "java/lang/Math") (List.mem_of_getElem? (i := 12) rfl)) (hts (.code Lib.Math.min.name Lib.Math.min.code 2 (some .int)) (List.mem_of_getElem? (i := 13) rfl)) (Nat.le_of_ble_eq_true rfl) (Nat.le_of_ble_eq_true rfl) (Nat.le_of_ble_eq_true rfl) (Nat.le_of_ble_eq_true rfl) dX2_countWays_59 ?_
      refine lv_topi (fun y_5 e_5 => ?_)
      have t_5 : y_5.toInt ≤ 1000000 ∧ y_5.toInt ≤ (n0_ways + r_4).toInt ∧ (y_5.toInt = 1000000 ∨ y_5.toInt = (n0_ways + r_4).toInt) := by rw [e_5]; exact kk_min _ _
      clear e_5
      refine va_put (D := (dC, dI)) (ci := 2) (v := .int y_5) (ty := .int) (C := RX2) (T := TX2) (N := 13) hx hb hts (fun _ h => List.mem_cons_of_mem _ (List.mem_append_right _ h)) tyX2 tyX2_ok nmX2 hown hK hP hD hS 0 rfl rfl 12 (by decide) (hts (.fieldLink RX2 70 "KinkStreet$Deeds" "ways" "I") (List.mem_of_getElem? (i := 2) rfl)) (fun _ h9 => h9) rfl (by decide +kernel) rfl rfl (Nat.le_of_ble_eq_true rfl) dX2_countWays_62 (fun H locs hP hD hS => ?_)
      have hP : va_P (dC, dI) vwCl (([(h0, Sum.inr (2, [Value.ref h7, Value.ref h8, Value.ref h9, Value.int n0_size, Value.ref h10, Value.int n0_names, Value.int n0_plots, Value.ref h11, Value.ref h1, Value.ref h2, Value.ref h3, Value.ref h4, Value.int y_5])), (h1, Sum.inl (cAlong, 25, Sum.inr (Sum.inr (Sum.inr (Sum.inr (fun j => some (h5 j))))))), (h2, Sum.inl (cAlong, 5, Sum.inr (Sum.inr (Sum.inr (Sum.inr (fun j => some (h6 j))))))), (h3, Sum.inl (cint, 5, Sum.inl f3)), (h4, Sum.inl (cint, 5, Sum.inl f4))] : va_W) ++ (kk_rowsL h5 clong 40 F5 25 ++ (kk_rowsL h6 clong 5 F6 5))) H := hP
      have hD : va_D A (([(h0, Sum.inr (2, [Value.ref h7, Value.ref h8, Value.ref h9, Value.int n0_size, Value.ref h10, Value.int n0_names, Value.int n0_plots, Value.ref h11, Value.ref h1, Value.ref h2, Value.ref h3, Value.ref h4, Value.int y_5])), (h1, Sum.inl (cAlong, 25, Sum.inr (Sum.inr (Sum.inr (Sum.inr (fun j => some (h5 j))))))), (h2, Sum.inl (cAlong, 5, Sum.inr (Sum.inr (Sum.inr (Sum.inr (fun j => some (h6 j))))))), (h3, Sum.inl (cint, 5, Sum.inl f3)), (h4, Sum.inl (cint, 5, Sum.inl f4))] : va_W) ++ (kk_rowsL h5 clong 40 F5 25 ++ (kk_rowsL h6 clong 5 F6 5))) := hD
      have hP9 := hP.part (cx := [(h0, Sum.inr (2, [Value.ref h7, Value.ref h8, Value.ref h9, Value.int n0_size, Value.ref h10, Value.int n0_names, Value.int n0_plots, Value.ref h11, Value.ref h1, Value.ref h2, Value.ref h3, Value.ref h4, Value.int y_5])), (h1, Sum.inl (cAlong, 25, Sum.inr (Sum.inr (Sum.inr (Sum.inr (fun j => some (h5 j))))))), (h2, Sum.inl (cAlong, 5, Sum.inr (Sum.inr (Sum.inr (Sum.inr (fun j => some (h6 j))))))), (h3, Sum.inl (cint, 5, Sum.inl f3)), (h4, Sum.inl (cint, 5, Sum.inl f4))]) [0, 1, 2, 3, 4] rfl
      have hD9 := hD.part (cx := [(h0, Sum.inr (2, [Value.ref h7, Value.ref h8, Value.ref h9, Value.int n0_size, Value.ref h10, Value.int n0_names, Value.int n0_plots, Value.ref h11, Value.ref h1, Value.ref h2, Value.ref h3, Value.ref h4, Value.int y_5])), (h1, Sum.inl (cAlong, 25, Sum.inr (Sum.inr (Sum.inr (Sum.inr (fun j => some (h5 j))))))), (h2, Sum.inl (cAlong, 5, Sum.inr (Sum.inr (Sum.inr (Sum.inr (fun j => some (h6 j))))))), (h3, Sum.inl (cint, 5, Sum.inl f3)), (h4, Sum.inl (cint, 5, Sum.inl f4))]) [0, 1, 2, 3, 4] (by decide) rfl
      have hK9 := hK.sub (tys' := []) [] rfl
      exact W.vret hx hb hr (fun t ht hW => ⟨⟨(), rfl, trivial, y_5, f3, f4, by rw [ht]; exact hP9, va_K.moved hW.alike hK9, hD9⟩, hS.F ht⟩) hS.2.2 dX2_countWays_65
    · have t_3 : n0_ways.toInt = 0 := kk_eq c_3
      refine lv_aload_n hx hb dX2_countWays_23 rfl (lv_at hl 1 rfl) ?_
      refine va_get (D := (dC, dI)) (ci := 2) (v := .ref h3) (C := RX2) (T := TX2) (N := 13) hx hb hts (fun _ h => List.mem_cons_of_mem _ (List.mem_append_right _ h)) hown hK hP 0 rfl rfl 10 (by decide) (hts (.fieldLink RX2 35 "KinkStreet$Deeds" "tried" "[I") (List.mem_of_getElem? (i := 3) rfl)) (fun _ h9 => h9) rfl dX2_countWays_24 ?_
      refine lv_iload_n hx hb dX2_countWays_27 rfl (lv_at hl 2 rfl) ?_
      refine lv_lload_n hx hb dX2_countWays_28 rfl (lv_at hl 0 rfl) ?_
      obtain ⟨hPc, hDc, hFc⟩ := kk_cutout (wc := []) hP hD hS hA [] (by decide) rfl
      have hKc := hK.sub (tys' := []) [] rfl
      refine va_calli (va_runS (As := [.long y_2]) (rest := [.int 0, .ref h3]) ⟨hx, hb, hml, hown, hts⟩ (g_J13_numberOfTrailingZeros_95d88_0 l dC dI s.heap.size y_2 (y_2.toInt) rfl) (va_cwS 1 hts gX2_countWays_J13_numberOfTrailingZeros_95d88 rfl rfl rfl (by decide +kernel) ⟨Nat.le_of_ble_eq_true rfl, Nat.le_of_ble_eq_true rfl⟩) ⟨fun a U g mk q => by obtain ⟨q0, q1, qP, qK, qD⟩ := q; exact ⟨q0, q1, qP, va_K.moved (u := U) (U := U.calling g mk a) (Vm.Alike.refl U.vm) qK, qD⟩, fun U hU hW => ⟨rfl, by rw [hU], by rw [hU]; exact hPc, va_K.moved hW.alike hKc, hDc.weaken (fun _ _ _ _ => trivial)⟩⟩ rfl rfl hl.1 rfl (lv_room (Nat.le_of_ble_eq_true rfl)) dX2_countWays_29 ⟨Nat.le_of_ble_eq_true rfl, Nat.le_of_ble_eq_true rfl⟩) hS (fun q _ h => hFc q h) hFc (fun r_6 u t H1 locs ht hvm hw hB hz1 hk1 hS => ?_)
      obtain ⟨hP1, hK1, hD1⟩ := hB
      rw [ht] at hP1
      have hK1 := va_K.moved hvm.symm hK1
      obtain ⟨hP, hD⟩ := va_joinQ (cx := []) (wr := [(h0, Sum.inr (2, [Value.ref h7, Value.ref h8, Value.ref h9, Value.int n0_size, Value.ref h10, Value.int n0_names, Value.int n0_plots, Value.ref h11, Value.ref h1, Value.ref h2, Value.ref h3, Value.ref h4, Value.int n0_ways])), (h1, Sum.inl (cAlong, 25, Sum.inr (Sum.inr (Sum.inr (Sum.inr (fun j => some (h5 j))))))), (h2, Sum.inl (cAlong, 5, Sum.inr (Sum.inr (Sum.inr (Sum.inr (fun j => some (h6 j))))))), (h3, Sum.inl (cint, 5, Sum.inl f3)), (h4, Sum.inl (cint, 5, Sum.inl f4))]) (w1 := []) hP hD [] [0, 1, 2, 3, 4] rfl rfl (by decide) (by decide) hk1 hFc hP1 hD1
      generalize H1 = H at hP hS ⊢
      have hP : va_P (dC, dI) vwCl (([(h0, Sum.inr (2, [Value.ref h7, Value.ref h8, Value.ref h9, Value.int n0_size, Value.ref h10, Value.int n0_names, Value.int n0_plots, Value.ref h11, Value.ref h1, Value.ref h2, Value.ref h3, Value.ref h4, Value.int n0_ways])), (h1, Sum.inl (cAlong, 25, Sum.inr (Sum.inr (Sum.inr (Sum.inr (fun j => some (h5 j))))))), (h2, Sum.inl (cAlong, 5, Sum.inr (Sum.inr (Sum.inr (Sum.inr (fun j => some (h6 j))))))), (h3, Sum.inl (cint, 5, Sum.inl f3)), (h4, Sum.inl (cint, 5, Sum.inl f4))] : va_W) ++ (kk_rowsL h5 clong 40 F5 25 ++ (kk_rowsL h6 clong 5 F6 5))) H := hP
      have hD : va_D A (([(h0, Sum.inr (2, [Value.ref h7, Value.ref h8, Value.ref h9, Value.int n0_size, Value.ref h10, Value.int n0_names, Value.int n0_plots, Value.ref h11, Value.ref h1, Value.ref h2, Value.ref h3, Value.ref h4, Value.int n0_ways])), (h1, Sum.inl (cAlong, 25, Sum.inr (Sum.inr (Sum.inr (Sum.inr (fun j => some (h5 j))))))), (h2, Sum.inl (cAlong, 5, Sum.inr (Sum.inr (Sum.inr (Sum.inr (fun j => some (h6 j))))))), (h3, Sum.inl (cint, 5, Sum.inl f3)), (h4, Sum.inl (cint, 5, Sum.inl f4))] : va_W) ++ (kk_rowsL h5 clong 40 F5 25 ++ (kk_rowsL h6 clong 5 F6 5))) := hD
      refine va_iast hx hb hK hP hD hS 3 1 rfl rfl (by unfold vp_in; decide) dX2_countWays_32 (fun H locs hP hD hS => ?_)
      generalize upd f3 (0 : Int32).toNatClampNeg r_6 = f_7 at hP hD
      have hP : va_P (dC, dI) vwCl (([(h0, Sum.inr (2, [Value.ref h7, Value.ref h8, Value.ref h9, Value.int n0_size, Value.ref h10, Value.int n0_names, Value.int n0_plots, Value.ref h11, Value.ref h1, Value.ref h2, Value.ref h3, Value.ref h4, Value.int n0_ways])), (h1, Sum.inl (cAlong, 25, Sum.inr (Sum.inr (Sum.inr (Sum.inr (fun j => some (h5 j))))))), (h2, Sum.inl (cAlong, 5, Sum.inr (Sum.inr (Sum.inr (Sum.inr (fun j => some (h6 j))))))), (h3, Sum.inl (cint, 5, Sum.inl f_7)), (h4, Sum.inl (cint, 5, Sum.inl f4))] : va_W) ++ (kk_rowsL h5 clong 40 F5 25 ++ (kk_rowsL h6 clong 5 F6 5))) H := hP
      have hD : va_D A (([(h0, Sum.inr (2, [Value.ref h7, Value.ref h8, Value.ref h9, Value.int n0_size, Value.ref h10, Value.int n0_names, Value.int n0_plots, Value.ref h11, Value.ref h1, Value.ref h2, Value.ref h3, Value.ref h4, Value.int n0_ways])), (h1, Sum.inl (cAlong, 25, Sum.inr (Sum.inr (Sum.inr (Sum.inr (fun j => some (h5 j))))))), (h2, Sum.inl (cAlong, 5, Sum.inr (Sum.inr (Sum.inr (Sum.inr (fun j => some (h6 j))))))), (h3, Sum.inl (cint, 5, Sum.inl f_7)), (h4, Sum.inl (cint, 5, Sum.inl f4))] : va_W) ++ (kk_rowsL h5 clong 40 F5 25 ++ (kk_rowsL h6 clong 5 F6 5))) := hD
      refine lv_aload_n hx hb dX2_countWays_33 rfl (lv_at hl 1 rfl) ?_
      refine va_get (D := (dC, dI)) (ci := 2) (v := .ref h3) (C := RX2) (T := TX2) (N := 13) hx hb hts (fun _ h => List.mem_cons_of_mem _ (List.mem_append_right _ h)) hown hK hP 0 rfl rfl 10 (by decide) (hts (.fieldLink RX2 35 "KinkStreet$Deeds" "tried" "[I") (List.mem_of_getElem? (i := 3) rfl)) (fun _ h9 => h9) rfl dX2_countWays_34 ?_
      refine lv_iconst (v := 0) hx hb dX2_countWays_37 (by decide) ?_
      refine lv_aload_n hx hb dX2_countWays_38 rfl (lv_at hl 1 rfl) ?_
      refine va_get (D := (dC, dI)) (ci := 2) (v := .ref h4) (C := RX2) (T := TX2) (N := 13) hx hb hts (fun _ h => List.mem_cons_of_mem _ (List.mem_append_right _ h)) hown hK hP 0 rfl rfl 11 (by decide) (hts (.fieldLink RX2 38 "KinkStreet$Deeds" "found" "[I") (List.mem_of_getElem? (i := 4) rfl)) (fun _ h9 => h9) rfl dX2_countWays_39 ?_
      refine lv_iconst (v := 0) hx hb dX2_countWays_42 (by decide) ?_
      refine lv_iconst (v := 5) hx hb dX2_countWays_43 (by decide) ?_
      refine va_copyi (sp := 0) (dp := 0) (n := 5) hx hb (hml.trans hl.1.symm) hown (hts (.methodLink RX2 118 arraycopyName) (List.mem_of_getElem? (i := 5) rfl)) (hts (.native arraycopyName) (List.mem_of_getElem? (i := 6) rfl)) (hts (.static arraycopyName) (List.mem_of_getElem? (i := 7) rfl)) (hts (.initialized "java/lang/System") (List.mem_of_getElem? (i := 8) rfl)) hK hP hD hS 3 4 1 1 rfl rfl rfl rfl rfl (by decide) (by decide) (by decide) (by decide) (by decide) (fun _ _ => rfl) (Nat.le_of_ble_eq_true rfl) (Nat.le_of_ble_eq_true rfl) dX2_countWays_44 (fun H locs hP hD hS => ?_)
      generalize va_cpy f_7 f4 (0 : Int32).toNatClampNeg (0 : Int32).toNatClampNeg (5 : Int32).toNatClampNeg = f_8 at hP hD
      have hP : va_P (dC, dI) vwCl (([(h0, Sum.inr (2, [Value.ref h7, Value.ref h8, Value.ref h9, Value.int n0_size, Value.ref h10, Value.int n0_names, Value.int n0_plots, Value.ref h11, Value.ref h1, Value.ref h2, Value.ref h3, Value.ref h4, Value.int n0_ways])), (h1, Sum.inl (cAlong, 25, Sum.inr (Sum.inr (Sum.inr (Sum.inr (fun j => some (h5 j))))))), (h2, Sum.inl (cAlong, 5, Sum.inr (Sum.inr (Sum.inr (Sum.inr (fun j => some (h6 j))))))), (h3, Sum.inl (cint, 5, Sum.inl f_7)), (h4, Sum.inl (cint, 5, Sum.inl f_8))] : va_W) ++ (kk_rowsL h5 clong 40 F5 25 ++ (kk_rowsL h6 clong 5 F6 5))) H := hP
      have hD : va_D A (([(h0, Sum.inr (2, [Value.ref h7, Value.ref h8, Value.ref h9, Value.int n0_size, Value.ref h10, Value.int n0_names, Value.int n0_plots, Value.ref h11, Value.ref h1, Value.ref h2, Value.ref h3, Value.ref h4, Value.int n0_ways])), (h1, Sum.inl (cAlong, 25, Sum.inr (Sum.inr (Sum.inr (Sum.inr (fun j => some (h5 j))))))), (h2, Sum.inl (cAlong, 5, Sum.inr (Sum.inr (Sum.inr (Sum.inr (fun j => some (h6 j))))))), (h3, Sum.inl (cint, 5, Sum.inl f_7)), (h4, Sum.inl (cint, 5, Sum.inl f_8))] : va_W) ++ (kk_rowsL h5 clong 40 F5 25 ++ (kk_rowsL h6 clong 5 F6 5))) := hD
      refine lv_aload_n hx hb dX2_countWays_47 rfl (lv_at hl 1 rfl) ?_
      refine lv_ldc hx hb hown (hts _ (List.mem_of_getElem? (i := 9) rfl)) dX2_countWays_48 ?_
      refine lv_aload_n hx hb dX2_countWays_50 rfl (lv_at hl 1 rfl) ?_
      refine va_get (D := (dC, dI)) (ci := 2) (v := .int n0_ways) (C := RX2) (T := TX2) (N := 13) hx hb hts (fun _ h => List.mem_cons_of_mem _ (List.mem_append_right _ h)) hown hK hP 0 rfl rfl 12 (by decide) (hts (.fieldLink RX2 70 "KinkStreet$Deeds" "ways" "I") (List.mem_of_getElem? (i := 2) rfl)) (fun _ h9 => h9) rfl dX2_countWays_51 ?_
      refine lv_lload_n hx hb dX2_countWays_54 rfl (lv_at hl 0 rfl) ?_
      obtain ⟨hPc, hDc, hFc⟩ := kk_cutout (wc := []) hP hD hS hA [] (by decide) rfl
      have hKc := hK.sub (tys' := []) [] rfl
      refine va_calli (va_runS (As := [.long y_2]) (rest := [.int n0_ways, .int 1000000, .ref h0]) ⟨hx, hb, hml, hown, hts⟩ (g_J13_bitCount_95d88_0 l dC dI H.size y_2 (y_2.toInt) rfl) (va_cwS 1 hts gX2_countWays_J13_bitCount_95d88 rfl rfl rfl (by decide +kernel) ⟨Nat.le_of_ble_eq_true rfl, Nat.le_of_ble_eq_true rfl⟩) ⟨fun a U g mk q => by obtain ⟨q0, q1, qP, qK, qD⟩ := q; exact ⟨q0, q1, qP, va_K.moved (u := U) (U := U.calling g mk a) (Vm.Alike.refl U.vm) qK, qD⟩, fun U hU hW => ⟨rfl, by rw [hU], by rw [hU]; exact hPc, va_K.moved hW.alike hKc, hDc.weaken (fun _ _ _ _ => trivial)⟩⟩ rfl rfl hl.1 rfl (lv_room (Nat.le_of_ble_eq_true rfl)) dX2_countWays_55 ⟨Nat.le_of_ble_eq_true rfl, Nat.le_of_ble_eq_true rfl⟩) hS (fun q _ h => hFc q h) hFc (fun r_9 u t H1 locs ht hvm hw hB hz1 hk1 hS => ?_)
      obtain ⟨hP1, hK1, hD1⟩ := hB
      rw [ht] at hP1
      have hK1 := va_K.moved hvm.symm hK1
      obtain ⟨hP, hD⟩ := va_joinQ (cx := []) (wr := [(h0, Sum.inr (2, [Value.ref h7, Value.ref h8, Value.ref h9, Value.int n0_size, Value.ref h10, Value.int n0_names, Value.int n0_plots, Value.ref h11, Value.ref h1, Value.ref h2, Value.ref h3, Value.ref h4, Value.int n0_ways])), (h1, Sum.inl (cAlong, 25, Sum.inr (Sum.inr (Sum.inr (Sum.inr (fun j => some (h5 j))))))), (h2, Sum.inl (cAlong, 5, Sum.inr (Sum.inr (Sum.inr (Sum.inr (fun j => some (h6 j))))))), (h3, Sum.inl (cint, 5, Sum.inl f_7)), (h4, Sum.inl (cint, 5, Sum.inl f_8))]) (w1 := []) hP hD [] [0, 1, 2, 3, 4] rfl rfl (by decide) (by decide) hk1 hFc hP1 hD1
      generalize H1 = H at hP hS ⊢
      have hP : va_P (dC, dI) vwCl (([(h0, Sum.inr (2, [Value.ref h7, Value.ref h8, Value.ref h9, Value.int n0_size, Value.ref h10, Value.int n0_names, Value.int n0_plots, Value.ref h11, Value.ref h1, Value.ref h2, Value.ref h3, Value.ref h4, Value.int n0_ways])), (h1, Sum.inl (cAlong, 25, Sum.inr (Sum.inr (Sum.inr (Sum.inr (fun j => some (h5 j))))))), (h2, Sum.inl (cAlong, 5, Sum.inr (Sum.inr (Sum.inr (Sum.inr (fun j => some (h6 j))))))), (h3, Sum.inl (cint, 5, Sum.inl f_7)), (h4, Sum.inl (cint, 5, Sum.inl f_8))] : va_W) ++ (kk_rowsL h5 clong 40 F5 25 ++ (kk_rowsL h6 clong 5 F6 5))) H := hP
      have hD : va_D A (([(h0, Sum.inr (2, [Value.ref h7, Value.ref h8, Value.ref h9, Value.int n0_size, Value.ref h10, Value.int n0_names, Value.int n0_plots, Value.ref h11, Value.ref h1, Value.ref h2, Value.ref h3, Value.ref h4, Value.int n0_ways])), (h1, Sum.inl (cAlong, 25, Sum.inr (Sum.inr (Sum.inr (Sum.inr (fun j => some (h5 j))))))), (h2, Sum.inl (cAlong, 5, Sum.inr (Sum.inr (Sum.inr (Sum.inr (fun j => some (h6 j))))))), (h3, Sum.inl (cint, 5, Sum.inl f_7)), (h4, Sum.inl (cint, 5, Sum.inl f_8))] : va_W) ++ (kk_rowsL h5 clong 40 F5 25 ++ (kk_rowsL h6 clong 5 F6 5))) := hD
      refine lv_iadd hx hb dX2_countWays_58 ?_
      refine va_mmin hx hb (hml.trans hl.1.symm) hown (hts (.methodLink RX2 61 Lib.Math.min.name) (List.mem_of_getElem? (i := 10) rfl)) (hts (.static Lib.Math.min.name) (List.mem_of_getElem? (i := 11) rfl)) (hts (.initialized "java/lang/Math") (List.mem_of_getElem? (i := 12) rfl)) (hts (.code Lib.Math.min.name Lib.Math.min.code 2 (some .int)) (List.mem_of_getElem? (i := 13) rfl)) (Nat.le_of_ble_eq_true rfl) (Nat.le_of_ble_eq_true rfl) (Nat.le_of_ble_eq_true rfl) (Nat.le_of_ble_eq_true rfl) dX2_countWays_59 ?_
      refine lv_topi (fun y_10 e_10 => ?_)
      have t_10 : y_10.toInt ≤ 1000000 ∧ y_10.toInt ≤ (n0_ways + r_9).toInt ∧ (y_10.toInt = 1000000 ∨ y_10.toInt = (n0_ways + r_9).toInt) := by rw [e_10]; exact kk_min _ _
      clear e_10
      refine va_put (D := (dC, dI)) (ci := 2) (v := .int y_10) (ty := .int) (C := RX2) (T := TX2) (N := 13) hx hb hts (fun _ h => List.mem_cons_of_mem _ (List.mem_append_right _ h)) tyX2 tyX2_ok nmX2 hown hK hP hD hS 0 rfl rfl 12 (by decide) (hts (.fieldLink RX2 70 "KinkStreet$Deeds" "ways" "I") (List.mem_of_getElem? (i := 2) rfl)) (fun _ h9 => h9) rfl (by decide +kernel) rfl rfl (Nat.le_of_ble_eq_true rfl) dX2_countWays_62 (fun H locs hP hD hS => ?_)
      have hP : va_P (dC, dI) vwCl (([(h0, Sum.inr (2, [Value.ref h7, Value.ref h8, Value.ref h9, Value.int n0_size, Value.ref h10, Value.int n0_names, Value.int n0_plots, Value.ref h11, Value.ref h1, Value.ref h2, Value.ref h3, Value.ref h4, Value.int y_10])), (h1, Sum.inl (cAlong, 25, Sum.inr (Sum.inr (Sum.inr (Sum.inr (fun j => some (h5 j))))))), (h2, Sum.inl (cAlong, 5, Sum.inr (Sum.inr (Sum.inr (Sum.inr (fun j => some (h6 j))))))), (h3, Sum.inl (cint, 5, Sum.inl f_7)), (h4, Sum.inl (cint, 5, Sum.inl f_8))] : va_W) ++ (kk_rowsL h5 clong 40 F5 25 ++ (kk_rowsL h6 clong 5 F6 5))) H := hP
      have hD : va_D A (([(h0, Sum.inr (2, [Value.ref h7, Value.ref h8, Value.ref h9, Value.int n0_size, Value.ref h10, Value.int n0_names, Value.int n0_plots, Value.ref h11, Value.ref h1, Value.ref h2, Value.ref h3, Value.ref h4, Value.int y_10])), (h1, Sum.inl (cAlong, 25, Sum.inr (Sum.inr (Sum.inr (Sum.inr (fun j => some (h5 j))))))), (h2, Sum.inl (cAlong, 5, Sum.inr (Sum.inr (Sum.inr (Sum.inr (fun j => some (h6 j))))))), (h3, Sum.inl (cint, 5, Sum.inl f_7)), (h4, Sum.inl (cint, 5, Sum.inl f_8))] : va_W) ++ (kk_rowsL h5 clong 40 F5 25 ++ (kk_rowsL h6 clong 5 F6 5))) := hD
      have hP9 := hP.part (cx := [(h0, Sum.inr (2, [Value.ref h7, Value.ref h8, Value.ref h9, Value.int n0_size, Value.ref h10, Value.int n0_names, Value.int n0_plots, Value.ref h11, Value.ref h1, Value.ref h2, Value.ref h3, Value.ref h4, Value.int y_10])), (h1, Sum.inl (cAlong, 25, Sum.inr (Sum.inr (Sum.inr (Sum.inr (fun j => some (h5 j))))))), (h2, Sum.inl (cAlong, 5, Sum.inr (Sum.inr (Sum.inr (Sum.inr (fun j => some (h6 j))))))), (h3, Sum.inl (cint, 5, Sum.inl f_7)), (h4, Sum.inl (cint, 5, Sum.inl f_8))]) [0, 1, 2, 3, 4] rfl
      have hD9 := hD.part (cx := [(h0, Sum.inr (2, [Value.ref h7, Value.ref h8, Value.ref h9, Value.int n0_size, Value.ref h10, Value.int n0_names, Value.int n0_plots, Value.ref h11, Value.ref h1, Value.ref h2, Value.ref h3, Value.ref h4, Value.int y_10])), (h1, Sum.inl (cAlong, 25, Sum.inr (Sum.inr (Sum.inr (Sum.inr (fun j => some (h5 j))))))), (h2, Sum.inl (cAlong, 5, Sum.inr (Sum.inr (Sum.inr (Sum.inr (fun j => some (h6 j))))))), (h3, Sum.inl (cint, 5, Sum.inl f_7)), (h4, Sum.inl (cint, 5, Sum.inl f_8))]) [0, 1, 2, 3, 4] (by decide) rfl
      have hK9 := hK.sub (tys' := []) [] rfl
      exact W.vret hx hb hr (fun t ht hW => ⟨⟨(), rfl, trivial, y_10, f_7, f_8, by rw [ht]; exact hP9, va_K.moved hW.alike hK9, hD9⟩, hS.F ht⟩) hS.2.2 dX2_countWays_65
  · skip
    have hP9 := hP.part (cx := [(h0, Sum.inr (2, [Value.ref h7, Value.ref h8, Value.ref h9, Value.int n0_size, Value.ref h10, Value.int n0_names, Value.int n0_plots, Value.ref h11, Value.ref h1, Value.ref h2, Value.ref h3, Value.ref h4, Value.int n0_ways])), (h1, Sum.inl (cAlong, 25, Sum.inr (Sum.inr (Sum.inr (Sum.inr (fun j => some (h5 j))))))), (h2, Sum.inl (cAlong, 5, Sum.inr (Sum.inr (Sum.inr (Sum.inr (fun j => some (h6 j))))))), (h3, Sum.inl (cint, 5, Sum.inl f3)), (h4, Sum.inl (cint, 5, Sum.inl f4))]) [0, 1, 2, 3, 4] rfl
    have hD9 := hD.part (cx := [(h0, Sum.inr (2, [Value.ref h7, Value.ref h8, Value.ref h9, Value.int n0_size, Value.ref h10, Value.int n0_names, Value.int n0_plots, Value.ref h11, Value.ref h1, Value.ref h2, Value.ref h3, Value.ref h4, Value.int n0_ways])), (h1, Sum.inl (cAlong, 25, Sum.inr (Sum.inr (Sum.inr (Sum.inr (fun j => some (h5 j))))))), (h2, Sum.inl (cAlong, 5, Sum.inr (Sum.inr (Sum.inr (Sum.inr (fun j => some (h6 j))))))), (h3, Sum.inl (cint, 5, Sum.inl f3)), (h4, Sum.inl (cint, 5, Sum.inl f4))]) [0, 1, 2, 3, 4] (by decide) rfl
    have hK9 := hK.sub (tys' := []) [] rfl
    exact W.vret hx hb hr (fun t ht hW => ⟨⟨(), rfl, trivial, n0_ways, f3, f4, by rw [ht]; exact hP9, va_K.moved hW.alike hK9, hD9⟩, hS.F ht⟩) hS.2.2 dX2_countWays_15
set_option maxHeartbeats 4000000 in
set_option maxRecDepth 100000 in
theorem g_X2_search_4 (l : Launch) (dC : Nat → ClassId) (dI : Nat → Nat → Nat) (h0 : Nat) (h1 : Nat) (h2 : Nat) (h3 : Nat) (h4 : Nat) (h5 : Nat → Nat) (h6 : Nat → Nat) (h7 : Nat) (h8 : Nat) (h9 : Nat) (h10 : Nat) (h11 : Nat) (cAlong cint clong : ClassId) (sz : Nat) (n0_size : Int32) (n0_names : Int32) (n0_plots : Int32) (n0_ways : Int32) (f3 : Nat → Int32) (f4 : Nat → Int32) (F5 : Nat → Nat → Int64) (F6 : Nat → Nat → Int64) (tn0_size : 0 ≤ n0_size.toInt ∧ n0_size.toInt ≤ 10) (tn0_names : 1 ≤ n0_names.toInt ∧ n0_names.toInt ≤ 5) (tn0_plots : 0 ≤ n0_plots.toInt ∧ n0_plots.toInt ≤ 40) : Met l yX2_search wsX2_search ({ frames := 7, cells := 0, slots := 0, locals := 159 }) (va_Pc [.ref h0, .int 0] (fun U => U.heap.size = sz ∧ va_P (dC, dI) vwCl (([(h0, Sum.inr (2, [Value.ref h7, Value.ref h8, Value.ref h9, Value.int n0_size, Value.ref h10, Value.int n0_names, Value.int n0_plots, Value.ref h11, Value.ref h1, Value.ref h2, Value.ref h3, Value.ref h4, Value.int n0_ways])), (h1, Sum.inl (cAlong, 25, Sum.inr (Sum.inr (Sum.inr (Sum.inr (fun j => some (h5 j))))))), (h2, Sum.inl (cAlong, 5, Sum.inr (Sum.inr (Sum.inr (Sum.inr (fun j => some (h6 j))))))), (h3, Sum.inl (cint, 5, Sum.inl f3)), (h4, Sum.inl (cint, 5, Sum.inl f4))] : va_W) ++ (kk_rowsL h5 clong 40 F5 25 ++ (kk_rowsL h6 clong 5 F6 5))) U.heap ∧ va_K (dC, dI) vwCl [(cAlong, .array .long), (cint, .int), (clong, .long)] U ∧ va_D (fun _ => True) (([(h0, Sum.inr (2, [Value.ref h7, Value.ref h8, Value.ref h9, Value.int n0_size, Value.ref h10, Value.int n0_names, Value.int n0_plots, Value.ref h11, Value.ref h1, Value.ref h2, Value.ref h3, Value.ref h4, Value.int n0_ways])), (h1, Sum.inl (cAlong, 25, Sum.inr (Sum.inr (Sum.inr (Sum.inr (fun j => some (h5 j))))))), (h2, Sum.inl (cAlong, 5, Sum.inr (Sum.inr (Sum.inr (Sum.inr (fun j => some (h6 j))))))), (h3, Sum.inl (cint, 5, Sum.inl f3)), (h4, Sum.inl (cint, 5, Sum.inl f4))] : va_W) ++ (kk_rowsL h5 clong 40 F5 25 ++ (kk_rowsL h6 clong 5 F6 5))))) (va_Qv (fun (_ : Unit) => True) (fun (_ : Unit) t => ∃ (m0_ways : Int32) (g3 : Nat → Int32) (g4 : Nat → Int32) (g6 : Nat → Nat → Int64), va_P (dC, dI) vwCl (([(h0, Sum.inr (2, [Value.ref h7, Value.ref h8, Value.ref h9, Value.int n0_size, Value.ref h10, Value.int n0_names, Value.int n0_plots, Value.ref h11, Value.ref h1, Value.ref h2, Value.ref h3, Value.ref h4, Value.int m0_ways])), (h1, Sum.inl (cAlong, 25, Sum.inr (Sum.inr (Sum.inr (Sum.inr (fun j => some (h5 j))))))), (h2, Sum.inl (cAlong, 5, Sum.inr (Sum.inr (Sum.inr (Sum.inr (fun j => some (h6 j))))))), (h3, Sum.inl (cint, 5, Sum.inl g3)), (h4, Sum.inl (cint, 5, Sum.inl g4))] : va_W) ++ (kk_rowsL h5 clong 40 F5 25 ++ (kk_rowsL h6 clong 5 g6 5))) t.heap ∧ va_K (dC, dI) vwCl [] t ∧ va_D (va_A (([(h0, Sum.inr (2, [Value.ref h7, Value.ref h8, Value.ref h9, Value.int n0_size, Value.ref h10, Value.int n0_names, Value.int n0_plots, Value.ref h11, Value.ref h1, Value.ref h2, Value.ref h3, Value.ref h4, Value.int n0_ways])), (h1, Sum.inl (cAlong, 25, Sum.inr (Sum.inr (Sum.inr (Sum.inr (fun j => some (h5 j))))))), (h2, Sum.inl (cAlong, 5, Sum.inr (Sum.inr (Sum.inr (Sum.inr (fun j => some (h6 j))))))), (h3, Sum.inl (cint, 5, Sum.inl f3)), (h4, Sum.inl (cint, 5, Sum.inl f4))] : va_W) ++ (kk_rowsL h5 clong 40 F5 25 ++ (kk_rowsL h6 clong 5 F6 5))) sz) (([(h0, Sum.inr (2, [Value.ref h7, Value.ref h8, Value.ref h9, Value.int n0_size, Value.ref h10, Value.int n0_names, Value.int n0_plots, Value.ref h11, Value.ref h1, Value.ref h2, Value.ref h3, Value.ref h4, Value.int m0_ways])), (h1, Sum.inl (cAlong, 25, Sum.inr (Sum.inr (Sum.inr (Sum.inr (fun j => some (h5 j))))))), (h2, Sum.inl (cAlong, 5, Sum.inr (Sum.inr (Sum.inr (Sum.inr (fun j => some (h6 j))))))), (h3, Sum.inl (cint, 5, Sum.inl g3)), (h4, Sum.inl (cint, 5, Sum.inl g4))] : va_W) ++ (kk_rowsL h5 clong 40 F5 25 ++ (kk_rowsL h6 clong 5 g6 5)))) (va_A (([(h0, Sum.inr (2, [Value.ref h7, Value.ref h8, Value.ref h9, Value.int n0_size, Value.ref h10, Value.int n0_names, Value.int n0_plots, Value.ref h11, Value.ref h1, Value.ref h2, Value.ref h3, Value.ref h4, Value.int n0_ways])), (h1, Sum.inl (cAlong, 25, Sum.inr (Sum.inr (Sum.inr (Sum.inr (fun j => some (h5 j))))))), (h2, Sum.inl (cAlong, 5, Sum.inr (Sum.inr (Sum.inr (Sum.inr (fun j => some (h6 j))))))), (h3, Sum.inl (cint, 5, Sum.inl f3)), (h4, Sum.inl (cint, 5, Sum.inl f4))] : va_W) ++ (kk_rowsL h5 clong 40 F5 25 ++ (kk_rowsL h6 clong 5 F6 5))) sz)) 0 0 (va_A (([(h0, Sum.inr (2, [Value.ref h7, Value.ref h8, Value.ref h9, Value.int n0_size, Value.ref h10, Value.int n0_names, Value.int n0_plots, Value.ref h11, Value.ref h1, Value.ref h2, Value.ref h3, Value.ref h4, Value.int n0_ways])), (h1, Sum.inl (cAlong, 25, Sum.inr (Sum.inr (Sum.inr (Sum.inr (fun j => some (h5 j))))))), (h2, Sum.inl (cAlong, 5, Sum.inr (Sum.inr (Sum.inr (Sum.inr (fun j => some (h6 j))))))), (h3, Sum.inl (cint, 5, Sum.inl f3)), (h4, Sum.inl (cint, 5, Sum.inl f4))] : va_W) ++ (kk_rowsL h5 clong 40 F5 25 ++ (kk_rowsL h6 clong 5 F6 5))) sz) := by
  refine Met.ofW (cc := cX2_search) (maxL := 3) (ret := none) (by decide) rfl ?_
  intro p e s m args below meth c s₁ B hml hv
  obtain ⟨rfl, hsz, hP, hK, hD0⟩ := hv
  have hx := B.exec
  have hb := B.bytes
  have hr := B.returns
  have hts := atoms_spec (ws := wsX2_search) B.pre
  have hown : s.vm.findClass RX2 = some m.cls := findClass_of_methodNamed B.named
  have hlocks := B.notSynchronized
  subst hsz
  have hD := hD0.self (sz := s.heap.size)
  generalize hAe : va_A (([(h0, Sum.inr (2, [Value.ref h7, Value.ref h8, Value.ref h9, Value.int n0_size, Value.ref h10, Value.int n0_names, Value.int n0_plots, Value.ref h11, Value.ref h1, Value.ref h2, Value.ref h3, Value.ref h4, Value.int n0_ways])), (h1, Sum.inl (cAlong, 25, Sum.inr (Sum.inr (Sum.inr (Sum.inr (fun j => some (h5 j))))))), (h2, Sum.inl (cAlong, 5, Sum.inr (Sum.inr (Sum.inr (Sum.inr (fun j => some (h6 j))))))), (h3, Sum.inl (cint, 5, Sum.inl f3)), (h4, Sum.inl (cint, 5, Sum.inl f4))] : va_W) ++ (kk_rowsL h5 clong 40 F5 25 ++ (kk_rowsL h6 clong 5 F6 5))) s.heap.size = A at hD ⊢
  have hA : ∀ q : Nat, s.heap.size ≤ q → A q := fun q h => by rw [← hAe]; exact Or.inr h
  have hS : va_S A s.heap s.heap [] := va_S.rf
  have hP : va_P (dC, dI) vwCl (([(h0, Sum.inr (2, [Value.ref h7, Value.ref h8, Value.ref h9, Value.int n0_size, Value.ref h10, Value.int n0_names, Value.int n0_plots, Value.ref h11, Value.ref h1, Value.ref h2, Value.ref h3, Value.ref h4, Value.int n0_ways])), (h1, Sum.inl (cAlong, 25, Sum.inr (Sum.inr (Sum.inr (Sum.inr (fun j => some (h5 j))))))), (h2, Sum.inl (cAlong, 5, Sum.inr (Sum.inr (Sum.inr (Sum.inr (fun j => some (h6 j))))))), (h3, Sum.inl (cint, 5, Sum.inl f3)), (h4, Sum.inl (cint, 5, Sum.inl f4))] : va_W) ++ (kk_rowsL h5 clong 40 F5 25 ++ (kk_rowsL h6 clong 5 F6 5))) s.heap := hP
  have hl := lv_entry ([.ref h0, .int 0]) (n := 3) (Nat.le_of_ble_eq_true rfl)
  rw [lg_entry_eq]
  generalize (lg_sl ([.ref h0, .int 0]) ++ List.replicate (3 - (lg_sl ([.ref h0, .int 0])).length) Slot.unset).toArray = ls at hl ⊢
  have hl : lv_has ls 3 [(0, .ref h0), (1, .int 0)] := hl
  refine lv_iload_n hx hb dX2_search_0 rfl (lv_at hl 1 rfl) ?_
  refine lv_aload_n hx hb dX2_search_1 rfl (lv_at hl 0 rfl) ?_
  refine va_get (D := (dC, dI)) (ci := 2) (v := .int n0_names) (C := RX2) (T := TX2) (N := 13) hx hb hts (fun _ h => List.mem_cons_of_mem _ (List.mem_append_right _ h)) hown hK hP 0 rfl rfl 5 (by decide) (hts (.fieldLink RX2 49 "KinkStreet$Deeds" "names" "I") (List.mem_of_getElem? (i := 1) rfl)) (fun _ h9 => h9) rfl dX2_search_2 ?_
  refine lv_iconst (v := 1) hx hb dX2_search_5 (by decide) ?_
  refine lv_isub hx hb dX2_search_6 ?_
  refine lv_icmp_lt (tgt := 16) hx hb dX2_search_7 (by decide) (fun c_1 => ?_) (fun c_1 => ?_)
  · have t_1 : 0 < (n0_names - 1).toInt := kk_lt c_1
    refine lv_iconst (v := 0) hx hb dX2_search_16 (by decide) ?_
    refine lv_istore_n (lv' := [(2, .int 0), (0, .ref h0), (1, .int 0)]) hx hb dX2_search_17 rfl hl (by decide) rfl (fun ls hl => ?_)
    refine kk_loop (σ := Int32 × (Nat → Nat → Int64) × Int32 × (Nat → Int32) × (Nat → Int32)) (fun x H locs ls => (0 ≤ x.1.toInt ∧ x.1.toInt ≤ 40) ∧ va_P (dC, dI) vwCl (([(h0, Sum.inr (2, [Value.ref h7, Value.ref h8, Value.ref h9, Value.int n0_size, Value.ref h10, Value.int n0_names, Value.int n0_plots, Value.ref h11, Value.ref h1, Value.ref h2, Value.ref h3, Value.ref h4, Value.int x.2.2.1])), (h1, Sum.inl (cAlong, 25, Sum.inr (Sum.inr (Sum.inr (Sum.inr (fun j => some (h5 j))))))), (h2, Sum.inl (cAlong, 5, Sum.inr (Sum.inr (Sum.inr (Sum.inr (fun j => some (h6 j))))))), (h3, Sum.inl (cint, 5, Sum.inl x.2.2.2.1)), (h4, Sum.inl (cint, 5, Sum.inl x.2.2.2.2))] : va_W) ++ (kk_rowsL h5 clong 40 F5 25 ++ (kk_rowsL h6 clong 5 x.2.1 5))) H ∧ va_D A (([(h0, Sum.inr (2, [Value.ref h7, Value.ref h8, Value.ref h9, Value.int n0_size, Value.ref h10, Value.int n0_names, Value.int n0_plots, Value.ref h11, Value.ref h1, Value.ref h2, Value.ref h3, Value.ref h4, Value.int x.2.2.1])), (h1, Sum.inl (cAlong, 25, Sum.inr (Sum.inr (Sum.inr (Sum.inr (fun j => some (h5 j))))))), (h2, Sum.inl (cAlong, 5, Sum.inr (Sum.inr (Sum.inr (Sum.inr (fun j => some (h6 j))))))), (h3, Sum.inl (cint, 5, Sum.inl x.2.2.2.1)), (h4, Sum.inl (cint, 5, Sum.inl x.2.2.2.2))] : va_W) ++ (kk_rowsL h5 clong 40 F5 25 ++ (kk_rowsL h6 clong 5 x.2.1 5))) ∧ va_S A s.heap H locs ∧ lv_has ls 3 [(2, .int x.1), (0, .ref h0), (1, .int 0)]) (fun x => ((40 : Int) - x.1.toInt).toNat) ?_ (0, F6, n0_ways, f3, f4) _ _ _ ⟨(by show 0 ≤ (0 : Int32).toInt ∧ (0 : Int32).toInt ≤ 40; first | decide | (constructor <;> (have := kk_sub2 (x := n0_names) (y := 1) (a := n0_names.toInt) (b := 1) rfl rfl (by omega) (by omega); omega))), hP, hD, hS, hl⟩
    rintro ⟨i_2_0, f_2_1, i_2_2, f_2_3, f_2_4⟩ H locs ls ⟨t_2_0, hP, hD, hS, hl⟩ ih_2
    have t_2_0 : (0 ≤ i_2_0.toInt ∧ i_2_0.toInt ≤ 40) := t_2_0
    have hl : lv_has ls 3 [(2, .int i_2_0), (0, .ref h0), (1, .int 0)] := hl
    have hP : va_P (dC, dI) vwCl (([(h0, Sum.inr (2, [Value.ref h7, Value.ref h8, Value.ref h9, Value.int n0_size, Value.ref h10, Value.int n0_names, Value.int n0_plots, Value.ref h11, Value.ref h1, Value.ref h2, Value.ref h3, Value.ref h4, Value.int i_2_2])), (h1, Sum.inl (cAlong, 25, Sum.inr (Sum.inr (Sum.inr (Sum.inr (fun j => some (h5 j))))))), (h2, Sum.inl (cAlong, 5, Sum.inr (Sum.inr (Sum.inr (Sum.inr (fun j => some (h6 j))))))), (h3, Sum.inl (cint, 5, Sum.inl f_2_3)), (h4, Sum.inl (cint, 5, Sum.inl f_2_4))] : va_W) ++ (kk_rowsL h5 clong 40 F5 25 ++ (kk_rowsL h6 clong 5 f_2_1 5))) H := hP
    have hD : va_D A (([(h0, Sum.inr (2, [Value.ref h7, Value.ref h8, Value.ref h9, Value.int n0_size, Value.ref h10, Value.int n0_names, Value.int n0_plots, Value.ref h11, Value.ref h1, Value.ref h2, Value.ref h3, Value.ref h4, Value.int i_2_2])), (h1, Sum.inl (cAlong, 25, Sum.inr (Sum.inr (Sum.inr (Sum.inr (fun j => some (h5 j))))))), (h2, Sum.inl (cAlong, 5, Sum.inr (Sum.inr (Sum.inr (Sum.inr (fun j => some (h6 j))))))), (h3, Sum.inl (cint, 5, Sum.inl f_2_3)), (h4, Sum.inl (cint, 5, Sum.inl f_2_4))] : va_W) ++ (kk_rowsL h5 clong 40 F5 25 ++ (kk_rowsL h6 clong 5 f_2_1 5))) := hD
    refine lv_iload_n hx hb dX2_search_18 rfl (lv_at hl 0 rfl) ?_
    refine lv_aload_n hx hb dX2_search_19 rfl (lv_at hl 1 rfl) ?_
    refine va_get (D := (dC, dI)) (ci := 2) (v := .int n0_plots) (C := RX2) (T := TX2) (N := 13) hx hb hts (fun _ h => List.mem_cons_of_mem _ (List.mem_append_right _ h)) hown hK hP 0 rfl rfl 6 (by decide) (hts (.fieldLink RX2 67 "KinkStreet$Deeds" "plots" "I") (List.mem_of_getElem? (i := 2) rfl)) (fun _ h9 => h9) rfl dX2_search_20 ?_
    refine lv_icmp_ge (tgt := 81) hx hb dX2_search_23 (by decide) (fun c_3 => ?_) (fun c_3 => ?_)
    · have t_3 : n0_plots.toInt ≤ i_2_0.toInt := kk_le c_3
      have hP9 := hP.part (cx := [(h0, Sum.inr (2, [Value.ref h7, Value.ref h8, Value.ref h9, Value.int n0_size, Value.ref h10, Value.int n0_names, Value.int n0_plots, Value.ref h11, Value.ref h1, Value.ref h2, Value.ref h3, Value.ref h4, Value.int i_2_2])), (h1, Sum.inl (cAlong, 25, Sum.inr (Sum.inr (Sum.inr (Sum.inr (fun j => some (h5 j))))))), (h2, Sum.inl (cAlong, 5, Sum.inr (Sum.inr (Sum.inr (Sum.inr (fun j => some (h6 j))))))), (h3, Sum.inl (cint, 5, Sum.inl f_2_3)), (h4, Sum.inl (cint, 5, Sum.inl f_2_4))]) [0, 1, 2, 3, 4] rfl
      have hD9 := hD.part (cx := [(h0, Sum.inr (2, [Value.ref h7, Value.ref h8, Value.ref h9, Value.int n0_size, Value.ref h10, Value.int n0_names, Value.int n0_plots, Value.ref h11, Value.ref h1, Value.ref h2, Value.ref h3, Value.ref h4, Value.int i_2_2])), (h1, Sum.inl (cAlong, 25, Sum.inr (Sum.inr (Sum.inr (Sum.inr (fun j => some (h5 j))))))), (h2, Sum.inl (cAlong, 5, Sum.inr (Sum.inr (Sum.inr (Sum.inr (fun j => some (h6 j))))))), (h3, Sum.inl (cint, 5, Sum.inl f_2_3)), (h4, Sum.inl (cint, 5, Sum.inl f_2_4))]) [0, 1, 2, 3, 4] (by decide) rfl
      have hK9 := hK.sub (tys' := []) [] rfl
      exact W.vret hx hb hr (fun t ht hW => ⟨⟨(), rfl, trivial, i_2_2, f_2_3, f_2_4, f_2_1, by rw [ht]; exact hP9, va_K.moved hW.alike hK9, hD9⟩, hS.F ht⟩) hS.2.2 dX2_search_81
    · have t_3 : i_2_0.toInt < n0_plots.toInt := kk_nle c_3
      refine lv_aload_n hx hb dX2_search_26 rfl (lv_at hl 1 rfl) ?_
      refine va_get (D := (dC, dI)) (ci := 2) (v := .int i_2_2) (C := RX2) (T := TX2) (N := 13) hx hb hts (fun _ h => List.mem_cons_of_mem _ (List.mem_append_right _ h)) hown hK hP 0 rfl rfl 12 (by decide) (hts (.fieldLink RX2 70 "KinkStreet$Deeds" "ways" "I") (List.mem_of_getElem? (i := 3) rfl)) (fun _ h9 => h9) rfl dX2_search_27 ?_
      refine lv_ldc hx hb hown (hts _ (List.mem_of_getElem? (i := 4) rfl)) dX2_search_30 ?_
      refine lv_icmp_ge (tgt := 81) hx hb dX2_search_32 (by decide) (fun c_4 => ?_) (fun c_4 => ?_)
      · have t_4 : 1000000 ≤ i_2_2.toInt := kk_le c_4
        have hP9 := hP.part (cx := [(h0, Sum.inr (2, [Value.ref h7, Value.ref h8, Value.ref h9, Value.int n0_size, Value.ref h10, Value.int n0_names, Value.int n0_plots, Value.ref h11, Value.ref h1, Value.ref h2, Value.ref h3, Value.ref h4, Value.int i_2_2])), (h1, Sum.inl (cAlong, 25, Sum.inr (Sum.inr (Sum.inr (Sum.inr (fun j => some (h5 j))))))), (h2, Sum.inl (cAlong, 5, Sum.inr (Sum.inr (Sum.inr (Sum.inr (fun j => some (h6 j))))))), (h3, Sum.inl (cint, 5, Sum.inl f_2_3)), (h4, Sum.inl (cint, 5, Sum.inl f_2_4))]) [0, 1, 2, 3, 4] rfl
        have hD9 := hD.part (cx := [(h0, Sum.inr (2, [Value.ref h7, Value.ref h8, Value.ref h9, Value.int n0_size, Value.ref h10, Value.int n0_names, Value.int n0_plots, Value.ref h11, Value.ref h1, Value.ref h2, Value.ref h3, Value.ref h4, Value.int i_2_2])), (h1, Sum.inl (cAlong, 25, Sum.inr (Sum.inr (Sum.inr (Sum.inr (fun j => some (h5 j))))))), (h2, Sum.inl (cAlong, 5, Sum.inr (Sum.inr (Sum.inr (Sum.inr (fun j => some (h6 j))))))), (h3, Sum.inl (cint, 5, Sum.inl f_2_3)), (h4, Sum.inl (cint, 5, Sum.inl f_2_4))]) [0, 1, 2, 3, 4] (by decide) rfl
        have hK9 := hK.sub (tys' := []) [] rfl
        exact W.vret hx hb hr (fun t ht hW => ⟨⟨(), rfl, trivial, i_2_2, f_2_3, f_2_4, f_2_1, by rw [ht]; exact hP9, va_K.moved hW.alike hK9, hD9⟩, hS.F ht⟩) hS.2.2 dX2_search_81
      · have t_4 : i_2_2.toInt < 1000000 := kk_nle c_4
        refine lv_aload_n hx hb dX2_search_35 rfl (lv_at hl 1 rfl) ?_
        refine va_get (D := (dC, dI)) (ci := 2) (v := .ref h2) (C := RX2) (T := TX2) (N := 13) hx hb hts (fun _ h => List.mem_cons_of_mem _ (List.mem_append_right _ h)) hown hK hP 0 rfl rfl 9 (by decide) (hts (.fieldLink RX2 32 "KinkStreet$Deeds" "open" "[[J") (List.mem_of_getElem? (i := 5) rfl)) (fun _ h9 => h9) rfl dX2_search_36 ?_
        refine lv_iload_n hx hb dX2_search_39 rfl (lv_at hl 2 rfl) ?_
        have hi_5 : vp_in (0 : Int32) 5 := (by unfold vp_in; decide)
        have hk_5 : (0 : Int32).toNatClampNeg < 5 := Nat.not_le.mp fun q => hi_5 (Or.inr q)
        refine kk_aald hx hb hK hP 2 0 rfl rfl hi_5 dX2_search_40 ?_
        refine W.eq (g2 := F0 m 41 ls [.ref (h6 (0 : Int32).toNatClampNeg)]) rfl ?_
        refine lv_iload_n hx hb dX2_search_41 rfl (lv_at hl 2 rfl) ?_
        refine va_lald hx hb hK hP _ 2 (kk_getr (kk_getr (kk_rowL hk_5))) rfl (by unfold vp_in; decide) dX2_search_42 ?_
        refine lv_topl (fun y_6 e_6 => ?_)
        clear e_6
        refine lv_iload_n hx hb dX2_search_43 rfl (lv_at hl 0 rfl) ?_
        refine lv_lushr hx hb dX2_search_44 rfl ?_
        refine lv_topl (fun y_7 e_7 => ?_)
        clear e_7
        refine lv_lconst (v := 1) hx hb dX2_search_45 (by decide) ?_
        refine lv_land hx hb dX2_search_46 ?_
        refine lv_topl (fun y_8 e_8 => ?_)
        clear e_8
        refine lv_lconst (v := 0) hx hb dX2_search_47 (by decide) ?_
        refine W.lcmp hx hb dX2_search_48 ?_
        refine lv_if_eq (tgt := 75) hx hb dX2_search_49 (by decide) (fun _ => ?_) (fun _ => ?_)
        · skip
          refine lv_iinc (v := (i_2_0 + 1)) (lv' := [(2, .int (i_2_0 + 1)), (0, .ref h0), (1, .int 0)]) hx hb dX2_search_75 hl (k := 0) rfl (by first | rfl | decide) (by decide) rfl (fun ls hl => ?_)
          refine lv_goto (tgt := 18) hx hb dX2_search_78 (by decide) ?_
          exact ih_2 ((i_2_0 + 1), f_2_1, i_2_2, f_2_3, f_2_4) _ _ _ (by show ((40 : Int) - ((i_2_0 + 1)).toInt).toNat < ((40 : Int) - i_2_0.toInt).toNat; have := kk_rng i_2_2; have := kk_sub2 (x := n0_names) (y := 1) (a := n0_names.toInt) (b := 1) rfl rfl (by omega) (by omega); have := kk_add2 (x := i_2_0) (y := 1) (a := i_2_0.toInt) (b := 1) rfl rfl (by omega) (by omega); exact kk_mu (by omega) (by omega)) ⟨(by show 0 ≤ ((i_2_0 + 1) : Int32).toInt ∧ ((i_2_0 + 1) : Int32).toInt ≤ 40; first | decide | (constructor <;> (have := kk_rng i_2_2; have := kk_sub2 (x := n0_names) (y := 1) (a := n0_names.toInt) (b := 1) rfl rfl (by omega) (by omega); have := kk_add2 (x := i_2_0) (y := 1) (a := i_2_0.toInt) (b := 1) rfl rfl (by omega) (by omega); omega))), hP, hD, hS, lv_sub hl [0, 1, 2] rfl⟩
        · skip
          refine lv_aload_n hx hb dX2_search_52 rfl (lv_at hl 1 rfl) ?_
          refine lv_iload_n hx hb dX2_search_53 rfl (lv_at hl 2 rfl) ?_
          refine lv_iload_n hx hb dX2_search_54 rfl (lv_at hl 0 rfl) ?_
          have hPc := hP.part (cx := [(h0, Sum.inr (2, [Value.ref h7, Value.ref h8, Value.ref h9, Value.int n0_size, Value.ref h10, Value.int n0_names, Value.int n0_plots, Value.ref h11, Value.ref h1, Value.ref h2, Value.ref h3, Value.ref h4, Value.int i_2_2])), (h1, Sum.inl (cAlong, 25, Sum.inr (Sum.inr (Sum.inr (Sum.inr (fun j => some (h5 j))))))), (h2, Sum.inl (cAlong, 5, Sum.inr (Sum.inr (Sum.inr (Sum.inr (fun j => some (h6 j)))))))]) [0, 1, 2] rfl
          have hDc := hD.part (cx := [(h0, Sum.inr (2, [Value.ref h7, Value.ref h8, Value.ref h9, Value.int n0_size, Value.ref h10, Value.int n0_names, Value.int n0_plots, Value.ref h11, Value.ref h1, Value.ref h2, Value.ref h3, Value.ref h4, Value.int i_2_2])), (h1, Sum.inl (cAlong, 25, Sum.inr (Sum.inr (Sum.inr (Sum.inr (fun j => some (h5 j))))))), (h2, Sum.inl (cAlong, 5, Sum.inr (Sum.inr (Sum.inr (Sum.inr (fun j => some (h6 j)))))))]) [0, 1, 2] (by decide) rfl
          have hFc := va_freeP (cx := [(h0, Sum.inr (2, [Value.ref h7, Value.ref h8, Value.ref h9, Value.int n0_size, Value.ref h10, Value.int n0_names, Value.int n0_plots, Value.ref h11, Value.ref h1, Value.ref h2, Value.ref h3, Value.ref h4, Value.int i_2_2])), (h1, Sum.inl (cAlong, 25, Sum.inr (Sum.inr (Sum.inr (Sum.inr (fun j => some (h5 j))))))), (h2, Sum.inl (cAlong, 5, Sum.inr (Sum.inr (Sum.inr (Sum.inr (fun j => some (h6 j)))))))]) hD hS hA [0, 1, 2] rfl
          have hKc := hK.sub (tys' := [(cAlong, .array .long), (clong, .long)]) [0, 2] rfl
          refine va_calli (va_runV (As := [.int 0, .int i_2_0]) (rest := []) ⟨hx, hb, hml, hown, hts⟩ (g_X2_narrow_0 l dC dI h0 h1 h2 h5 h6 h7 h8 h9 h10 h11 h3 h4 cAlong clong H.size i_2_0 (by show 0 ≤ (i_2_0 : Int32).toInt ∧ (i_2_0 : Int32).toInt ≤ 39; first | decide | (constructor <;> (have := kk_rng i_2_2; have := kk_sub2 (x := n0_names) (y := 1) (a := n0_names.toInt) (b := 1) rfl rfl (by omega) (by omega); omega))) n0_size n0_names n0_plots i_2_2 F5 f_2_1 tn0_size tn0_names tn0_plots) (cwV 2 hts gX2_search_X2_narrow rfl rfl rfl (by decide +kernel) ⟨Nat.le_of_ble_eq_true rfl, Nat.le_of_ble_eq_true rfl⟩) ⟨fun a U g mk q => by obtain ⟨q0, q1, qP, qK, qD⟩ := q; exact ⟨q0, q1, qP, va_K.moved (u := U) (U := U.calling g mk a) (Vm.Alike.refl U.vm) qK, qD⟩, va_recv hKc hPc (ci := 2) (q0 := 0) rfl rfl, fun U hU hW => ⟨rfl, by rw [hU], by rw [hU]; exact hPc, va_K.moved hW.alike hKc, hDc.weaken (fun _ _ _ _ => trivial)⟩⟩ rfl rfl hl.1 rfl (lv_room (Nat.le_of_ble_eq_true rfl)) dX2_search_55 ⟨Nat.le_of_ble_eq_true rfl, Nat.le_of_ble_eq_true rfl⟩) hS (fun q _ h => hFc q h) hFc (fun r_9 u t H1 locs ht hvm hw hB hz1 hk1 hS => ?_)
          obtain ⟨f_10, hP1, hK1, hD1⟩ := hB
          rw [ht] at hP1
          have hK1 := va_K.moved hvm.symm hK1
          obtain ⟨hP, hD⟩ := va_joinP (cx := [(h0, Sum.inr (2, [Value.ref h7, Value.ref h8, Value.ref h9, Value.int n0_size, Value.ref h10, Value.int n0_names, Value.int n0_plots, Value.ref h11, Value.ref h1, Value.ref h2, Value.ref h3, Value.ref h4, Value.int i_2_2])), (h1, Sum.inl (cAlong, 25, Sum.inr (Sum.inr (Sum.inr (Sum.inr (fun j => some (h5 j))))))), (h2, Sum.inl (cAlong, 5, Sum.inr (Sum.inr (Sum.inr (Sum.inr (fun j => some (h6 j)))))))]) (wr := [(h3, Sum.inl (cint, 5, Sum.inl f_2_3)), (h4, Sum.inl (cint, 5, Sum.inl f_2_4))]) (rx := [(h0, Sum.inr (2, [Value.ref h7, Value.ref h8, Value.ref h9, Value.int n0_size, Value.ref h10, Value.int n0_names, Value.int n0_plots, Value.ref h11, Value.ref h1, Value.ref h2, Value.ref h3, Value.ref h4, Value.int i_2_2])), (h1, Sum.inl (cAlong, 25, Sum.inr (Sum.inr (Sum.inr (Sum.inr (fun j => some (h5 j))))))), (h2, Sum.inl (cAlong, 5, Sum.inr (Sum.inr (Sum.inr (Sum.inr (fun j => some (h6 j)))))))]) hP hD [0, 1, 2] [3, 4] rfl rfl (by decide) (by decide) hk1 hFc hP1 hD1
          generalize H1 = H at hP hS ⊢
          have hP : va_P (dC, dI) vwCl (([(h3, Sum.inl (cint, 5, Sum.inl f_2_3)), (h4, Sum.inl (cint, 5, Sum.inl f_2_4)), (h0, Sum.inr (2, [Value.ref h7, Value.ref h8, Value.ref h9, Value.int n0_size, Value.ref h10, Value.int n0_names, Value.int n0_plots, Value.ref h11, Value.ref h1, Value.ref h2, Value.ref h3, Value.ref h4, Value.int i_2_2])), (h1, Sum.inl (cAlong, 25, Sum.inr (Sum.inr (Sum.inr (Sum.inr (fun j => some (h5 j))))))), (h2, Sum.inl (cAlong, 5, Sum.inr (Sum.inr (Sum.inr (Sum.inr (fun j => some (h6 j)))))))] : va_W) ++ (kk_rowsL h5 clong 40 F5 25 ++ (kk_rowsL h6 clong 5 f_10 5))) H := hP
          have hD : va_D A (([(h3, Sum.inl (cint, 5, Sum.inl f_2_3)), (h4, Sum.inl (cint, 5, Sum.inl f_2_4)), (h0, Sum.inr (2, [Value.ref h7, Value.ref h8, Value.ref h9, Value.int n0_size, Value.ref h10, Value.int n0_names, Value.int n0_plots, Value.ref h11, Value.ref h1, Value.ref h2, Value.ref h3, Value.ref h4, Value.int i_2_2])), (h1, Sum.inl (cAlong, 25, Sum.inr (Sum.inr (Sum.inr (Sum.inr (fun j => some (h5 j))))))), (h2, Sum.inl (cAlong, 5, Sum.inr (Sum.inr (Sum.inr (Sum.inr (fun j => some (h6 j)))))))] : va_W) ++ (kk_rowsL h5 clong 40 F5 25 ++ (kk_rowsL h6 clong 5 f_10 5))) := hD
          rcases hw with ⟨t_9_0, rfl⟩ | ⟨rfl⟩
          · skip
            have t_9_0 : (2 : Int) ≤ n0_names.toInt := t_9_0
            refine lv_if_eq (tgt := 75) hx hb dX2_search_58 (by decide) (fun _ => ?_) (fun c => absurd c (by decide))
            refine lv_iinc (v := (i_2_0 + 1)) (lv' := [(2, .int (i_2_0 + 1)), (0, .ref h0), (1, .int 0)]) hx hb dX2_search_75 hl (k := 0) rfl (by first | rfl | decide) (by decide) rfl (fun ls hl => ?_)
            refine lv_goto (tgt := 18) hx hb dX2_search_78 (by decide) ?_
            exact ih_2 ((i_2_0 + 1), f_10, i_2_2, f_2_3, f_2_4) _ _ _ (by show ((40 : Int) - ((i_2_0 + 1)).toInt).toNat < ((40 : Int) - i_2_0.toInt).toNat; have := kk_rng i_2_2; have := kk_sub2 (x := n0_names) (y := 1) (a := n0_names.toInt) (b := 1) rfl rfl (by omega) (by omega); have := kk_add2 (x := i_2_0) (y := 1) (a := i_2_0.toInt) (b := 1) rfl rfl (by omega) (by omega); exact kk_mu (by omega) (by omega)) ⟨(by show 0 ≤ ((i_2_0 + 1) : Int32).toInt ∧ ((i_2_0 + 1) : Int32).toInt ≤ 40; first | decide | (constructor <;> (have := kk_rng i_2_2; have := kk_sub2 (x := n0_names) (y := 1) (a := n0_names.toInt) (b := 1) rfl rfl (by omega) (by omega); have := kk_add2 (x := i_2_0) (y := 1) (a := i_2_0.toInt) (b := 1) rfl rfl (by omega) (by omega); omega))), hP.part (cx := [(h0, Sum.inr (2, [Value.ref h7, Value.ref h8, Value.ref h9, Value.int n0_size, Value.ref h10, Value.int n0_names, Value.int n0_plots, Value.ref h11, Value.ref h1, Value.ref h2, Value.ref h3, Value.ref h4, Value.int i_2_2])), (h1, Sum.inl (cAlong, 25, Sum.inr (Sum.inr (Sum.inr (Sum.inr (fun j => some (h5 j))))))), (h2, Sum.inl (cAlong, 5, Sum.inr (Sum.inr (Sum.inr (Sum.inr (fun j => some (h6 j))))))), (h3, Sum.inl (cint, 5, Sum.inl f_2_3)), (h4, Sum.inl (cint, 5, Sum.inl f_2_4))]) [2, 3, 4, 0, 1] rfl, hD.part (cx := [(h0, Sum.inr (2, [Value.ref h7, Value.ref h8, Value.ref h9, Value.int n0_size, Value.ref h10, Value.int n0_names, Value.int n0_plots, Value.ref h11, Value.ref h1, Value.ref h2, Value.ref h3, Value.ref h4, Value.int i_2_2])), (h1, Sum.inl (cAlong, 25, Sum.inr (Sum.inr (Sum.inr (Sum.inr (fun j => some (h5 j))))))), (h2, Sum.inl (cAlong, 5, Sum.inr (Sum.inr (Sum.inr (Sum.inr (fun j => some (h6 j))))))), (h3, Sum.inl (cint, 5, Sum.inl f_2_3)), (h4, Sum.inl (cint, 5, Sum.inl f_2_4))]) [2, 3, 4, 0, 1] (by decide) rfl, hS, lv_sub hl [0, 1, 2] rfl⟩
          · skip
            refine lv_if_eq (tgt := 75) hx hb dX2_search_58 (by decide) (fun c => absurd c (by decide)) (fun _ => ?_)
            refine lv_aload_n hx hb dX2_search_61 rfl (lv_at hl 1 rfl) ?_
            refine va_get (D := (dC, dI)) (ci := 2) (v := .ref h3) (C := RX2) (T := TX2) (N := 13) hx hb hts (fun _ h => List.mem_cons_of_mem _ (List.mem_append_right _ h)) hown hK hP 2 rfl rfl 10 (by decide) (hts (.fieldLink RX2 35 "KinkStreet$Deeds" "tried" "[I") (List.mem_of_getElem? (i := 6) rfl)) (fun _ h9 => h9) rfl dX2_search_62 ?_
            refine lv_iload_n hx hb dX2_search_65 rfl (lv_at hl 2 rfl) ?_
            refine lv_iload_n hx hb dX2_search_66 rfl (lv_at hl 0 rfl) ?_
            refine va_iast hx hb hK hP hD hS 0 1 rfl rfl (by unfold vp_in; decide) dX2_search_67 (fun H locs hP hD hS => ?_)
            generalize upd f_2_3 (0 : Int32).toNatClampNeg i_2_0 = f_11 at hP hD
            have hP : va_P (dC, dI) vwCl (([(h3, Sum.inl (cint, 5, Sum.inl f_11)), (h4, Sum.inl (cint, 5, Sum.inl f_2_4)), (h0, Sum.inr (2, [Value.ref h7, Value.ref h8, Value.ref h9, Value.int n0_size, Value.ref h10, Value.int n0_names, Value.int n0_plots, Value.ref h11, Value.ref h1, Value.ref h2, Value.ref h3, Value.ref h4, Value.int i_2_2])), (h1, Sum.inl (cAlong, 25, Sum.inr (Sum.inr (Sum.inr (Sum.inr (fun j => some (h5 j))))))), (h2, Sum.inl (cAlong, 5, Sum.inr (Sum.inr (Sum.inr (Sum.inr (fun j => some (h6 j)))))))] : va_W) ++ (kk_rowsL h5 clong 40 F5 25 ++ (kk_rowsL h6 clong 5 f_10 5))) H := hP
            have hD : va_D A (([(h3, Sum.inl (cint, 5, Sum.inl f_11)), (h4, Sum.inl (cint, 5, Sum.inl f_2_4)), (h0, Sum.inr (2, [Value.ref h7, Value.ref h8, Value.ref h9, Value.int n0_size, Value.ref h10, Value.int n0_names, Value.int n0_plots, Value.ref h11, Value.ref h1, Value.ref h2, Value.ref h3, Value.ref h4, Value.int i_2_2])), (h1, Sum.inl (cAlong, 25, Sum.inr (Sum.inr (Sum.inr (Sum.inr (fun j => some (h5 j))))))), (h2, Sum.inl (cAlong, 5, Sum.inr (Sum.inr (Sum.inr (Sum.inr (fun j => some (h6 j)))))))] : va_W) ++ (kk_rowsL h5 clong 40 F5 25 ++ (kk_rowsL h6 clong 5 f_10 5))) := hD
            refine lv_aload_n hx hb dX2_search_68 rfl (lv_at hl 1 rfl) ?_
            refine lv_iload_n hx hb dX2_search_69 rfl (lv_at hl 2 rfl) ?_
            refine lv_iconst (v := 1) hx hb dX2_search_70 (by decide) ?_
            refine lv_iadd hx hb dX2_search_71 ?_
            refine lv_topi (fun y_12 e_12 => ?_)
            obtain rfl : y_12 = 1 := e_12.trans (by decide)
            have hPc := hP.part (cx := [(h0, Sum.inr (2, [Value.ref h7, Value.ref h8, Value.ref h9, Value.int n0_size, Value.ref h10, Value.int n0_names, Value.int n0_plots, Value.ref h11, Value.ref h1, Value.ref h2, Value.ref h3, Value.ref h4, Value.int i_2_2])), (h1, Sum.inl (cAlong, 25, Sum.inr (Sum.inr (Sum.inr (Sum.inr (fun j => some (h5 j))))))), (h2, Sum.inl (cAlong, 5, Sum.inr (Sum.inr (Sum.inr (Sum.inr (fun j => some (h6 j))))))), (h3, Sum.inl (cint, 5, Sum.inl f_11)), (h4, Sum.inl (cint, 5, Sum.inl f_2_4))]) [2, 3, 4, 0, 1] rfl
            have hDc := hD.part (cx := [(h0, Sum.inr (2, [Value.ref h7, Value.ref h8, Value.ref h9, Value.int n0_size, Value.ref h10, Value.int n0_names, Value.int n0_plots, Value.ref h11, Value.ref h1, Value.ref h2, Value.ref h3, Value.ref h4, Value.int i_2_2])), (h1, Sum.inl (cAlong, 25, Sum.inr (Sum.inr (Sum.inr (Sum.inr (fun j => some (h5 j))))))), (h2, Sum.inl (cAlong, 5, Sum.inr (Sum.inr (Sum.inr (Sum.inr (fun j => some (h6 j))))))), (h3, Sum.inl (cint, 5, Sum.inl f_11)), (h4, Sum.inl (cint, 5, Sum.inl f_2_4))]) [2, 3, 4, 0, 1] (by decide) rfl
            have hFc := va_freeP (cx := [(h0, Sum.inr (2, [Value.ref h7, Value.ref h8, Value.ref h9, Value.int n0_size, Value.ref h10, Value.int n0_names, Value.int n0_plots, Value.ref h11, Value.ref h1, Value.ref h2, Value.ref h3, Value.ref h4, Value.int i_2_2])), (h1, Sum.inl (cAlong, 25, Sum.inr (Sum.inr (Sum.inr (Sum.inr (fun j => some (h5 j))))))), (h2, Sum.inl (cAlong, 5, Sum.inr (Sum.inr (Sum.inr (Sum.inr (fun j => some (h6 j))))))), (h3, Sum.inl (cint, 5, Sum.inl f_11)), (h4, Sum.inl (cint, 5, Sum.inl f_2_4))]) hD hS hA [2, 3, 4, 0, 1] rfl
            have hKc := hK.sub (tys' := [(cAlong, .array .long), (cint, .int), (clong, .long)]) [0, 1, 2] rfl
            refine va_callv (va_runV (As := [.int 1]) (rest := []) ⟨hx, hb, hml, hown, hts⟩ (g_X2_search_3 l dC dI h0 h1 h2 h3 h4 h5 h6 h7 h8 h9 h10 h11 cAlong cint clong H.size n0_size n0_names n0_plots i_2_2 f_11 f_2_4 F5 f_10 tn0_size tn0_names tn0_plots) (cwV 1 hts gX2_search_X2_search rfl rfl rfl (by decide +kernel) ⟨Nat.le_of_ble_eq_true rfl, Nat.le_of_ble_eq_true rfl⟩) ⟨fun a U g mk q => by obtain ⟨q0, q1, qP, qK, qD⟩ := q; exact ⟨q0, q1, qP, va_K.moved (u := U) (U := U.calling g mk a) (Vm.Alike.refl U.vm) qK, qD⟩, va_recv hKc hPc (ci := 2) (q0 := 0) rfl rfl, fun U hU hW => ⟨rfl, by rw [hU], by rw [hU]; exact hPc, va_K.moved hW.alike hKc, hDc.weaken (fun _ _ _ _ => trivial)⟩⟩ rfl rfl hl.1 rfl (lv_room (Nat.le_of_ble_eq_true rfl)) dX2_search_72 ⟨Nat.le_of_ble_eq_true rfl, Nat.le_of_ble_eq_true rfl⟩) hS (fun q _ h => hFc q h) hFc (fun u t H1 locs ht hvm hw hB hz1 hk1 hS => ?_)
            obtain ⟨y_14, f_15, f_16, f_17, hP1, hK1, hD1⟩ := hB
            rw [ht] at hP1
            have hK1 := va_K.moved hvm.symm hK1
            obtain ⟨hP, hD⟩ := va_joinP (cx := [(h0, Sum.inr (2, [Value.ref h7, Value.ref h8, Value.ref h9, Value.int n0_size, Value.ref h10, Value.int n0_names, Value.int n0_plots, Value.ref h11, Value.ref h1, Value.ref h2, Value.ref h3, Value.ref h4, Value.int i_2_2])), (h1, Sum.inl (cAlong, 25, Sum.inr (Sum.inr (Sum.inr (Sum.inr (fun j => some (h5 j))))))), (h2, Sum.inl (cAlong, 5, Sum.inr (Sum.inr (Sum.inr (Sum.inr (fun j => some (h6 j))))))), (h3, Sum.inl (cint, 5, Sum.inl f_11)), (h4, Sum.inl (cint, 5, Sum.inl f_2_4))]) (wr := []) (rx := [(h0, Sum.inr (2, [Value.ref h7, Value.ref h8, Value.ref h9, Value.int n0_size, Value.ref h10, Value.int n0_names, Value.int n0_plots, Value.ref h11, Value.ref h1, Value.ref h2, Value.ref h3, Value.ref h4, Value.int y_14])), (h1, Sum.inl (cAlong, 25, Sum.inr (Sum.inr (Sum.inr (Sum.inr (fun j => some (h5 j))))))), (h2, Sum.inl (cAlong, 5, Sum.inr (Sum.inr (Sum.inr (Sum.inr (fun j => some (h6 j))))))), (h3, Sum.inl (cint, 5, Sum.inl f_15)), (h4, Sum.inl (cint, 5, Sum.inl f_16))]) hP hD [2, 3, 4, 0, 1] [] rfl rfl (by decide) (by decide) hk1 hFc hP1 hD1
            generalize H1 = H at hP hS ⊢
            have hP : va_P (dC, dI) vwCl (([(h0, Sum.inr (2, [Value.ref h7, Value.ref h8, Value.ref h9, Value.int n0_size, Value.ref h10, Value.int n0_names, Value.int n0_plots, Value.ref h11, Value.ref h1, Value.ref h2, Value.ref h3, Value.ref h4, Value.int y_14])), (h1, Sum.inl (cAlong, 25, Sum.inr (Sum.inr (Sum.inr (Sum.inr (fun j => some (h5 j))))))), (h2, Sum.inl (cAlong, 5, Sum.inr (Sum.inr (Sum.inr (Sum.inr (fun j => some (h6 j))))))), (h3, Sum.inl (cint, 5, Sum.inl f_15)), (h4, Sum.inl (cint, 5, Sum.inl f_16))] : va_W) ++ (kk_rowsL h5 clong 40 F5 25 ++ (kk_rowsL h6 clong 5 f_17 5))) H := hP
            have hD : va_D A (([(h0, Sum.inr (2, [Value.ref h7, Value.ref h8, Value.ref h9, Value.int n0_size, Value.ref h10, Value.int n0_names, Value.int n0_plots, Value.ref h11, Value.ref h1, Value.ref h2, Value.ref h3, Value.ref h4, Value.int y_14])), (h1, Sum.inl (cAlong, 25, Sum.inr (Sum.inr (Sum.inr (Sum.inr (fun j => some (h5 j))))))), (h2, Sum.inl (cAlong, 5, Sum.inr (Sum.inr (Sum.inr (Sum.inr (fun j => some (h6 j))))))), (h3, Sum.inl (cint, 5, Sum.inl f_15)), (h4, Sum.inl (cint, 5, Sum.inl f_16))] : va_W) ++ (kk_rowsL h5 clong 40 F5 25 ++ (kk_rowsL h6 clong 5 f_17 5))) := hD
            refine lv_iinc (v := (i_2_0 + 1)) (lv' := [(2, .int (i_2_0 + 1)), (0, .ref h0), (1, .int 0)]) hx hb dX2_search_75 hl (k := 0) rfl (by first | rfl | decide) (by decide) rfl (fun ls hl => ?_)
            refine lv_goto (tgt := 18) hx hb dX2_search_78 (by decide) ?_
            exact ih_2 ((i_2_0 + 1), f_17, y_14, f_15, f_16) _ _ _ (by show ((40 : Int) - ((i_2_0 + 1)).toInt).toNat < ((40 : Int) - i_2_0.toInt).toNat; have := kk_rng i_2_2; have := kk_sub2 (x := n0_names) (y := 1) (a := n0_names.toInt) (b := 1) rfl rfl (by omega) (by omega); have := kk_add2 (x := i_2_0) (y := 1) (a := i_2_0.toInt) (b := 1) rfl rfl (by omega) (by omega); exact kk_mu (by omega) (by omega)) ⟨(by show 0 ≤ ((i_2_0 + 1) : Int32).toInt ∧ ((i_2_0 + 1) : Int32).toInt ≤ 40; first | decide | (constructor <;> (have := kk_rng i_2_2; have := kk_sub2 (x := n0_names) (y := 1) (a := n0_names.toInt) (b := 1) rfl rfl (by omega) (by omega); have := kk_add2 (x := i_2_0) (y := 1) (a := i_2_0.toInt) (b := 1) rfl rfl (by omega) (by omega); omega))), hP, hD, hS, lv_sub hl [0, 1, 2] rfl⟩
  · have t_1 : (n0_names - 1).toInt ≤ 0 := kk_nlt c_1
    refine lv_aload_n hx hb dX2_search_10 rfl (lv_at hl 0 rfl) ?_
    refine lv_iload_n hx hb dX2_search_11 rfl (lv_at hl 1 rfl) ?_
    have hPc := hP.part (cx := [(h0, Sum.inr (2, [Value.ref h7, Value.ref h8, Value.ref h9, Value.int n0_size, Value.ref h10, Value.int n0_names, Value.int n0_plots, Value.ref h11, Value.ref h1, Value.ref h2, Value.ref h3, Value.ref h4, Value.int n0_ways])), (h1, Sum.inl (cAlong, 25, Sum.inr (Sum.inr (Sum.inr (Sum.inr (fun j => some (h5 j))))))), (h2, Sum.inl (cAlong, 5, Sum.inr (Sum.inr (Sum.inr (Sum.inr (fun j => some (h6 j))))))), (h3, Sum.inl (cint, 5, Sum.inl f3)), (h4, Sum.inl (cint, 5, Sum.inl f4))]) [0, 1, 2, 3, 4] rfl
    have hDc := hD.part (cx := [(h0, Sum.inr (2, [Value.ref h7, Value.ref h8, Value.ref h9, Value.int n0_size, Value.ref h10, Value.int n0_names, Value.int n0_plots, Value.ref h11, Value.ref h1, Value.ref h2, Value.ref h3, Value.ref h4, Value.int n0_ways])), (h1, Sum.inl (cAlong, 25, Sum.inr (Sum.inr (Sum.inr (Sum.inr (fun j => some (h5 j))))))), (h2, Sum.inl (cAlong, 5, Sum.inr (Sum.inr (Sum.inr (Sum.inr (fun j => some (h6 j))))))), (h3, Sum.inl (cint, 5, Sum.inl f3)), (h4, Sum.inl (cint, 5, Sum.inl f4))]) [0, 1, 2, 3, 4] (by decide) rfl
    have hFc := va_freeP (cx := [(h0, Sum.inr (2, [Value.ref h7, Value.ref h8, Value.ref h9, Value.int n0_size, Value.ref h10, Value.int n0_names, Value.int n0_plots, Value.ref h11, Value.ref h1, Value.ref h2, Value.ref h3, Value.ref h4, Value.int n0_ways])), (h1, Sum.inl (cAlong, 25, Sum.inr (Sum.inr (Sum.inr (Sum.inr (fun j => some (h5 j))))))), (h2, Sum.inl (cAlong, 5, Sum.inr (Sum.inr (Sum.inr (Sum.inr (fun j => some (h6 j))))))), (h3, Sum.inl (cint, 5, Sum.inl f3)), (h4, Sum.inl (cint, 5, Sum.inl f4))]) hD hS hA [0, 1, 2, 3, 4] rfl
    have hKc := hK.sub (tys' := [(cAlong, .array .long), (cint, .int), (clong, .long)]) [0, 1, 2] rfl
    refine va_callv (va_runV (As := [.int 0]) (rest := []) ⟨hx, hb, hml, hown, hts⟩ (g_X2_countWays_4 l dC dI h0 h1 h2 h3 h4 h5 h6 h7 h8 h9 h10 h11 cAlong cint clong s.heap.size n0_size n0_names n0_plots n0_ways f3 f4 F5 F6 tn0_size tn0_names tn0_plots) (cwV 1 hts gX2_search_X2_countWays rfl rfl rfl (by decide +kernel) ⟨Nat.le_of_ble_eq_true rfl, Nat.le_of_ble_eq_true rfl⟩) ⟨fun a U g mk q => by obtain ⟨q0, q1, qP, qK, qD⟩ := q; exact ⟨q0, q1, qP, va_K.moved (u := U) (U := U.calling g mk a) (Vm.Alike.refl U.vm) qK, qD⟩, va_recv hKc hPc (ci := 2) (q0 := 0) rfl rfl, fun U hU hW => ⟨rfl, by rw [hU], by rw [hU]; exact hPc, va_K.moved hW.alike hKc, hDc.weaken (fun _ _ _ _ => trivial)⟩⟩ rfl rfl hl.1 rfl (lv_room (Nat.le_of_ble_eq_true rfl)) dX2_search_12 ⟨Nat.le_of_ble_eq_true rfl, Nat.le_of_ble_eq_true rfl⟩) hS (fun q _ h => hFc q h) hFc (fun u t H1 locs ht hvm hw hB hz1 hk1 hS => ?_)
    obtain ⟨y_19, f_20, f_21, hP1, hK1, hD1⟩ := hB
    rw [ht] at hP1
    have hK1 := va_K.moved hvm.symm hK1
    obtain ⟨hP, hD⟩ := va_joinP (cx := [(h0, Sum.inr (2, [Value.ref h7, Value.ref h8, Value.ref h9, Value.int n0_size, Value.ref h10, Value.int n0_names, Value.int n0_plots, Value.ref h11, Value.ref h1, Value.ref h2, Value.ref h3, Value.ref h4, Value.int n0_ways])), (h1, Sum.inl (cAlong, 25, Sum.inr (Sum.inr (Sum.inr (Sum.inr (fun j => some (h5 j))))))), (h2, Sum.inl (cAlong, 5, Sum.inr (Sum.inr (Sum.inr (Sum.inr (fun j => some (h6 j))))))), (h3, Sum.inl (cint, 5, Sum.inl f3)), (h4, Sum.inl (cint, 5, Sum.inl f4))]) (wr := []) (rx := [(h0, Sum.inr (2, [Value.ref h7, Value.ref h8, Value.ref h9, Value.int n0_size, Value.ref h10, Value.int n0_names, Value.int n0_plots, Value.ref h11, Value.ref h1, Value.ref h2, Value.ref h3, Value.ref h4, Value.int y_19])), (h1, Sum.inl (cAlong, 25, Sum.inr (Sum.inr (Sum.inr (Sum.inr (fun j => some (h5 j))))))), (h2, Sum.inl (cAlong, 5, Sum.inr (Sum.inr (Sum.inr (Sum.inr (fun j => some (h6 j))))))), (h3, Sum.inl (cint, 5, Sum.inl f_20)), (h4, Sum.inl (cint, 5, Sum.inl f_21))]) hP hD [0, 1, 2, 3, 4] [] rfl rfl (by decide) (by decide) hk1 hFc hP1 hD1
    generalize H1 = H at hP hS ⊢
    have hP : va_P (dC, dI) vwCl (([(h0, Sum.inr (2, [Value.ref h7, Value.ref h8, Value.ref h9, Value.int n0_size, Value.ref h10, Value.int n0_names, Value.int n0_plots, Value.ref h11, Value.ref h1, Value.ref h2, Value.ref h3, Value.ref h4, Value.int y_19])), (h1, Sum.inl (cAlong, 25, Sum.inr (Sum.inr (Sum.inr (Sum.inr (fun j => some (h5 j))))))), (h2, Sum.inl (cAlong, 5, Sum.inr (Sum.inr (Sum.inr (Sum.inr (fun j => some (h6 j))))))), (h3, Sum.inl (cint, 5, Sum.inl f_20)), (h4, Sum.inl (cint, 5, Sum.inl f_21))] : va_W) ++ (kk_rowsL h5 clong 40 F5 25 ++ (kk_rowsL h6 clong 5 F6 5))) H := hP
    have hD : va_D A (([(h0, Sum.inr (2, [Value.ref h7, Value.ref h8, Value.ref h9, Value.int n0_size, Value.ref h10, Value.int n0_names, Value.int n0_plots, Value.ref h11, Value.ref h1, Value.ref h2, Value.ref h3, Value.ref h4, Value.int y_19])), (h1, Sum.inl (cAlong, 25, Sum.inr (Sum.inr (Sum.inr (Sum.inr (fun j => some (h5 j))))))), (h2, Sum.inl (cAlong, 5, Sum.inr (Sum.inr (Sum.inr (Sum.inr (fun j => some (h6 j))))))), (h3, Sum.inl (cint, 5, Sum.inl f_20)), (h4, Sum.inl (cint, 5, Sum.inl f_21))] : va_W) ++ (kk_rowsL h5 clong 40 F5 25 ++ (kk_rowsL h6 clong 5 F6 5))) := hD
    have hP9 := hP.part (cx := [(h0, Sum.inr (2, [Value.ref h7, Value.ref h8, Value.ref h9, Value.int n0_size, Value.ref h10, Value.int n0_names, Value.int n0_plots, Value.ref h11, Value.ref h1, Value.ref h2, Value.ref h3, Value.ref h4, Value.int y_19])), (h1, Sum.inl (cAlong, 25, Sum.inr (Sum.inr (Sum.inr (Sum.inr (fun j => some (h5 j))))))), (h2, Sum.inl (cAlong, 5, Sum.inr (Sum.inr (Sum.inr (Sum.inr (fun j => some (h6 j))))))), (h3, Sum.inl (cint, 5, Sum.inl f_20)), (h4, Sum.inl (cint, 5, Sum.inl f_21))]) [0, 1, 2, 3, 4] rfl
    have hD9 := hD.part (cx := [(h0, Sum.inr (2, [Value.ref h7, Value.ref h8, Value.ref h9, Value.int n0_size, Value.ref h10, Value.int n0_names, Value.int n0_plots, Value.ref h11, Value.ref h1, Value.ref h2, Value.ref h3, Value.ref h4, Value.int y_19])), (h1, Sum.inl (cAlong, 25, Sum.inr (Sum.inr (Sum.inr (Sum.inr (fun j => some (h5 j))))))), (h2, Sum.inl (cAlong, 5, Sum.inr (Sum.inr (Sum.inr (Sum.inr (fun j => some (h6 j))))))), (h3, Sum.inl (cint, 5, Sum.inl f_20)), (h4, Sum.inl (cint, 5, Sum.inl f_21))]) [0, 1, 2, 3, 4] (by decide) rfl
    have hK9 := hK.sub (tys' := []) [] rfl
    exact W.vret hx hb hr (fun t ht hW => ⟨⟨(), rfl, trivial, y_19, f_20, f_21, F6, by rw [ht]; exact hP9, va_K.moved hW.alike hK9, hD9⟩, hS.F ht⟩) hS.2.2 dX2_search_15
set_option maxHeartbeats 4000000 in
set_option maxRecDepth 100000 in
theorem g_X2_putTogether_0 (l : Launch) (dC : Nat → ClassId) (dI : Nat → Nat → Nat) (h0 : Nat) (h1 : Nat) (h2 : Nat) (h3 : Nat) (h4 : Nat) (h5 : Nat) (h6 : Nat) (h7 : Nat) (h8 : Nat) (h9 : Nat) (h10 : Nat) (h11 : Nat) (h12 : Nat → Nat) (h13 : Nat → Nat) (h14 : Nat) (h15 : Nat) (cint cAlong clong : ClassId) (sz : Nat) (p1 : Int32) (n0_size : Int32) (n0_names : Int32) (n0_plots : Int32) (n0_ways : Int32) (n1_size : Int32) (f2 : Nat → Int32) (f3 : Nat → Int32) (f4 : Nat → Int32) (f5 : Nat → Int32) (f6 : Nat → Int32) (f9 : Nat → Int32) (f10 : Nat → Int32) (f11 : Nat → Int32) (F12 : Nat → Nat → Int64) (F13 : Nat → Nat → Int64) (tn0_size : 0 ≤ n0_size.toInt ∧ n0_size.toInt ≤ 10) (tn0_names : 0 ≤ n0_names.toInt ∧ n0_names.toInt ≤ 8) (tn0_plots : 0 ≤ n0_plots.toInt ∧ n0_plots.toInt ≤ 40) (tn1_size : 0 ≤ n1_size.toInt ∧ n1_size.toInt ≤ 40) : Met l yX2_putTogether wsX2_putTogether ({ frames := 8, cells := 0, slots := 0, locals := 181 }) (va_Pc [.ref h0, .ref h1, .int p1] (fun U => U.heap.size = sz ∧ va_P (dC, dI) vwCl (([(h0, Sum.inr (2, [Value.ref h2, Value.ref h3, Value.ref h4, Value.int n0_size, Value.ref h5, Value.int n0_names, Value.int n0_plots, Value.ref h6, Value.ref h7, Value.ref h8, Value.ref h9, Value.ref h10, Value.int n0_ways])), (h1, Sum.inr (9, [Value.ref h11, Value.ref h14, Value.ref h15, Value.int n1_size])), (h2, Sum.inl (cint, 10, Sum.inl f2)), (h3, Sum.inl (cint, 10, Sum.inl f3)), (h4, Sum.inl (cint, 10, Sum.inl f4)), (h5, Sum.inl (cint, 8, Sum.inl f5)), (h6, Sum.inl (cint, 40, Sum.inl f6)), (h7, Sum.inl (cAlong, 25, Sum.inr (Sum.inr (Sum.inr (Sum.inr (fun j => some (h12 j))))))), (h8, Sum.inl (cAlong, 5, Sum.inr (Sum.inr (Sum.inr (Sum.inr (fun j => some (h13 j))))))), (h9, Sum.inl (cint, 5, Sum.inl f9)), (h10, Sum.inl (cint, 5, Sum.inl f10)), (h11, Sum.inl (cint, 40, Sum.inl f11))] : va_W) ++ (kk_rowsL h12 clong 40 F12 25 ++ (kk_rowsL h13 clong 5 F13 5))) U.heap ∧ va_K (dC, dI) vwCl [(cint, .int), (cAlong, .array .long), (clong, .long)] U ∧ va_D (fun _ => True) (([(h0, Sum.inr (2, [Value.ref h2, Value.ref h3, Value.ref h4, Value.int n0_size, Value.ref h5, Value.int n0_names, Value.int n0_plots, Value.ref h6, Value.ref h7, Value.ref h8, Value.ref h9, Value.ref h10, Value.int n0_ways])), (h1, Sum.inr (9, [Value.ref h11, Value.ref h14, Value.ref h15, Value.int n1_size])), (h2, Sum.inl (cint, 10, Sum.inl f2)), (h3, Sum.inl (cint, 10, Sum.inl f3)), (h4, Sum.inl (cint, 10, Sum.inl f4)), (h5, Sum.inl (cint, 8, Sum.inl f5)), (h6, Sum.inl (cint, 40, Sum.inl f6)), (h7, Sum.inl (cAlong, 25, Sum.inr (Sum.inr (Sum.inr (Sum.inr (fun j => some (h12 j))))))), (h8, Sum.inl (cAlong, 5, Sum.inr (Sum.inr (Sum.inr (Sum.inr (fun j => some (h13 j))))))), (h9, Sum.inl (cint, 5, Sum.inl f9)), (h10, Sum.inl (cint, 5, Sum.inl f10)), (h11, Sum.inl (cint, 40, Sum.inl f11))] : va_W) ++ (kk_rowsL h12 clong 40 F12 25 ++ (kk_rowsL h13 clong 5 F13 5))))) (va_Qi (fun (r : Int32) (_ : Unit) => True) (fun (_ : Unit) t => ∃ (m0_plots : Int32) (m0_ways : Int32) (g6 : Nat → Int32) (g9 : Nat → Int32) (g10 : Nat → Int32) (g12 : Nat → Nat → Int64) (g13 : Nat → Nat → Int64), (0 ≤ m0_plots.toInt ∧ m0_plots.toInt ≤ 40) ∧ va_P (dC, dI) vwCl (([(h0, Sum.inr (2, [Value.ref h2, Value.ref h3, Value.ref h4, Value.int n0_size, Value.ref h5, Value.int n0_names, Value.int m0_plots, Value.ref h6, Value.ref h7, Value.ref h8, Value.ref h9, Value.ref h10, Value.int m0_ways])), (h1, Sum.inr (9, [Value.ref h11, Value.ref h14, Value.ref h15, Value.int n1_size])), (h2, Sum.inl (cint, 10, Sum.inl f2)), (h3, Sum.inl (cint, 10, Sum.inl f3)), (h4, Sum.inl (cint, 10, Sum.inl f4)), (h5, Sum.inl (cint, 8, Sum.inl f5)), (h6, Sum.inl (cint, 40, Sum.inl g6)), (h7, Sum.inl (cAlong, 25, Sum.inr (Sum.inr (Sum.inr (Sum.inr (fun j => some (h12 j))))))), (h8, Sum.inl (cAlong, 5, Sum.inr (Sum.inr (Sum.inr (Sum.inr (fun j => some (h13 j))))))), (h9, Sum.inl (cint, 5, Sum.inl g9)), (h10, Sum.inl (cint, 5, Sum.inl g10)), (h11, Sum.inl (cint, 40, Sum.inl f11))] : va_W) ++ (kk_rowsL h12 clong 40 g12 25 ++ (kk_rowsL h13 clong 5 g13 5))) t.heap ∧ va_K (dC, dI) vwCl [] t ∧ va_D (va_A (([(h0, Sum.inr (2, [Value.ref h2, Value.ref h3, Value.ref h4, Value.int n0_size, Value.ref h5, Value.int n0_names, Value.int n0_plots, Value.ref h6, Value.ref h7, Value.ref h8, Value.ref h9, Value.ref h10, Value.int n0_ways])), (h1, Sum.inr (9, [Value.ref h11, Value.ref h14, Value.ref h15, Value.int n1_size])), (h2, Sum.inl (cint, 10, Sum.inl f2)), (h3, Sum.inl (cint, 10, Sum.inl f3)), (h4, Sum.inl (cint, 10, Sum.inl f4)), (h5, Sum.inl (cint, 8, Sum.inl f5)), (h6, Sum.inl (cint, 40, Sum.inl f6)), (h7, Sum.inl (cAlong, 25, Sum.inr (Sum.inr (Sum.inr (Sum.inr (fun j => some (h12 j))))))), (h8, Sum.inl (cAlong, 5, Sum.inr (Sum.inr (Sum.inr (Sum.inr (fun j => some (h13 j))))))), (h9, Sum.inl (cint, 5, Sum.inl f9)), (h10, Sum.inl (cint, 5, Sum.inl f10)), (h11, Sum.inl (cint, 40, Sum.inl f11))] : va_W) ++ (kk_rowsL h12 clong 40 F12 25 ++ (kk_rowsL h13 clong 5 F13 5))) sz) (([(h0, Sum.inr (2, [Value.ref h2, Value.ref h3, Value.ref h4, Value.int n0_size, Value.ref h5, Value.int n0_names, Value.int m0_plots, Value.ref h6, Value.ref h7, Value.ref h8, Value.ref h9, Value.ref h10, Value.int m0_ways])), (h1, Sum.inr (9, [Value.ref h11, Value.ref h14, Value.ref h15, Value.int n1_size])), (h2, Sum.inl (cint, 10, Sum.inl f2)), (h3, Sum.inl (cint, 10, Sum.inl f3)), (h4, Sum.inl (cint, 10, Sum.inl f4)), (h5, Sum.inl (cint, 8, Sum.inl f5)), (h6, Sum.inl (cint, 40, Sum.inl g6)), (h7, Sum.inl (cAlong, 25, Sum.inr (Sum.inr (Sum.inr (Sum.inr (fun j => some (h12 j))))))), (h8, Sum.inl (cAlong, 5, Sum.inr (Sum.inr (Sum.inr (Sum.inr (fun j => some (h13 j))))))), (h9, Sum.inl (cint, 5, Sum.inl g9)), (h10, Sum.inl (cint, 5, Sum.inl g10)), (h11, Sum.inl (cint, 40, Sum.inl f11))] : va_W) ++ (kk_rowsL h12 clong 40 g12 25 ++ (kk_rowsL h13 clong 5 g13 5)))) (va_A (([(h0, Sum.inr (2, [Value.ref h2, Value.ref h3, Value.ref h4, Value.int n0_size, Value.ref h5, Value.int n0_names, Value.int n0_plots, Value.ref h6, Value.ref h7, Value.ref h8, Value.ref h9, Value.ref h10, Value.int n0_ways])), (h1, Sum.inr (9, [Value.ref h11, Value.ref h14, Value.ref h15, Value.int n1_size])), (h2, Sum.inl (cint, 10, Sum.inl f2)), (h3, Sum.inl (cint, 10, Sum.inl f3)), (h4, Sum.inl (cint, 10, Sum.inl f4)), (h5, Sum.inl (cint, 8, Sum.inl f5)), (h6, Sum.inl (cint, 40, Sum.inl f6)), (h7, Sum.inl (cAlong, 25, Sum.inr (Sum.inr (Sum.inr (Sum.inr (fun j => some (h12 j))))))), (h8, Sum.inl (cAlong, 5, Sum.inr (Sum.inr (Sum.inr (Sum.inr (fun j => some (h13 j))))))), (h9, Sum.inl (cint, 5, Sum.inl f9)), (h10, Sum.inl (cint, 5, Sum.inl f10)), (h11, Sum.inl (cint, 40, Sum.inl f11))] : va_W) ++ (kk_rowsL h12 clong 40 F12 25 ++ (kk_rowsL h13 clong 5 F13 5))) sz)) 0 0 (va_A (([(h0, Sum.inr (2, [Value.ref h2, Value.ref h3, Value.ref h4, Value.int n0_size, Value.ref h5, Value.int n0_names, Value.int n0_plots, Value.ref h6, Value.ref h7, Value.ref h8, Value.ref h9, Value.ref h10, Value.int n0_ways])), (h1, Sum.inr (9, [Value.ref h11, Value.ref h14, Value.ref h15, Value.int n1_size])), (h2, Sum.inl (cint, 10, Sum.inl f2)), (h3, Sum.inl (cint, 10, Sum.inl f3)), (h4, Sum.inl (cint, 10, Sum.inl f4)), (h5, Sum.inl (cint, 8, Sum.inl f5)), (h6, Sum.inl (cint, 40, Sum.inl f6)), (h7, Sum.inl (cAlong, 25, Sum.inr (Sum.inr (Sum.inr (Sum.inr (fun j => some (h12 j))))))), (h8, Sum.inl (cAlong, 5, Sum.inr (Sum.inr (Sum.inr (Sum.inr (fun j => some (h13 j))))))), (h9, Sum.inl (cint, 5, Sum.inl f9)), (h10, Sum.inl (cint, 5, Sum.inl f10)), (h11, Sum.inl (cint, 40, Sum.inl f11))] : va_W) ++ (kk_rowsL h12 clong 40 F12 25 ++ (kk_rowsL h13 clong 5 F13 5))) sz) := by
  refine Met.ofW (cc := cX2_putTogether) (maxL := 4) (ret := (some .int)) (by decide) rfl ?_
  intro p e s m args below meth c s₁ B hml hv
  obtain ⟨rfl, hsz, hP, hK, hD0⟩ := hv
  have hx := B.exec
  have hb := B.bytes
  have hr := B.returns
  have hts := atoms_spec (ws := wsX2_putTogether) B.pre
  have hown : s.vm.findClass RX2 = some m.cls := findClass_of_methodNamed B.named
  have hlocks := B.notSynchronized
  subst hsz
  have hD := hD0.self (sz := s.heap.size)
  generalize hAe : va_A (([(h0, Sum.inr (2, [Value.ref h2, Value.ref h3, Value.ref h4, Value.int n0_size, Value.ref h5, Value.int n0_names, Value.int n0_plots, Value.ref h6, Value.ref h7, Value.ref h8, Value.ref h9, Value.ref h10, Value.int n0_ways])), (h1, Sum.inr (9, [Value.ref h11, Value.ref h14, Value.ref h15, Value.int n1_size])), (h2, Sum.inl (cint, 10, Sum.inl f2)), (h3, Sum.inl (cint, 10, Sum.inl f3)), (h4, Sum.inl (cint, 10, Sum.inl f4)), (h5, Sum.inl (cint, 8, Sum.inl f5)), (h6, Sum.inl (cint, 40, Sum.inl f6)), (h7, Sum.inl (cAlong, 25, Sum.inr (Sum.inr (Sum.inr (Sum.inr (fun j => some (h12 j))))))), (h8, Sum.inl (cAlong, 5, Sum.inr (Sum.inr (Sum.inr (Sum.inr (fun j => some (h13 j))))))), (h9, Sum.inl (cint, 5, Sum.inl f9)), (h10, Sum.inl (cint, 5, Sum.inl f10)), (h11, Sum.inl (cint, 40, Sum.inl f11))] : va_W) ++ (kk_rowsL h12 clong 40 F12 25 ++ (kk_rowsL h13 clong 5 F13 5))) s.heap.size = A at hD ⊢
  have hA : ∀ q : Nat, s.heap.size ≤ q → A q := fun q h => by rw [← hAe]; exact Or.inr h
  have hS : va_S A s.heap s.heap [] := va_S.rf
  have hP : va_P (dC, dI) vwCl (([(h0, Sum.inr (2, [Value.ref h2, Value.ref h3, Value.ref h4, Value.int n0_size, Value.ref h5, Value.int n0_names, Value.int n0_plots, Value.ref h6, Value.ref h7, Value.ref h8, Value.ref h9, Value.ref h10, Value.int n0_ways])), (h1, Sum.inr (9, [Value.ref h11, Value.ref h14, Value.ref h15, Value.int n1_size])), (h2, Sum.inl (cint, 10, Sum.inl f2)), (h3, Sum.inl (cint, 10, Sum.inl f3)), (h4, Sum.inl (cint, 10, Sum.inl f4)), (h5, Sum.inl (cint, 8, Sum.inl f5)), (h6, Sum.inl (cint, 40, Sum.inl f6)), (h7, Sum.inl (cAlong, 25, Sum.inr (Sum.inr (Sum.inr (Sum.inr (fun j => some (h12 j))))))), (h8, Sum.inl (cAlong, 5, Sum.inr (Sum.inr (Sum.inr (Sum.inr (fun j => some (h13 j))))))), (h9, Sum.inl (cint, 5, Sum.inl f9)), (h10, Sum.inl (cint, 5, Sum.inl f10)), (h11, Sum.inl (cint, 40, Sum.inl f11))] : va_W) ++ (kk_rowsL h12 clong 40 F12 25 ++ (kk_rowsL h13 clong 5 F13 5))) s.heap := hP
  have hl := lv_entry ([.ref h0, .ref h1, .int p1]) (n := 4) (Nat.le_of_ble_eq_true rfl)
  rw [lg_entry_eq]
  generalize (lg_sl ([.ref h0, .ref h1, .int p1]) ++ List.replicate (4 - (lg_sl ([.ref h0, .ref h1, .int p1])).length) Slot.unset).toArray = ls at hl ⊢
  have hl : lv_has ls 4 [(0, .ref h0), (1, .ref h1), (2, .int p1)] := hl
  refine lv_aload_n hx hb dX2_putTogether_0 rfl (lv_at hl 0 rfl) ?_
  refine lv_aload_n hx hb dX2_putTogether_1 rfl (lv_at hl 1 rfl) ?_
  obtain ⟨hPc, hDc, hFc⟩ := kk_cutout (wc := [(h1, Sum.inr (9, [Value.ref h11, Value.ref h14, Value.ref h15, Value.int n1_size]))]) hP hD hS hA [1] (by decide) rfl
  have hKc := hK.sub (tys' := []) [] rfl
  refine va_calli (va_runV (As := []) (rest := [.ref h0]) ⟨hx, hb, hml, hown, hts⟩ (g_X9_size_0 l dC dI h1 h11 h14 h15 s.heap.size n1_size tn1_size) (cwV 0 hts gX2_putTogether_X9_size rfl rfl rfl (by decide +kernel) ⟨Nat.le_of_ble_eq_true rfl, Nat.le_of_ble_eq_true rfl⟩) ⟨fun a U g mk q => by obtain ⟨q0, q1, qP, qK, qD⟩ := q; exact ⟨q0, q1, qP, va_K.moved (u := U) (U := U.calling g mk a) (Vm.Alike.refl U.vm) qK, qD⟩, va_recv hKc hPc (ci := 9) (q0 := 0) rfl rfl, fun U hU hW => ⟨rfl, by rw [hU], by rw [hU]; exact hPc, va_K.moved hW.alike hKc, hDc.weaken (fun _ _ _ _ => trivial)⟩⟩ rfl rfl hl.1 rfl (lv_room (Nat.le_of_ble_eq_true rfl)) dX2_putTogether_2 ⟨Nat.le_of_ble_eq_true rfl, Nat.le_of_ble_eq_true rfl⟩) hS (fun q _ h => hFc q h) hFc (fun r_1 u t H1 locs ht hvm hw hB hz1 hk1 hS => ?_)
  obtain ⟨hP1, hK1, hD1⟩ := hB
  rw [ht] at hP1
  have hK1 := va_K.moved hvm.symm hK1
  obtain ⟨hP, hD⟩ := va_joinQ (cx := [(h1, Sum.inr (9, [Value.ref h11, Value.ref h14, Value.ref h15, Value.int n1_size]))]) (wr := [(h0, Sum.inr (2, [Value.ref h2, Value.ref h3, Value.ref h4, Value.int n0_size, Value.ref h5, Value.int n0_names, Value.int n0_plots, Value.ref h6, Value.ref h7, Value.ref h8, Value.ref h9, Value.ref h10, Value.int n0_ways])), (h2, Sum.inl (cint, 10, Sum.inl f2)), (h3, Sum.inl (cint, 10, Sum.inl f3)), (h4, Sum.inl (cint, 10, Sum.inl f4)), (h5, Sum.inl (cint, 8, Sum.inl f5)), (h6, Sum.inl (cint, 40, Sum.inl f6)), (h7, Sum.inl (cAlong, 25, Sum.inr (Sum.inr (Sum.inr (Sum.inr (fun j => some (h12 j))))))), (h8, Sum.inl (cAlong, 5, Sum.inr (Sum.inr (Sum.inr (Sum.inr (fun j => some (h13 j))))))), (h9, Sum.inl (cint, 5, Sum.inl f9)), (h10, Sum.inl (cint, 5, Sum.inl f10)), (h11, Sum.inl (cint, 40, Sum.inl f11))]) (w1 := [(h1, Sum.inr (9, [Value.ref h11, Value.ref h14, Value.ref h15, Value.int n1_size]))]) hP hD [1] [0, 2, 3, 4, 5, 6, 7, 8, 9, 10, 11] rfl rfl (by decide) (by decide) hk1 hFc hP1 hD1
  generalize H1 = H at hP hS ⊢
  have hP : va_P (dC, dI) vwCl (([(h0, Sum.inr (2, [Value.ref h2, Value.ref h3, Value.ref h4, Value.int n0_size, Value.ref h5, Value.int n0_names, Value.int n0_plots, Value.ref h6, Value.ref h7, Value.ref h8, Value.ref h9, Value.ref h10, Value.int n0_ways])), (h2, Sum.inl (cint, 10, Sum.inl f2)), (h3, Sum.inl (cint, 10, Sum.inl f3)), (h4, Sum.inl (cint, 10, Sum.inl f4)), (h5, Sum.inl (cint, 8, Sum.inl f5)), (h6, Sum.inl (cint, 40, Sum.inl f6)), (h7, Sum.inl (cAlong, 25, Sum.inr (Sum.inr (Sum.inr (Sum.inr (fun j => some (h12 j))))))), (h8, Sum.inl (cAlong, 5, Sum.inr (Sum.inr (Sum.inr (Sum.inr (fun j => some (h13 j))))))), (h9, Sum.inl (cint, 5, Sum.inl f9)), (h10, Sum.inl (cint, 5, Sum.inl f10)), (h11, Sum.inl (cint, 40, Sum.inl f11)), (h1, Sum.inr (9, [Value.ref h11, Value.ref h14, Value.ref h15, Value.int n1_size]))] : va_W) ++ (kk_rowsL h12 clong 40 F12 25 ++ (kk_rowsL h13 clong 5 F13 5))) H := hP
  have hD : va_D A (([(h0, Sum.inr (2, [Value.ref h2, Value.ref h3, Value.ref h4, Value.int n0_size, Value.ref h5, Value.int n0_names, Value.int n0_plots, Value.ref h6, Value.ref h7, Value.ref h8, Value.ref h9, Value.ref h10, Value.int n0_ways])), (h2, Sum.inl (cint, 10, Sum.inl f2)), (h3, Sum.inl (cint, 10, Sum.inl f3)), (h4, Sum.inl (cint, 10, Sum.inl f4)), (h5, Sum.inl (cint, 8, Sum.inl f5)), (h6, Sum.inl (cint, 40, Sum.inl f6)), (h7, Sum.inl (cAlong, 25, Sum.inr (Sum.inr (Sum.inr (Sum.inr (fun j => some (h12 j))))))), (h8, Sum.inl (cAlong, 5, Sum.inr (Sum.inr (Sum.inr (Sum.inr (fun j => some (h13 j))))))), (h9, Sum.inl (cint, 5, Sum.inl f9)), (h10, Sum.inl (cint, 5, Sum.inl f10)), (h11, Sum.inl (cint, 40, Sum.inl f11)), (h1, Sum.inr (9, [Value.ref h11, Value.ref h14, Value.ref h15, Value.int n1_size]))] : va_W) ++ (kk_rowsL h12 clong 40 F12 25 ++ (kk_rowsL h13 clong 5 F13 5))) := hD
  obtain rfl := hw
  refine lv_bipush (v := 40) hx hb dX2_putTogether_5 (by decide) ?_
  refine va_mmin hx hb (hml.trans hl.1.symm) hown (hts (.methodLink RX2 61 Lib.Math.min.name) (List.mem_of_getElem? (i := 1) rfl)) (hts (.static Lib.Math.min.name) (List.mem_of_getElem? (i := 2) rfl)) (hts (.initialized "java/lang/Math") (List.mem_of_getElem? (i := 3) rfl)) (hts (.code Lib.Math.min.name Lib.Math.min.code 2 (some .int)) (List.mem_of_getElem? (i := 4) rfl)) (Nat.le_of_ble_eq_true rfl) (Nat.le_of_ble_eq_true rfl) (Nat.le_of_ble_eq_true rfl) (Nat.le_of_ble_eq_true rfl) dX2_putTogether_7 ?_
  refine lv_topi (fun y_2 e_2 => ?_)
  have t_2 : y_2.toInt ≤ n1_size.toInt ∧ y_2.toInt ≤ 40 ∧ (y_2.toInt = n1_size.toInt ∨ y_2.toInt = 40) := by rw [e_2]; exact kk_min _ _
  clear e_2
  refine va_put (D := (dC, dI)) (ci := 2) (v := .int y_2) (ty := .int) (C := RX2) (T := TX2) (N := 13) hx hb hts (fun _ h => List.mem_cons_of_mem _ (List.mem_append_left _ (List.mem_append_right _ h))) tyX2 tyX2_ok nmX2 hown hK hP hD hS 0 rfl rfl 6 (by decide) (hts (.fieldLink RX2 67 "KinkStreet$Deeds" "plots" "I") (List.mem_of_getElem? (i := 5) rfl)) (fun _ h9 => h9) rfl (by decide +kernel) rfl rfl (Nat.le_of_ble_eq_true rfl) dX2_putTogether_10 (fun H locs hP hD hS => ?_)
  have hP : va_P (dC, dI) vwCl (([(h0, Sum.inr (2, [Value.ref h2, Value.ref h3, Value.ref h4, Value.int n0_size, Value.ref h5, Value.int n0_names, Value.int y_2, Value.ref h6, Value.ref h7, Value.ref h8, Value.ref h9, Value.ref h10, Value.int n0_ways])), (h2, Sum.inl (cint, 10, Sum.inl f2)), (h3, Sum.inl (cint, 10, Sum.inl f3)), (h4, Sum.inl (cint, 10, Sum.inl f4)), (h5, Sum.inl (cint, 8, Sum.inl f5)), (h6, Sum.inl (cint, 40, Sum.inl f6)), (h7, Sum.inl (cAlong, 25, Sum.inr (Sum.inr (Sum.inr (Sum.inr (fun j => some (h12 j))))))), (h8, Sum.inl (cAlong, 5, Sum.inr (Sum.inr (Sum.inr (Sum.inr (fun j => some (h13 j))))))), (h9, Sum.inl (cint, 5, Sum.inl f9)), (h10, Sum.inl (cint, 5, Sum.inl f10)), (h11, Sum.inl (cint, 40, Sum.inl f11)), (h1, Sum.inr (9, [Value.ref h11, Value.ref h14, Value.ref h15, Value.int n1_size]))] : va_W) ++ (kk_rowsL h12 clong 40 F12 25 ++ (kk_rowsL h13 clong 5 F13 5))) H := hP
  have hD : va_D A (([(h0, Sum.inr (2, [Value.ref h2, Value.ref h3, Value.ref h4, Value.int n0_size, Value.ref h5, Value.int n0_names, Value.int y_2, Value.ref h6, Value.ref h7, Value.ref h8, Value.ref h9, Value.ref h10, Value.int n0_ways])), (h2, Sum.inl (cint, 10, Sum.inl f2)), (h3, Sum.inl (cint, 10, Sum.inl f3)), (h4, Sum.inl (cint, 10, Sum.inl f4)), (h5, Sum.inl (cint, 8, Sum.inl f5)), (h6, Sum.inl (cint, 40, Sum.inl f6)), (h7, Sum.inl (cAlong, 25, Sum.inr (Sum.inr (Sum.inr (Sum.inr (fun j => some (h12 j))))))), (h8, Sum.inl (cAlong, 5, Sum.inr (Sum.inr (Sum.inr (Sum.inr (fun j => some (h13 j))))))), (h9, Sum.inl (cint, 5, Sum.inl f9)), (h10, Sum.inl (cint, 5, Sum.inl f10)), (h11, Sum.inl (cint, 40, Sum.inl f11)), (h1, Sum.inr (9, [Value.ref h11, Value.ref h14, Value.ref h15, Value.int n1_size]))] : va_W) ++ (kk_rowsL h12 clong 40 F12 25 ++ (kk_rowsL h13 clong 5 F13 5))) := hD
  refine lv_aload_n hx hb dX2_putTogether_13 rfl (lv_at hl 0 rfl) ?_
  refine lv_iconst (v := 0) hx hb dX2_putTogether_14 (by decide) ?_
  refine va_put (D := (dC, dI)) (ci := 2) (v := .int 0) (ty := .int) (C := RX2) (T := TX2) (N := 13) hx hb hts (fun _ h => List.mem_cons_of_mem _ (List.mem_append_left _ (List.mem_append_right _ h))) tyX2 tyX2_ok nmX2 hown hK hP hD hS 0 rfl rfl 12 (by decide) (hts (.fieldLink RX2 70 "KinkStreet$Deeds" "ways" "I") (List.mem_of_getElem? (i := 6) rfl)) (fun _ h9 => h9) rfl (by decide +kernel) rfl rfl (Nat.le_of_ble_eq_true rfl) dX2_putTogether_15 (fun H locs hP hD hS => ?_)
  have hP : va_P (dC, dI) vwCl (([(h0, Sum.inr (2, [Value.ref h2, Value.ref h3, Value.ref h4, Value.int n0_size, Value.ref h5, Value.int n0_names, Value.int y_2, Value.ref h6, Value.ref h7, Value.ref h8, Value.ref h9, Value.ref h10, Value.int 0])), (h2, Sum.inl (cint, 10, Sum.inl f2)), (h3, Sum.inl (cint, 10, Sum.inl f3)), (h4, Sum.inl (cint, 10, Sum.inl f4)), (h5, Sum.inl (cint, 8, Sum.inl f5)), (h6, Sum.inl (cint, 40, Sum.inl f6)), (h7, Sum.inl (cAlong, 25, Sum.inr (Sum.inr (Sum.inr (Sum.inr (fun j => some (h12 j))))))), (h8, Sum.inl (cAlong, 5, Sum.inr (Sum.inr (Sum.inr (Sum.inr (fun j => some (h13 j))))))), (h9, Sum.inl (cint, 5, Sum.inl f9)), (h10, Sum.inl (cint, 5, Sum.inl f10)), (h11, Sum.inl (cint, 40, Sum.inl f11)), (h1, Sum.inr (9, [Value.ref h11, Value.ref h14, Value.ref h15, Value.int n1_size]))] : va_W) ++ (kk_rowsL h12 clong 40 F12 25 ++ (kk_rowsL h13 clong 5 F13 5))) H := hP
  have hD : va_D A (([(h0, Sum.inr (2, [Value.ref h2, Value.ref h3, Value.ref h4, Value.int n0_size, Value.ref h5, Value.int n0_names, Value.int y_2, Value.ref h6, Value.ref h7, Value.ref h8, Value.ref h9, Value.ref h10, Value.int 0])), (h2, Sum.inl (cint, 10, Sum.inl f2)), (h3, Sum.inl (cint, 10, Sum.inl f3)), (h4, Sum.inl (cint, 10, Sum.inl f4)), (h5, Sum.inl (cint, 8, Sum.inl f5)), (h6, Sum.inl (cint, 40, Sum.inl f6)), (h7, Sum.inl (cAlong, 25, Sum.inr (Sum.inr (Sum.inr (Sum.inr (fun j => some (h12 j))))))), (h8, Sum.inl (cAlong, 5, Sum.inr (Sum.inr (Sum.inr (Sum.inr (fun j => some (h13 j))))))), (h9, Sum.inl (cint, 5, Sum.inl f9)), (h10, Sum.inl (cint, 5, Sum.inl f10)), (h11, Sum.inl (cint, 40, Sum.inl f11)), (h1, Sum.inr (9, [Value.ref h11, Value.ref h14, Value.ref h15, Value.int n1_size]))] : va_W) ++ (kk_rowsL h12 clong 40 F12 25 ++ (kk_rowsL h13 clong 5 F13 5))) := hD
  refine lv_aload_n hx hb dX2_putTogether_18 rfl (lv_at hl 0 rfl) ?_
  refine va_get (D := (dC, dI)) (ci := 2) (v := .int n0_names) (C := RX2) (T := TX2) (N := 13) hx hb hts (fun _ h => List.mem_cons_of_mem _ (List.mem_append_left _ (List.mem_append_right _ h))) hown hK hP 0 rfl rfl 5 (by decide) (hts (.fieldLink RX2 49 "KinkStreet$Deeds" "names" "I") (List.mem_of_getElem? (i := 7) rfl)) (fun _ h9 => h9) rfl dX2_putTogether_19 ?_
  refine lv_iconst (v := 1) hx hb dX2_putTogether_22 (by decide) ?_
  refine lv_icmp_lt (tgt := 34) hx hb dX2_putTogether_23 (by decide) (fun c_3 => ?_) (fun c_3 => ?_)
  · have t_3 : n0_names.toInt < 1 := kk_lt c_3
    refine lv_iconst (v := 0) hx hb dX2_putTogether_34 (by decide) ?_
    have hP9 := hP.part (cx := [(h0, Sum.inr (2, [Value.ref h2, Value.ref h3, Value.ref h4, Value.int n0_size, Value.ref h5, Value.int n0_names, Value.int y_2, Value.ref h6, Value.ref h7, Value.ref h8, Value.ref h9, Value.ref h10, Value.int 0])), (h1, Sum.inr (9, [Value.ref h11, Value.ref h14, Value.ref h15, Value.int n1_size])), (h2, Sum.inl (cint, 10, Sum.inl f2)), (h3, Sum.inl (cint, 10, Sum.inl f3)), (h4, Sum.inl (cint, 10, Sum.inl f4)), (h5, Sum.inl (cint, 8, Sum.inl f5)), (h6, Sum.inl (cint, 40, Sum.inl f6)), (h7, Sum.inl (cAlong, 25, Sum.inr (Sum.inr (Sum.inr (Sum.inr (fun j => some (h12 j))))))), (h8, Sum.inl (cAlong, 5, Sum.inr (Sum.inr (Sum.inr (Sum.inr (fun j => some (h13 j))))))), (h9, Sum.inl (cint, 5, Sum.inl f9)), (h10, Sum.inl (cint, 5, Sum.inl f10)), (h11, Sum.inl (cint, 40, Sum.inl f11))]) [0, 11, 1, 2, 3, 4, 5, 6, 7, 8, 9, 10] rfl
    have hD9 := hD.part (cx := [(h0, Sum.inr (2, [Value.ref h2, Value.ref h3, Value.ref h4, Value.int n0_size, Value.ref h5, Value.int n0_names, Value.int y_2, Value.ref h6, Value.ref h7, Value.ref h8, Value.ref h9, Value.ref h10, Value.int 0])), (h1, Sum.inr (9, [Value.ref h11, Value.ref h14, Value.ref h15, Value.int n1_size])), (h2, Sum.inl (cint, 10, Sum.inl f2)), (h3, Sum.inl (cint, 10, Sum.inl f3)), (h4, Sum.inl (cint, 10, Sum.inl f4)), (h5, Sum.inl (cint, 8, Sum.inl f5)), (h6, Sum.inl (cint, 40, Sum.inl f6)), (h7, Sum.inl (cAlong, 25, Sum.inr (Sum.inr (Sum.inr (Sum.inr (fun j => some (h12 j))))))), (h8, Sum.inl (cAlong, 5, Sum.inr (Sum.inr (Sum.inr (Sum.inr (fun j => some (h13 j))))))), (h9, Sum.inl (cint, 5, Sum.inl f9)), (h10, Sum.inl (cint, 5, Sum.inl f10)), (h11, Sum.inl (cint, 40, Sum.inl f11))]) [0, 11, 1, 2, 3, 4, 5, 6, 7, 8, 9, 10] (by decide) rfl
    have hK9 := hK.sub (tys' := []) [] rfl
    exact W.iret (v := 0) hx hb hr (fun t ht hW => ⟨⟨0, (), rfl, trivial, y_2, 0, f6, f9, f10, F12, F13, (by show 0 ≤ (y_2 : Int32).toInt ∧ (y_2 : Int32).toInt ≤ 40; first | decide | (constructor <;> (omega))), by rw [ht]; exact hP9, va_K.moved hW.alike hK9, hD9⟩, hS.F ht⟩) hS.2.2 dX2_putTogether_35
  · have t_3 : 1 ≤ n0_names.toInt := kk_nlt c_3
    refine lv_aload_n hx hb dX2_putTogether_26 rfl (lv_at hl 0 rfl) ?_
    refine va_get (D := (dC, dI)) (ci := 2) (v := .int n0_names) (C := RX2) (T := TX2) (N := 13) hx hb hts (fun _ h => List.mem_cons_of_mem _ (List.mem_append_left _ (List.mem_append_right _ h))) hown hK hP 0 rfl rfl 5 (by decide) (hts (.fieldLink RX2 49 "KinkStreet$Deeds" "names" "I") (List.mem_of_getElem? (i := 7) rfl)) (fun _ h9 => h9) rfl dX2_putTogether_27 ?_
    refine lv_iconst (v := 5) hx hb dX2_putTogether_30 (by decide) ?_
    refine lv_icmp_le (tgt := 36) hx hb dX2_putTogether_31 (by decide) (fun c_4 => ?_) (fun c_4 => ?_)
    · have t_4 : n0_names.toInt ≤ 5 := kk_le c_4
      refine lv_aload_n hx hb dX2_putTogether_36 rfl (lv_at hl 0 rfl) ?_
      refine lv_aload_n hx hb dX2_putTogether_37 rfl (lv_at hl 1 rfl) ?_
      have hPc := hP.part (cx := [(h0, Sum.inr (2, [Value.ref h2, Value.ref h3, Value.ref h4, Value.int n0_size, Value.ref h5, Value.int n0_names, Value.int y_2, Value.ref h6, Value.ref h7, Value.ref h8, Value.ref h9, Value.ref h10, Value.int 0])), (h1, Sum.inr (9, [Value.ref h11, Value.ref h14, Value.ref h15, Value.int n1_size])), (h6, Sum.inl (cint, 40, Sum.inl f6)), (h7, Sum.inl (cAlong, 25, Sum.inr (Sum.inr (Sum.inr (Sum.inr (fun j => some (h12 j))))))), (h8, Sum.inl (cAlong, 5, Sum.inr (Sum.inr (Sum.inr (Sum.inr (fun j => some (h13 j))))))), (h11, Sum.inl (cint, 40, Sum.inl f11))]) [0, 11, 5, 6, 7, 10] rfl
      have hDc := hD.part (cx := [(h0, Sum.inr (2, [Value.ref h2, Value.ref h3, Value.ref h4, Value.int n0_size, Value.ref h5, Value.int n0_names, Value.int y_2, Value.ref h6, Value.ref h7, Value.ref h8, Value.ref h9, Value.ref h10, Value.int 0])), (h1, Sum.inr (9, [Value.ref h11, Value.ref h14, Value.ref h15, Value.int n1_size])), (h6, Sum.inl (cint, 40, Sum.inl f6)), (h7, Sum.inl (cAlong, 25, Sum.inr (Sum.inr (Sum.inr (Sum.inr (fun j => some (h12 j))))))), (h8, Sum.inl (cAlong, 5, Sum.inr (Sum.inr (Sum.inr (Sum.inr (fun j => some (h13 j))))))), (h11, Sum.inl (cint, 40, Sum.inl f11))]) [0, 11, 5, 6, 7, 10] (by decide) rfl
      have hFc := va_freeP (cx := [(h0, Sum.inr (2, [Value.ref h2, Value.ref h3, Value.ref h4, Value.int n0_size, Value.ref h5, Value.int n0_names, Value.int y_2, Value.ref h6, Value.ref h7, Value.ref h8, Value.ref h9, Value.ref h10, Value.int 0])), (h1, Sum.inr (9, [Value.ref h11, Value.ref h14, Value.ref h15, Value.int n1_size])), (h6, Sum.inl (cint, 40, Sum.inl f6)), (h7, Sum.inl (cAlong, 25, Sum.inr (Sum.inr (Sum.inr (Sum.inr (fun j => some (h12 j))))))), (h8, Sum.inl (cAlong, 5, Sum.inr (Sum.inr (Sum.inr (Sum.inr (fun j => some (h13 j))))))), (h11, Sum.inl (cint, 40, Sum.inl f11))]) hD hS hA [0, 11, 5, 6, 7, 10] rfl
      have hKc := hK.sub (tys' := [(cint, .int), (cAlong, .array .long), (clong, .long)]) [0, 1, 2] rfl
      refine va_callv (va_runV (As := [.ref h1]) (rest := []) ⟨hx, hb, hml, hown, hts⟩ (g_X2_openAll_0 l dC dI h0 h1 h6 h7 h8 h11 h12 h13 h2 h3 h4 h5 h9 h10 h14 h15 cint cAlong clong H.size n0_size n0_names y_2 0 n1_size f6 f11 F12 F13 tn0_size tn0_names (by show 0 ≤ (y_2 : Int32).toInt ∧ (y_2 : Int32).toInt ≤ 40; first | decide | (constructor <;> (omega))) tn1_size) (cwV 1 hts gX2_putTogether_X2_openAll rfl rfl rfl (by decide +kernel) ⟨Nat.le_of_ble_eq_true rfl, Nat.le_of_ble_eq_true rfl⟩) ⟨fun a U g mk q => by obtain ⟨q0, q1, qP, qK, qD⟩ := q; exact ⟨q0, q1, qP, va_K.moved (u := U) (U := U.calling g mk a) (Vm.Alike.refl U.vm) qK, qD⟩, va_recv hKc hPc (ci := 2) (q0 := 0) rfl rfl, fun U hU hW => ⟨rfl, by rw [hU], by rw [hU]; exact hPc, va_K.moved hW.alike hKc, hDc.weaken (fun _ _ _ _ => trivial)⟩⟩ rfl rfl hl.1 rfl (lv_room (Nat.le_of_ble_eq_true rfl)) dX2_putTogether_38 ⟨Nat.le_of_ble_eq_true rfl, Nat.le_of_ble_eq_true rfl⟩) hS (fun q _ h => hFc q h) hFc (fun u t H1 locs ht hvm hw hB hz1 hk1 hS => ?_)
      obtain ⟨f_6, f_7, f_8, hP1, hK1, hD1⟩ := hB
      rw [ht] at hP1
      have hK1 := va_K.moved hvm.symm hK1
      obtain ⟨hP, hD⟩ := va_joinP (cx := [(h0, Sum.inr (2, [Value.ref h2, Value.ref h3, Value.ref h4, Value.int n0_size, Value.ref h5, Value.int n0_names, Value.int y_2, Value.ref h6, Value.ref h7, Value.ref h8, Value.ref h9, Value.ref h10, Value.int 0])), (h1, Sum.inr (9, [Value.ref h11, Value.ref h14, Value.ref h15, Value.int n1_size])), (h6, Sum.inl (cint, 40, Sum.inl f6)), (h7, Sum.inl (cAlong, 25, Sum.inr (Sum.inr (Sum.inr (Sum.inr (fun j => some (h12 j))))))), (h8, Sum.inl (cAlong, 5, Sum.inr (Sum.inr (Sum.inr (Sum.inr (fun j => some (h13 j))))))), (h11, Sum.inl (cint, 40, Sum.inl f11))]) (wr := [(h2, Sum.inl (cint, 10, Sum.inl f2)), (h3, Sum.inl (cint, 10, Sum.inl f3)), (h4, Sum.inl (cint, 10, Sum.inl f4)), (h5, Sum.inl (cint, 8, Sum.inl f5)), (h9, Sum.inl (cint, 5, Sum.inl f9)), (h10, Sum.inl (cint, 5, Sum.inl f10))]) (rx := [(h0, Sum.inr (2, [Value.ref h2, Value.ref h3, Value.ref h4, Value.int n0_size, Value.ref h5, Value.int n0_names, Value.int y_2, Value.ref h6, Value.ref h7, Value.ref h8, Value.ref h9, Value.ref h10, Value.int 0])), (h1, Sum.inr (9, [Value.ref h11, Value.ref h14, Value.ref h15, Value.int n1_size])), (h6, Sum.inl (cint, 40, Sum.inl f_6)), (h7, Sum.inl (cAlong, 25, Sum.inr (Sum.inr (Sum.inr (Sum.inr (fun j => some (h12 j))))))), (h8, Sum.inl (cAlong, 5, Sum.inr (Sum.inr (Sum.inr (Sum.inr (fun j => some (h13 j))))))), (h11, Sum.inl (cint, 40, Sum.inl f11))]) hP hD [0, 11, 5, 6, 7, 10] [1, 2, 3, 4, 8, 9] rfl rfl (by decide) (by decide) hk1 hFc hP1 hD1
      generalize H1 = H at hP hS ⊢
      have hP : va_P (dC, dI) vwCl (([(h2, Sum.inl (cint, 10, Sum.inl f2)), (h3, Sum.inl (cint, 10, Sum.inl f3)), (h4, Sum.inl (cint, 10, Sum.inl f4)), (h5, Sum.inl (cint, 8, Sum.inl f5)), (h9, Sum.inl (cint, 5, Sum.inl f9)), (h10, Sum.inl (cint, 5, Sum.inl f10)), (h0, Sum.inr (2, [Value.ref h2, Value.ref h3, Value.ref h4, Value.int n0_size, Value.ref h5, Value.int n0_names, Value.int y_2, Value.ref h6, Value.ref h7, Value.ref h8, Value.ref h9, Value.ref h10, Value.int 0])), (h1, Sum.inr (9, [Value.ref h11, Value.ref h14, Value.ref h15, Value.int n1_size])), (h6, Sum.inl (cint, 40, Sum.inl f_6)), (h7, Sum.inl (cAlong, 25, Sum.inr (Sum.inr (Sum.inr (Sum.inr (fun j => some (h12 j))))))), (h8, Sum.inl (cAlong, 5, Sum.inr (Sum.inr (Sum.inr (Sum.inr (fun j => some (h13 j))))))), (h11, Sum.inl (cint, 40, Sum.inl f11))] : va_W) ++ (kk_rowsL h12 clong 40 f_7 25 ++ (kk_rowsL h13 clong 5 f_8 5))) H := hP
      have hD : va_D A (([(h2, Sum.inl (cint, 10, Sum.inl f2)), (h3, Sum.inl (cint, 10, Sum.inl f3)), (h4, Sum.inl (cint, 10, Sum.inl f4)), (h5, Sum.inl (cint, 8, Sum.inl f5)), (h9, Sum.inl (cint, 5, Sum.inl f9)), (h10, Sum.inl (cint, 5, Sum.inl f10)), (h0, Sum.inr (2, [Value.ref h2, Value.ref h3, Value.ref h4, Value.int n0_size, Value.ref h5, Value.int n0_names, Value.int y_2, Value.ref h6, Value.ref h7, Value.ref h8, Value.ref h9, Value.ref h10, Value.int 0])), (h1, Sum.inr (9, [Value.ref h11, Value.ref h14, Value.ref h15, Value.int n1_size])), (h6, Sum.inl (cint, 40, Sum.inl f_6)), (h7, Sum.inl (cAlong, 25, Sum.inr (Sum.inr (Sum.inr (Sum.inr (fun j => some (h12 j))))))), (h8, Sum.inl (cAlong, 5, Sum.inr (Sum.inr (Sum.inr (Sum.inr (fun j => some (h13 j))))))), (h11, Sum.inl (cint, 40, Sum.inl f11))] : va_W) ++ (kk_rowsL h12 clong 40 f_7 25 ++ (kk_rowsL h13 clong 5 f_8 5))) := hD
      refine lv_iconst (v := 0) hx hb dX2_putTogether_41 (by decide) ?_
      refine lv_istore_n (lv' := [(3, .int 0), (0, .ref h0), (1, .ref h1), (2, .int p1)]) hx hb dX2_putTogether_42 rfl hl (by decide) rfl (fun ls hl => ?_)
      refine kk_loop (σ := Int32 × (Nat → Nat → Int64) × (Nat → Nat → Int64)) (fun x H locs ls => (0 ≤ x.1.toInt ∧ x.1.toInt ≤ 10) ∧ va_P (dC, dI) vwCl (([(h2, Sum.inl (cint, 10, Sum.inl f2)), (h3, Sum.inl (cint, 10, Sum.inl f3)), (h4, Sum.inl (cint, 10, Sum.inl f4)), (h5, Sum.inl (cint, 8, Sum.inl f5)), (h9, Sum.inl (cint, 5, Sum.inl f9)), (h10, Sum.inl (cint, 5, Sum.inl f10)), (h0, Sum.inr (2, [Value.ref h2, Value.ref h3, Value.ref h4, Value.int n0_size, Value.ref h5, Value.int n0_names, Value.int y_2, Value.ref h6, Value.ref h7, Value.ref h8, Value.ref h9, Value.ref h10, Value.int 0])), (h1, Sum.inr (9, [Value.ref h11, Value.ref h14, Value.ref h15, Value.int n1_size])), (h6, Sum.inl (cint, 40, Sum.inl f_6)), (h7, Sum.inl (cAlong, 25, Sum.inr (Sum.inr (Sum.inr (Sum.inr (fun j => some (h12 j))))))), (h8, Sum.inl (cAlong, 5, Sum.inr (Sum.inr (Sum.inr (Sum.inr (fun j => some (h13 j))))))), (h11, Sum.inl (cint, 40, Sum.inl f11))] : va_W) ++ (kk_rowsL h12 clong 40 x.2.1 25 ++ (kk_rowsL h13 clong 5 x.2.2 5))) H ∧ va_D A (([(h2, Sum.inl (cint, 10, Sum.inl f2)), (h3, Sum.inl (cint, 10, Sum.inl f3)), (h4, Sum.inl (cint, 10, Sum.inl f4)), (h5, Sum.inl (cint, 8, Sum.inl f5)), (h9, Sum.inl (cint, 5, Sum.inl f9)), (h10, Sum.inl (cint, 5, Sum.inl f10)), (h0, Sum.inr (2, [Value.ref h2, Value.ref h3, Value.ref h4, Value.int n0_size, Value.ref h5, Value.int n0_names, Value.int y_2, Value.ref h6, Value.ref h7, Value.ref h8, Value.ref h9, Value.ref h10, Value.int 0])), (h1, Sum.inr (9, [Value.ref h11, Value.ref h14, Value.ref h15, Value.int n1_size])), (h6, Sum.inl (cint, 40, Sum.inl f_6)), (h7, Sum.inl (cAlong, 25, Sum.inr (Sum.inr (Sum.inr (Sum.inr (fun j => some (h12 j))))))), (h8, Sum.inl (cAlong, 5, Sum.inr (Sum.inr (Sum.inr (Sum.inr (fun j => some (h13 j))))))), (h11, Sum.inl (cint, 40, Sum.inl f11))] : va_W) ++ (kk_rowsL h12 clong 40 x.2.1 25 ++ (kk_rowsL h13 clong 5 x.2.2 5))) ∧ va_S A s.heap H locs ∧ lv_has ls 4 [(3, .int x.1), (0, .ref h0), (1, .ref h1), (2, .int p1)]) (fun x => ((10 : Int) - x.1.toInt).toNat) ?_ (0, f_7, f_8) _ _ _ ⟨(by show 0 ≤ (0 : Int32).toInt ∧ (0 : Int32).toInt ≤ 10; first | decide | (constructor <;> (omega))), hP, hD, hS, hl⟩
      rintro ⟨i_9_0, f_9_1, f_9_2⟩ H locs ls ⟨t_9_0, hP, hD, hS, hl⟩ ih_9
      have t_9_0 : (0 ≤ i_9_0.toInt ∧ i_9_0.toInt ≤ 10) := t_9_0
      have hl : lv_has ls 4 [(3, .int i_9_0), (0, .ref h0), (1, .ref h1), (2, .int p1)] := hl
      have hP : va_P (dC, dI) vwCl (([(h2, Sum.inl (cint, 10, Sum.inl f2)), (h3, Sum.inl (cint, 10, Sum.inl f3)), (h4, Sum.inl (cint, 10, Sum.inl f4)), (h5, Sum.inl (cint, 8, Sum.inl f5)), (h9, Sum.inl (cint, 5, Sum.inl f9)), (h10, Sum.inl (cint, 5, Sum.inl f10)), (h0, Sum.inr (2, [Value.ref h2, Value.ref h3, Value.ref h4, Value.int n0_size, Value.ref h5, Value.int n0_names, Value.int y_2, Value.ref h6, Value.ref h7, Value.ref h8, Value.ref h9, Value.ref h10, Value.int 0])), (h1, Sum.inr (9, [Value.ref h11, Value.ref h14, Value.ref h15, Value.int n1_size])), (h6, Sum.inl (cint, 40, Sum.inl f_6)), (h7, Sum.inl (cAlong, 25, Sum.inr (Sum.inr (Sum.inr (Sum.inr (fun j => some (h12 j))))))), (h8, Sum.inl (cAlong, 5, Sum.inr (Sum.inr (Sum.inr (Sum.inr (fun j => some (h13 j))))))), (h11, Sum.inl (cint, 40, Sum.inl f11))] : va_W) ++ (kk_rowsL h12 clong 40 f_9_1 25 ++ (kk_rowsL h13 clong 5 f_9_2 5))) H := hP
      have hD : va_D A (([(h2, Sum.inl (cint, 10, Sum.inl f2)), (h3, Sum.inl (cint, 10, Sum.inl f3)), (h4, Sum.inl (cint, 10, Sum.inl f4)), (h5, Sum.inl (cint, 8, Sum.inl f5)), (h9, Sum.inl (cint, 5, Sum.inl f9)), (h10, Sum.inl (cint, 5, Sum.inl f10)), (h0, Sum.inr (2, [Value.ref h2, Value.ref h3, Value.ref h4, Value.int n0_size, Value.ref h5, Value.int n0_names, Value.int y_2, Value.ref h6, Value.ref h7, Value.ref h8, Value.ref h9, Value.ref h10, Value.int 0])), (h1, Sum.inr (9, [Value.ref h11, Value.ref h14, Value.ref h15, Value.int n1_size])), (h6, Sum.inl (cint, 40, Sum.inl f_6)), (h7, Sum.inl (cAlong, 25, Sum.inr (Sum.inr (Sum.inr (Sum.inr (fun j => some (h12 j))))))), (h8, Sum.inl (cAlong, 5, Sum.inr (Sum.inr (Sum.inr (Sum.inr (fun j => some (h13 j))))))), (h11, Sum.inl (cint, 40, Sum.inl f11))] : va_W) ++ (kk_rowsL h12 clong 40 f_9_1 25 ++ (kk_rowsL h13 clong 5 f_9_2 5))) := hD
      refine lv_iload_n hx hb dX2_putTogether_43 rfl (lv_at hl 0 rfl) ?_
      refine lv_aload_n hx hb dX2_putTogether_44 rfl (lv_at hl 1 rfl) ?_
      refine va_get (D := (dC, dI)) (ci := 2) (v := .int n0_size) (C := RX2) (T := TX2) (N := 13) hx hb hts (fun _ h => List.mem_cons_of_mem _ (List.mem_append_left _ (List.mem_append_right _ h))) hown hK hP 6 rfl rfl 3 (by decide) (hts (.fieldLink RX2 41 "KinkStreet$Deeds" "size" "I") (List.mem_of_getElem? (i := 8) rfl)) (fun _ h9 => h9) rfl dX2_putTogether_45 ?_
      refine lv_icmp_ge (tgt := 127) hx hb dX2_putTogether_48 (by decide) (fun c_10 => ?_) (fun c_10 => ?_)
      · have t_10 : n0_size.toInt ≤ i_9_0.toInt := kk_le c_10
        refine lv_aload_n hx hb dX2_putTogether_127 rfl (lv_at hl 1 rfl) ?_
        refine lv_iconst (v := 0) hx hb dX2_putTogether_128 (by decide) ?_
        have hPc := hP.part (cx := [(h0, Sum.inr (2, [Value.ref h2, Value.ref h3, Value.ref h4, Value.int n0_size, Value.ref h5, Value.int n0_names, Value.int y_2, Value.ref h6, Value.ref h7, Value.ref h8, Value.ref h9, Value.ref h10, Value.int 0])), (h7, Sum.inl (cAlong, 25, Sum.inr (Sum.inr (Sum.inr (Sum.inr (fun j => some (h12 j))))))), (h8, Sum.inl (cAlong, 5, Sum.inr (Sum.inr (Sum.inr (Sum.inr (fun j => some (h13 j))))))), (h9, Sum.inl (cint, 5, Sum.inl f9)), (h10, Sum.inl (cint, 5, Sum.inl f10))]) [6, 9, 10, 4, 5] rfl
        have hDc := hD.part (cx := [(h0, Sum.inr (2, [Value.ref h2, Value.ref h3, Value.ref h4, Value.int n0_size, Value.ref h5, Value.int n0_names, Value.int y_2, Value.ref h6, Value.ref h7, Value.ref h8, Value.ref h9, Value.ref h10, Value.int 0])), (h7, Sum.inl (cAlong, 25, Sum.inr (Sum.inr (Sum.inr (Sum.inr (fun j => some (h12 j))))))), (h8, Sum.inl (cAlong, 5, Sum.inr (Sum.inr (Sum.inr (Sum.inr (fun j => some (h13 j))))))), (h9, Sum.inl (cint, 5, Sum.inl f9)), (h10, Sum.inl (cint, 5, Sum.inl f10))]) [6, 9, 10, 4, 5] (by decide) rfl
        have hFc := va_freeP (cx := [(h0, Sum.inr (2, [Value.ref h2, Value.ref h3, Value.ref h4, Value.int n0_size, Value.ref h5, Value.int n0_names, Value.int y_2, Value.ref h6, Value.ref h7, Value.ref h8, Value.ref h9, Value.ref h10, Value.int 0])), (h7, Sum.inl (cAlong, 25, Sum.inr (Sum.inr (Sum.inr (Sum.inr (fun j => some (h12 j))))))), (h8, Sum.inl (cAlong, 5, Sum.inr (Sum.inr (Sum.inr (Sum.inr (fun j => some (h13 j))))))), (h9, Sum.inl (cint, 5, Sum.inl f9)), (h10, Sum.inl (cint, 5, Sum.inl f10))]) hD hS hA [6, 9, 10, 4, 5] rfl
        have hKc := hK.sub (tys' := [(cAlong, .array .long), (cint, .int), (clong, .long)]) [1, 0, 2] rfl
        refine va_callv (va_runV (As := [.int 0]) (rest := []) ⟨hx, hb, hml, hown, hts⟩ (g_X2_search_4 l dC dI h0 h7 h8 h9 h10 h12 h13 h2 h3 h4 h5 h6 cAlong cint clong H.size n0_size n0_names y_2 0 f9 f10 f_9_1 f_9_2 tn0_size (by show 1 ≤ (n0_names : Int32).toInt ∧ (n0_names : Int32).toInt ≤ 5; first | decide | (constructor <;> (omega))) (by show 0 ≤ (y_2 : Int32).toInt ∧ (y_2 : Int32).toInt ≤ 40; first | decide | (constructor <;> (omega)))) (cwV 1 hts gX2_putTogether_X2_search rfl rfl rfl (by decide +kernel) ⟨Nat.le_of_ble_eq_true rfl, Nat.le_of_ble_eq_true rfl⟩) ⟨fun a U g mk q => by obtain ⟨q0, q1, qP, qK, qD⟩ := q; exact ⟨q0, q1, qP, va_K.moved (u := U) (U := U.calling g mk a) (Vm.Alike.refl U.vm) qK, qD⟩, va_recv hKc hPc (ci := 2) (q0 := 0) rfl rfl, fun U hU hW => ⟨rfl, by rw [hU], by rw [hU]; exact hPc, va_K.moved hW.alike hKc, hDc.weaken (fun _ _ _ _ => trivial)⟩⟩ rfl rfl hl.1 rfl (lv_room (Nat.le_of_ble_eq_true rfl)) dX2_putTogether_129 ⟨Nat.le_of_ble_eq_true rfl, Nat.le_of_ble_eq_true rfl⟩) hS (fun q _ h => hFc q h) hFc (fun u t H1 locs ht hvm hw hB hz1 hk1 hS => ?_)
        obtain ⟨y_12, f_13, f_14, f_15, hP1, hK1, hD1⟩ := hB
        rw [ht] at hP1
        have hK1 := va_K.moved hvm.symm hK1
        obtain ⟨hP, hD⟩ := va_joinP (cx := [(h0, Sum.inr (2, [Value.ref h2, Value.ref h3, Value.ref h4, Value.int n0_size, Value.ref h5, Value.int n0_names, Value.int y_2, Value.ref h6, Value.ref h7, Value.ref h8, Value.ref h9, Value.ref h10, Value.int 0])), (h7, Sum.inl (cAlong, 25, Sum.inr (Sum.inr (Sum.inr (Sum.inr (fun j => some (h12 j))))))), (h8, Sum.inl (cAlong, 5, Sum.inr (Sum.inr (Sum.inr (Sum.inr (fun j => some (h13 j))))))), (h9, Sum.inl (cint, 5, Sum.inl f9)), (h10, Sum.inl (cint, 5, Sum.inl f10))]) (wr := [(h2, Sum.inl (cint, 10, Sum.inl f2)), (h3, Sum.inl (cint, 10, Sum.inl f3)), (h4, Sum.inl (cint, 10, Sum.inl f4)), (h5, Sum.inl (cint, 8, Sum.inl f5)), (h1, Sum.inr (9, [Value.ref h11, Value.ref h14, Value.ref h15, Value.int n1_size])), (h6, Sum.inl (cint, 40, Sum.inl f_6)), (h11, Sum.inl (cint, 40, Sum.inl f11))]) (rx := [(h0, Sum.inr (2, [Value.ref h2, Value.ref h3, Value.ref h4, Value.int n0_size, Value.ref h5, Value.int n0_names, Value.int y_2, Value.ref h6, Value.ref h7, Value.ref h8, Value.ref h9, Value.ref h10, Value.int y_12])), (h7, Sum.inl (cAlong, 25, Sum.inr (Sum.inr (Sum.inr (Sum.inr (fun j => some (h12 j))))))), (h8, Sum.inl (cAlong, 5, Sum.inr (Sum.inr (Sum.inr (Sum.inr (fun j => some (h13 j))))))), (h9, Sum.inl (cint, 5, Sum.inl f_13)), (h10, Sum.inl (cint, 5, Sum.inl f_14))]) hP hD [6, 9, 10, 4, 5] [0, 1, 2, 3, 7, 8, 11] rfl rfl (by decide) (by decide) hk1 hFc hP1 hD1
        generalize H1 = H at hP hS ⊢
        have hP : va_P (dC, dI) vwCl (([(h2, Sum.inl (cint, 10, Sum.inl f2)), (h3, Sum.inl (cint, 10, Sum.inl f3)), (h4, Sum.inl (cint, 10, Sum.inl f4)), (h5, Sum.inl (cint, 8, Sum.inl f5)), (h1, Sum.inr (9, [Value.ref h11, Value.ref h14, Value.ref h15, Value.int n1_size])), (h6, Sum.inl (cint, 40, Sum.inl f_6)), (h11, Sum.inl (cint, 40, Sum.inl f11)), (h0, Sum.inr (2, [Value.ref h2, Value.ref h3, Value.ref h4, Value.int n0_size, Value.ref h5, Value.int n0_names, Value.int y_2, Value.ref h6, Value.ref h7, Value.ref h8, Value.ref h9, Value.ref h10, Value.int y_12])), (h7, Sum.inl (cAlong, 25, Sum.inr (Sum.inr (Sum.inr (Sum.inr (fun j => some (h12 j))))))), (h8, Sum.inl (cAlong, 5, Sum.inr (Sum.inr (Sum.inr (Sum.inr (fun j => some (h13 j))))))), (h9, Sum.inl (cint, 5, Sum.inl f_13)), (h10, Sum.inl (cint, 5, Sum.inl f_14))] : va_W) ++ (kk_rowsL h12 clong 40 f_9_1 25 ++ (kk_rowsL h13 clong 5 f_15 5))) H := hP
        have hD : va_D A (([(h2, Sum.inl (cint, 10, Sum.inl f2)), (h3, Sum.inl (cint, 10, Sum.inl f3)), (h4, Sum.inl (cint, 10, Sum.inl f4)), (h5, Sum.inl (cint, 8, Sum.inl f5)), (h1, Sum.inr (9, [Value.ref h11, Value.ref h14, Value.ref h15, Value.int n1_size])), (h6, Sum.inl (cint, 40, Sum.inl f_6)), (h11, Sum.inl (cint, 40, Sum.inl f11)), (h0, Sum.inr (2, [Value.ref h2, Value.ref h3, Value.ref h4, Value.int n0_size, Value.ref h5, Value.int n0_names, Value.int y_2, Value.ref h6, Value.ref h7, Value.ref h8, Value.ref h9, Value.ref h10, Value.int y_12])), (h7, Sum.inl (cAlong, 25, Sum.inr (Sum.inr (Sum.inr (Sum.inr (fun j => some (h12 j))))))), (h8, Sum.inl (cAlong, 5, Sum.inr (Sum.inr (Sum.inr (Sum.inr (fun j => some (h13 j))))))), (h9, Sum.inl (cint, 5, Sum.inl f_13)), (h10, Sum.inl (cint, 5, Sum.inl f_14))] : va_W) ++ (kk_rowsL h12 clong 40 f_9_1 25 ++ (kk_rowsL h13 clong 5 f_15 5))) := hD
        refine lv_aload_n hx hb dX2_putTogether_132 rfl (lv_at hl 1 rfl) ?_
        refine va_get (D := (dC, dI)) (ci := 2) (v := .int y_12) (C := RX2) (T := TX2) (N := 13) hx hb hts (fun _ h => List.mem_cons_of_mem _ (List.mem_append_left _ (List.mem_append_right _ h))) hown hK hP 7 rfl rfl 12 (by decide) (hts (.fieldLink RX2 70 "KinkStreet$Deeds" "ways" "I") (List.mem_of_getElem? (i := 6) rfl)) (fun _ h9 => h9) rfl dX2_putTogether_133 ?_
        have hP9 := hP.part (cx := [(h0, Sum.inr (2, [Value.ref h2, Value.ref h3, Value.ref h4, Value.int n0_size, Value.ref h5, Value.int n0_names, Value.int y_2, Value.ref h6, Value.ref h7, Value.ref h8, Value.ref h9, Value.ref h10, Value.int y_12])), (h1, Sum.inr (9, [Value.ref h11, Value.ref h14, Value.ref h15, Value.int n1_size])), (h2, Sum.inl (cint, 10, Sum.inl f2)), (h3, Sum.inl (cint, 10, Sum.inl f3)), (h4, Sum.inl (cint, 10, Sum.inl f4)), (h5, Sum.inl (cint, 8, Sum.inl f5)), (h6, Sum.inl (cint, 40, Sum.inl f_6)), (h7, Sum.inl (cAlong, 25, Sum.inr (Sum.inr (Sum.inr (Sum.inr (fun j => some (h12 j))))))), (h8, Sum.inl (cAlong, 5, Sum.inr (Sum.inr (Sum.inr (Sum.inr (fun j => some (h13 j))))))), (h9, Sum.inl (cint, 5, Sum.inl f_13)), (h10, Sum.inl (cint, 5, Sum.inl f_14)), (h11, Sum.inl (cint, 40, Sum.inl f11))]) [7, 4, 0, 1, 2, 3, 5, 8, 9, 10, 11, 6] rfl
        have hD9 := hD.part (cx := [(h0, Sum.inr (2, [Value.ref h2, Value.ref h3, Value.ref h4, Value.int n0_size, Value.ref h5, Value.int n0_names, Value.int y_2, Value.ref h6, Value.ref h7, Value.ref h8, Value.ref h9, Value.ref h10, Value.int y_12])), (h1, Sum.inr (9, [Value.ref h11, Value.ref h14, Value.ref h15, Value.int n1_size])), (h2, Sum.inl (cint, 10, Sum.inl f2)), (h3, Sum.inl (cint, 10, Sum.inl f3)), (h4, Sum.inl (cint, 10, Sum.inl f4)), (h5, Sum.inl (cint, 8, Sum.inl f5)), (h6, Sum.inl (cint, 40, Sum.inl f_6)), (h7, Sum.inl (cAlong, 25, Sum.inr (Sum.inr (Sum.inr (Sum.inr (fun j => some (h12 j))))))), (h8, Sum.inl (cAlong, 5, Sum.inr (Sum.inr (Sum.inr (Sum.inr (fun j => some (h13 j))))))), (h9, Sum.inl (cint, 5, Sum.inl f_13)), (h10, Sum.inl (cint, 5, Sum.inl f_14)), (h11, Sum.inl (cint, 40, Sum.inl f11))]) [7, 4, 0, 1, 2, 3, 5, 8, 9, 10, 11, 6] (by decide) rfl
        have hK9 := hK.sub (tys' := []) [] rfl
        exact W.iret (v := y_12) hx hb hr (fun t ht hW => ⟨⟨y_12, (), rfl, trivial, y_2, y_12, f_6, f_13, f_14, f_9_1, f_15, (by show 0 ≤ (y_2 : Int32).toInt ∧ (y_2 : Int32).toInt ≤ 40; first | decide | (constructor <;> (omega))), by rw [ht]; exact hP9, va_K.moved hW.alike hK9, hD9⟩, hS.F ht⟩) hS.2.2 dX2_putTogether_136
      · have t_10 : i_9_0.toInt < n0_size.toInt := kk_nle c_10
        refine lv_aload_n hx hb dX2_putTogether_51 rfl (lv_at hl 1 rfl) ?_
        refine va_get (D := (dC, dI)) (ci := 2) (v := .ref h3) (C := RX2) (T := TX2) (N := 13) hx hb hts (fun _ h => List.mem_cons_of_mem _ (List.mem_append_left _ (List.mem_append_right _ h))) hown hK hP 6 rfl rfl 1 (by decide) (hts (.fieldLink RX2 15 "KinkStreet$Deeds" "others" "[I") (List.mem_of_getElem? (i := 9) rfl)) (fun _ h9 => h9) rfl dX2_putTogether_52 ?_
        refine lv_iload_n hx hb dX2_putTogether_55 rfl (lv_at hl 0 rfl) ?_
        have hi_16 : vp_in i_9_0 10 := (vp_in_iff.mpr ⟨by omega, by omega⟩)
        refine va_iald hx hb hK hP 1 0 rfl rfl hi_16 dX2_putTogether_56 ?_
        refine lv_topi (fun y_16 e_16 => ?_)
        clear e_16
        refine lv_iconst (v := (-1)) hx hb dX2_putTogether_57 (by decide) ?_
        refine lv_icmp_ne (tgt := 84) hx hb dX2_putTogether_58 (by decide) (fun c_17 => ?_) (fun c_17 => ?_)
        · have t_17 : y_16.toInt ≠ (-1) := kk_ne c_17
          refine lv_aload_n hx hb dX2_putTogether_84 rfl (lv_at hl 1 rfl) ?_
          refine lv_aload_n hx hb dX2_putTogether_85 rfl (lv_at hl 1 rfl) ?_
          refine lv_aload_n hx hb dX2_putTogether_86 rfl (lv_at hl 1 rfl) ?_
          refine va_get (D := (dC, dI)) (ci := 2) (v := .ref h2) (C := RX2) (T := TX2) (N := 13) hx hb hts (fun _ h => List.mem_cons_of_mem _ (List.mem_append_left _ (List.mem_append_right _ h))) hown hK hP 6 rfl rfl 0 (by decide) (hts (.fieldLink RX2 11 "KinkStreet$Deeds" "ones" "[I") (List.mem_of_getElem? (i := 10) rfl)) (fun _ h9 => h9) rfl dX2_putTogether_87 ?_
          refine lv_iload_n hx hb dX2_putTogether_90 rfl (lv_at hl 0 rfl) ?_
          have hi_18 : vp_in i_9_0 10 := (vp_in_iff.mpr ⟨by omega, by omega⟩)
          refine va_iald hx hb hK hP 0 0 rfl rfl hi_18 dX2_putTogether_91 ?_
          refine lv_topi (fun y_18 e_18 => ?_)
          clear e_18
          obtain ⟨hPc, hDc, hFc⟩ := kk_cutout (wc := [(h0, Sum.inr (2, [Value.ref h2, Value.ref h3, Value.ref h4, Value.int n0_size, Value.ref h5, Value.int n0_names, Value.int y_2, Value.ref h6, Value.ref h7, Value.ref h8, Value.ref h9, Value.ref h10, Value.int 0])), (h5, Sum.inl (cint, 8, Sum.inl f5))]) hP hD hS hA [6, 3] (by decide) rfl
          have hKc := hK.sub (tys' := [(cint, .int)]) [0] rfl
          refine va_calli (va_runV (As := [.int y_18]) (rest := [.ref h0]) ⟨hx, hb, hml, hown, hts⟩ (g_X2_seat_0 l dC dI h0 h5 h2 h3 h4 h6 h7 h8 h9 h10 cint H.size y_18 n0_size n0_names y_2 0 f5 tn0_size tn0_names (by show 0 ≤ (y_2 : Int32).toInt ∧ (y_2 : Int32).toInt ≤ 40; first | decide | (constructor <;> (omega)))) (cwV 1 hts gX2_putTogether_X2_seat rfl rfl rfl (by decide +kernel) ⟨Nat.le_of_ble_eq_true rfl, Nat.le_of_ble_eq_true rfl⟩) ⟨fun a U g mk q => by obtain ⟨q0, q1, qP, qK, qD⟩ := q; exact ⟨q0, q1, qP, va_K.moved (u := U) (U := U.calling g mk a) (Vm.Alike.refl U.vm) qK, qD⟩, va_recv hKc hPc (ci := 2) (q0 := 0) rfl rfl, fun U hU hW => ⟨rfl, by rw [hU], by rw [hU]; exact hPc, va_K.moved hW.alike hKc, hDc.weaken (fun _ _ _ _ => trivial)⟩⟩ rfl rfl hl.1 rfl (lv_room (Nat.le_of_ble_eq_true rfl)) dX2_putTogether_92 ⟨Nat.le_of_ble_eq_true rfl, Nat.le_of_ble_eq_true rfl⟩) hS (fun q _ h => hFc q h) hFc (fun r_19 u t H1 locs ht hvm hw hB hz1 hk1 hS => ?_)
          obtain ⟨hP1, hK1, hD1⟩ := hB
          rw [ht] at hP1
          have hK1 := va_K.moved hvm.symm hK1
          obtain ⟨hP, hD⟩ := va_joinQ (cx := [(h0, Sum.inr (2, [Value.ref h2, Value.ref h3, Value.ref h4, Value.int n0_size, Value.ref h5, Value.int n0_names, Value.int y_2, Value.ref h6, Value.ref h7, Value.ref h8, Value.ref h9, Value.ref h10, Value.int 0])), (h5, Sum.inl (cint, 8, Sum.inl f5))]) (wr := [(h2, Sum.inl (cint, 10, Sum.inl f2)), (h3, Sum.inl (cint, 10, Sum.inl f3)), (h4, Sum.inl (cint, 10, Sum.inl f4)), (h9, Sum.inl (cint, 5, Sum.inl f9)), (h10, Sum.inl (cint, 5, Sum.inl f10)), (h1, Sum.inr (9, [Value.ref h11, Value.ref h14, Value.ref h15, Value.int n1_size])), (h6, Sum.inl (cint, 40, Sum.inl f_6)), (h7, Sum.inl (cAlong, 25, Sum.inr (Sum.inr (Sum.inr (Sum.inr (fun j => some (h12 j))))))), (h8, Sum.inl (cAlong, 5, Sum.inr (Sum.inr (Sum.inr (Sum.inr (fun j => some (h13 j))))))), (h11, Sum.inl (cint, 40, Sum.inl f11))]) (w1 := [(h0, Sum.inr (2, [Value.ref h2, Value.ref h3, Value.ref h4, Value.int n0_size, Value.ref h5, Value.int n0_names, Value.int y_2, Value.ref h6, Value.ref h7, Value.ref h8, Value.ref h9, Value.ref h10, Value.int 0])), (h5, Sum.inl (cint, 8, Sum.inl f5))]) hP hD [6, 3] [0, 1, 2, 4, 5, 7, 8, 9, 10, 11] rfl rfl (by decide) (by decide) hk1 hFc hP1 hD1
          generalize H1 = H at hP hS ⊢
          have hP : va_P (dC, dI) vwCl (([(h2, Sum.inl (cint, 10, Sum.inl f2)), (h3, Sum.inl (cint, 10, Sum.inl f3)), (h4, Sum.inl (cint, 10, Sum.inl f4)), (h9, Sum.inl (cint, 5, Sum.inl f9)), (h10, Sum.inl (cint, 5, Sum.inl f10)), (h1, Sum.inr (9, [Value.ref h11, Value.ref h14, Value.ref h15, Value.int n1_size])), (h6, Sum.inl (cint, 40, Sum.inl f_6)), (h7, Sum.inl (cAlong, 25, Sum.inr (Sum.inr (Sum.inr (Sum.inr (fun j => some (h12 j))))))), (h8, Sum.inl (cAlong, 5, Sum.inr (Sum.inr (Sum.inr (Sum.inr (fun j => some (h13 j))))))), (h11, Sum.inl (cint, 40, Sum.inl f11)), (h0, Sum.inr (2, [Value.ref h2, Value.ref h3, Value.ref h4, Value.int n0_size, Value.ref h5, Value.int n0_names, Value.int y_2, Value.ref h6, Value.ref h7, Value.ref h8, Value.ref h9, Value.ref h10, Value.int 0])), (h5, Sum.inl (cint, 8, Sum.inl f5))] : va_W) ++ (kk_rowsL h12 clong 40 f_9_1 25 ++ (kk_rowsL h13 clong 5 f_9_2 5))) H := hP
          have hD : va_D A (([(h2, Sum.inl (cint, 10, Sum.inl f2)), (h3, Sum.inl (cint, 10, Sum.inl f3)), (h4, Sum.inl (cint, 10, Sum.inl f4)), (h9, Sum.inl (cint, 5, Sum.inl f9)), (h10, Sum.inl (cint, 5, Sum.inl f10)), (h1, Sum.inr (9, [Value.ref h11, Value.ref h14, Value.ref h15, Value.int n1_size])), (h6, Sum.inl (cint, 40, Sum.inl f_6)), (h7, Sum.inl (cAlong, 25, Sum.inr (Sum.inr (Sum.inr (Sum.inr (fun j => some (h12 j))))))), (h8, Sum.inl (cAlong, 5, Sum.inr (Sum.inr (Sum.inr (Sum.inr (fun j => some (h13 j))))))), (h11, Sum.inl (cint, 40, Sum.inl f11)), (h0, Sum.inr (2, [Value.ref h2, Value.ref h3, Value.ref h4, Value.int n0_size, Value.ref h5, Value.int n0_names, Value.int y_2, Value.ref h6, Value.ref h7, Value.ref h8, Value.ref h9, Value.ref h10, Value.int 0])), (h5, Sum.inl (cint, 8, Sum.inl f5))] : va_W) ++ (kk_rowsL h12 clong 40 f_9_1 25 ++ (kk_rowsL h13 clong 5 f_9_2 5))) := hD
          have t_19 : 0 ≤ r_19.toInt ∧ r_19.toInt ≤ 4 := hw
          refine lv_aload_n hx hb dX2_putTogether_95 rfl (lv_at hl 1 rfl) ?_
          refine lv_aload_n hx hb dX2_putTogether_96 rfl (lv_at hl 1 rfl) ?_
          refine va_get (D := (dC, dI)) (ci := 2) (v := .ref h3) (C := RX2) (T := TX2) (N := 13) hx hb hts (fun _ h => List.mem_cons_of_mem _ (List.mem_append_left _ (List.mem_append_right _ h))) hown hK hP 10 rfl rfl 1 (by decide) (hts (.fieldLink RX2 15 "KinkStreet$Deeds" "others" "[I") (List.mem_of_getElem? (i := 9) rfl)) (fun _ h9 => h9) rfl dX2_putTogether_97 ?_
          refine lv_iload_n hx hb dX2_putTogether_100 rfl (lv_at hl 0 rfl) ?_
          have hi_20 : vp_in i_9_0 10 := (vp_in_iff.mpr ⟨by omega, by omega⟩)
          refine va_iald hx hb hK hP 1 0 rfl rfl hi_20 dX2_putTogether_101 ?_
          refine lv_topi (fun y_20 e_20 => ?_)
          clear e_20
          obtain ⟨hPc, hDc, hFc⟩ := kk_cutout (wc := [(h0, Sum.inr (2, [Value.ref h2, Value.ref h3, Value.ref h4, Value.int n0_size, Value.ref h5, Value.int n0_names, Value.int y_2, Value.ref h6, Value.ref h7, Value.ref h8, Value.ref h9, Value.ref h10, Value.int 0])), (h5, Sum.inl (cint, 8, Sum.inl f5))]) hP hD hS hA [10, 11] (by decide) rfl
          have hKc := hK.sub (tys' := [(cint, .int)]) [0] rfl
          refine va_calli (va_runV (As := [.int y_20]) (rest := [.int r_19, .ref h0]) ⟨hx, hb, hml, hown, hts⟩ (g_X2_seat_0 l dC dI h0 h5 h2 h3 h4 h6 h7 h8 h9 h10 cint H.size y_20 n0_size n0_names y_2 0 f5 tn0_size tn0_names (by show 0 ≤ (y_2 : Int32).toInt ∧ (y_2 : Int32).toInt ≤ 40; first | decide | (constructor <;> (omega)))) (cwV 1 hts gX2_putTogether_X2_seat rfl rfl rfl (by decide +kernel) ⟨Nat.le_of_ble_eq_true rfl, Nat.le_of_ble_eq_true rfl⟩) ⟨fun a U g mk q => by obtain ⟨q0, q1, qP, qK, qD⟩ := q; exact ⟨q0, q1, qP, va_K.moved (u := U) (U := U.calling g mk a) (Vm.Alike.refl U.vm) qK, qD⟩, va_recv hKc hPc (ci := 2) (q0 := 0) rfl rfl, fun U hU hW => ⟨rfl, by rw [hU], by rw [hU]; exact hPc, va_K.moved hW.alike hKc, hDc.weaken (fun _ _ _ _ => trivial)⟩⟩ rfl rfl hl.1 rfl (lv_room (Nat.le_of_ble_eq_true rfl)) dX2_putTogether_102 ⟨Nat.le_of_ble_eq_true rfl, Nat.le_of_ble_eq_true rfl⟩) hS (fun q _ h => hFc q h) hFc (fun r_21 u t H1 locs ht hvm hw hB hz1 hk1 hS => ?_)
          obtain ⟨hP1, hK1, hD1⟩ := hB
          rw [ht] at hP1
          have hK1 := va_K.moved hvm.symm hK1
          obtain ⟨hP, hD⟩ := va_joinQ (cx := [(h0, Sum.inr (2, [Value.ref h2, Value.ref h3, Value.ref h4, Value.int n0_size, Value.ref h5, Value.int n0_names, Value.int y_2, Value.ref h6, Value.ref h7, Value.ref h8, Value.ref h9, Value.ref h10, Value.int 0])), (h5, Sum.inl (cint, 8, Sum.inl f5))]) (wr := [(h2, Sum.inl (cint, 10, Sum.inl f2)), (h3, Sum.inl (cint, 10, Sum.inl f3)), (h4, Sum.inl (cint, 10, Sum.inl f4)), (h9, Sum.inl (cint, 5, Sum.inl f9)), (h10, Sum.inl (cint, 5, Sum.inl f10)), (h1, Sum.inr (9, [Value.ref h11, Value.ref h14, Value.ref h15, Value.int n1_size])), (h6, Sum.inl (cint, 40, Sum.inl f_6)), (h7, Sum.inl (cAlong, 25, Sum.inr (Sum.inr (Sum.inr (Sum.inr (fun j => some (h12 j))))))), (h8, Sum.inl (cAlong, 5, Sum.inr (Sum.inr (Sum.inr (Sum.inr (fun j => some (h13 j))))))), (h11, Sum.inl (cint, 40, Sum.inl f11))]) (w1 := [(h0, Sum.inr (2, [Value.ref h2, Value.ref h3, Value.ref h4, Value.int n0_size, Value.ref h5, Value.int n0_names, Value.int y_2, Value.ref h6, Value.ref h7, Value.ref h8, Value.ref h9, Value.ref h10, Value.int 0])), (h5, Sum.inl (cint, 8, Sum.inl f5))]) hP hD [10, 11] [0, 1, 2, 3, 4, 5, 6, 7, 8, 9] rfl rfl (by decide) (by decide) hk1 hFc hP1 hD1
          generalize H1 = H at hP hS ⊢
          have hP : va_P (dC, dI) vwCl (([(h2, Sum.inl (cint, 10, Sum.inl f2)), (h3, Sum.inl (cint, 10, Sum.inl f3)), (h4, Sum.inl (cint, 10, Sum.inl f4)), (h9, Sum.inl (cint, 5, Sum.inl f9)), (h10, Sum.inl (cint, 5, Sum.inl f10)), (h1, Sum.inr (9, [Value.ref h11, Value.ref h14, Value.ref h15, Value.int n1_size])), (h6, Sum.inl (cint, 40, Sum.inl f_6)), (h7, Sum.inl (cAlong, 25, Sum.inr (Sum.inr (Sum.inr (Sum.inr (fun j => some (h12 j))))))), (h8, Sum.inl (cAlong, 5, Sum.inr (Sum.inr (Sum.inr (Sum.inr (fun j => some (h13 j))))))), (h11, Sum.inl (cint, 40, Sum.inl f11)), (h0, Sum.inr (2, [Value.ref h2, Value.ref h3, Value.ref h4, Value.int n0_size, Value.ref h5, Value.int n0_names, Value.int y_2, Value.ref h6, Value.ref h7, Value.ref h8, Value.ref h9, Value.ref h10, Value.int 0])), (h5, Sum.inl (cint, 8, Sum.inl f5))] : va_W) ++ (kk_rowsL h12 clong 40 f_9_1 25 ++ (kk_rowsL h13 clong 5 f_9_2 5))) H := hP
          have hD : va_D A (([(h2, Sum.inl (cint, 10, Sum.inl f2)), (h3, Sum.inl (cint, 10, Sum.inl f3)), (h4, Sum.inl (cint, 10, Sum.inl f4)), (h9, Sum.inl (cint, 5, Sum.inl f9)), (h10, Sum.inl (cint, 5, Sum.inl f10)), (h1, Sum.inr (9, [Value.ref h11, Value.ref h14, Value.ref h15, Value.int n1_size])), (h6, Sum.inl (cint, 40, Sum.inl f_6)), (h7, Sum.inl (cAlong, 25, Sum.inr (Sum.inr (Sum.inr (Sum.inr (fun j => some (h12 j))))))), (h8, Sum.inl (cAlong, 5, Sum.inr (Sum.inr (Sum.inr (Sum.inr (fun j => some (h13 j))))))), (h11, Sum.inl (cint, 40, Sum.inl f11)), (h0, Sum.inr (2, [Value.ref h2, Value.ref h3, Value.ref h4, Value.int n0_size, Value.ref h5, Value.int n0_names, Value.int y_2, Value.ref h6, Value.ref h7, Value.ref h8, Value.ref h9, Value.ref h10, Value.int 0])), (h5, Sum.inl (cint, 8, Sum.inl f5))] : va_W) ++ (kk_rowsL h12 clong 40 f_9_1 25 ++ (kk_rowsL h13 clong 5 f_9_2 5))) := hD
          have t_21 : 0 ≤ r_21.toInt ∧ r_21.toInt ≤ 4 := hw
          refine lv_bipush (v := 10) hx hb dX2_putTogether_105 (by decide) ?_
          refine lv_aload_n hx hb dX2_putTogether_107 rfl (lv_at hl 1 rfl) ?_
          refine va_get (D := (dC, dI)) (ci := 2) (v := .ref h4) (C := RX2) (T := TX2) (N := 13) hx hb hts (fun _ h => List.mem_cons_of_mem _ (List.mem_append_left _ (List.mem_append_right _ h))) hown hK hP 10 rfl rfl 2 (by decide) (hts (.fieldLink RX2 18 "KinkStreet$Deeds" "tolds" "[I") (List.mem_of_getElem? (i := 11) rfl)) (fun _ h9 => h9) rfl dX2_putTogether_108 ?_
          refine lv_iload_n hx hb dX2_putTogether_111 rfl (lv_at hl 0 rfl) ?_
          have hi_22 : vp_in i_9_0 10 := (vp_in_iff.mpr ⟨by omega, by omega⟩)
          refine va_iald hx hb hK hP 2 0 rfl rfl hi_22 dX2_putTogether_112 ?_
          refine lv_topi (fun y_22 e_22 => ?_)
          clear e_22
          refine lv_imul hx hb dX2_putTogether_113 ?_
          refine lv_bipush (v := 10) hx hb dX2_putTogether_114 (by decide) ?_
          refine lv_iload_n hx hb dX2_putTogether_116 rfl (lv_at hl 3 rfl) ?_
          refine lv_imul hx hb dX2_putTogether_117 ?_
          have hPc := hP.part (cx := [(h0, Sum.inr (2, [Value.ref h2, Value.ref h3, Value.ref h4, Value.int n0_size, Value.ref h5, Value.int n0_names, Value.int y_2, Value.ref h6, Value.ref h7, Value.ref h8, Value.ref h9, Value.ref h10, Value.int 0])), (h6, Sum.inl (cint, 40, Sum.inl f_6)), (h7, Sum.inl (cAlong, 25, Sum.inr (Sum.inr (Sum.inr (Sum.inr (fun j => some (h12 j))))))), (h8, Sum.inl (cAlong, 5, Sum.inr (Sum.inr (Sum.inr (Sum.inr (fun j => some (h13 j)))))))]) [10, 6, 7, 8] rfl
          have hDc := hD.part (cx := [(h0, Sum.inr (2, [Value.ref h2, Value.ref h3, Value.ref h4, Value.int n0_size, Value.ref h5, Value.int n0_names, Value.int y_2, Value.ref h6, Value.ref h7, Value.ref h8, Value.ref h9, Value.ref h10, Value.int 0])), (h6, Sum.inl (cint, 40, Sum.inl f_6)), (h7, Sum.inl (cAlong, 25, Sum.inr (Sum.inr (Sum.inr (Sum.inr (fun j => some (h12 j))))))), (h8, Sum.inl (cAlong, 5, Sum.inr (Sum.inr (Sum.inr (Sum.inr (fun j => some (h13 j)))))))]) [10, 6, 7, 8] (by decide) rfl
          have hFc := va_freeP (cx := [(h0, Sum.inr (2, [Value.ref h2, Value.ref h3, Value.ref h4, Value.int n0_size, Value.ref h5, Value.int n0_names, Value.int y_2, Value.ref h6, Value.ref h7, Value.ref h8, Value.ref h9, Value.ref h10, Value.int 0])), (h6, Sum.inl (cint, 40, Sum.inl f_6)), (h7, Sum.inl (cAlong, 25, Sum.inr (Sum.inr (Sum.inr (Sum.inr (fun j => some (h12 j))))))), (h8, Sum.inl (cAlong, 5, Sum.inr (Sum.inr (Sum.inr (Sum.inr (fun j => some (h13 j)))))))]) hD hS hA [10, 6, 7, 8] rfl
          have hKc := hK.sub (tys' := [(cint, .int), (cAlong, .array .long), (clong, .long)]) [0, 1, 2] rfl
          refine va_callv (va_runV (As := [.int r_19, .int r_21, .int (10 * y_22), .int (10 * p1)]) (rest := []) ⟨hx, hb, hml, hown, hts⟩ (g_X2_keepDistance_0 l dC dI h0 h6 h7 h8 h12 h13 h2 h3 h4 h5 h9 h10 cint cAlong clong H.size r_19 r_21 (10 * y_22) (10 * p1) (by show 0 ≤ (r_19 : Int32).toInt ∧ (r_19 : Int32).toInt ≤ 4; first | decide | (constructor <;> (omega))) (by show 0 ≤ (r_21 : Int32).toInt ∧ (r_21 : Int32).toInt ≤ 4; first | decide | (constructor <;> (omega))) n0_size n0_names y_2 0 f_6 f_9_1 f_9_2 tn0_size tn0_names (by show 0 ≤ (y_2 : Int32).toInt ∧ (y_2 : Int32).toInt ≤ 40; first | decide | (constructor <;> (omega)))) (cwV 4 hts gX2_putTogether_X2_keepDistance rfl rfl rfl (by decide +kernel) ⟨Nat.le_of_ble_eq_true rfl, Nat.le_of_ble_eq_true rfl⟩) ⟨fun a U g mk q => by obtain ⟨q0, q1, qP, qK, qD⟩ := q; exact ⟨q0, q1, qP, va_K.moved (u := U) (U := U.calling g mk a) (Vm.Alike.refl U.vm) qK, qD⟩, va_recv hKc hPc (ci := 2) (q0 := 0) rfl rfl, fun U hU hW => ⟨rfl, by rw [hU], by rw [hU]; exact hPc, va_K.moved hW.alike hKc, hDc.weaken (fun _ _ _ _ => trivial)⟩⟩ rfl rfl hl.1 rfl (lv_room (Nat.le_of_ble_eq_true rfl)) dX2_putTogether_118 ⟨Nat.le_of_ble_eq_true rfl, Nat.le_of_ble_eq_true rfl⟩) hS (fun q _ h => hFc q h) hFc (fun u t H1 locs ht hvm hw hB hz1 hk1 hS => ?_)
          obtain ⟨f_24, hP1, hK1, hD1⟩ := hB
          rw [ht] at hP1
          have hK1 := va_K.moved hvm.symm hK1
          obtain ⟨hP, hD⟩ := va_joinP (cx := [(h0, Sum.inr (2, [Value.ref h2, Value.ref h3, Value.ref h4, Value.int n0_size, Value.ref h5, Value.int n0_names, Value.int y_2, Value.ref h6, Value.ref h7, Value.ref h8, Value.ref h9, Value.ref h10, Value.int 0])), (h6, Sum.inl (cint, 40, Sum.inl f_6)), (h7, Sum.inl (cAlong, 25, Sum.inr (Sum.inr (Sum.inr (Sum.inr (fun j => some (h12 j))))))), (h8, Sum.inl (cAlong, 5, Sum.inr (Sum.inr (Sum.inr (Sum.inr (fun j => some (h13 j)))))))]) (wr := [(h2, Sum.inl (cint, 10, Sum.inl f2)), (h3, Sum.inl (cint, 10, Sum.inl f3)), (h4, Sum.inl (cint, 10, Sum.inl f4)), (h9, Sum.inl (cint, 5, Sum.inl f9)), (h10, Sum.inl (cint, 5, Sum.inl f10)), (h1, Sum.inr (9, [Value.ref h11, Value.ref h14, Value.ref h15, Value.int n1_size])), (h11, Sum.inl (cint, 40, Sum.inl f11)), (h5, Sum.inl (cint, 8, Sum.inl f5))]) (rx := [(h0, Sum.inr (2, [Value.ref h2, Value.ref h3, Value.ref h4, Value.int n0_size, Value.ref h5, Value.int n0_names, Value.int y_2, Value.ref h6, Value.ref h7, Value.ref h8, Value.ref h9, Value.ref h10, Value.int 0])), (h6, Sum.inl (cint, 40, Sum.inl f_6)), (h7, Sum.inl (cAlong, 25, Sum.inr (Sum.inr (Sum.inr (Sum.inr (fun j => some (h12 j))))))), (h8, Sum.inl (cAlong, 5, Sum.inr (Sum.inr (Sum.inr (Sum.inr (fun j => some (h13 j)))))))]) hP hD [10, 6, 7, 8] [0, 1, 2, 3, 4, 5, 9, 11] rfl rfl (by decide) (by decide) hk1 hFc hP1 hD1
          generalize H1 = H at hP hS ⊢
          have hP : va_P (dC, dI) vwCl (([(h2, Sum.inl (cint, 10, Sum.inl f2)), (h3, Sum.inl (cint, 10, Sum.inl f3)), (h4, Sum.inl (cint, 10, Sum.inl f4)), (h9, Sum.inl (cint, 5, Sum.inl f9)), (h10, Sum.inl (cint, 5, Sum.inl f10)), (h1, Sum.inr (9, [Value.ref h11, Value.ref h14, Value.ref h15, Value.int n1_size])), (h11, Sum.inl (cint, 40, Sum.inl f11)), (h5, Sum.inl (cint, 8, Sum.inl f5)), (h0, Sum.inr (2, [Value.ref h2, Value.ref h3, Value.ref h4, Value.int n0_size, Value.ref h5, Value.int n0_names, Value.int y_2, Value.ref h6, Value.ref h7, Value.ref h8, Value.ref h9, Value.ref h10, Value.int 0])), (h6, Sum.inl (cint, 40, Sum.inl f_6)), (h7, Sum.inl (cAlong, 25, Sum.inr (Sum.inr (Sum.inr (Sum.inr (fun j => some (h12 j))))))), (h8, Sum.inl (cAlong, 5, Sum.inr (Sum.inr (Sum.inr (Sum.inr (fun j => some (h13 j)))))))] : va_W) ++ (kk_rowsL h12 clong 40 f_24 25 ++ (kk_rowsL h13 clong 5 f_9_2 5))) H := hP
          have hD : va_D A (([(h2, Sum.inl (cint, 10, Sum.inl f2)), (h3, Sum.inl (cint, 10, Sum.inl f3)), (h4, Sum.inl (cint, 10, Sum.inl f4)), (h9, Sum.inl (cint, 5, Sum.inl f9)), (h10, Sum.inl (cint, 5, Sum.inl f10)), (h1, Sum.inr (9, [Value.ref h11, Value.ref h14, Value.ref h15, Value.int n1_size])), (h11, Sum.inl (cint, 40, Sum.inl f11)), (h5, Sum.inl (cint, 8, Sum.inl f5)), (h0, Sum.inr (2, [Value.ref h2, Value.ref h3, Value.ref h4, Value.int n0_size, Value.ref h5, Value.int n0_names, Value.int y_2, Value.ref h6, Value.ref h7, Value.ref h8, Value.ref h9, Value.ref h10, Value.int 0])), (h6, Sum.inl (cint, 40, Sum.inl f_6)), (h7, Sum.inl (cAlong, 25, Sum.inr (Sum.inr (Sum.inr (Sum.inr (fun j => some (h12 j))))))), (h8, Sum.inl (cAlong, 5, Sum.inr (Sum.inr (Sum.inr (Sum.inr (fun j => some (h13 j)))))))] : va_W) ++ (kk_rowsL h12 clong 40 f_24 25 ++ (kk_rowsL h13 clong 5 f_9_2 5))) := hD
          refine lv_iinc (v := (i_9_0 + 1)) (lv' := [(3, .int (i_9_0 + 1)), (0, .ref h0), (1, .ref h1), (2, .int p1)]) hx hb dX2_putTogether_121 hl (k := 0) rfl (by first | rfl | decide) (by decide) rfl (fun ls hl => ?_)
          refine lv_goto (tgt := 43) hx hb dX2_putTogether_124 (by decide) ?_
          exact ih_9 ((i_9_0 + 1), f_24, f_9_2) _ _ _ (by show ((10 : Int) - ((i_9_0 + 1)).toInt).toNat < ((10 : Int) - i_9_0.toInt).toNat; have := kk_add2 (x := i_9_0) (y := 1) (a := i_9_0.toInt) (b := 1) rfl rfl (by omega) (by omega); exact kk_mu (by omega) (by omega)) ⟨(by show 0 ≤ ((i_9_0 + 1) : Int32).toInt ∧ ((i_9_0 + 1) : Int32).toInt ≤ 10; first | decide | (constructor <;> (have := kk_add2 (x := i_9_0) (y := 1) (a := i_9_0.toInt) (b := 1) rfl rfl (by omega) (by omega); omega))), hP.part (cx := [(h2, Sum.inl (cint, 10, Sum.inl f2)), (h3, Sum.inl (cint, 10, Sum.inl f3)), (h4, Sum.inl (cint, 10, Sum.inl f4)), (h5, Sum.inl (cint, 8, Sum.inl f5)), (h9, Sum.inl (cint, 5, Sum.inl f9)), (h10, Sum.inl (cint, 5, Sum.inl f10)), (h0, Sum.inr (2, [Value.ref h2, Value.ref h3, Value.ref h4, Value.int n0_size, Value.ref h5, Value.int n0_names, Value.int y_2, Value.ref h6, Value.ref h7, Value.ref h8, Value.ref h9, Value.ref h10, Value.int 0])), (h1, Sum.inr (9, [Value.ref h11, Value.ref h14, Value.ref h15, Value.int n1_size])), (h6, Sum.inl (cint, 40, Sum.inl f_6)), (h7, Sum.inl (cAlong, 25, Sum.inr (Sum.inr (Sum.inr (Sum.inr (fun j => some (h12 j))))))), (h8, Sum.inl (cAlong, 5, Sum.inr (Sum.inr (Sum.inr (Sum.inr (fun j => some (h13 j))))))), (h11, Sum.inl (cint, 40, Sum.inl f11))]) [0, 1, 2, 7, 3, 4, 8, 5, 9, 10, 11, 6] rfl, hD.part (cx := [(h2, Sum.inl (cint, 10, Sum.inl f2)), (h3, Sum.inl (cint, 10, Sum.inl f3)), (h4, Sum.inl (cint, 10, Sum.inl f4)), (h5, Sum.inl (cint, 8, Sum.inl f5)), (h9, Sum.inl (cint, 5, Sum.inl f9)), (h10, Sum.inl (cint, 5, Sum.inl f10)), (h0, Sum.inr (2, [Value.ref h2, Value.ref h3, Value.ref h4, Value.int n0_size, Value.ref h5, Value.int n0_names, Value.int y_2, Value.ref h6, Value.ref h7, Value.ref h8, Value.ref h9, Value.ref h10, Value.int 0])), (h1, Sum.inr (9, [Value.ref h11, Value.ref h14, Value.ref h15, Value.int n1_size])), (h6, Sum.inl (cint, 40, Sum.inl f_6)), (h7, Sum.inl (cAlong, 25, Sum.inr (Sum.inr (Sum.inr (Sum.inr (fun j => some (h12 j))))))), (h8, Sum.inl (cAlong, 5, Sum.inr (Sum.inr (Sum.inr (Sum.inr (fun j => some (h13 j))))))), (h11, Sum.inl (cint, 40, Sum.inl f11))]) [0, 1, 2, 7, 3, 4, 8, 5, 9, 10, 11, 6] (by decide) rfl, hS, lv_sub hl [0, 1, 2, 3] rfl⟩
        · have t_17 : y_16.toInt = (-1) := kk_eq c_17
          refine lv_aload_n hx hb dX2_putTogether_61 rfl (lv_at hl 1 rfl) ?_
          refine lv_aload_n hx hb dX2_putTogether_62 rfl (lv_at hl 1 rfl) ?_
          refine lv_aload_n hx hb dX2_putTogether_63 rfl (lv_at hl 1 rfl) ?_
          refine va_get (D := (dC, dI)) (ci := 2) (v := .ref h2) (C := RX2) (T := TX2) (N := 13) hx hb hts (fun _ h => List.mem_cons_of_mem _ (List.mem_append_left _ (List.mem_append_right _ h))) hown hK hP 6 rfl rfl 0 (by decide) (hts (.fieldLink RX2 11 "KinkStreet$Deeds" "ones" "[I") (List.mem_of_getElem? (i := 10) rfl)) (fun _ h9 => h9) rfl dX2_putTogether_64 ?_
          refine lv_iload_n hx hb dX2_putTogether_67 rfl (lv_at hl 0 rfl) ?_
          have hi_25 : vp_in i_9_0 10 := (vp_in_iff.mpr ⟨by omega, by omega⟩)
          refine va_iald hx hb hK hP 0 0 rfl rfl hi_25 dX2_putTogether_68 ?_
          refine lv_topi (fun y_25 e_25 => ?_)
          clear e_25
          obtain ⟨hPc, hDc, hFc⟩ := kk_cutout (wc := [(h0, Sum.inr (2, [Value.ref h2, Value.ref h3, Value.ref h4, Value.int n0_size, Value.ref h5, Value.int n0_names, Value.int y_2, Value.ref h6, Value.ref h7, Value.ref h8, Value.ref h9, Value.ref h10, Value.int 0])), (h5, Sum.inl (cint, 8, Sum.inl f5))]) hP hD hS hA [6, 3] (by decide) rfl
          have hKc := hK.sub (tys' := [(cint, .int)]) [0] rfl
          refine va_calli (va_runV (As := [.int y_25]) (rest := [.ref h0]) ⟨hx, hb, hml, hown, hts⟩ (g_X2_seat_0 l dC dI h0 h5 h2 h3 h4 h6 h7 h8 h9 h10 cint H.size y_25 n0_size n0_names y_2 0 f5 tn0_size tn0_names (by show 0 ≤ (y_2 : Int32).toInt ∧ (y_2 : Int32).toInt ≤ 40; first | decide | (constructor <;> (omega)))) (cwV 1 hts gX2_putTogether_X2_seat rfl rfl rfl (by decide +kernel) ⟨Nat.le_of_ble_eq_true rfl, Nat.le_of_ble_eq_true rfl⟩) ⟨fun a U g mk q => by obtain ⟨q0, q1, qP, qK, qD⟩ := q; exact ⟨q0, q1, qP, va_K.moved (u := U) (U := U.calling g mk a) (Vm.Alike.refl U.vm) qK, qD⟩, va_recv hKc hPc (ci := 2) (q0 := 0) rfl rfl, fun U hU hW => ⟨rfl, by rw [hU], by rw [hU]; exact hPc, va_K.moved hW.alike hKc, hDc.weaken (fun _ _ _ _ => trivial)⟩⟩ rfl rfl hl.1 rfl (lv_room (Nat.le_of_ble_eq_true rfl)) dX2_putTogether_69 ⟨Nat.le_of_ble_eq_true rfl, Nat.le_of_ble_eq_true rfl⟩) hS (fun q _ h => hFc q h) hFc (fun r_26 u t H1 locs ht hvm hw hB hz1 hk1 hS => ?_)
          obtain ⟨hP1, hK1, hD1⟩ := hB
          rw [ht] at hP1
          have hK1 := va_K.moved hvm.symm hK1
          obtain ⟨hP, hD⟩ := va_joinQ (cx := [(h0, Sum.inr (2, [Value.ref h2, Value.ref h3, Value.ref h4, Value.int n0_size, Value.ref h5, Value.int n0_names, Value.int y_2, Value.ref h6, Value.ref h7, Value.ref h8, Value.ref h9, Value.ref h10, Value.int 0])), (h5, Sum.inl (cint, 8, Sum.inl f5))]) (wr := [(h2, Sum.inl (cint, 10, Sum.inl f2)), (h3, Sum.inl (cint, 10, Sum.inl f3)), (h4, Sum.inl (cint, 10, Sum.inl f4)), (h9, Sum.inl (cint, 5, Sum.inl f9)), (h10, Sum.inl (cint, 5, Sum.inl f10)), (h1, Sum.inr (9, [Value.ref h11, Value.ref h14, Value.ref h15, Value.int n1_size])), (h6, Sum.inl (cint, 40, Sum.inl f_6)), (h7, Sum.inl (cAlong, 25, Sum.inr (Sum.inr (Sum.inr (Sum.inr (fun j => some (h12 j))))))), (h8, Sum.inl (cAlong, 5, Sum.inr (Sum.inr (Sum.inr (Sum.inr (fun j => some (h13 j))))))), (h11, Sum.inl (cint, 40, Sum.inl f11))]) (w1 := [(h0, Sum.inr (2, [Value.ref h2, Value.ref h3, Value.ref h4, Value.int n0_size, Value.ref h5, Value.int n0_names, Value.int y_2, Value.ref h6, Value.ref h7, Value.ref h8, Value.ref h9, Value.ref h10, Value.int 0])), (h5, Sum.inl (cint, 8, Sum.inl f5))]) hP hD [6, 3] [0, 1, 2, 4, 5, 7, 8, 9, 10, 11] rfl rfl (by decide) (by decide) hk1 hFc hP1 hD1
          generalize H1 = H at hP hS ⊢
          have hP : va_P (dC, dI) vwCl (([(h2, Sum.inl (cint, 10, Sum.inl f2)), (h3, Sum.inl (cint, 10, Sum.inl f3)), (h4, Sum.inl (cint, 10, Sum.inl f4)), (h9, Sum.inl (cint, 5, Sum.inl f9)), (h10, Sum.inl (cint, 5, Sum.inl f10)), (h1, Sum.inr (9, [Value.ref h11, Value.ref h14, Value.ref h15, Value.int n1_size])), (h6, Sum.inl (cint, 40, Sum.inl f_6)), (h7, Sum.inl (cAlong, 25, Sum.inr (Sum.inr (Sum.inr (Sum.inr (fun j => some (h12 j))))))), (h8, Sum.inl (cAlong, 5, Sum.inr (Sum.inr (Sum.inr (Sum.inr (fun j => some (h13 j))))))), (h11, Sum.inl (cint, 40, Sum.inl f11)), (h0, Sum.inr (2, [Value.ref h2, Value.ref h3, Value.ref h4, Value.int n0_size, Value.ref h5, Value.int n0_names, Value.int y_2, Value.ref h6, Value.ref h7, Value.ref h8, Value.ref h9, Value.ref h10, Value.int 0])), (h5, Sum.inl (cint, 8, Sum.inl f5))] : va_W) ++ (kk_rowsL h12 clong 40 f_9_1 25 ++ (kk_rowsL h13 clong 5 f_9_2 5))) H := hP
          have hD : va_D A (([(h2, Sum.inl (cint, 10, Sum.inl f2)), (h3, Sum.inl (cint, 10, Sum.inl f3)), (h4, Sum.inl (cint, 10, Sum.inl f4)), (h9, Sum.inl (cint, 5, Sum.inl f9)), (h10, Sum.inl (cint, 5, Sum.inl f10)), (h1, Sum.inr (9, [Value.ref h11, Value.ref h14, Value.ref h15, Value.int n1_size])), (h6, Sum.inl (cint, 40, Sum.inl f_6)), (h7, Sum.inl (cAlong, 25, Sum.inr (Sum.inr (Sum.inr (Sum.inr (fun j => some (h12 j))))))), (h8, Sum.inl (cAlong, 5, Sum.inr (Sum.inr (Sum.inr (Sum.inr (fun j => some (h13 j))))))), (h11, Sum.inl (cint, 40, Sum.inl f11)), (h0, Sum.inr (2, [Value.ref h2, Value.ref h3, Value.ref h4, Value.int n0_size, Value.ref h5, Value.int n0_names, Value.int y_2, Value.ref h6, Value.ref h7, Value.ref h8, Value.ref h9, Value.ref h10, Value.int 0])), (h5, Sum.inl (cint, 8, Sum.inl f5))] : va_W) ++ (kk_rowsL h12 clong 40 f_9_1 25 ++ (kk_rowsL h13 clong 5 f_9_2 5))) := hD
          have t_26 : 0 ≤ r_26.toInt ∧ r_26.toInt ≤ 4 := hw
          refine lv_aload_n hx hb dX2_putTogether_72 rfl (lv_at hl 1 rfl) ?_
          refine va_get (D := (dC, dI)) (ci := 2) (v := .ref h4) (C := RX2) (T := TX2) (N := 13) hx hb hts (fun _ h => List.mem_cons_of_mem _ (List.mem_append_left _ (List.mem_append_right _ h))) hown hK hP 10 rfl rfl 2 (by decide) (hts (.fieldLink RX2 18 "KinkStreet$Deeds" "tolds" "[I") (List.mem_of_getElem? (i := 11) rfl)) (fun _ h9 => h9) rfl dX2_putTogether_73 ?_
          refine lv_iload_n hx hb dX2_putTogether_76 rfl (lv_at hl 0 rfl) ?_
          have hi_27 : vp_in i_9_0 10 := (vp_in_iff.mpr ⟨by omega, by omega⟩)
          refine va_iald hx hb hK hP 2 0 rfl rfl hi_27 dX2_putTogether_77 ?_
          refine lv_topi (fun y_27 e_27 => ?_)
          clear e_27
          have hPc := hP.part (cx := [(h0, Sum.inr (2, [Value.ref h2, Value.ref h3, Value.ref h4, Value.int n0_size, Value.ref h5, Value.int n0_names, Value.int y_2, Value.ref h6, Value.ref h7, Value.ref h8, Value.ref h9, Value.ref h10, Value.int 0])), (h7, Sum.inl (cAlong, 25, Sum.inr (Sum.inr (Sum.inr (Sum.inr (fun j => some (h12 j))))))), (h8, Sum.inl (cAlong, 5, Sum.inr (Sum.inr (Sum.inr (Sum.inr (fun j => some (h13 j)))))))]) [10, 7, 8] rfl
          have hDc := hD.part (cx := [(h0, Sum.inr (2, [Value.ref h2, Value.ref h3, Value.ref h4, Value.int n0_size, Value.ref h5, Value.int n0_names, Value.int y_2, Value.ref h6, Value.ref h7, Value.ref h8, Value.ref h9, Value.ref h10, Value.int 0])), (h7, Sum.inl (cAlong, 25, Sum.inr (Sum.inr (Sum.inr (Sum.inr (fun j => some (h12 j))))))), (h8, Sum.inl (cAlong, 5, Sum.inr (Sum.inr (Sum.inr (Sum.inr (fun j => some (h13 j)))))))]) [10, 7, 8] (by decide) rfl
          have hFc := va_freeP (cx := [(h0, Sum.inr (2, [Value.ref h2, Value.ref h3, Value.ref h4, Value.int n0_size, Value.ref h5, Value.int n0_names, Value.int y_2, Value.ref h6, Value.ref h7, Value.ref h8, Value.ref h9, Value.ref h10, Value.int 0])), (h7, Sum.inl (cAlong, 25, Sum.inr (Sum.inr (Sum.inr (Sum.inr (fun j => some (h12 j))))))), (h8, Sum.inl (cAlong, 5, Sum.inr (Sum.inr (Sum.inr (Sum.inr (fun j => some (h13 j)))))))]) hD hS hA [10, 7, 8] rfl
          have hKc := hK.sub (tys' := [(cAlong, .array .long), (clong, .long)]) [1, 2] rfl
          refine va_callv (va_runV (As := [.int r_26, .int y_27]) (rest := []) ⟨hx, hb, hml, hown, hts⟩ (g_X2_keepPlace_0 l dC dI h0 h7 h8 h12 h13 h2 h3 h4 h5 h6 h9 h10 cAlong clong H.size r_26 y_27 (by show 0 ≤ (r_26 : Int32).toInt ∧ (r_26 : Int32).toInt ≤ 4; first | decide | (constructor <;> (omega))) n0_size n0_names y_2 0 f_9_1 f_9_2 tn0_size tn0_names (by show 0 ≤ (y_2 : Int32).toInt ∧ (y_2 : Int32).toInt ≤ 40; first | decide | (constructor <;> (omega)))) (cwV 2 hts gX2_putTogether_X2_keepPlace rfl rfl rfl (by decide +kernel) ⟨Nat.le_of_ble_eq_true rfl, Nat.le_of_ble_eq_true rfl⟩) ⟨fun a U g mk q => by obtain ⟨q0, q1, qP, qK, qD⟩ := q; exact ⟨q0, q1, qP, va_K.moved (u := U) (U := U.calling g mk a) (Vm.Alike.refl U.vm) qK, qD⟩, va_recv hKc hPc (ci := 2) (q0 := 0) rfl rfl, fun U hU hW => ⟨rfl, by rw [hU], by rw [hU]; exact hPc, va_K.moved hW.alike hKc, hDc.weaken (fun _ _ _ _ => trivial)⟩⟩ rfl rfl hl.1 rfl (lv_room (Nat.le_of_ble_eq_true rfl)) dX2_putTogether_78 ⟨Nat.le_of_ble_eq_true rfl, Nat.le_of_ble_eq_true rfl⟩) hS (fun q _ h => hFc q h) hFc (fun u t H1 locs ht hvm hw hB hz1 hk1 hS => ?_)
          obtain ⟨f_29, hP1, hK1, hD1⟩ := hB
          rw [ht] at hP1
          have hK1 := va_K.moved hvm.symm hK1
          obtain ⟨hP, hD⟩ := va_joinP (cx := [(h0, Sum.inr (2, [Value.ref h2, Value.ref h3, Value.ref h4, Value.int n0_size, Value.ref h5, Value.int n0_names, Value.int y_2, Value.ref h6, Value.ref h7, Value.ref h8, Value.ref h9, Value.ref h10, Value.int 0])), (h7, Sum.inl (cAlong, 25, Sum.inr (Sum.inr (Sum.inr (Sum.inr (fun j => some (h12 j))))))), (h8, Sum.inl (cAlong, 5, Sum.inr (Sum.inr (Sum.inr (Sum.inr (fun j => some (h13 j)))))))]) (wr := [(h2, Sum.inl (cint, 10, Sum.inl f2)), (h3, Sum.inl (cint, 10, Sum.inl f3)), (h4, Sum.inl (cint, 10, Sum.inl f4)), (h9, Sum.inl (cint, 5, Sum.inl f9)), (h10, Sum.inl (cint, 5, Sum.inl f10)), (h1, Sum.inr (9, [Value.ref h11, Value.ref h14, Value.ref h15, Value.int n1_size])), (h6, Sum.inl (cint, 40, Sum.inl f_6)), (h11, Sum.inl (cint, 40, Sum.inl f11)), (h5, Sum.inl (cint, 8, Sum.inl f5))]) (rx := [(h0, Sum.inr (2, [Value.ref h2, Value.ref h3, Value.ref h4, Value.int n0_size, Value.ref h5, Value.int n0_names, Value.int y_2, Value.ref h6, Value.ref h7, Value.ref h8, Value.ref h9, Value.ref h10, Value.int 0])), (h7, Sum.inl (cAlong, 25, Sum.inr (Sum.inr (Sum.inr (Sum.inr (fun j => some (h12 j))))))), (h8, Sum.inl (cAlong, 5, Sum.inr (Sum.inr (Sum.inr (Sum.inr (fun j => some (h13 j)))))))]) hP hD [10, 7, 8] [0, 1, 2, 3, 4, 5, 6, 9, 11] rfl rfl (by decide) (by decide) hk1 hFc hP1 hD1
          generalize H1 = H at hP hS ⊢
          have hP : va_P (dC, dI) vwCl (([(h2, Sum.inl (cint, 10, Sum.inl f2)), (h3, Sum.inl (cint, 10, Sum.inl f3)), (h4, Sum.inl (cint, 10, Sum.inl f4)), (h9, Sum.inl (cint, 5, Sum.inl f9)), (h10, Sum.inl (cint, 5, Sum.inl f10)), (h1, Sum.inr (9, [Value.ref h11, Value.ref h14, Value.ref h15, Value.int n1_size])), (h6, Sum.inl (cint, 40, Sum.inl f_6)), (h11, Sum.inl (cint, 40, Sum.inl f11)), (h5, Sum.inl (cint, 8, Sum.inl f5)), (h0, Sum.inr (2, [Value.ref h2, Value.ref h3, Value.ref h4, Value.int n0_size, Value.ref h5, Value.int n0_names, Value.int y_2, Value.ref h6, Value.ref h7, Value.ref h8, Value.ref h9, Value.ref h10, Value.int 0])), (h7, Sum.inl (cAlong, 25, Sum.inr (Sum.inr (Sum.inr (Sum.inr (fun j => some (h12 j))))))), (h8, Sum.inl (cAlong, 5, Sum.inr (Sum.inr (Sum.inr (Sum.inr (fun j => some (h13 j)))))))] : va_W) ++ (kk_rowsL h12 clong 40 f_9_1 25 ++ (kk_rowsL h13 clong 5 f_29 5))) H := hP
          have hD : va_D A (([(h2, Sum.inl (cint, 10, Sum.inl f2)), (h3, Sum.inl (cint, 10, Sum.inl f3)), (h4, Sum.inl (cint, 10, Sum.inl f4)), (h9, Sum.inl (cint, 5, Sum.inl f9)), (h10, Sum.inl (cint, 5, Sum.inl f10)), (h1, Sum.inr (9, [Value.ref h11, Value.ref h14, Value.ref h15, Value.int n1_size])), (h6, Sum.inl (cint, 40, Sum.inl f_6)), (h11, Sum.inl (cint, 40, Sum.inl f11)), (h5, Sum.inl (cint, 8, Sum.inl f5)), (h0, Sum.inr (2, [Value.ref h2, Value.ref h3, Value.ref h4, Value.int n0_size, Value.ref h5, Value.int n0_names, Value.int y_2, Value.ref h6, Value.ref h7, Value.ref h8, Value.ref h9, Value.ref h10, Value.int 0])), (h7, Sum.inl (cAlong, 25, Sum.inr (Sum.inr (Sum.inr (Sum.inr (fun j => some (h12 j))))))), (h8, Sum.inl (cAlong, 5, Sum.inr (Sum.inr (Sum.inr (Sum.inr (fun j => some (h13 j)))))))] : va_W) ++ (kk_rowsL h12 clong 40 f_9_1 25 ++ (kk_rowsL h13 clong 5 f_29 5))) := hD
          refine lv_goto (tgt := 121) hx hb dX2_putTogether_81 (by decide) ?_
          refine lv_iinc (v := (i_9_0 + 1)) (lv' := [(3, .int (i_9_0 + 1)), (0, .ref h0), (1, .ref h1), (2, .int p1)]) hx hb dX2_putTogether_121 hl (k := 0) rfl (by first | rfl | decide) (by decide) rfl (fun ls hl => ?_)
          refine lv_goto (tgt := 43) hx hb dX2_putTogether_124 (by decide) ?_
          exact ih_9 ((i_9_0 + 1), f_9_1, f_29) _ _ _ (by show ((10 : Int) - ((i_9_0 + 1)).toInt).toNat < ((10 : Int) - i_9_0.toInt).toNat; have := kk_add2 (x := i_9_0) (y := 1) (a := i_9_0.toInt) (b := 1) rfl rfl (by omega) (by omega); exact kk_mu (by omega) (by omega)) ⟨(by show 0 ≤ ((i_9_0 + 1) : Int32).toInt ∧ ((i_9_0 + 1) : Int32).toInt ≤ 10; first | decide | (constructor <;> (have := kk_add2 (x := i_9_0) (y := 1) (a := i_9_0.toInt) (b := 1) rfl rfl (by omega) (by omega); omega))), hP.part (cx := [(h2, Sum.inl (cint, 10, Sum.inl f2)), (h3, Sum.inl (cint, 10, Sum.inl f3)), (h4, Sum.inl (cint, 10, Sum.inl f4)), (h5, Sum.inl (cint, 8, Sum.inl f5)), (h9, Sum.inl (cint, 5, Sum.inl f9)), (h10, Sum.inl (cint, 5, Sum.inl f10)), (h0, Sum.inr (2, [Value.ref h2, Value.ref h3, Value.ref h4, Value.int n0_size, Value.ref h5, Value.int n0_names, Value.int y_2, Value.ref h6, Value.ref h7, Value.ref h8, Value.ref h9, Value.ref h10, Value.int 0])), (h1, Sum.inr (9, [Value.ref h11, Value.ref h14, Value.ref h15, Value.int n1_size])), (h6, Sum.inl (cint, 40, Sum.inl f_6)), (h7, Sum.inl (cAlong, 25, Sum.inr (Sum.inr (Sum.inr (Sum.inr (fun j => some (h12 j))))))), (h8, Sum.inl (cAlong, 5, Sum.inr (Sum.inr (Sum.inr (Sum.inr (fun j => some (h13 j))))))), (h11, Sum.inl (cint, 40, Sum.inl f11))]) [0, 1, 2, 8, 3, 4, 9, 5, 6, 10, 11, 7] rfl, hD.part (cx := [(h2, Sum.inl (cint, 10, Sum.inl f2)), (h3, Sum.inl (cint, 10, Sum.inl f3)), (h4, Sum.inl (cint, 10, Sum.inl f4)), (h5, Sum.inl (cint, 8, Sum.inl f5)), (h9, Sum.inl (cint, 5, Sum.inl f9)), (h10, Sum.inl (cint, 5, Sum.inl f10)), (h0, Sum.inr (2, [Value.ref h2, Value.ref h3, Value.ref h4, Value.int n0_size, Value.ref h5, Value.int n0_names, Value.int y_2, Value.ref h6, Value.ref h7, Value.ref h8, Value.ref h9, Value.ref h10, Value.int 0])), (h1, Sum.inr (9, [Value.ref h11, Value.ref h14, Value.ref h15, Value.int n1_size])), (h6, Sum.inl (cint, 40, Sum.inl f_6)), (h7, Sum.inl (cAlong, 25, Sum.inr (Sum.inr (Sum.inr (Sum.inr (fun j => some (h12 j))))))), (h8, Sum.inl (cAlong, 5, Sum.inr (Sum.inr (Sum.inr (Sum.inr (fun j => some (h13 j))))))), (h11, Sum.inl (cint, 40, Sum.inl f11))]) [0, 1, 2, 8, 3, 4, 9, 5, 6, 10, 11, 7] (by decide) rfl, hS, lv_sub hl [0, 1, 2, 3] rfl⟩
    · have t_4 : 5 < n0_names.toInt := kk_nle c_4
      refine lv_iconst (v := 0) hx hb dX2_putTogether_34 (by decide) ?_
      have hP9 := hP.part (cx := [(h0, Sum.inr (2, [Value.ref h2, Value.ref h3, Value.ref h4, Value.int n0_size, Value.ref h5, Value.int n0_names, Value.int y_2, Value.ref h6, Value.ref h7, Value.ref h8, Value.ref h9, Value.ref h10, Value.int 0])), (h1, Sum.inr (9, [Value.ref h11, Value.ref h14, Value.ref h15, Value.int n1_size])), (h2, Sum.inl (cint, 10, Sum.inl f2)), (h3, Sum.inl (cint, 10, Sum.inl f3)), (h4, Sum.inl (cint, 10, Sum.inl f4)), (h5, Sum.inl (cint, 8, Sum.inl f5)), (h6, Sum.inl (cint, 40, Sum.inl f6)), (h7, Sum.inl (cAlong, 25, Sum.inr (Sum.inr (Sum.inr (Sum.inr (fun j => some (h12 j))))))), (h8, Sum.inl (cAlong, 5, Sum.inr (Sum.inr (Sum.inr (Sum.inr (fun j => some (h13 j))))))), (h9, Sum.inl (cint, 5, Sum.inl f9)), (h10, Sum.inl (cint, 5, Sum.inl f10)), (h11, Sum.inl (cint, 40, Sum.inl f11))]) [0, 11, 1, 2, 3, 4, 5, 6, 7, 8, 9, 10] rfl
      have hD9 := hD.part (cx := [(h0, Sum.inr (2, [Value.ref h2, Value.ref h3, Value.ref h4, Value.int n0_size, Value.ref h5, Value.int n0_names, Value.int y_2, Value.ref h6, Value.ref h7, Value.ref h8, Value.ref h9, Value.ref h10, Value.int 0])), (h1, Sum.inr (9, [Value.ref h11, Value.ref h14, Value.ref h15, Value.int n1_size])), (h2, Sum.inl (cint, 10, Sum.inl f2)), (h3, Sum.inl (cint, 10, Sum.inl f3)), (h4, Sum.inl (cint, 10, Sum.inl f4)), (h5, Sum.inl (cint, 8, Sum.inl f5)), (h6, Sum.inl (cint, 40, Sum.inl f6)), (h7, Sum.inl (cAlong, 25, Sum.inr (Sum.inr (Sum.inr (Sum.inr (fun j => some (h12 j))))))), (h8, Sum.inl (cAlong, 5, Sum.inr (Sum.inr (Sum.inr (Sum.inr (fun j => some (h13 j))))))), (h9, Sum.inl (cint, 5, Sum.inl f9)), (h10, Sum.inl (cint, 5, Sum.inl f10)), (h11, Sum.inl (cint, 40, Sum.inl f11))]) [0, 11, 1, 2, 3, 4, 5, 6, 7, 8, 9, 10] (by decide) rfl
      have hK9 := hK.sub (tys' := []) [] rfl
      exact W.iret (v := 0) hx hb hr (fun t ht hW => ⟨⟨0, (), rfl, trivial, y_2, 0, f6, f9, f10, F12, F13, (by show 0 ≤ (y_2 : Int32).toInt ∧ (y_2 : Int32).toInt ≤ 40; first | decide | (constructor <;> (omega))), by rw [ht]; exact hP9, va_K.moved hW.alike hK9, hD9⟩, hS.F ht⟩) hS.2.2 dX2_putTogether_35
set_option maxHeartbeats 4000000 in
set_option maxRecDepth 100000 in
theorem g_X2_foundPlot_0 (l : Launch) (dC : Nat → ClassId) (dI : Nat → Nat → Nat) (h0 : Nat) (h1 : Nat) (h2 : Nat) (h3 : Nat) (h4 : Nat) (h5 : Nat) (h6 : Nat) (h7 : Nat) (h8 : Nat) (h9 : Nat) (cint : ClassId) (sz : Nat) (p0 : Int32) (n0_size : Int32) (n0_names : Int32) (n0_plots : Int32) (n0_ways : Int32) (f1 : Nat → Int32) (f2 : Nat → Int32) (tn0_size : 0 ≤ n0_size.toInt ∧ n0_size.toInt ≤ 10) (tn0_names : 0 ≤ n0_names.toInt ∧ n0_names.toInt ≤ 8) (tn0_plots : 0 ≤ n0_plots.toInt ∧ n0_plots.toInt ≤ 40) : Met l yX2_foundPlot wsX2_foundPlot ({ frames := 2, cells := 0, slots := 0, locals := 42 }) (va_Pc [.ref h0, .int p0] (fun U => U.heap.size = sz ∧ va_P (dC, dI) vwCl [(h0, Sum.inr (2, [Value.ref h3, Value.ref h4, Value.ref h5, Value.int n0_size, Value.ref h1, Value.int n0_names, Value.int n0_plots, Value.ref h6, Value.ref h7, Value.ref h8, Value.ref h9, Value.ref h2, Value.int n0_ways])), (h1, Sum.inl (cint, 8, Sum.inl f1)), (h2, Sum.inl (cint, 5, Sum.inl f2))] U.heap ∧ va_K (dC, dI) vwCl [(cint, .int)] U ∧ va_D (fun _ => True) [(h0, Sum.inr (2, [Value.ref h3, Value.ref h4, Value.ref h5, Value.int n0_size, Value.ref h1, Value.int n0_names, Value.int n0_plots, Value.ref h6, Value.ref h7, Value.ref h8, Value.ref h9, Value.ref h2, Value.int n0_ways])), (h1, Sum.inl (cint, 8, Sum.inl f1)), (h2, Sum.inl (cint, 5, Sum.inl f2))])) (va_Qi (fun (r : Int32) (_ : Unit) => True) (fun (_ : Unit) t => va_P (dC, dI) vwCl [(h0, Sum.inr (2, [Value.ref h3, Value.ref h4, Value.ref h5, Value.int n0_size, Value.ref h1, Value.int n0_names, Value.int n0_plots, Value.ref h6, Value.ref h7, Value.ref h8, Value.ref h9, Value.ref h2, Value.int n0_ways])), (h1, Sum.inl (cint, 8, Sum.inl f1)), (h2, Sum.inl (cint, 5, Sum.inl f2))] t.heap ∧ va_K (dC, dI) vwCl [] t ∧ va_D (va_A [(h0, Sum.inr (2, [Value.ref h3, Value.ref h4, Value.ref h5, Value.int n0_size, Value.ref h1, Value.int n0_names, Value.int n0_plots, Value.ref h6, Value.ref h7, Value.ref h8, Value.ref h9, Value.ref h2, Value.int n0_ways])), (h1, Sum.inl (cint, 8, Sum.inl f1)), (h2, Sum.inl (cint, 5, Sum.inl f2))] sz) [(h0, Sum.inr (2, [Value.ref h3, Value.ref h4, Value.ref h5, Value.int n0_size, Value.ref h1, Value.int n0_names, Value.int n0_plots, Value.ref h6, Value.ref h7, Value.ref h8, Value.ref h9, Value.ref h2, Value.int n0_ways])), (h1, Sum.inl (cint, 8, Sum.inl f1)), (h2, Sum.inl (cint, 5, Sum.inl f2))]) (va_A [(h0, Sum.inr (2, [Value.ref h3, Value.ref h4, Value.ref h5, Value.int n0_size, Value.ref h1, Value.int n0_names, Value.int n0_plots, Value.ref h6, Value.ref h7, Value.ref h8, Value.ref h9, Value.ref h2, Value.int n0_ways])), (h1, Sum.inl (cint, 8, Sum.inl f1)), (h2, Sum.inl (cint, 5, Sum.inl f2))] sz)) 0 0 (va_A [(h0, Sum.inr (2, [Value.ref h3, Value.ref h4, Value.ref h5, Value.int n0_size, Value.ref h1, Value.int n0_names, Value.int n0_plots, Value.ref h6, Value.ref h7, Value.ref h8, Value.ref h9, Value.ref h2, Value.int n0_ways])), (h1, Sum.inl (cint, 8, Sum.inl f1)), (h2, Sum.inl (cint, 5, Sum.inl f2))] sz) := by
  refine Met.ofW (cc := cX2_foundPlot) (maxL := 2) (ret := (some .int)) (by decide) rfl ?_
  intro p e s m args below meth c s₁ B hml hv
  obtain ⟨rfl, hsz, hP, hK, hD0⟩ := hv
  have hx := B.exec
  have hb := B.bytes
  have hr := B.returns
  have hts := atoms_spec (ws := wsX2_foundPlot) B.pre
  have hown : s.vm.findClass RX2 = some m.cls := findClass_of_methodNamed B.named
  have hlocks := B.notSynchronized
  subst hsz
  have hD := hD0.self (sz := s.heap.size)
  generalize hAe : va_A [(h0, Sum.inr (2, [Value.ref h3, Value.ref h4, Value.ref h5, Value.int n0_size, Value.ref h1, Value.int n0_names, Value.int n0_plots, Value.ref h6, Value.ref h7, Value.ref h8, Value.ref h9, Value.ref h2, Value.int n0_ways])), (h1, Sum.inl (cint, 8, Sum.inl f1)), (h2, Sum.inl (cint, 5, Sum.inl f2))] s.heap.size = A at hD ⊢
  have hA : ∀ q : Nat, s.heap.size ≤ q → A q := fun q h => by rw [← hAe]; exact Or.inr h
  have hS : va_S A s.heap s.heap [] := va_S.rf
  have hP : va_P (dC, dI) vwCl [(h0, Sum.inr (2, [Value.ref h3, Value.ref h4, Value.ref h5, Value.int n0_size, Value.ref h1, Value.int n0_names, Value.int n0_plots, Value.ref h6, Value.ref h7, Value.ref h8, Value.ref h9, Value.ref h2, Value.int n0_ways])), (h1, Sum.inl (cint, 8, Sum.inl f1)), (h2, Sum.inl (cint, 5, Sum.inl f2))] s.heap := hP
  have hl := lv_entry ([.ref h0, .int p0]) (n := 2) (Nat.le_of_ble_eq_true rfl)
  rw [lg_entry_eq]
  generalize (lg_sl ([.ref h0, .int p0]) ++ List.replicate (2 - (lg_sl ([.ref h0, .int p0])).length) Slot.unset).toArray = ls at hl ⊢
  have hl : lv_has ls 2 [(0, .ref h0), (1, .int p0)] := hl
  refine lv_aload_n hx hb dX2_foundPlot_0 rfl (lv_at hl 0 rfl) ?_
  refine va_get (D := (dC, dI)) (ci := 2) (v := .ref h2) (C := RX2) (T := TX2) (N := 13) hx hb hts (fun _ h => List.mem_cons_of_mem _ (List.mem_append_right _ h)) hown hK hP 0 rfl rfl 11 (by decide) (hts (.fieldLink RX2 38 "KinkStreet$Deeds" "found" "[I") (List.mem_of_getElem? (i := 1) rfl)) (fun _ h9 => h9) rfl dX2_foundPlot_1 ?_
  refine lv_aload_n hx hb dX2_foundPlot_4 rfl (lv_at hl 0 rfl) ?_
  refine lv_iload_n hx hb dX2_foundPlot_5 rfl (lv_at hl 1 rfl) ?_
  obtain ⟨hPc, hDc, hFc⟩ := kk_cutout (wc := [(h0, Sum.inr (2, [Value.ref h3, Value.ref h4, Value.ref h5, Value.int n0_size, Value.ref h1, Value.int n0_names, Value.int n0_plots, Value.ref h6, Value.ref h7, Value.ref h8, Value.ref h9, Value.ref h2, Value.int n0_ways])), (h1, Sum.inl (cint, 8, Sum.inl f1))]) hP hD hS hA [0, 1] (by decide) rfl
  have hKc := hK.sub (tys' := [(cint, .int)]) [0] rfl
  refine va_calli (va_runV (As := [.int p0]) (rest := [.ref h2]) ⟨hx, hb, hml, hown, hts⟩ (g_X2_seat_0 l dC dI h0 h1 h3 h4 h5 h6 h7 h8 h9 h2 cint s.heap.size p0 n0_size n0_names n0_plots n0_ways f1 tn0_size tn0_names tn0_plots) (cwV 1 hts gX2_foundPlot_X2_seat rfl rfl rfl (by decide +kernel) ⟨Nat.le_of_ble_eq_true rfl, Nat.le_of_ble_eq_true rfl⟩) ⟨fun a U g mk q => by obtain ⟨q0, q1, qP, qK, qD⟩ := q; exact ⟨q0, q1, qP, va_K.moved (u := U) (U := U.calling g mk a) (Vm.Alike.refl U.vm) qK, qD⟩, va_recv hKc hPc (ci := 2) (q0 := 0) rfl rfl, fun U hU hW => ⟨rfl, by rw [hU], by rw [hU]; exact hPc, va_K.moved hW.alike hKc, hDc.weaken (fun _ _ _ _ => trivial)⟩⟩ rfl rfl hl.1 rfl (lv_room (Nat.le_of_ble_eq_true rfl)) dX2_foundPlot_6 ⟨Nat.le_of_ble_eq_true rfl, Nat.le_of_ble_eq_true rfl⟩) hS (fun q _ h => hFc q h) hFc (fun r_1 u t H1 locs ht hvm hw hB hz1 hk1 hS => ?_)
  obtain ⟨hP1, hK1, hD1⟩ := hB
  rw [ht] at hP1
  have hK1 := va_K.moved hvm.symm hK1
  obtain ⟨hP, hD⟩ := va_join (wr := [(h2, Sum.inl (cint, 5, Sum.inl f2))]) (w1 := [(h0, Sum.inr (2, [Value.ref h3, Value.ref h4, Value.ref h5, Value.int n0_size, Value.ref h1, Value.int n0_names, Value.int n0_plots, Value.ref h6, Value.ref h7, Value.ref h8, Value.ref h9, Value.ref h2, Value.int n0_ways])), (h1, Sum.inl (cint, 8, Sum.inl f1))]) hP hD [0, 1] [2] rfl rfl (by decide) (by decide) hk1 hFc hP1 hD1
  generalize H1 = H at hP hS ⊢
  have hP : va_P (dC, dI) vwCl [(h2, Sum.inl (cint, 5, Sum.inl f2)), (h0, Sum.inr (2, [Value.ref h3, Value.ref h4, Value.ref h5, Value.int n0_size, Value.ref h1, Value.int n0_names, Value.int n0_plots, Value.ref h6, Value.ref h7, Value.ref h8, Value.ref h9, Value.ref h2, Value.int n0_ways])), (h1, Sum.inl (cint, 8, Sum.inl f1))] H := hP
  have hD : va_D A [(h2, Sum.inl (cint, 5, Sum.inl f2)), (h0, Sum.inr (2, [Value.ref h3, Value.ref h4, Value.ref h5, Value.int n0_size, Value.ref h1, Value.int n0_names, Value.int n0_plots, Value.ref h6, Value.ref h7, Value.ref h8, Value.ref h9, Value.ref h2, Value.int n0_ways])), (h1, Sum.inl (cint, 8, Sum.inl f1))] := hD
  have t_1 : 0 ≤ r_1.toInt ∧ r_1.toInt ≤ 4 := hw
  have hi_2 : vp_in r_1 5 := (vp_in_iff.mpr ⟨by omega, by omega⟩)
  refine va_iald hx hb hK hP 0 0 rfl rfl hi_2 dX2_foundPlot_9 ?_
  refine lv_topi (fun y_2 e_2 => ?_)
  clear e_2
  obtain ⟨hP9, hD9⟩ := kk_leafout (wc := [(h0, Sum.inr (2, [Value.ref h3, Value.ref h4, Value.ref h5, Value.int n0_size, Value.ref h1, Value.int n0_names, Value.int n0_plots, Value.ref h6, Value.ref h7, Value.ref h8, Value.ref h9, Value.ref h2, Value.int n0_ways])), (h1, Sum.inl (cint, 8, Sum.inl f1)), (h2, Sum.inl (cint, 5, Sum.inl f2))]) hP hD [1, 2, 0] (by decide) rfl
  have hK9 := hK.sub (tys' := []) [] rfl
  exact W.iret (v := y_2) hx hb hr (fun t ht hW => ⟨⟨y_2, (), rfl, trivial, by rw [ht]; exact hP9, va_K.moved hW.alike hK9, hD9⟩, hS.F ht⟩) hS.2.2 dX2_foundPlot_10
set_option maxHeartbeats 4000000 in
set_option maxRecDepth 100000 in
theorem g_X6_sortIn_0 (l : Launch) (dC : Nat → ClassId) (dI : Nat → Nat → Nat) (h0 : Nat) (h1 : Nat) (h2 : Nat) (h3 : Nat) (h4 : Nat) (cint : ClassId) (sz : Nat) (p0 : Int32) (p1 : Int32) (tp1 : 0 ≤ p1.toInt ∧ p1.toInt ≤ 39) (n0_pieceCount : Int32) (f1 : Nat → Int32) (tn0_pieceCount : 0 ≤ n0_pieceCount.toInt ∧ n0_pieceCount.toInt ≤ 5) : Met l yX6_sortIn wsX6_sortIn ({ frames := 1, cells := 0, slots := 0, locals := 21 }) (va_Pc [.ref h0, .int p0, .int p1] (fun U => U.heap.size = sz ∧ va_P (dC, dI) vwCl [(h0, Sum.inr (6, [Value.ref h2, Value.ref h3, Value.ref h1, Value.ref h4, Value.int n0_pieceCount])), (h1, Sum.inl (cint, 40, Sum.inl f1))] U.heap ∧ va_K (dC, dI) vwCl [(cint, .int)] U ∧ va_D (fun _ => True) [(h0, Sum.inr (6, [Value.ref h2, Value.ref h3, Value.ref h1, Value.ref h4, Value.int n0_pieceCount])), (h1, Sum.inl (cint, 40, Sum.inl f1))])) (va_Qv (fun (_ : Unit) => True) (fun (_ : Unit) t => ∃ (g1 : Nat → Int32), va_P (dC, dI) vwCl [(h0, Sum.inr (6, [Value.ref h2, Value.ref h3, Value.ref h1, Value.ref h4, Value.int n0_pieceCount])), (h1, Sum.inl (cint, 40, Sum.inl g1))] t.heap ∧ va_K (dC, dI) vwCl [] t ∧ va_D (va_A [(h0, Sum.inr (6, [Value.ref h2, Value.ref h3, Value.ref h1, Value.ref h4, Value.int n0_pieceCount])), (h1, Sum.inl (cint, 40, Sum.inl f1))] sz) [(h0, Sum.inr (6, [Value.ref h2, Value.ref h3, Value.ref h1, Value.ref h4, Value.int n0_pieceCount])), (h1, Sum.inl (cint, 40, Sum.inl g1))]) (va_A [(h0, Sum.inr (6, [Value.ref h2, Value.ref h3, Value.ref h1, Value.ref h4, Value.int n0_pieceCount])), (h1, Sum.inl (cint, 40, Sum.inl f1))] sz)) 0 0 (va_A [(h0, Sum.inr (6, [Value.ref h2, Value.ref h3, Value.ref h1, Value.ref h4, Value.int n0_pieceCount])), (h1, Sum.inl (cint, 40, Sum.inl f1))] sz) := by
  refine Met.ofW (cc := cX6_sortIn) (maxL := 4) (ret := none) (by decide) rfl ?_
  intro p e s m args below meth c s₁ B hml hv
  obtain ⟨rfl, hsz, hP, hK, hD0⟩ := hv
  have hx := B.exec
  have hb := B.bytes
  have hr := B.returns
  have hts := atoms_spec (ws := wsX6_sortIn) B.pre
  have hown : s.vm.findClass RX6 = some m.cls := findClass_of_methodNamed B.named
  have hlocks := B.notSynchronized
  subst hsz
  have hD := hD0.self (sz := s.heap.size)
  generalize hAe : va_A [(h0, Sum.inr (6, [Value.ref h2, Value.ref h3, Value.ref h1, Value.ref h4, Value.int n0_pieceCount])), (h1, Sum.inl (cint, 40, Sum.inl f1))] s.heap.size = A at hD ⊢
  have hA : ∀ q : Nat, s.heap.size ≤ q → A q := fun q h => by rw [← hAe]; exact Or.inr h
  have hS : va_S A s.heap s.heap [] := va_S.rf
  have hP : va_P (dC, dI) vwCl [(h0, Sum.inr (6, [Value.ref h2, Value.ref h3, Value.ref h1, Value.ref h4, Value.int n0_pieceCount])), (h1, Sum.inl (cint, 40, Sum.inl f1))] s.heap := hP
  have hl := lv_entry ([.ref h0, .int p0, .int p1]) (n := 4) (Nat.le_of_ble_eq_true rfl)
  rw [lg_entry_eq]
  generalize (lg_sl ([.ref h0, .int p0, .int p1]) ++ List.replicate (4 - (lg_sl ([.ref h0, .int p0, .int p1])).length) Slot.unset).toArray = ls at hl ⊢
  have hl : lv_has ls 4 [(0, .ref h0), (1, .int p0), (2, .int p1)] := hl
  refine lv_iload_n hx hb dX6_sortIn_0 rfl (lv_at hl 2 rfl) ?_
  refine lv_aload_n hx hb dX6_sortIn_1 rfl (lv_at hl 0 rfl) ?_
  refine va_get (D := (dC, dI)) (ci := 6) (v := .ref h1) (C := RX6) (T := TX6) (N := 5) hx hb hts (fun _ h => List.mem_cons_of_mem _ (List.mem_append_right _ h)) hown hK hP 0 rfl rfl 2 (by decide) (hts (.fieldLink RX6 19 "KinkStreet$Pieces" "sorted" "[I") (List.mem_of_getElem? (i := 1) rfl)) (fun _ h9 => h9) rfl dX6_sortIn_2 ?_
  refine va_alen (v := 40) hx hb hK hP 1 0 rfl rfl rfl dX6_sortIn_5 ?_
  refine lv_iconst (v := 1) hx hb dX6_sortIn_6 (by decide) ?_
  refine lv_isub hx hb dX6_sortIn_7 ?_
  refine lv_topi (fun y_1 e_1 => ?_)
  obtain rfl : y_1 = 39 := e_1.trans (by decide)
  refine va_mmin hx hb (hml.trans hl.1.symm) hown (hts (.methodLink RX6 63 Lib.Math.min.name) (List.mem_of_getElem? (i := 2) rfl)) (hts (.static Lib.Math.min.name) (List.mem_of_getElem? (i := 3) rfl)) (hts (.initialized "java/lang/Math") (List.mem_of_getElem? (i := 4) rfl)) (hts (.code Lib.Math.min.name Lib.Math.min.code 2 (some .int)) (List.mem_of_getElem? (i := 5) rfl)) (Nat.le_of_ble_eq_true rfl) (Nat.le_of_ble_eq_true rfl) (Nat.le_of_ble_eq_true rfl) (Nat.le_of_ble_eq_true rfl) dX6_sortIn_8 ?_
  refine lv_topi (fun y_2 e_2 => ?_)
  have t_2 : y_2.toInt ≤ p1.toInt ∧ y_2.toInt ≤ 39 ∧ (y_2.toInt = p1.toInt ∨ y_2.toInt = 39) := by rw [e_2]; exact kk_min _ _
  clear e_2
  refine lv_istore_n (lv' := [(3, .int y_2), (0, .ref h0), (1, .int p0), (2, .int p1)]) hx hb dX6_sortIn_11 rfl hl (by decide) rfl (fun ls hl => ?_)
  refine kk_loop (σ := Int32 × (Nat → Int32)) (fun x H locs ls => (0 ≤ x.1.toInt ∧ x.1.toInt ≤ 39) ∧ x.1.toInt ≤ y_2.toInt ∧ va_P (dC, dI) vwCl [(h0, Sum.inr (6, [Value.ref h2, Value.ref h3, Value.ref h1, Value.ref h4, Value.int n0_pieceCount])), (h1, Sum.inl (cint, 40, Sum.inl x.2))] H ∧ va_D A [(h0, Sum.inr (6, [Value.ref h2, Value.ref h3, Value.ref h1, Value.ref h4, Value.int n0_pieceCount])), (h1, Sum.inl (cint, 40, Sum.inl x.2))] ∧ va_S A s.heap H locs ∧ lv_has ls 4 [(3, .int x.1), (0, .ref h0), (1, .int p0), (2, .int p1)]) (fun x => (x.1.toInt - (0 : Int)).toNat) ?_ (y_2, f1) _ _ _ ⟨(by show 0 ≤ (y_2 : Int32).toInt ∧ (y_2 : Int32).toInt ≤ 39; first | decide | (constructor <;> (omega))), (by show (y_2 : Int32).toInt ≤ (y_2 : Int32).toInt; first | decide | (omega)), hP, hD, hS, hl⟩
  rintro ⟨i_3_0, f_3_1⟩ H locs ls ⟨t_3_0, z_3_0, hP, hD, hS, hl⟩ ih_3
  have t_3_0 : (0 ≤ i_3_0.toInt ∧ i_3_0.toInt ≤ 39) := t_3_0
  have z_3_0 : i_3_0.toInt ≤ y_2.toInt := z_3_0
  have hl : lv_has ls 4 [(3, .int i_3_0), (0, .ref h0), (1, .int p0), (2, .int p1)] := hl
  have hP : va_P (dC, dI) vwCl [(h0, Sum.inr (6, [Value.ref h2, Value.ref h3, Value.ref h1, Value.ref h4, Value.int n0_pieceCount])), (h1, Sum.inl (cint, 40, Sum.inl f_3_1))] H := hP
  have hD : va_D A [(h0, Sum.inr (6, [Value.ref h2, Value.ref h3, Value.ref h1, Value.ref h4, Value.int n0_pieceCount])), (h1, Sum.inl (cint, 40, Sum.inl f_3_1))] := hD
  refine lv_iload_n hx hb dX6_sortIn_12 rfl (lv_at hl 0 rfl) ?_
  refine lv_if_le (tgt := 48) hx hb dX6_sortIn_13 (by decide) (fun c_4 => ?_) (fun c_4 => ?_)
  · have t_4 : i_3_0.toInt ≤ 0 := kk_le c_4
    refine lv_aload_n hx hb dX6_sortIn_48 rfl (lv_at hl 1 rfl) ?_
    refine va_get (D := (dC, dI)) (ci := 6) (v := .ref h1) (C := RX6) (T := TX6) (N := 5) hx hb hts (fun _ h => List.mem_cons_of_mem _ (List.mem_append_right _ h)) hown hK hP 0 rfl rfl 2 (by decide) (hts (.fieldLink RX6 19 "KinkStreet$Pieces" "sorted" "[I") (List.mem_of_getElem? (i := 1) rfl)) (fun _ h9 => h9) rfl dX6_sortIn_49 ?_
    refine lv_iload_n hx hb dX6_sortIn_52 rfl (lv_at hl 0 rfl) ?_
    refine lv_iload_n hx hb dX6_sortIn_53 rfl (lv_at hl 2 rfl) ?_
    refine va_iast hx hb hK hP hD hS 1 0 rfl rfl (vp_in_iff.mpr ⟨by omega, by omega⟩) dX6_sortIn_54 (fun H locs hP hD hS => ?_)
    generalize upd f_3_1 (i_3_0 : Int32).toNatClampNeg p0 = f_5 at hP hD
    have hP : va_P (dC, dI) vwCl [(h0, Sum.inr (6, [Value.ref h2, Value.ref h3, Value.ref h1, Value.ref h4, Value.int n0_pieceCount])), (h1, Sum.inl (cint, 40, Sum.inl f_5))] H := hP
    have hD : va_D A [(h0, Sum.inr (6, [Value.ref h2, Value.ref h3, Value.ref h1, Value.ref h4, Value.int n0_pieceCount])), (h1, Sum.inl (cint, 40, Sum.inl f_5))] := hD
    obtain ⟨hP9, hD9⟩ := kk_leafout (wc := [(h0, Sum.inr (6, [Value.ref h2, Value.ref h3, Value.ref h1, Value.ref h4, Value.int n0_pieceCount])), (h1, Sum.inl (cint, 40, Sum.inl f_5))]) hP hD [0, 1] (by decide) rfl
    have hK9 := hK.sub (tys' := []) [] rfl
    exact W.vret hx hb hr (fun t ht hW => ⟨⟨(), rfl, trivial, f_5, by rw [ht]; exact hP9, va_K.moved hW.alike hK9, hD9⟩, hS.F ht⟩) hS.2.2 dX6_sortIn_55
  · have t_4 : 0 < i_3_0.toInt := kk_nle c_4
    refine lv_aload_n hx hb dX6_sortIn_16 rfl (lv_at hl 1 rfl) ?_
    refine va_get (D := (dC, dI)) (ci := 6) (v := .ref h1) (C := RX6) (T := TX6) (N := 5) hx hb hts (fun _ h => List.mem_cons_of_mem _ (List.mem_append_right _ h)) hown hK hP 0 rfl rfl 2 (by decide) (hts (.fieldLink RX6 19 "KinkStreet$Pieces" "sorted" "[I") (List.mem_of_getElem? (i := 1) rfl)) (fun _ h9 => h9) rfl dX6_sortIn_17 ?_
    refine lv_iload_n hx hb dX6_sortIn_20 rfl (lv_at hl 0 rfl) ?_
    refine lv_iconst (v := 1) hx hb dX6_sortIn_21 (by decide) ?_
    refine lv_isub hx hb dX6_sortIn_22 ?_
    have hi_6 : vp_in (i_3_0 - 1) 40 := (vp_in_iff.mpr ⟨by have := kk_sub2 (x := i_3_0) (y := 1) (a := i_3_0.toInt) (b := 1) rfl rfl (by omega) (by omega); omega, by have := kk_sub2 (x := i_3_0) (y := 1) (a := i_3_0.toInt) (b := 1) rfl rfl (by omega) (by omega); omega⟩)
    refine va_iald hx hb hK hP 1 0 rfl rfl hi_6 dX6_sortIn_23 ?_
    refine lv_topi (fun y_6 e_6 => ?_)
    clear e_6
    refine lv_iload_n hx hb dX6_sortIn_24 rfl (lv_at hl 2 rfl) ?_
    refine lv_icmp_le (tgt := 48) hx hb dX6_sortIn_25 (by decide) (fun c_7 => ?_) (fun c_7 => ?_)
    · have t_7 : y_6.toInt ≤ p0.toInt := kk_le c_7
      refine lv_aload_n hx hb dX6_sortIn_48 rfl (lv_at hl 1 rfl) ?_
      refine va_get (D := (dC, dI)) (ci := 6) (v := .ref h1) (C := RX6) (T := TX6) (N := 5) hx hb hts (fun _ h => List.mem_cons_of_mem _ (List.mem_append_right _ h)) hown hK hP 0 rfl rfl 2 (by decide) (hts (.fieldLink RX6 19 "KinkStreet$Pieces" "sorted" "[I") (List.mem_of_getElem? (i := 1) rfl)) (fun _ h9 => h9) rfl dX6_sortIn_49 ?_
      refine lv_iload_n hx hb dX6_sortIn_52 rfl (lv_at hl 0 rfl) ?_
      refine lv_iload_n hx hb dX6_sortIn_53 rfl (lv_at hl 2 rfl) ?_
      refine va_iast hx hb hK hP hD hS 1 0 rfl rfl (vp_in_iff.mpr ⟨by have := kk_rng y_6; have := kk_rng p0; have := kk_sub2 (x := i_3_0) (y := 1) (a := i_3_0.toInt) (b := 1) rfl rfl (by omega) (by omega); omega, by have := kk_rng y_6; have := kk_rng p0; have := kk_sub2 (x := i_3_0) (y := 1) (a := i_3_0.toInt) (b := 1) rfl rfl (by omega) (by omega); omega⟩) dX6_sortIn_54 (fun H locs hP hD hS => ?_)
      generalize upd f_3_1 (i_3_0 : Int32).toNatClampNeg p0 = f_8 at hP hD
      have hP : va_P (dC, dI) vwCl [(h0, Sum.inr (6, [Value.ref h2, Value.ref h3, Value.ref h1, Value.ref h4, Value.int n0_pieceCount])), (h1, Sum.inl (cint, 40, Sum.inl f_8))] H := hP
      have hD : va_D A [(h0, Sum.inr (6, [Value.ref h2, Value.ref h3, Value.ref h1, Value.ref h4, Value.int n0_pieceCount])), (h1, Sum.inl (cint, 40, Sum.inl f_8))] := hD
      obtain ⟨hP9, hD9⟩ := kk_leafout (wc := [(h0, Sum.inr (6, [Value.ref h2, Value.ref h3, Value.ref h1, Value.ref h4, Value.int n0_pieceCount])), (h1, Sum.inl (cint, 40, Sum.inl f_8))]) hP hD [0, 1] (by decide) rfl
      have hK9 := hK.sub (tys' := []) [] rfl
      exact W.vret hx hb hr (fun t ht hW => ⟨⟨(), rfl, trivial, f_8, by rw [ht]; exact hP9, va_K.moved hW.alike hK9, hD9⟩, hS.F ht⟩) hS.2.2 dX6_sortIn_55
    · have t_7 : p0.toInt < y_6.toInt := kk_nle c_7
      refine lv_aload_n hx hb dX6_sortIn_28 rfl (lv_at hl 1 rfl) ?_
      refine va_get (D := (dC, dI)) (ci := 6) (v := .ref h1) (C := RX6) (T := TX6) (N := 5) hx hb hts (fun _ h => List.mem_cons_of_mem _ (List.mem_append_right _ h)) hown hK hP 0 rfl rfl 2 (by decide) (hts (.fieldLink RX6 19 "KinkStreet$Pieces" "sorted" "[I") (List.mem_of_getElem? (i := 1) rfl)) (fun _ h9 => h9) rfl dX6_sortIn_29 ?_
      refine lv_iload_n hx hb dX6_sortIn_32 rfl (lv_at hl 0 rfl) ?_
      refine lv_aload_n hx hb dX6_sortIn_33 rfl (lv_at hl 1 rfl) ?_
      refine va_get (D := (dC, dI)) (ci := 6) (v := .ref h1) (C := RX6) (T := TX6) (N := 5) hx hb hts (fun _ h => List.mem_cons_of_mem _ (List.mem_append_right _ h)) hown hK hP 0 rfl rfl 2 (by decide) (hts (.fieldLink RX6 19 "KinkStreet$Pieces" "sorted" "[I") (List.mem_of_getElem? (i := 1) rfl)) (fun _ h9 => h9) rfl dX6_sortIn_34 ?_
      refine lv_iload_n hx hb dX6_sortIn_37 rfl (lv_at hl 0 rfl) ?_
      refine lv_iconst (v := 1) hx hb dX6_sortIn_38 (by decide) ?_
      refine lv_isub hx hb dX6_sortIn_39 ?_
      have hi_9 : vp_in (i_3_0 - 1) 40 := (vp_in_iff.mpr ⟨by have := kk_rng p0; have := kk_rng y_6; have := kk_sub2 (x := i_3_0) (y := 1) (a := i_3_0.toInt) (b := 1) rfl rfl (by omega) (by omega); omega, by have := kk_rng p0; have := kk_rng y_6; have := kk_sub2 (x := i_3_0) (y := 1) (a := i_3_0.toInt) (b := 1) rfl rfl (by omega) (by omega); omega⟩)
      refine va_iald hx hb hK hP 1 0 rfl rfl hi_9 dX6_sortIn_40 ?_
      refine lv_topi (fun y_9 e_9 => ?_)
      clear e_9
      refine va_iast hx hb hK hP hD hS 1 0 rfl rfl (vp_in_iff.mpr ⟨by have := kk_rng p0; have := kk_rng y_6; have := kk_sub2 (x := i_3_0) (y := 1) (a := i_3_0.toInt) (b := 1) rfl rfl (by omega) (by omega); omega, by have := kk_rng p0; have := kk_rng y_6; have := kk_sub2 (x := i_3_0) (y := 1) (a := i_3_0.toInt) (b := 1) rfl rfl (by omega) (by omega); omega⟩) dX6_sortIn_41 (fun H locs hP hD hS => ?_)
      generalize upd f_3_1 (i_3_0 : Int32).toNatClampNeg y_9 = f_10 at hP hD
      have hP : va_P (dC, dI) vwCl [(h0, Sum.inr (6, [Value.ref h2, Value.ref h3, Value.ref h1, Value.ref h4, Value.int n0_pieceCount])), (h1, Sum.inl (cint, 40, Sum.inl f_10))] H := hP
      have hD : va_D A [(h0, Sum.inr (6, [Value.ref h2, Value.ref h3, Value.ref h1, Value.ref h4, Value.int n0_pieceCount])), (h1, Sum.inl (cint, 40, Sum.inl f_10))] := hD
      refine lv_iinc (v := (i_3_0 + (-1))) (lv' := [(3, .int (i_3_0 + (-1))), (0, .ref h0), (1, .int p0), (2, .int p1)]) hx hb dX6_sortIn_42 hl (k := 0) rfl (by first | rfl | decide) (by decide) rfl (fun ls hl => ?_)
      refine lv_goto (tgt := 12) hx hb dX6_sortIn_45 (by decide) ?_
      exact ih_3 ((i_3_0 + (-1)), f_10) _ _ _ (by show (((i_3_0 + (-1))).toInt - (0 : Int)).toNat < (i_3_0.toInt - (0 : Int)).toNat; have := kk_rng p0; have := kk_rng y_6; have := kk_sub2 (x := i_3_0) (y := 1) (a := i_3_0.toInt) (b := 1) rfl rfl (by omega) (by omega); have := kk_add2 (x := i_3_0) (y := (-1)) (a := i_3_0.toInt) (b := (-1)) rfl rfl (by omega) (by omega); exact kk_mu (by omega) (by omega)) ⟨(by show 0 ≤ ((i_3_0 + (-1)) : Int32).toInt ∧ ((i_3_0 + (-1)) : Int32).toInt ≤ 39; first | decide | (constructor <;> (have := kk_rng p0; have := kk_rng y_6; have := kk_sub2 (x := i_3_0) (y := 1) (a := i_3_0.toInt) (b := 1) rfl rfl (by omega) (by omega); have := kk_add2 (x := i_3_0) (y := (-1)) (a := i_3_0.toInt) (b := (-1)) rfl rfl (by omega) (by omega); omega))), (by show ((i_3_0 + (-1)) : Int32).toInt ≤ (y_2 : Int32).toInt; first | decide | (have := kk_rng p0; have := kk_rng y_6; have := kk_sub2 (x := i_3_0) (y := 1) (a := i_3_0.toInt) (b := 1) rfl rfl (by omega) (by omega); have := kk_add2 (x := i_3_0) (y := (-1)) (a := i_3_0.toInt) (b := (-1)) rfl rfl (by omega) (by omega); omega)), hP, hD, hS, lv_sub hl [0, 1, 2, 3] rfl⟩
set_option maxHeartbeats 4000000 in
set_option maxRecDepth 100000 in
theorem g_X6_workOutSpreads_0 (l : Launch) (dC : Nat → ClassId) (dI : Nat → Nat → Nat) (h0 : Nat) (h1 : Nat) (h2 : Nat) (h3 : Nat) (h4 : Nat) (h5 : Nat) (h6 : Nat → Nat) (h7 : Nat → Nat) (h8 : Nat) (h9 : Nat) (h10 : Nat) (cAint cint : ClassId) (sz : Nat) (p1 : Int32) (p2 : Int32) (tp1 : 0 ≤ p1.toInt ∧ p1.toInt ≤ 39) (n0_pieceCount : Int32) (n1_size : Int32) (f4 : Nat → Int32) (f5 : Nat → Int32) (F6 : Nat → Nat → Int32) (F7 : Nat → Nat → Int32) (tn0_pieceCount : 0 ≤ n0_pieceCount.toInt ∧ n0_pieceCount.toInt ≤ 5) (tn1_size : 0 ≤ n1_size.toInt ∧ n1_size.toInt ≤ 40) : Met l yX6_workOutSpreads wsX6_workOutSpreads ({ frames := 2, cells := 0, slots := 0, locals := 44 }) (va_Pc [.ref h0, .ref h1, .int p1, .int p2] (fun U => U.heap.size = sz ∧ va_P (dC, dI) vwCl (([(h0, Sum.inr (6, [Value.ref h2, Value.ref h3, Value.ref h4, Value.ref h8, Value.int n0_pieceCount])), (h1, Sum.inr (9, [Value.ref h5, Value.ref h9, Value.ref h10, Value.int n1_size])), (h2, Sum.inl (cAint, 40, Sum.inr (Sum.inr (Sum.inr (Sum.inr (fun j => some (h6 j))))))), (h3, Sum.inl (cAint, 6, Sum.inr (Sum.inr (Sum.inr (Sum.inr (fun j => some (h7 j))))))), (h4, Sum.inl (cint, 40, Sum.inl f4)), (h5, Sum.inl (cint, 40, Sum.inl f5))] : va_W) ++ (kk_rowsI h6 cint 41 F6 40 ++ (kk_rowsI h7 cint 41 F7 6))) U.heap ∧ va_K (dC, dI) vwCl [(cAint, .array .int), (cint, .int)] U ∧ va_D (fun _ => True) (([(h0, Sum.inr (6, [Value.ref h2, Value.ref h3, Value.ref h4, Value.ref h8, Value.int n0_pieceCount])), (h1, Sum.inr (9, [Value.ref h5, Value.ref h9, Value.ref h10, Value.int n1_size])), (h2, Sum.inl (cAint, 40, Sum.inr (Sum.inr (Sum.inr (Sum.inr (fun j => some (h6 j))))))), (h3, Sum.inl (cAint, 6, Sum.inr (Sum.inr (Sum.inr (Sum.inr (fun j => some (h7 j))))))), (h4, Sum.inl (cint, 40, Sum.inl f4)), (h5, Sum.inl (cint, 40, Sum.inl f5))] : va_W) ++ (kk_rowsI h6 cint 41 F6 40 ++ (kk_rowsI h7 cint 41 F7 6))))) (va_Qv (fun (_ : Unit) => True) (fun (_ : Unit) t => ∃ (g4 : Nat → Int32) (g6 : Nat → Nat → Int32), va_P (dC, dI) vwCl (([(h0, Sum.inr (6, [Value.ref h2, Value.ref h3, Value.ref h4, Value.ref h8, Value.int n0_pieceCount])), (h1, Sum.inr (9, [Value.ref h5, Value.ref h9, Value.ref h10, Value.int n1_size])), (h2, Sum.inl (cAint, 40, Sum.inr (Sum.inr (Sum.inr (Sum.inr (fun j => some (h6 j))))))), (h3, Sum.inl (cAint, 6, Sum.inr (Sum.inr (Sum.inr (Sum.inr (fun j => some (h7 j))))))), (h4, Sum.inl (cint, 40, Sum.inl g4)), (h5, Sum.inl (cint, 40, Sum.inl f5))] : va_W) ++ (kk_rowsI h6 cint 41 g6 40 ++ (kk_rowsI h7 cint 41 F7 6))) t.heap ∧ va_K (dC, dI) vwCl [] t ∧ va_D (va_A (([(h0, Sum.inr (6, [Value.ref h2, Value.ref h3, Value.ref h4, Value.ref h8, Value.int n0_pieceCount])), (h1, Sum.inr (9, [Value.ref h5, Value.ref h9, Value.ref h10, Value.int n1_size])), (h2, Sum.inl (cAint, 40, Sum.inr (Sum.inr (Sum.inr (Sum.inr (fun j => some (h6 j))))))), (h3, Sum.inl (cAint, 6, Sum.inr (Sum.inr (Sum.inr (Sum.inr (fun j => some (h7 j))))))), (h4, Sum.inl (cint, 40, Sum.inl f4)), (h5, Sum.inl (cint, 40, Sum.inl f5))] : va_W) ++ (kk_rowsI h6 cint 41 F6 40 ++ (kk_rowsI h7 cint 41 F7 6))) sz) (([(h0, Sum.inr (6, [Value.ref h2, Value.ref h3, Value.ref h4, Value.ref h8, Value.int n0_pieceCount])), (h1, Sum.inr (9, [Value.ref h5, Value.ref h9, Value.ref h10, Value.int n1_size])), (h2, Sum.inl (cAint, 40, Sum.inr (Sum.inr (Sum.inr (Sum.inr (fun j => some (h6 j))))))), (h3, Sum.inl (cAint, 6, Sum.inr (Sum.inr (Sum.inr (Sum.inr (fun j => some (h7 j))))))), (h4, Sum.inl (cint, 40, Sum.inl g4)), (h5, Sum.inl (cint, 40, Sum.inl f5))] : va_W) ++ (kk_rowsI h6 cint 41 g6 40 ++ (kk_rowsI h7 cint 41 F7 6)))) (va_A (([(h0, Sum.inr (6, [Value.ref h2, Value.ref h3, Value.ref h4, Value.ref h8, Value.int n0_pieceCount])), (h1, Sum.inr (9, [Value.ref h5, Value.ref h9, Value.ref h10, Value.int n1_size])), (h2, Sum.inl (cAint, 40, Sum.inr (Sum.inr (Sum.inr (Sum.inr (fun j => some (h6 j))))))), (h3, Sum.inl (cAint, 6, Sum.inr (Sum.inr (Sum.inr (Sum.inr (fun j => some (h7 j))))))), (h4, Sum.inl (cint, 40, Sum.inl f4)), (h5, Sum.inl (cint, 40, Sum.inl f5))] : va_W) ++ (kk_rowsI h6 cint 41 F6 40 ++ (kk_rowsI h7 cint 41 F7 6))) sz)) 0 0 (va_A (([(h0, Sum.inr (6, [Value.ref h2, Value.ref h3, Value.ref h4, Value.ref h8, Value.int n0_pieceCount])), (h1, Sum.inr (9, [Value.ref h5, Value.ref h9, Value.ref h10, Value.int n1_size])), (h2, Sum.inl (cAint, 40, Sum.inr (Sum.inr (Sum.inr (Sum.inr (fun j => some (h6 j))))))), (h3, Sum.inl (cAint, 6, Sum.inr (Sum.inr (Sum.inr (Sum.inr (fun j => some (h7 j))))))), (h4, Sum.inl (cint, 40, Sum.inl f4)), (h5, Sum.inl (cint, 40, Sum.inl f5))] : va_W) ++ (kk_rowsI h6 cint 41 F6 40 ++ (kk_rowsI h7 cint 41 F7 6))) sz) := by
  refine Met.ofW (cc := cX6_workOutSpreads) (maxL := 9) (ret := none) (by decide) rfl ?_
  intro p e s m args below meth c s₁ B hml hv
  obtain ⟨rfl, hsz, hP, hK, hD0⟩ := hv
  have hx := B.exec
  have hb := B.bytes
  have hr := B.returns
  have hts := atoms_spec (ws := wsX6_workOutSpreads) B.pre
  have hown : s.vm.findClass RX6 = some m.cls := findClass_of_methodNamed B.named
  have hlocks := B.notSynchronized
  subst hsz
  have hD := hD0.self (sz := s.heap.size)
  generalize hAe : va_A (([(h0, Sum.inr (6, [Value.ref h2, Value.ref h3, Value.ref h4, Value.ref h8, Value.int n0_pieceCount])), (h1, Sum.inr (9, [Value.ref h5, Value.ref h9, Value.ref h10, Value.int n1_size])), (h2, Sum.inl (cAint, 40, Sum.inr (Sum.inr (Sum.inr (Sum.inr (fun j => some (h6 j))))))), (h3, Sum.inl (cAint, 6, Sum.inr (Sum.inr (Sum.inr (Sum.inr (fun j => some (h7 j))))))), (h4, Sum.inl (cint, 40, Sum.inl f4)), (h5, Sum.inl (cint, 40, Sum.inl f5))] : va_W) ++ (kk_rowsI h6 cint 41 F6 40 ++ (kk_rowsI h7 cint 41 F7 6))) s.heap.size = A at hD ⊢
  have hA : ∀ q : Nat, s.heap.size ≤ q → A q := fun q h => by rw [← hAe]; exact Or.inr h
  have hS : va_S A s.heap s.heap [] := va_S.rf
  have hP : va_P (dC, dI) vwCl (([(h0, Sum.inr (6, [Value.ref h2, Value.ref h3, Value.ref h4, Value.ref h8, Value.int n0_pieceCount])), (h1, Sum.inr (9, [Value.ref h5, Value.ref h9, Value.ref h10, Value.int n1_size])), (h2, Sum.inl (cAint, 40, Sum.inr (Sum.inr (Sum.inr (Sum.inr (fun j => some (h6 j))))))), (h3, Sum.inl (cAint, 6, Sum.inr (Sum.inr (Sum.inr (Sum.inr (fun j => some (h7 j))))))), (h4, Sum.inl (cint, 40, Sum.inl f4)), (h5, Sum.inl (cint, 40, Sum.inl f5))] : va_W) ++ (kk_rowsI h6 cint 41 F6 40 ++ (kk_rowsI h7 cint 41 F7 6))) s.heap := hP
  have hl := lv_entry ([.ref h0, .ref h1, .int p1, .int p2]) (n := 9) (Nat.le_of_ble_eq_true rfl)
  rw [lg_entry_eq]
  generalize (lg_sl ([.ref h0, .ref h1, .int p1, .int p2]) ++ List.replicate (9 - (lg_sl ([.ref h0, .ref h1, .int p1, .int p2])).length) Slot.unset).toArray = ls at hl ⊢
  have hl : lv_has ls 9 [(0, .ref h0), (1, .ref h1), (2, .int p1), (3, .int p2)] := hl
  refine lv_iload_n hx hb dX6_workOutSpreads_0 rfl (lv_at hl 2 rfl) ?_
  refine lv_iconst (v := 1) hx hb dX6_workOutSpreads_1 (by decide) ?_
  refine lv_iadd hx hb dX6_workOutSpreads_2 ?_
  refine lv_istore (lv' := [(4, .int (p1 + 1)), (0, .ref h0), (1, .ref h1), (2, .int p1), (3, .int p2)]) hx hb dX6_workOutSpreads_3 hl (by decide) rfl (fun ls hl => ?_)
  refine kk_loop (σ := Int32 × (Nat → Int32) × (Nat → Nat → Int32)) (fun x H locs ls => (1 ≤ x.1.toInt ∧ x.1.toInt ≤ 41) ∧ (p1 + 1).toInt ≤ x.1.toInt ∧ va_P (dC, dI) vwCl (([(h0, Sum.inr (6, [Value.ref h2, Value.ref h3, Value.ref h4, Value.ref h8, Value.int n0_pieceCount])), (h1, Sum.inr (9, [Value.ref h5, Value.ref h9, Value.ref h10, Value.int n1_size])), (h2, Sum.inl (cAint, 40, Sum.inr (Sum.inr (Sum.inr (Sum.inr (fun j => some (h6 j))))))), (h3, Sum.inl (cAint, 6, Sum.inr (Sum.inr (Sum.inr (Sum.inr (fun j => some (h7 j))))))), (h4, Sum.inl (cint, 40, Sum.inl x.2.1)), (h5, Sum.inl (cint, 40, Sum.inl f5))] : va_W) ++ (kk_rowsI h6 cint 41 x.2.2 40 ++ (kk_rowsI h7 cint 41 F7 6))) H ∧ va_D A (([(h0, Sum.inr (6, [Value.ref h2, Value.ref h3, Value.ref h4, Value.ref h8, Value.int n0_pieceCount])), (h1, Sum.inr (9, [Value.ref h5, Value.ref h9, Value.ref h10, Value.int n1_size])), (h2, Sum.inl (cAint, 40, Sum.inr (Sum.inr (Sum.inr (Sum.inr (fun j => some (h6 j))))))), (h3, Sum.inl (cAint, 6, Sum.inr (Sum.inr (Sum.inr (Sum.inr (fun j => some (h7 j))))))), (h4, Sum.inl (cint, 40, Sum.inl x.2.1)), (h5, Sum.inl (cint, 40, Sum.inl f5))] : va_W) ++ (kk_rowsI h6 cint 41 x.2.2 40 ++ (kk_rowsI h7 cint 41 F7 6))) ∧ va_S A s.heap H locs ∧ lv_has ls 9 [(4, .int x.1), (0, .ref h0), (1, .ref h1), (2, .int p1), (3, .int p2)]) (fun x => ((41 : Int) - x.1.toInt).toNat) ?_ ((p1 + 1), f4, F6) _ _ _ ⟨(by show 1 ≤ ((p1 + 1) : Int32).toInt ∧ ((p1 + 1) : Int32).toInt ≤ 41; first | decide | (constructor <;> (have := kk_add2 (x := p1) (y := 1) (a := p1.toInt) (b := 1) rfl rfl (by omega) (by omega); omega))), (by show ((p1 + 1) : Int32).toInt ≤ ((p1 + 1) : Int32).toInt; first | decide | (have := kk_add2 (x := p1) (y := 1) (a := p1.toInt) (b := 1) rfl rfl (by omega) (by omega); omega)), hP, hD, hS, hl⟩
  rintro ⟨i_1_0, f_1_1, f_1_2⟩ H locs ls ⟨t_1_0, z_1_0, hP, hD, hS, hl⟩ ih_1
  have t_1_0 : (1 ≤ i_1_0.toInt ∧ i_1_0.toInt ≤ 41) := t_1_0
  have z_1_0 : (p1 + 1).toInt ≤ i_1_0.toInt := z_1_0
  have hl : lv_has ls 9 [(4, .int i_1_0), (0, .ref h0), (1, .ref h1), (2, .int p1), (3, .int p2)] := hl
  have hP : va_P (dC, dI) vwCl (([(h0, Sum.inr (6, [Value.ref h2, Value.ref h3, Value.ref h4, Value.ref h8, Value.int n0_pieceCount])), (h1, Sum.inr (9, [Value.ref h5, Value.ref h9, Value.ref h10, Value.int n1_size])), (h2, Sum.inl (cAint, 40, Sum.inr (Sum.inr (Sum.inr (Sum.inr (fun j => some (h6 j))))))), (h3, Sum.inl (cAint, 6, Sum.inr (Sum.inr (Sum.inr (Sum.inr (fun j => some (h7 j))))))), (h4, Sum.inl (cint, 40, Sum.inl f_1_1)), (h5, Sum.inl (cint, 40, Sum.inl f5))] : va_W) ++ (kk_rowsI h6 cint 41 f_1_2 40 ++ (kk_rowsI h7 cint 41 F7 6))) H := hP
  have hD : va_D A (([(h0, Sum.inr (6, [Value.ref h2, Value.ref h3, Value.ref h4, Value.ref h8, Value.int n0_pieceCount])), (h1, Sum.inr (9, [Value.ref h5, Value.ref h9, Value.ref h10, Value.int n1_size])), (h2, Sum.inl (cAint, 40, Sum.inr (Sum.inr (Sum.inr (Sum.inr (fun j => some (h6 j))))))), (h3, Sum.inl (cAint, 6, Sum.inr (Sum.inr (Sum.inr (Sum.inr (fun j => some (h7 j))))))), (h4, Sum.inl (cint, 40, Sum.inl f_1_1)), (h5, Sum.inl (cint, 40, Sum.inl f5))] : va_W) ++ (kk_rowsI h6 cint 41 f_1_2 40 ++ (kk_rowsI h7 cint 41 F7 6))) := hD
  refine lv_iload hx hb dX6_workOutSpreads_5 (lv_at hl 0 rfl) ?_
  refine lv_aload_n hx hb dX6_workOutSpreads_7 rfl (lv_at hl 2 rfl) ?_
  obtain ⟨hPc, hDc, hFc⟩ := kk_cutout (wc := [(h1, Sum.inr (9, [Value.ref h5, Value.ref h9, Value.ref h10, Value.int n1_size]))]) hP hD hS hA [1] (by decide) rfl
  have hKc := hK.sub (tys' := []) [] rfl
  refine va_calli (va_runV (As := []) (rest := [.int i_1_0]) ⟨hx, hb, hml, hown, hts⟩ (g_X9_size_0 l dC dI h1 h5 h9 h10 H.size n1_size tn1_size) (cwV 0 hts gX6_workOutSpreads_X9_size rfl rfl rfl (by decide +kernel) ⟨Nat.le_of_ble_eq_true rfl, Nat.le_of_ble_eq_true rfl⟩) ⟨fun a U g mk q => by obtain ⟨q0, q1, qP, qK, qD⟩ := q; exact ⟨q0, q1, qP, va_K.moved (u := U) (U := U.calling g mk a) (Vm.Alike.refl U.vm) qK, qD⟩, va_recv hKc hPc (ci := 9) (q0 := 0) rfl rfl, fun U hU hW => ⟨rfl, by rw [hU], by rw [hU]; exact hPc, va_K.moved hW.alike hKc, hDc.weaken (fun _ _ _ _ => trivial)⟩⟩ rfl rfl hl.1 rfl (lv_room (Nat.le_of_ble_eq_true rfl)) dX6_workOutSpreads_8 ⟨Nat.le_of_ble_eq_true rfl, Nat.le_of_ble_eq_true rfl⟩) hS (fun q _ h => hFc q h) hFc (fun r_2 u t H1 locs ht hvm hw hB hz1 hk1 hS => ?_)
  obtain ⟨hP1, hK1, hD1⟩ := hB
  rw [ht] at hP1
  have hK1 := va_K.moved hvm.symm hK1
  obtain ⟨hP, hD⟩ := va_joinQ (cx := [(h1, Sum.inr (9, [Value.ref h5, Value.ref h9, Value.ref h10, Value.int n1_size]))]) (wr := [(h0, Sum.inr (6, [Value.ref h2, Value.ref h3, Value.ref h4, Value.ref h8, Value.int n0_pieceCount])), (h2, Sum.inl (cAint, 40, Sum.inr (Sum.inr (Sum.inr (Sum.inr (fun j => some (h6 j))))))), (h3, Sum.inl (cAint, 6, Sum.inr (Sum.inr (Sum.inr (Sum.inr (fun j => some (h7 j))))))), (h4, Sum.inl (cint, 40, Sum.inl f_1_1)), (h5, Sum.inl (cint, 40, Sum.inl f5))]) (w1 := [(h1, Sum.inr (9, [Value.ref h5, Value.ref h9, Value.ref h10, Value.int n1_size]))]) hP hD [1] [0, 2, 3, 4, 5] rfl rfl (by decide) (by decide) hk1 hFc hP1 hD1
  generalize H1 = H at hP hS ⊢
  have hP : va_P (dC, dI) vwCl (([(h0, Sum.inr (6, [Value.ref h2, Value.ref h3, Value.ref h4, Value.ref h8, Value.int n0_pieceCount])), (h2, Sum.inl (cAint, 40, Sum.inr (Sum.inr (Sum.inr (Sum.inr (fun j => some (h6 j))))))), (h3, Sum.inl (cAint, 6, Sum.inr (Sum.inr (Sum.inr (Sum.inr (fun j => some (h7 j))))))), (h4, Sum.inl (cint, 40, Sum.inl f_1_1)), (h5, Sum.inl (cint, 40, Sum.inl f5)), (h1, Sum.inr (9, [Value.ref h5, Value.ref h9, Value.ref h10, Value.int n1_size]))] : va_W) ++ (kk_rowsI h6 cint 41 f_1_2 40 ++ (kk_rowsI h7 cint 41 F7 6))) H := hP
  have hD : va_D A (([(h0, Sum.inr (6, [Value.ref h2, Value.ref h3, Value.ref h4, Value.ref h8, Value.int n0_pieceCount])), (h2, Sum.inl (cAint, 40, Sum.inr (Sum.inr (Sum.inr (Sum.inr (fun j => some (h6 j))))))), (h3, Sum.inl (cAint, 6, Sum.inr (Sum.inr (Sum.inr (Sum.inr (fun j => some (h7 j))))))), (h4, Sum.inl (cint, 40, Sum.inl f_1_1)), (h5, Sum.inl (cint, 40, Sum.inl f5)), (h1, Sum.inr (9, [Value.ref h5, Value.ref h9, Value.ref h10, Value.int n1_size]))] : va_W) ++ (kk_rowsI h6 cint 41 f_1_2 40 ++ (kk_rowsI h7 cint 41 F7 6))) := hD
  obtain rfl := hw
  refine lv_icmp_gt (tgt := 103) hx hb dX6_workOutSpreads_11 (by decide) (fun c_3 => ?_) (fun c_3 => ?_)
  · have t_3 : n1_size.toInt < i_1_0.toInt := kk_lt c_3
    have hP9 := hP.part (cx := [(h0, Sum.inr (6, [Value.ref h2, Value.ref h3, Value.ref h4, Value.ref h8, Value.int n0_pieceCount])), (h1, Sum.inr (9, [Value.ref h5, Value.ref h9, Value.ref h10, Value.int n1_size])), (h2, Sum.inl (cAint, 40, Sum.inr (Sum.inr (Sum.inr (Sum.inr (fun j => some (h6 j))))))), (h3, Sum.inl (cAint, 6, Sum.inr (Sum.inr (Sum.inr (Sum.inr (fun j => some (h7 j))))))), (h4, Sum.inl (cint, 40, Sum.inl f_1_1)), (h5, Sum.inl (cint, 40, Sum.inl f5))]) [0, 5, 1, 2, 3, 4] rfl
    have hD9 := hD.part (cx := [(h0, Sum.inr (6, [Value.ref h2, Value.ref h3, Value.ref h4, Value.ref h8, Value.int n0_pieceCount])), (h1, Sum.inr (9, [Value.ref h5, Value.ref h9, Value.ref h10, Value.int n1_size])), (h2, Sum.inl (cAint, 40, Sum.inr (Sum.inr (Sum.inr (Sum.inr (fun j => some (h6 j))))))), (h3, Sum.inl (cAint, 6, Sum.inr (Sum.inr (Sum.inr (Sum.inr (fun j => some (h7 j))))))), (h4, Sum.inl (cint, 40, Sum.inl f_1_1)), (h5, Sum.inl (cint, 40, Sum.inl f5))]) [0, 5, 1, 2, 3, 4] (by decide) rfl
    have hK9 := hK.sub (tys' := []) [] rfl
    exact W.vret hx hb hr (fun t ht hW => ⟨⟨(), rfl, trivial, f_1_1, f_1_2, by rw [ht]; exact hP9, va_K.moved hW.alike hK9, hD9⟩, hS.F ht⟩) hS.2.2 dX6_workOutSpreads_103
  · have t_3 : i_1_0.toInt ≤ n1_size.toInt := kk_nlt c_3
    refine lv_iload hx hb dX6_workOutSpreads_14 (lv_at hl 0 rfl) ?_
    refine lv_iload_n hx hb dX6_workOutSpreads_16 rfl (lv_at hl 3 rfl) ?_
    refine lv_isub hx hb dX6_workOutSpreads_17 ?_
    refine lv_istore (lv' := [(5, .int (i_1_0 - p1)), (4, .int i_1_0), (0, .ref h0), (1, .ref h1), (2, .int p1), (3, .int p2)]) hx hb dX6_workOutSpreads_18 hl (by decide) rfl (fun ls hl => ?_)
    refine lv_aload_n hx hb dX6_workOutSpreads_20 rfl (lv_at hl 2 rfl) ?_
    refine lv_aload_n hx hb dX6_workOutSpreads_21 rfl (lv_at hl 3 rfl) ?_
    refine lv_iload hx hb dX6_workOutSpreads_22 (lv_at hl 1 rfl) ?_
    refine lv_iconst (v := 1) hx hb dX6_workOutSpreads_24 (by decide) ?_
    refine lv_isub hx hb dX6_workOutSpreads_25 ?_
    obtain ⟨hPc, hDc, hFc⟩ := kk_cutout (wc := [(h1, Sum.inr (9, [Value.ref h5, Value.ref h9, Value.ref h10, Value.int n1_size])), (h5, Sum.inl (cint, 40, Sum.inl f5))]) hP hD hS hA [5, 4] (by decide) rfl
    have hKc := hK.sub (tys' := [(cint, .int)]) [1] rfl
    refine va_calli (va_runV (As := [.int (i_1_0 - 1)]) (rest := [.ref h0]) ⟨hx, hb, hml, hown, hts⟩ (g_X9_width_0 l dC dI h1 h5 h9 h10 cint H.size (i_1_0 - 1) n1_size f5 tn1_size) (cwV 1 hts gX6_workOutSpreads_X9_width rfl rfl rfl (by decide +kernel) ⟨Nat.le_of_ble_eq_true rfl, Nat.le_of_ble_eq_true rfl⟩) ⟨fun a U g mk q => by obtain ⟨q0, q1, qP, qK, qD⟩ := q; exact ⟨q0, q1, qP, va_K.moved (u := U) (U := U.calling g mk a) (Vm.Alike.refl U.vm) qK, qD⟩, va_recv hKc hPc (ci := 9) (q0 := 0) rfl rfl, fun U hU hW => ⟨rfl, by rw [hU], by rw [hU]; exact hPc, va_K.moved hW.alike hKc, hDc.weaken (fun _ _ _ _ => trivial)⟩⟩ rfl rfl hl.1 rfl (lv_room (Nat.le_of_ble_eq_true rfl)) dX6_workOutSpreads_26 ⟨Nat.le_of_ble_eq_true rfl, Nat.le_of_ble_eq_true rfl⟩) hS (fun q _ h => hFc q h) hFc (fun r_4 u t H1 locs ht hvm hw hB hz1 hk1 hS => ?_)
    obtain ⟨hP1, hK1, hD1⟩ := hB
    rw [ht] at hP1
    have hK1 := va_K.moved hvm.symm hK1
    obtain ⟨hP, hD⟩ := va_joinQ (cx := [(h1, Sum.inr (9, [Value.ref h5, Value.ref h9, Value.ref h10, Value.int n1_size])), (h5, Sum.inl (cint, 40, Sum.inl f5))]) (wr := [(h0, Sum.inr (6, [Value.ref h2, Value.ref h3, Value.ref h4, Value.ref h8, Value.int n0_pieceCount])), (h2, Sum.inl (cAint, 40, Sum.inr (Sum.inr (Sum.inr (Sum.inr (fun j => some (h6 j))))))), (h3, Sum.inl (cAint, 6, Sum.inr (Sum.inr (Sum.inr (Sum.inr (fun j => some (h7 j))))))), (h4, Sum.inl (cint, 40, Sum.inl f_1_1))]) (w1 := [(h1, Sum.inr (9, [Value.ref h5, Value.ref h9, Value.ref h10, Value.int n1_size])), (h5, Sum.inl (cint, 40, Sum.inl f5))]) hP hD [5, 4] [0, 1, 2, 3] rfl rfl (by decide) (by decide) hk1 hFc hP1 hD1
    generalize H1 = H at hP hS ⊢
    have hP : va_P (dC, dI) vwCl (([(h0, Sum.inr (6, [Value.ref h2, Value.ref h3, Value.ref h4, Value.ref h8, Value.int n0_pieceCount])), (h2, Sum.inl (cAint, 40, Sum.inr (Sum.inr (Sum.inr (Sum.inr (fun j => some (h6 j))))))), (h3, Sum.inl (cAint, 6, Sum.inr (Sum.inr (Sum.inr (Sum.inr (fun j => some (h7 j))))))), (h4, Sum.inl (cint, 40, Sum.inl f_1_1)), (h1, Sum.inr (9, [Value.ref h5, Value.ref h9, Value.ref h10, Value.int n1_size])), (h5, Sum.inl (cint, 40, Sum.inl f5))] : va_W) ++ (kk_rowsI h6 cint 41 f_1_2 40 ++ (kk_rowsI h7 cint 41 F7 6))) H := hP
    have hD : va_D A (([(h0, Sum.inr (6, [Value.ref h2, Value.ref h3, Value.ref h4, Value.ref h8, Value.int n0_pieceCount])), (h2, Sum.inl (cAint, 40, Sum.inr (Sum.inr (Sum.inr (Sum.inr (fun j => some (h6 j))))))), (h3, Sum.inl (cAint, 6, Sum.inr (Sum.inr (Sum.inr (Sum.inr (fun j => some (h7 j))))))), (h4, Sum.inl (cint, 40, Sum.inl f_1_1)), (h1, Sum.inr (9, [Value.ref h5, Value.ref h9, Value.ref h10, Value.int n1_size])), (h5, Sum.inl (cint, 40, Sum.inl f5))] : va_W) ++ (kk_rowsI h6 cint 41 f_1_2 40 ++ (kk_rowsI h7 cint 41 F7 6))) := hD
    refine lv_iload hx hb dX6_workOutSpreads_29 (lv_at hl 0 rfl) ?_
    refine lv_iconst (v := 1) hx hb dX6_workOutSpreads_31 (by decide) ?_
    refine lv_isub hx hb dX6_workOutSpreads_32 ?_
    obtain ⟨hPc, hDc, hFc⟩ := kk_cutout (wc := [(h0, Sum.inr (6, [Value.ref h2, Value.ref h3, Value.ref h4, Value.ref h8, Value.int n0_pieceCount])), (h4, Sum.inl (cint, 40, Sum.inl f_1_1))]) hP hD hS hA [0, 3] (by decide) rfl
    have hKc := hK.sub (tys' := [(cint, .int)]) [1] rfl
    refine va_callv (va_runV (As := [.int r_4, .int ((i_1_0 - p1) - 1)]) (rest := []) ⟨hx, hb, hml, hown, hts⟩ (g_X6_sortIn_0 l dC dI h0 h4 h2 h3 h8 cint H.size r_4 ((i_1_0 - p1) - 1) (by show 0 ≤ (((i_1_0 - p1) - 1) : Int32).toInt ∧ (((i_1_0 - p1) - 1) : Int32).toInt ≤ 39; first | decide | (constructor <;> (have := kk_add2 (x := p1) (y := 1) (a := p1.toInt) (b := 1) rfl rfl (by omega) (by omega); have := kk_sub2 (x := i_1_0) (y := p1) (a := i_1_0.toInt) (b := p1.toInt) rfl rfl (by omega) (by omega); have := kk_sub2 (x := i_1_0) (y := 1) (a := i_1_0.toInt) (b := 1) rfl rfl (by omega) (by omega); have := kk_sub2 (x := (i_1_0 - p1)) (y := 1) (a := (i_1_0 - p1).toInt) (b := 1) rfl rfl (by omega) (by omega); omega))) n0_pieceCount f_1_1 tn0_pieceCount) (cwV 2 hts gX6_workOutSpreads_X6_sortIn rfl rfl rfl (by decide +kernel) ⟨Nat.le_of_ble_eq_true rfl, Nat.le_of_ble_eq_true rfl⟩) ⟨fun a U g mk q => by obtain ⟨q0, q1, qP, qK, qD⟩ := q; exact ⟨q0, q1, qP, va_K.moved (u := U) (U := U.calling g mk a) (Vm.Alike.refl U.vm) qK, qD⟩, va_recv hKc hPc (ci := 6) (q0 := 0) rfl rfl, fun U hU hW => ⟨rfl, by rw [hU], by rw [hU]; exact hPc, va_K.moved hW.alike hKc, hDc.weaken (fun _ _ _ _ => trivial)⟩⟩ rfl rfl hl.1 rfl (lv_room (Nat.le_of_ble_eq_true rfl)) dX6_workOutSpreads_33 ⟨Nat.le_of_ble_eq_true rfl, Nat.le_of_ble_eq_true rfl⟩) hS (fun q _ h => hFc q h) hFc (fun u t H1 locs ht hvm hw hB hz1 hk1 hS => ?_)
    obtain ⟨f_6, hP1, hK1, hD1⟩ := hB
    rw [ht] at hP1
    have hK1 := va_K.moved hvm.symm hK1
    obtain ⟨hP, hD⟩ := va_joinQ (cx := [(h0, Sum.inr (6, [Value.ref h2, Value.ref h3, Value.ref h4, Value.ref h8, Value.int n0_pieceCount])), (h4, Sum.inl (cint, 40, Sum.inl f_1_1))]) (wr := [(h2, Sum.inl (cAint, 40, Sum.inr (Sum.inr (Sum.inr (Sum.inr (fun j => some (h6 j))))))), (h3, Sum.inl (cAint, 6, Sum.inr (Sum.inr (Sum.inr (Sum.inr (fun j => some (h7 j))))))), (h1, Sum.inr (9, [Value.ref h5, Value.ref h9, Value.ref h10, Value.int n1_size])), (h5, Sum.inl (cint, 40, Sum.inl f5))]) (w1 := [(h0, Sum.inr (6, [Value.ref h2, Value.ref h3, Value.ref h4, Value.ref h8, Value.int n0_pieceCount])), (h4, Sum.inl (cint, 40, Sum.inl f_6))]) hP hD [0, 3] [1, 2, 4, 5] rfl rfl (by decide) (by decide) hk1 hFc hP1 hD1
    generalize H1 = H at hP hS ⊢
    have hP : va_P (dC, dI) vwCl (([(h2, Sum.inl (cAint, 40, Sum.inr (Sum.inr (Sum.inr (Sum.inr (fun j => some (h6 j))))))), (h3, Sum.inl (cAint, 6, Sum.inr (Sum.inr (Sum.inr (Sum.inr (fun j => some (h7 j))))))), (h1, Sum.inr (9, [Value.ref h5, Value.ref h9, Value.ref h10, Value.int n1_size])), (h5, Sum.inl (cint, 40, Sum.inl f5)), (h0, Sum.inr (6, [Value.ref h2, Value.ref h3, Value.ref h4, Value.ref h8, Value.int n0_pieceCount])), (h4, Sum.inl (cint, 40, Sum.inl f_6))] : va_W) ++ (kk_rowsI h6 cint 41 f_1_2 40 ++ (kk_rowsI h7 cint 41 F7 6))) H := hP
    have hD : va_D A (([(h2, Sum.inl (cAint, 40, Sum.inr (Sum.inr (Sum.inr (Sum.inr (fun j => some (h6 j))))))), (h3, Sum.inl (cAint, 6, Sum.inr (Sum.inr (Sum.inr (Sum.inr (fun j => some (h7 j))))))), (h1, Sum.inr (9, [Value.ref h5, Value.ref h9, Value.ref h10, Value.int n1_size])), (h5, Sum.inl (cint, 40, Sum.inl f5)), (h0, Sum.inr (6, [Value.ref h2, Value.ref h3, Value.ref h4, Value.ref h8, Value.int n0_pieceCount])), (h4, Sum.inl (cint, 40, Sum.inl f_6))] : va_W) ++ (kk_rowsI h6 cint 41 f_1_2 40 ++ (kk_rowsI h7 cint 41 F7 6))) := hD
    refine lv_aload_n hx hb dX6_workOutSpreads_36 rfl (lv_at hl 2 rfl) ?_
    refine va_get (D := (dC, dI)) (ci := 6) (v := .ref h4) (C := RX6) (T := TX6) (N := 5) hx hb hts (fun _ h => List.mem_cons_of_mem _ (List.mem_append_left _ (List.mem_append_right _ h))) hown hK hP 4 rfl rfl 2 (by decide) (hts (.fieldLink RX6 19 "KinkStreet$Pieces" "sorted" "[I") (List.mem_of_getElem? (i := 1) rfl)) (fun _ h9 => h9) rfl dX6_workOutSpreads_37 ?_
    refine lv_iload hx hb dX6_workOutSpreads_40 (lv_at hl 0 rfl) ?_
    refine lv_iconst (v := 1) hx hb dX6_workOutSpreads_42 (by decide) ?_
    refine lv_isub hx hb dX6_workOutSpreads_43 ?_
    refine lv_iconst (v := 2) hx hb dX6_workOutSpreads_44 (by decide) ?_
    refine lv_idiv hx hb dX6_workOutSpreads_45 (by decide) ?_
    have hi_7 : vp_in (((i_1_0 - p1) - 1) / 2) 40 := (vp_in_iff.mpr ⟨by have := kk_add2 (x := p1) (y := 1) (a := p1.toInt) (b := 1) rfl rfl (by omega) (by omega); have := kk_sub2 (x := i_1_0) (y := p1) (a := i_1_0.toInt) (b := p1.toInt) rfl rfl (by omega) (by omega); have := kk_sub2 (x := i_1_0) (y := 1) (a := i_1_0.toInt) (b := 1) rfl rfl (by omega) (by omega); have := kk_sub2 (x := (i_1_0 - p1)) (y := 1) (a := (i_1_0 - p1).toInt) (b := 1) rfl rfl (by omega) (by omega); have := kk_divb (x := ((i_1_0 - p1) - 1)) (k := 2) (n := 2) rfl (by decide); omega, by have := kk_add2 (x := p1) (y := 1) (a := p1.toInt) (b := 1) rfl rfl (by omega) (by omega); have := kk_sub2 (x := i_1_0) (y := p1) (a := i_1_0.toInt) (b := p1.toInt) rfl rfl (by omega) (by omega); have := kk_sub2 (x := i_1_0) (y := 1) (a := i_1_0.toInt) (b := 1) rfl rfl (by omega) (by omega); have := kk_sub2 (x := (i_1_0 - p1)) (y := 1) (a := (i_1_0 - p1).toInt) (b := 1) rfl rfl (by omega) (by omega); have := kk_divb (x := ((i_1_0 - p1) - 1)) (k := 2) (n := 2) rfl (by decide); omega⟩)
    refine va_iald hx hb hK hP 5 1 rfl rfl hi_7 dX6_workOutSpreads_46 ?_
    refine lv_topi (fun y_7 e_7 => ?_)
    clear e_7
    refine lv_istore (lv' := [(6, .int y_7), (5, .int (i_1_0 - p1)), (4, .int i_1_0), (0, .ref h0), (1, .ref h1), (2, .int p1), (3, .int p2)]) hx hb dX6_workOutSpreads_47 hl (by decide) rfl (fun ls hl => ?_)
    refine lv_iload_n hx hb dX6_workOutSpreads_49 rfl (lv_at hl 6 rfl) ?_
    refine lv_istore (lv' := [(7, .int p2), (6, .int y_7), (5, .int (i_1_0 - p1)), (4, .int i_1_0), (0, .ref h0), (1, .ref h1), (2, .int p1), (3, .int p2)]) hx hb dX6_workOutSpreads_50 hl (by decide) rfl (fun ls hl => ?_)
    refine lv_iconst (v := 0) hx hb dX6_workOutSpreads_52 (by decide) ?_
    refine lv_istore (lv' := [(8, .int 0), (7, .int p2), (6, .int y_7), (5, .int (i_1_0 - p1)), (4, .int i_1_0), (0, .ref h0), (1, .ref h1), (2, .int p1), (3, .int p2)]) hx hb dX6_workOutSpreads_53 hl (by decide) rfl (fun ls hl => ?_)
    refine kk_loop (σ := Int32 × Int32) (fun x H locs ls => (0 ≤ x.1.toInt ∧ x.1.toInt ≤ 40) ∧ va_P (dC, dI) vwCl (([(h2, Sum.inl (cAint, 40, Sum.inr (Sum.inr (Sum.inr (Sum.inr (fun j => some (h6 j))))))), (h3, Sum.inl (cAint, 6, Sum.inr (Sum.inr (Sum.inr (Sum.inr (fun j => some (h7 j))))))), (h1, Sum.inr (9, [Value.ref h5, Value.ref h9, Value.ref h10, Value.int n1_size])), (h5, Sum.inl (cint, 40, Sum.inl f5)), (h0, Sum.inr (6, [Value.ref h2, Value.ref h3, Value.ref h4, Value.ref h8, Value.int n0_pieceCount])), (h4, Sum.inl (cint, 40, Sum.inl f_6))] : va_W) ++ (kk_rowsI h6 cint 41 f_1_2 40 ++ (kk_rowsI h7 cint 41 F7 6))) H ∧ va_D A (([(h2, Sum.inl (cAint, 40, Sum.inr (Sum.inr (Sum.inr (Sum.inr (fun j => some (h6 j))))))), (h3, Sum.inl (cAint, 6, Sum.inr (Sum.inr (Sum.inr (Sum.inr (fun j => some (h7 j))))))), (h1, Sum.inr (9, [Value.ref h5, Value.ref h9, Value.ref h10, Value.int n1_size])), (h5, Sum.inl (cint, 40, Sum.inl f5)), (h0, Sum.inr (6, [Value.ref h2, Value.ref h3, Value.ref h4, Value.ref h8, Value.int n0_pieceCount])), (h4, Sum.inl (cint, 40, Sum.inl f_6))] : va_W) ++ (kk_rowsI h6 cint 41 f_1_2 40 ++ (kk_rowsI h7 cint 41 F7 6))) ∧ va_S A s.heap H locs ∧ lv_has ls 9 [(8, .int x.1), (7, .int x.2), (6, .int y_7), (5, .int (i_1_0 - p1)), (4, .int i_1_0), (0, .ref h0), (1, .ref h1), (2, .int p1), (3, .int p2)]) (fun x => ((40 : Int) - x.1.toInt).toNat) ?_ (0, p2) _ _ _ ⟨(by show 0 ≤ (0 : Int32).toInt ∧ (0 : Int32).toInt ≤ 40; first | decide | (constructor <;> (have := kk_add2 (x := p1) (y := 1) (a := p1.toInt) (b := 1) rfl rfl (by omega) (by omega); have := kk_sub2 (x := i_1_0) (y := p1) (a := i_1_0.toInt) (b := p1.toInt) rfl rfl (by omega) (by omega); have := kk_sub2 (x := i_1_0) (y := 1) (a := i_1_0.toInt) (b := 1) rfl rfl (by omega) (by omega); have := kk_sub2 (x := (i_1_0 - p1)) (y := 1) (a := (i_1_0 - p1).toInt) (b := 1) rfl rfl (by omega) (by omega); have := kk_divb (x := ((i_1_0 - p1) - 1)) (k := 2) (n := 2) rfl (by decide); omega))), hP, hD, hS, hl⟩
    rintro ⟨i_8_0, i_8_1⟩ H locs ls ⟨t_8_0, hP, hD, hS, hl⟩ ih_8
    have t_8_0 : (0 ≤ i_8_0.toInt ∧ i_8_0.toInt ≤ 40) := t_8_0
    have hl : lv_has ls 9 [(8, .int i_8_0), (7, .int i_8_1), (6, .int y_7), (5, .int (i_1_0 - p1)), (4, .int i_1_0), (0, .ref h0), (1, .ref h1), (2, .int p1), (3, .int p2)] := hl
    have hP : va_P (dC, dI) vwCl (([(h2, Sum.inl (cAint, 40, Sum.inr (Sum.inr (Sum.inr (Sum.inr (fun j => some (h6 j))))))), (h3, Sum.inl (cAint, 6, Sum.inr (Sum.inr (Sum.inr (Sum.inr (fun j => some (h7 j))))))), (h1, Sum.inr (9, [Value.ref h5, Value.ref h9, Value.ref h10, Value.int n1_size])), (h5, Sum.inl (cint, 40, Sum.inl f5)), (h0, Sum.inr (6, [Value.ref h2, Value.ref h3, Value.ref h4, Value.ref h8, Value.int n0_pieceCount])), (h4, Sum.inl (cint, 40, Sum.inl f_6))] : va_W) ++ (kk_rowsI h6 cint 41 f_1_2 40 ++ (kk_rowsI h7 cint 41 F7 6))) H := hP
    have hD : va_D A (([(h2, Sum.inl (cAint, 40, Sum.inr (Sum.inr (Sum.inr (Sum.inr (fun j => some (h6 j))))))), (h3, Sum.inl (cAint, 6, Sum.inr (Sum.inr (Sum.inr (Sum.inr (fun j => some (h7 j))))))), (h1, Sum.inr (9, [Value.ref h5, Value.ref h9, Value.ref h10, Value.int n1_size])), (h5, Sum.inl (cint, 40, Sum.inl f5)), (h0, Sum.inr (6, [Value.ref h2, Value.ref h3, Value.ref h4, Value.ref h8, Value.int n0_pieceCount])), (h4, Sum.inl (cint, 40, Sum.inl f_6))] : va_W) ++ (kk_rowsI h6 cint 41 f_1_2 40 ++ (kk_rowsI h7 cint 41 F7 6))) := hD
    refine lv_iload hx hb dX6_workOutSpreads_55 (lv_at hl 0 rfl) ?_
    refine lv_iload hx hb dX6_workOutSpreads_57 (lv_at hl 3 rfl) ?_
    refine lv_icmp_ge (tgt := 86) hx hb dX6_workOutSpreads_59 (by decide) (fun c_9 => ?_) (fun c_9 => ?_)
    · have t_9 : (i_1_0 - p1).toInt ≤ i_8_0.toInt := kk_le c_9
      refine lv_aload_n hx hb dX6_workOutSpreads_86 rfl (lv_at hl 5 rfl) ?_
      refine va_get (D := (dC, dI)) (ci := 6) (v := .ref h2) (C := RX6) (T := TX6) (N := 5) hx hb hts (fun _ h => List.mem_cons_of_mem _ (List.mem_append_left _ (List.mem_append_right _ h))) hown hK hP 4 rfl rfl 0 (by decide) (hts (.fieldLink RX6 11 "KinkStreet$Pieces" "spreads" "[[I") (List.mem_of_getElem? (i := 6) rfl)) (fun _ h9 => h9) rfl dX6_workOutSpreads_87 ?_
      refine lv_iload_n hx hb dX6_workOutSpreads_90 rfl (lv_at hl 7 rfl) ?_
      have hi_10 : vp_in (p1 : Int32) 40 := (vp_in_iff.mpr ⟨by have := kk_add2 (x := p1) (y := 1) (a := p1.toInt) (b := 1) rfl rfl (by omega) (by omega); have := kk_sub2 (x := i_1_0) (y := p1) (a := i_1_0.toInt) (b := p1.toInt) rfl rfl (by omega) (by omega); have := kk_sub2 (x := i_1_0) (y := 1) (a := i_1_0.toInt) (b := 1) rfl rfl (by omega) (by omega); have := kk_sub2 (x := (i_1_0 - p1)) (y := 1) (a := (i_1_0 - p1).toInt) (b := 1) rfl rfl (by omega) (by omega); have := kk_divb (x := ((i_1_0 - p1) - 1)) (k := 2) (n := 2) rfl (by decide); omega, by have := kk_add2 (x := p1) (y := 1) (a := p1.toInt) (b := 1) rfl rfl (by omega) (by omega); have := kk_sub2 (x := i_1_0) (y := p1) (a := i_1_0.toInt) (b := p1.toInt) rfl rfl (by omega) (by omega); have := kk_sub2 (x := i_1_0) (y := 1) (a := i_1_0.toInt) (b := 1) rfl rfl (by omega) (by omega); have := kk_sub2 (x := (i_1_0 - p1)) (y := 1) (a := (i_1_0 - p1).toInt) (b := 1) rfl rfl (by omega) (by omega); have := kk_divb (x := ((i_1_0 - p1) - 1)) (k := 2) (n := 2) rfl (by decide); omega⟩)
      have hk_10 : (p1 : Int32).toNatClampNeg < 40 := Nat.not_le.mp fun q => hi_10 (Or.inr q)
      refine kk_aald hx hb hK hP 0 0 rfl rfl hi_10 dX6_workOutSpreads_91 ?_
      refine W.eq (g2 := F0 m 92 ls [.ref (h6 (p1 : Int32).toNatClampNeg)]) rfl ?_
      refine lv_iload hx hb dX6_workOutSpreads_92 (lv_at hl 4 rfl) ?_
      refine lv_iload hx hb dX6_workOutSpreads_94 (lv_at hl 1 rfl) ?_
      refine va_iast hx hb hK hP hD hS _ 1 (kk_getr (kk_getl (kk_rowI hk_10))) rfl (vp_in_iff.mpr ⟨by have := kk_add2 (x := p1) (y := 1) (a := p1.toInt) (b := 1) rfl rfl (by omega) (by omega); have := kk_sub2 (x := i_1_0) (y := p1) (a := i_1_0.toInt) (b := p1.toInt) rfl rfl (by omega) (by omega); have := kk_sub2 (x := i_1_0) (y := 1) (a := i_1_0.toInt) (b := 1) rfl rfl (by omega) (by omega); have := kk_sub2 (x := (i_1_0 - p1)) (y := 1) (a := (i_1_0 - p1).toInt) (b := 1) rfl rfl (by omega) (by omega); have := kk_divb (x := ((i_1_0 - p1) - 1)) (k := 2) (n := 2) rfl (by decide); omega, by have := kk_add2 (x := p1) (y := 1) (a := p1.toInt) (b := 1) rfl rfl (by omega) (by omega); have := kk_sub2 (x := i_1_0) (y := p1) (a := i_1_0.toInt) (b := p1.toInt) rfl rfl (by omega) (by omega); have := kk_sub2 (x := i_1_0) (y := 1) (a := i_1_0.toInt) (b := 1) rfl rfl (by omega) (by omega); have := kk_sub2 (x := (i_1_0 - p1)) (y := 1) (a := (i_1_0 - p1).toInt) (b := 1) rfl rfl (by omega) (by omega); have := kk_divb (x := ((i_1_0 - p1) - 1)) (k := 2) (n := 2) rfl (by decide); omega⟩) dX6_workOutSpreads_96 (fun H locs hP hD hS => ?_)
      rw [kk_setr, kk_setl (kk_rowI hk_10), kk_rowsI_set hk_10] at hP hD
      generalize kk_upF f_1_2 (p1 : Int32).toNatClampNeg (upd (f_1_2 (p1 : Int32).toNatClampNeg) (i_1_0 : Int32).toNatClampNeg i_8_1) = F_11 at hP hD
      have hP : va_P (dC, dI) vwCl (([(h2, Sum.inl (cAint, 40, Sum.inr (Sum.inr (Sum.inr (Sum.inr (fun j => some (h6 j))))))), (h3, Sum.inl (cAint, 6, Sum.inr (Sum.inr (Sum.inr (Sum.inr (fun j => some (h7 j))))))), (h1, Sum.inr (9, [Value.ref h5, Value.ref h9, Value.ref h10, Value.int n1_size])), (h5, Sum.inl (cint, 40, Sum.inl f5)), (h0, Sum.inr (6, [Value.ref h2, Value.ref h3, Value.ref h4, Value.ref h8, Value.int n0_pieceCount])), (h4, Sum.inl (cint, 40, Sum.inl f_6))] : va_W) ++ (kk_rowsI h6 cint 41 F_11 40 ++ (kk_rowsI h7 cint 41 F7 6))) H := hP
      have hD : va_D A (([(h2, Sum.inl (cAint, 40, Sum.inr (Sum.inr (Sum.inr (Sum.inr (fun j => some (h6 j))))))), (h3, Sum.inl (cAint, 6, Sum.inr (Sum.inr (Sum.inr (Sum.inr (fun j => some (h7 j))))))), (h1, Sum.inr (9, [Value.ref h5, Value.ref h9, Value.ref h10, Value.int n1_size])), (h5, Sum.inl (cint, 40, Sum.inl f5)), (h0, Sum.inr (6, [Value.ref h2, Value.ref h3, Value.ref h4, Value.ref h8, Value.int n0_pieceCount])), (h4, Sum.inl (cint, 40, Sum.inl f_6))] : va_W) ++ (kk_rowsI h6 cint 41 F_11 40 ++ (kk_rowsI h7 cint 41 F7 6))) := hD
      refine lv_iinc (v := (i_1_0 + 1)) (lv' := [(4, .int (i_1_0 + 1)), (8, .int i_8_0), (7, .int i_8_1), (6, .int y_7), (5, .int (i_1_0 - p1)), (0, .ref h0), (1, .ref h1), (2, .int p1), (3, .int p2)]) hx hb dX6_workOutSpreads_97 hl (k := 4) rfl (by first | rfl | decide) (by decide) rfl (fun ls hl => ?_)
      refine lv_goto (tgt := 5) hx hb dX6_workOutSpreads_100 (by decide) ?_
      exact ih_1 ((i_1_0 + 1), f_6, F_11) _ _ _ (by show ((41 : Int) - ((i_1_0 + 1)).toInt).toNat < ((41 : Int) - i_1_0.toInt).toNat; have := kk_add2 (x := p1) (y := 1) (a := p1.toInt) (b := 1) rfl rfl (by omega) (by omega); have := kk_sub2 (x := i_1_0) (y := p1) (a := i_1_0.toInt) (b := p1.toInt) rfl rfl (by omega) (by omega); have := kk_sub2 (x := i_1_0) (y := 1) (a := i_1_0.toInt) (b := 1) rfl rfl (by omega) (by omega); have := kk_sub2 (x := (i_1_0 - p1)) (y := 1) (a := (i_1_0 - p1).toInt) (b := 1) rfl rfl (by omega) (by omega); have := kk_divb (x := ((i_1_0 - p1) - 1)) (k := 2) (n := 2) rfl (by decide); have := kk_add2 (x := i_1_0) (y := 1) (a := i_1_0.toInt) (b := 1) rfl rfl (by omega) (by omega); exact kk_mu (by omega) (by omega)) ⟨(by show 1 ≤ ((i_1_0 + 1) : Int32).toInt ∧ ((i_1_0 + 1) : Int32).toInt ≤ 41; first | decide | (constructor <;> (have := kk_add2 (x := p1) (y := 1) (a := p1.toInt) (b := 1) rfl rfl (by omega) (by omega); have := kk_sub2 (x := i_1_0) (y := p1) (a := i_1_0.toInt) (b := p1.toInt) rfl rfl (by omega) (by omega); have := kk_sub2 (x := i_1_0) (y := 1) (a := i_1_0.toInt) (b := 1) rfl rfl (by omega) (by omega); have := kk_sub2 (x := (i_1_0 - p1)) (y := 1) (a := (i_1_0 - p1).toInt) (b := 1) rfl rfl (by omega) (by omega); have := kk_divb (x := ((i_1_0 - p1) - 1)) (k := 2) (n := 2) rfl (by decide); have := kk_add2 (x := i_1_0) (y := 1) (a := i_1_0.toInt) (b := 1) rfl rfl (by omega) (by omega); omega))), (by show ((p1 + 1) : Int32).toInt ≤ ((i_1_0 + 1) : Int32).toInt; first | decide | (have := kk_add2 (x := p1) (y := 1) (a := p1.toInt) (b := 1) rfl rfl (by omega) (by omega); have := kk_sub2 (x := i_1_0) (y := p1) (a := i_1_0.toInt) (b := p1.toInt) rfl rfl (by omega) (by omega); have := kk_sub2 (x := i_1_0) (y := 1) (a := i_1_0.toInt) (b := 1) rfl rfl (by omega) (by omega); have := kk_sub2 (x := (i_1_0 - p1)) (y := 1) (a := (i_1_0 - p1).toInt) (b := 1) rfl rfl (by omega) (by omega); have := kk_divb (x := ((i_1_0 - p1) - 1)) (k := 2) (n := 2) rfl (by decide); have := kk_add2 (x := i_1_0) (y := 1) (a := i_1_0.toInt) (b := 1) rfl rfl (by omega) (by omega); omega)), hP.part (cx := [(h0, Sum.inr (6, [Value.ref h2, Value.ref h3, Value.ref h4, Value.ref h8, Value.int n0_pieceCount])), (h1, Sum.inr (9, [Value.ref h5, Value.ref h9, Value.ref h10, Value.int n1_size])), (h2, Sum.inl (cAint, 40, Sum.inr (Sum.inr (Sum.inr (Sum.inr (fun j => some (h6 j))))))), (h3, Sum.inl (cAint, 6, Sum.inr (Sum.inr (Sum.inr (Sum.inr (fun j => some (h7 j))))))), (h4, Sum.inl (cint, 40, Sum.inl f_6)), (h5, Sum.inl (cint, 40, Sum.inl f5))]) [4, 2, 0, 1, 5, 3] rfl, hD.part (cx := [(h0, Sum.inr (6, [Value.ref h2, Value.ref h3, Value.ref h4, Value.ref h8, Value.int n0_pieceCount])), (h1, Sum.inr (9, [Value.ref h5, Value.ref h9, Value.ref h10, Value.int n1_size])), (h2, Sum.inl (cAint, 40, Sum.inr (Sum.inr (Sum.inr (Sum.inr (fun j => some (h6 j))))))), (h3, Sum.inl (cAint, 6, Sum.inr (Sum.inr (Sum.inr (Sum.inr (fun j => some (h7 j))))))), (h4, Sum.inl (cint, 40, Sum.inl f_6)), (h5, Sum.inl (cint, 40, Sum.inl f5))]) [4, 2, 0, 1, 5, 3] (by decide) rfl, hS, lv_sub hl [0, 5, 6, 7, 8] rfl⟩
    · have t_9 : i_8_0.toInt < (i_1_0 - p1).toInt := kk_nle c_9
      refine lv_iload hx hb dX6_workOutSpreads_62 (lv_at hl 1 rfl) ?_
      refine lv_aload_n hx hb dX6_workOutSpreads_64 rfl (lv_at hl 5 rfl) ?_
      refine va_get (D := (dC, dI)) (ci := 6) (v := .ref h4) (C := RX6) (T := TX6) (N := 5) hx hb hts (fun _ h => List.mem_cons_of_mem _ (List.mem_append_left _ (List.mem_append_right _ h))) hown hK hP 4 rfl rfl 2 (by decide) (hts (.fieldLink RX6 19 "KinkStreet$Pieces" "sorted" "[I") (List.mem_of_getElem? (i := 1) rfl)) (fun _ h9 => h9) rfl dX6_workOutSpreads_65 ?_
      refine lv_iload hx hb dX6_workOutSpreads_68 (lv_at hl 0 rfl) ?_
      have hi_12 : vp_in i_8_0 40 := (vp_in_iff.mpr ⟨by have := kk_add2 (x := p1) (y := 1) (a := p1.toInt) (b := 1) rfl rfl (by omega) (by omega); have := kk_sub2 (x := i_1_0) (y := p1) (a := i_1_0.toInt) (b := p1.toInt) rfl rfl (by omega) (by omega); have := kk_sub2 (x := i_1_0) (y := 1) (a := i_1_0.toInt) (b := 1) rfl rfl (by omega) (by omega); have := kk_sub2 (x := (i_1_0 - p1)) (y := 1) (a := (i_1_0 - p1).toInt) (b := 1) rfl rfl (by omega) (by omega); have := kk_div (x := ((i_1_0 - p1) - 1)) (k := 2) (n := 2) rfl (by decide) (by omega); omega, by have := kk_add2 (x := p1) (y := 1) (a := p1.toInt) (b := 1) rfl rfl (by omega) (by omega); have := kk_sub2 (x := i_1_0) (y := p1) (a := i_1_0.toInt) (b := p1.toInt) rfl rfl (by omega) (by omega); have := kk_sub2 (x := i_1_0) (y := 1) (a := i_1_0.toInt) (b := 1) rfl rfl (by omega) (by omega); have := kk_sub2 (x := (i_1_0 - p1)) (y := 1) (a := (i_1_0 - p1).toInt) (b := 1) rfl rfl (by omega) (by omega); have := kk_div (x := ((i_1_0 - p1) - 1)) (k := 2) (n := 2) rfl (by decide) (by omega); omega⟩)
      refine va_iald hx hb hK hP 5 1 rfl rfl hi_12 dX6_workOutSpreads_70 ?_
      refine lv_topi (fun y_12 e_12 => ?_)
      clear e_12
      refine lv_iload hx hb dX6_workOutSpreads_71 (lv_at hl 2 rfl) ?_
      refine lv_isub hx hb dX6_workOutSpreads_73 ?_
      refine va_mabs hx hb (hml.trans hl.1.symm) hown (hts (.methodLink RX6 58 Lib.Math.abs.name) (List.mem_of_getElem? (i := 2) rfl)) (hts (.static Lib.Math.abs.name) (List.mem_of_getElem? (i := 3) rfl)) (hts (.initialized "java/lang/Math") (List.mem_of_getElem? (i := 4) rfl)) (hts (.code Lib.Math.abs.name Lib.Math.abs.code 1 (some .int)) (List.mem_of_getElem? (i := 5) rfl)) (Nat.le_of_ble_eq_true rfl) (Nat.le_of_ble_eq_true rfl) (Nat.le_of_ble_eq_true rfl) (Nat.le_of_ble_eq_true rfl) dX6_workOutSpreads_74 ?_
      refine lv_topi (fun y_13 e_13 => ?_)
      clear e_13
      refine lv_iadd hx hb dX6_workOutSpreads_77 ?_
      refine lv_istore (lv' := [(7, .int (i_8_1 + y_13)), (8, .int i_8_0), (6, .int y_7), (5, .int (i_1_0 - p1)), (4, .int i_1_0), (0, .ref h0), (1, .ref h1), (2, .int p1), (3, .int p2)]) hx hb dX6_workOutSpreads_78 hl (by decide) rfl (fun ls hl => ?_)
      refine lv_iinc (v := (i_8_0 + 1)) (lv' := [(8, .int (i_8_0 + 1)), (7, .int (i_8_1 + y_13)), (6, .int y_7), (5, .int (i_1_0 - p1)), (4, .int i_1_0), (0, .ref h0), (1, .ref h1), (2, .int p1), (3, .int p2)]) hx hb dX6_workOutSpreads_80 hl (k := 1) rfl (by first | rfl | decide) (by decide) rfl (fun ls hl => ?_)
      refine lv_goto (tgt := 55) hx hb dX6_workOutSpreads_83 (by decide) ?_
      exact ih_8 ((i_8_0 + 1), (i_8_1 + y_13)) _ _ _ (by show ((40 : Int) - ((i_8_0 + 1)).toInt).toNat < ((40 : Int) - i_8_0.toInt).toNat; have := kk_add2 (x := p1) (y := 1) (a := p1.toInt) (b := 1) rfl rfl (by omega) (by omega); have := kk_sub2 (x := i_1_0) (y := p1) (a := i_1_0.toInt) (b := p1.toInt) rfl rfl (by omega) (by omega); have := kk_sub2 (x := i_1_0) (y := 1) (a := i_1_0.toInt) (b := 1) rfl rfl (by omega) (by omega); have := kk_sub2 (x := (i_1_0 - p1)) (y := 1) (a := (i_1_0 - p1).toInt) (b := 1) rfl rfl (by omega) (by omega); have := kk_div (x := ((i_1_0 - p1) - 1)) (k := 2) (n := 2) rfl (by decide) (by omega); have := kk_add2 (x := i_8_0) (y := 1) (a := i_8_0.toInt) (b := 1) rfl rfl (by omega) (by omega); exact kk_mu (by omega) (by omega)) ⟨(by show 0 ≤ ((i_8_0 + 1) : Int32).toInt ∧ ((i_8_0 + 1) : Int32).toInt ≤ 40; first | decide | (constructor <;> (have := kk_add2 (x := p1) (y := 1) (a := p1.toInt) (b := 1) rfl rfl (by omega) (by omega); have := kk_sub2 (x := i_1_0) (y := p1) (a := i_1_0.toInt) (b := p1.toInt) rfl rfl (by omega) (by omega); have := kk_sub2 (x := i_1_0) (y := 1) (a := i_1_0.toInt) (b := 1) rfl rfl (by omega) (by omega); have := kk_sub2 (x := (i_1_0 - p1)) (y := 1) (a := (i_1_0 - p1).toInt) (b := 1) rfl rfl (by omega) (by omega); have := kk_div (x := ((i_1_0 - p1) - 1)) (k := 2) (n := 2) rfl (by decide) (by omega); have := kk_add2 (x := i_8_0) (y := 1) (a := i_8_0.toInt) (b := 1) rfl rfl (by omega) (by omega); omega))), hP, hD, hS, lv_sub hl [0, 1, 2, 3, 4, 5, 6, 7, 8] rfl⟩
set_option maxHeartbeats 4000000 in
set_option maxRecDepth 100000 in
theorem g_X6_workOutSums_0 (l : Launch) (dC : Nat → ClassId) (dI : Nat → Nat → Nat) (h0 : Nat) (h1 : Nat) (h2 : Nat) (h3 : Nat → Nat) (h4 : Nat → Nat) (h5 : Nat) (h6 : Nat) (cAint cint : ClassId) (sz : Nat) (p0 : Int32) (p1 : Int32) (tp0 : 0 ≤ p0.toInt ∧ p0.toInt ≤ 40) (tp1 : 1 ≤ p1.toInt ∧ p1.toInt ≤ 5) (n0_pieceCount : Int32) (F3 : Nat → Nat → Int32) (F4 : Nat → Nat → Int32) (tn0_pieceCount : 0 ≤ n0_pieceCount.toInt ∧ n0_pieceCount.toInt ≤ 5) : Met l yX6_workOutSums wsX6_workOutSums ({ frames := 1, cells := 0, slots := 0, locals := 21 }) (va_Pc [.ref h0, .int p0, .int p1] (fun U => U.heap.size = sz ∧ va_P (dC, dI) vwCl (([(h0, Sum.inr (6, [Value.ref h1, Value.ref h2, Value.ref h5, Value.ref h6, Value.int n0_pieceCount])), (h1, Sum.inl (cAint, 40, Sum.inr (Sum.inr (Sum.inr (Sum.inr (fun j => some (h3 j))))))), (h2, Sum.inl (cAint, 6, Sum.inr (Sum.inr (Sum.inr (Sum.inr (fun j => some (h4 j)))))))] : va_W) ++ (kk_rowsI h3 cint 41 F3 40 ++ (kk_rowsI h4 cint 41 F4 6))) U.heap ∧ va_K (dC, dI) vwCl [(cAint, .array .int), (cint, .int)] U ∧ va_D (fun _ => True) (([(h0, Sum.inr (6, [Value.ref h1, Value.ref h2, Value.ref h5, Value.ref h6, Value.int n0_pieceCount])), (h1, Sum.inl (cAint, 40, Sum.inr (Sum.inr (Sum.inr (Sum.inr (fun j => some (h3 j))))))), (h2, Sum.inl (cAint, 6, Sum.inr (Sum.inr (Sum.inr (Sum.inr (fun j => some (h4 j)))))))] : va_W) ++ (kk_rowsI h3 cint 41 F3 40 ++ (kk_rowsI h4 cint 41 F4 6))))) (va_Qv (fun (_ : Unit) => True) (fun (_ : Unit) t => ∃ (g4 : Nat → Nat → Int32), va_P (dC, dI) vwCl (([(h0, Sum.inr (6, [Value.ref h1, Value.ref h2, Value.ref h5, Value.ref h6, Value.int n0_pieceCount])), (h1, Sum.inl (cAint, 40, Sum.inr (Sum.inr (Sum.inr (Sum.inr (fun j => some (h3 j))))))), (h2, Sum.inl (cAint, 6, Sum.inr (Sum.inr (Sum.inr (Sum.inr (fun j => some (h4 j)))))))] : va_W) ++ (kk_rowsI h3 cint 41 F3 40 ++ (kk_rowsI h4 cint 41 g4 6))) t.heap ∧ va_K (dC, dI) vwCl [] t ∧ va_D (va_A (([(h0, Sum.inr (6, [Value.ref h1, Value.ref h2, Value.ref h5, Value.ref h6, Value.int n0_pieceCount])), (h1, Sum.inl (cAint, 40, Sum.inr (Sum.inr (Sum.inr (Sum.inr (fun j => some (h3 j))))))), (h2, Sum.inl (cAint, 6, Sum.inr (Sum.inr (Sum.inr (Sum.inr (fun j => some (h4 j)))))))] : va_W) ++ (kk_rowsI h3 cint 41 F3 40 ++ (kk_rowsI h4 cint 41 F4 6))) sz) (([(h0, Sum.inr (6, [Value.ref h1, Value.ref h2, Value.ref h5, Value.ref h6, Value.int n0_pieceCount])), (h1, Sum.inl (cAint, 40, Sum.inr (Sum.inr (Sum.inr (Sum.inr (fun j => some (h3 j))))))), (h2, Sum.inl (cAint, 6, Sum.inr (Sum.inr (Sum.inr (Sum.inr (fun j => some (h4 j)))))))] : va_W) ++ (kk_rowsI h3 cint 41 F3 40 ++ (kk_rowsI h4 cint 41 g4 6)))) (va_A (([(h0, Sum.inr (6, [Value.ref h1, Value.ref h2, Value.ref h5, Value.ref h6, Value.int n0_pieceCount])), (h1, Sum.inl (cAint, 40, Sum.inr (Sum.inr (Sum.inr (Sum.inr (fun j => some (h3 j))))))), (h2, Sum.inl (cAint, 6, Sum.inr (Sum.inr (Sum.inr (Sum.inr (fun j => some (h4 j)))))))] : va_W) ++ (kk_rowsI h3 cint 41 F3 40 ++ (kk_rowsI h4 cint 41 F4 6))) sz)) 0 0 (va_A (([(h0, Sum.inr (6, [Value.ref h1, Value.ref h2, Value.ref h5, Value.ref h6, Value.int n0_pieceCount])), (h1, Sum.inl (cAint, 40, Sum.inr (Sum.inr (Sum.inr (Sum.inr (fun j => some (h3 j))))))), (h2, Sum.inl (cAint, 6, Sum.inr (Sum.inr (Sum.inr (Sum.inr (fun j => some (h4 j)))))))] : va_W) ++ (kk_rowsI h3 cint 41 F3 40 ++ (kk_rowsI h4 cint 41 F4 6))) sz) := by
  refine Met.ofW (cc := cX6_workOutSums) (maxL := 6) (ret := none) (by decide) rfl ?_
  intro p e s m args below meth c s₁ B hml hv
  obtain ⟨rfl, hsz, hP, hK, hD0⟩ := hv
  have hx := B.exec
  have hb := B.bytes
  have hr := B.returns
  have hts := atoms_spec (ws := wsX6_workOutSums) B.pre
  have hown : s.vm.findClass RX6 = some m.cls := findClass_of_methodNamed B.named
  have hlocks := B.notSynchronized
  subst hsz
  have hD := hD0.self (sz := s.heap.size)
  generalize hAe : va_A (([(h0, Sum.inr (6, [Value.ref h1, Value.ref h2, Value.ref h5, Value.ref h6, Value.int n0_pieceCount])), (h1, Sum.inl (cAint, 40, Sum.inr (Sum.inr (Sum.inr (Sum.inr (fun j => some (h3 j))))))), (h2, Sum.inl (cAint, 6, Sum.inr (Sum.inr (Sum.inr (Sum.inr (fun j => some (h4 j)))))))] : va_W) ++ (kk_rowsI h3 cint 41 F3 40 ++ (kk_rowsI h4 cint 41 F4 6))) s.heap.size = A at hD ⊢
  have hA : ∀ q : Nat, s.heap.size ≤ q → A q := fun q h => by rw [← hAe]; exact Or.inr h
  have hS : va_S A s.heap s.heap [] := va_S.rf
  have hP : va_P (dC, dI) vwCl (([(h0, Sum.inr (6, [Value.ref h1, Value.ref h2, Value.ref h5, Value.ref h6, Value.int n0_pieceCount])), (h1, Sum.inl (cAint, 40, Sum.inr (Sum.inr (Sum.inr (Sum.inr (fun j => some (h3 j))))))), (h2, Sum.inl (cAint, 6, Sum.inr (Sum.inr (Sum.inr (Sum.inr (fun j => some (h4 j)))))))] : va_W) ++ (kk_rowsI h3 cint 41 F3 40 ++ (kk_rowsI h4 cint 41 F4 6))) s.heap := hP
  have hl := lv_entry ([.ref h0, .int p0, .int p1]) (n := 6) (Nat.le_of_ble_eq_true rfl)
  rw [lg_entry_eq]
  generalize (lg_sl ([.ref h0, .int p0, .int p1]) ++ List.replicate (6 - (lg_sl ([.ref h0, .int p0, .int p1])).length) Slot.unset).toArray = ls at hl ⊢
  have hl : lv_has ls 6 [(0, .ref h0), (1, .int p0), (2, .int p1)] := hl
  refine lv_iconst (v := 0) hx hb dX6_workOutSums_0 (by decide) ?_
  refine lv_istore_n (lv' := [(3, .int 0), (0, .ref h0), (1, .int p0), (2, .int p1)]) hx hb dX6_workOutSums_1 rfl hl (by decide) rfl (fun ls hl => ?_)
  refine kk_loop (σ := Int32 × (Nat → Nat → Int32)) (fun x H locs ls => (0 ≤ x.1.toInt ∧ x.1.toInt ≤ 41) ∧ va_P (dC, dI) vwCl (([(h0, Sum.inr (6, [Value.ref h1, Value.ref h2, Value.ref h5, Value.ref h6, Value.int n0_pieceCount])), (h1, Sum.inl (cAint, 40, Sum.inr (Sum.inr (Sum.inr (Sum.inr (fun j => some (h3 j))))))), (h2, Sum.inl (cAint, 6, Sum.inr (Sum.inr (Sum.inr (Sum.inr (fun j => some (h4 j)))))))] : va_W) ++ (kk_rowsI h3 cint 41 F3 40 ++ (kk_rowsI h4 cint 41 x.2 6))) H ∧ va_D A (([(h0, Sum.inr (6, [Value.ref h1, Value.ref h2, Value.ref h5, Value.ref h6, Value.int n0_pieceCount])), (h1, Sum.inl (cAint, 40, Sum.inr (Sum.inr (Sum.inr (Sum.inr (fun j => some (h3 j))))))), (h2, Sum.inl (cAint, 6, Sum.inr (Sum.inr (Sum.inr (Sum.inr (fun j => some (h4 j)))))))] : va_W) ++ (kk_rowsI h3 cint 41 F3 40 ++ (kk_rowsI h4 cint 41 x.2 6))) ∧ va_S A s.heap H locs ∧ lv_has ls 6 [(3, .int x.1), (0, .ref h0), (1, .int p0), (2, .int p1)]) (fun x => ((41 : Int) - x.1.toInt).toNat) ?_ (0, F4) _ _ _ ⟨(by show 0 ≤ (0 : Int32).toInt ∧ (0 : Int32).toInt ≤ 41; first | decide | (constructor <;> (omega))), hP, hD, hS, hl⟩
  rintro ⟨i_1_0, f_1_1⟩ H locs ls ⟨t_1_0, hP, hD, hS, hl⟩ ih_1
  have t_1_0 : (0 ≤ i_1_0.toInt ∧ i_1_0.toInt ≤ 41) := t_1_0
  have hl : lv_has ls 6 [(3, .int i_1_0), (0, .ref h0), (1, .int p0), (2, .int p1)] := hl
  have hP : va_P (dC, dI) vwCl (([(h0, Sum.inr (6, [Value.ref h1, Value.ref h2, Value.ref h5, Value.ref h6, Value.int n0_pieceCount])), (h1, Sum.inl (cAint, 40, Sum.inr (Sum.inr (Sum.inr (Sum.inr (fun j => some (h3 j))))))), (h2, Sum.inl (cAint, 6, Sum.inr (Sum.inr (Sum.inr (Sum.inr (fun j => some (h4 j)))))))] : va_W) ++ (kk_rowsI h3 cint 41 F3 40 ++ (kk_rowsI h4 cint 41 f_1_1 6))) H := hP
  have hD : va_D A (([(h0, Sum.inr (6, [Value.ref h1, Value.ref h2, Value.ref h5, Value.ref h6, Value.int n0_pieceCount])), (h1, Sum.inl (cAint, 40, Sum.inr (Sum.inr (Sum.inr (Sum.inr (fun j => some (h3 j))))))), (h2, Sum.inl (cAint, 6, Sum.inr (Sum.inr (Sum.inr (Sum.inr (fun j => some (h4 j)))))))] : va_W) ++ (kk_rowsI h3 cint 41 F3 40 ++ (kk_rowsI h4 cint 41 f_1_1 6))) := hD
  refine lv_iload_n hx hb dX6_workOutSums_2 rfl (lv_at hl 0 rfl) ?_
  refine lv_iload_n hx hb dX6_workOutSums_3 rfl (lv_at hl 2 rfl) ?_
  refine lv_icmp_gt (tgt := 104) hx hb dX6_workOutSums_4 (by decide) (fun c_2 => ?_) (fun c_2 => ?_)
  · have t_2 : p0.toInt < i_1_0.toInt := kk_lt c_2
    have hP9 := hP.part (cx := [(h0, Sum.inr (6, [Value.ref h1, Value.ref h2, Value.ref h5, Value.ref h6, Value.int n0_pieceCount])), (h1, Sum.inl (cAint, 40, Sum.inr (Sum.inr (Sum.inr (Sum.inr (fun j => some (h3 j))))))), (h2, Sum.inl (cAint, 6, Sum.inr (Sum.inr (Sum.inr (Sum.inr (fun j => some (h4 j)))))))]) [0, 1, 2] rfl
    have hD9 := hD.part (cx := [(h0, Sum.inr (6, [Value.ref h1, Value.ref h2, Value.ref h5, Value.ref h6, Value.int n0_pieceCount])), (h1, Sum.inl (cAint, 40, Sum.inr (Sum.inr (Sum.inr (Sum.inr (fun j => some (h3 j))))))), (h2, Sum.inl (cAint, 6, Sum.inr (Sum.inr (Sum.inr (Sum.inr (fun j => some (h4 j)))))))]) [0, 1, 2] (by decide) rfl
    have hK9 := hK.sub (tys' := []) [] rfl
    exact W.vret hx hb hr (fun t ht hW => ⟨⟨(), rfl, trivial, f_1_1, by rw [ht]; exact hP9, va_K.moved hW.alike hK9, hD9⟩, hS.F ht⟩) hS.2.2 dX6_workOutSums_104
  · have t_2 : i_1_0.toInt ≤ p0.toInt := kk_nlt c_2
    refine lv_ldc hx hb hown (hts _ (List.mem_of_getElem? (i := 1) rfl)) dX6_workOutSums_7 ?_
    refine lv_istore (lv' := [(4, .int 1000000000), (3, .int i_1_0), (0, .ref h0), (1, .int p0), (2, .int p1)]) hx hb dX6_workOutSums_9 hl (by decide) rfl (fun ls hl => ?_)
    refine lv_iload_n hx hb dX6_workOutSums_11 rfl (lv_at hl 4 rfl) ?_
    refine lv_iconst (v := 1) hx hb dX6_workOutSums_12 (by decide) ?_
    refine lv_icmp_ne (tgt := 41) hx hb dX6_workOutSums_13 (by decide) (fun c_3 => ?_) (fun c_3 => ?_)
    · have t_3 : p1.toInt ≠ 1 := kk_ne c_3
      refine lv_iload_n hx hb dX6_workOutSums_41 rfl (lv_at hl 1 rfl) ?_
      refine lv_iconst (v := 2) hx hb dX6_workOutSums_42 (by decide) ?_
      refine lv_iadd hx hb dX6_workOutSums_43 ?_
      refine lv_istore (lv' := [(5, .int (i_1_0 + 2)), (4, .int 1000000000), (3, .int i_1_0), (0, .ref h0), (1, .int p0), (2, .int p1)]) hx hb dX6_workOutSums_44 hl (by decide) rfl (fun ls hl => ?_)
      refine kk_loop (σ := Int32 × Int32) (fun x H locs ls => (2 ≤ x.1.toInt ∧ x.1.toInt ≤ 42) ∧ ((-2147483648) ≤ x.2.toInt ∧ x.2.toInt ≤ 1000000000) ∧ (i_1_0 + 2).toInt ≤ x.1.toInt ∧ va_P (dC, dI) vwCl (([(h0, Sum.inr (6, [Value.ref h1, Value.ref h2, Value.ref h5, Value.ref h6, Value.int n0_pieceCount])), (h1, Sum.inl (cAint, 40, Sum.inr (Sum.inr (Sum.inr (Sum.inr (fun j => some (h3 j))))))), (h2, Sum.inl (cAint, 6, Sum.inr (Sum.inr (Sum.inr (Sum.inr (fun j => some (h4 j)))))))] : va_W) ++ (kk_rowsI h3 cint 41 F3 40 ++ (kk_rowsI h4 cint 41 f_1_1 6))) H ∧ va_D A (([(h0, Sum.inr (6, [Value.ref h1, Value.ref h2, Value.ref h5, Value.ref h6, Value.int n0_pieceCount])), (h1, Sum.inl (cAint, 40, Sum.inr (Sum.inr (Sum.inr (Sum.inr (fun j => some (h3 j))))))), (h2, Sum.inl (cAint, 6, Sum.inr (Sum.inr (Sum.inr (Sum.inr (fun j => some (h4 j)))))))] : va_W) ++ (kk_rowsI h3 cint 41 F3 40 ++ (kk_rowsI h4 cint 41 f_1_1 6))) ∧ va_S A s.heap H locs ∧ lv_has ls 6 [(5, .int x.1), (4, .int x.2), (3, .int i_1_0), (0, .ref h0), (1, .int p0), (2, .int p1)]) (fun x => ((42 : Int) - x.1.toInt).toNat) ?_ ((i_1_0 + 2), 1000000000) _ _ _ ⟨(by show 2 ≤ ((i_1_0 + 2) : Int32).toInt ∧ ((i_1_0 + 2) : Int32).toInt ≤ 42; first | decide | (constructor <;> (have := kk_add2 (x := i_1_0) (y := 2) (a := i_1_0.toInt) (b := 2) rfl rfl (by omega) (by omega); omega))), (by show (-2147483648) ≤ (1000000000 : Int32).toInt ∧ (1000000000 : Int32).toInt ≤ 1000000000; first | decide | (constructor <;> (have := kk_add2 (x := i_1_0) (y := 2) (a := i_1_0.toInt) (b := 2) rfl rfl (by omega) (by omega); omega))), (by show ((i_1_0 + 2) : Int32).toInt ≤ ((i_1_0 + 2) : Int32).toInt; first | decide | (have := kk_add2 (x := i_1_0) (y := 2) (a := i_1_0.toInt) (b := 2) rfl rfl (by omega) (by omega); omega)), hP, hD, hS, hl⟩
      rintro ⟨i_4_0, i_4_1⟩ H locs ls ⟨t_4_0, t_4_1, z_4_0, hP, hD, hS, hl⟩ ih_4
      have t_4_0 : (2 ≤ i_4_0.toInt ∧ i_4_0.toInt ≤ 42) := t_4_0
      have t_4_1 : ((-2147483648) ≤ i_4_1.toInt ∧ i_4_1.toInt ≤ 1000000000) := t_4_1
      have z_4_0 : (i_1_0 + 2).toInt ≤ i_4_0.toInt := z_4_0
      have hl : lv_has ls 6 [(5, .int i_4_0), (4, .int i_4_1), (3, .int i_1_0), (0, .ref h0), (1, .int p0), (2, .int p1)] := hl
      have hP : va_P (dC, dI) vwCl (([(h0, Sum.inr (6, [Value.ref h1, Value.ref h2, Value.ref h5, Value.ref h6, Value.int n0_pieceCount])), (h1, Sum.inl (cAint, 40, Sum.inr (Sum.inr (Sum.inr (Sum.inr (fun j => some (h3 j))))))), (h2, Sum.inl (cAint, 6, Sum.inr (Sum.inr (Sum.inr (Sum.inr (fun j => some (h4 j)))))))] : va_W) ++ (kk_rowsI h3 cint 41 F3 40 ++ (kk_rowsI h4 cint 41 f_1_1 6))) H := hP
      have hD : va_D A (([(h0, Sum.inr (6, [Value.ref h1, Value.ref h2, Value.ref h5, Value.ref h6, Value.int n0_pieceCount])), (h1, Sum.inl (cAint, 40, Sum.inr (Sum.inr (Sum.inr (Sum.inr (fun j => some (h3 j))))))), (h2, Sum.inl (cAint, 6, Sum.inr (Sum.inr (Sum.inr (Sum.inr (fun j => some (h4 j)))))))] : va_W) ++ (kk_rowsI h3 cint 41 F3 40 ++ (kk_rowsI h4 cint 41 f_1_1 6))) := hD
      refine lv_iload hx hb dX6_workOutSums_46 (lv_at hl 0 rfl) ?_
      refine lv_iload_n hx hb dX6_workOutSums_48 rfl (lv_at hl 4 rfl) ?_
      refine lv_iconst (v := 2) hx hb dX6_workOutSums_49 (by decide) ?_
      refine lv_isub hx hb dX6_workOutSums_50 ?_
      refine lv_icmp_gt (tgt := 88) hx hb dX6_workOutSums_51 (by decide) (fun c_5 => ?_) (fun c_5 => ?_)
      · have t_5 : (p0 - 2).toInt < i_4_0.toInt := kk_lt c_5
        refine lv_aload_n hx hb dX6_workOutSums_88 rfl (lv_at hl 3 rfl) ?_
        refine va_get (D := (dC, dI)) (ci := 6) (v := .ref h2) (C := RX6) (T := TX6) (N := 5) hx hb hts (fun _ h => List.mem_cons_of_mem _ (List.mem_append_right _ h)) hown hK hP 0 rfl rfl 1 (by decide) (hts (.fieldLink RX6 16 "KinkStreet$Pieces" "sums" "[[I") (List.mem_of_getElem? (i := 3) rfl)) (fun _ h9 => h9) rfl dX6_workOutSums_89 ?_
        refine lv_iload_n hx hb dX6_workOutSums_92 rfl (lv_at hl 5 rfl) ?_
        have hi_6 : vp_in (p1 : Int32) 6 := (vp_in_iff.mpr ⟨by have := kk_rng i_4_1; have := kk_add2 (x := i_1_0) (y := 2) (a := i_1_0.toInt) (b := 2) rfl rfl (by omega) (by omega); have := kk_sub2 (x := p0) (y := 2) (a := p0.toInt) (b := 2) rfl rfl (by omega) (by omega); omega, by have := kk_rng i_4_1; have := kk_add2 (x := i_1_0) (y := 2) (a := i_1_0.toInt) (b := 2) rfl rfl (by omega) (by omega); have := kk_sub2 (x := p0) (y := 2) (a := p0.toInt) (b := 2) rfl rfl (by omega) (by omega); omega⟩)
        have hk_6 : (p1 : Int32).toNatClampNeg < 6 := Nat.not_le.mp fun q => hi_6 (Or.inr q)
        refine kk_aald hx hb hK hP 2 0 rfl rfl hi_6 dX6_workOutSums_93 ?_
        refine W.eq (g2 := F0 m 94 ls [.ref (h4 (p1 : Int32).toNatClampNeg)]) rfl ?_
        refine lv_iload_n hx hb dX6_workOutSums_94 rfl (lv_at hl 2 rfl) ?_
        refine lv_iload hx hb dX6_workOutSums_95 (lv_at hl 1 rfl) ?_
        refine va_iast hx hb hK hP hD hS _ 1 (kk_getr (kk_getr (kk_rowI hk_6))) rfl (vp_in_iff.mpr ⟨by have := kk_rng i_4_1; have := kk_add2 (x := i_1_0) (y := 2) (a := i_1_0.toInt) (b := 2) rfl rfl (by omega) (by omega); have := kk_sub2 (x := p0) (y := 2) (a := p0.toInt) (b := 2) rfl rfl (by omega) (by omega); omega, by have := kk_rng i_4_1; have := kk_add2 (x := i_1_0) (y := 2) (a := i_1_0.toInt) (b := 2) rfl rfl (by omega) (by omega); have := kk_sub2 (x := p0) (y := 2) (a := p0.toInt) (b := 2) rfl rfl (by omega) (by omega); omega⟩) dX6_workOutSums_97 (fun H locs hP hD hS => ?_)
        rw [kk_setr, kk_setr, kk_rowsI_set hk_6] at hP hD
        generalize kk_upF f_1_1 (p1 : Int32).toNatClampNeg (upd (f_1_1 (p1 : Int32).toNatClampNeg) (i_1_0 : Int32).toNatClampNeg i_4_1) = F_7 at hP hD
        have hP : va_P (dC, dI) vwCl (([(h0, Sum.inr (6, [Value.ref h1, Value.ref h2, Value.ref h5, Value.ref h6, Value.int n0_pieceCount])), (h1, Sum.inl (cAint, 40, Sum.inr (Sum.inr (Sum.inr (Sum.inr (fun j => some (h3 j))))))), (h2, Sum.inl (cAint, 6, Sum.inr (Sum.inr (Sum.inr (Sum.inr (fun j => some (h4 j)))))))] : va_W) ++ (kk_rowsI h3 cint 41 F3 40 ++ (kk_rowsI h4 cint 41 F_7 6))) H := hP
        have hD : va_D A (([(h0, Sum.inr (6, [Value.ref h1, Value.ref h2, Value.ref h5, Value.ref h6, Value.int n0_pieceCount])), (h1, Sum.inl (cAint, 40, Sum.inr (Sum.inr (Sum.inr (Sum.inr (fun j => some (h3 j))))))), (h2, Sum.inl (cAint, 6, Sum.inr (Sum.inr (Sum.inr (Sum.inr (fun j => some (h4 j)))))))] : va_W) ++ (kk_rowsI h3 cint 41 F3 40 ++ (kk_rowsI h4 cint 41 F_7 6))) := hD
        refine lv_iinc (v := (i_1_0 + 1)) (lv' := [(3, .int (i_1_0 + 1)), (5, .int i_4_0), (4, .int i_4_1), (0, .ref h0), (1, .int p0), (2, .int p1)]) hx hb dX6_workOutSums_98 hl (k := 2) rfl (by first | rfl | decide) (by decide) rfl (fun ls hl => ?_)
        refine lv_goto (tgt := 2) hx hb dX6_workOutSums_101 (by decide) ?_
        exact ih_1 ((i_1_0 + 1), F_7) _ _ _ (by show ((41 : Int) - ((i_1_0 + 1)).toInt).toNat < ((41 : Int) - i_1_0.toInt).toNat; have := kk_rng i_4_1; have := kk_add2 (x := i_1_0) (y := 2) (a := i_1_0.toInt) (b := 2) rfl rfl (by omega) (by omega); have := kk_sub2 (x := p0) (y := 2) (a := p0.toInt) (b := 2) rfl rfl (by omega) (by omega); have := kk_add2 (x := i_1_0) (y := 1) (a := i_1_0.toInt) (b := 1) rfl rfl (by omega) (by omega); exact kk_mu (by omega) (by omega)) ⟨(by show 0 ≤ ((i_1_0 + 1) : Int32).toInt ∧ ((i_1_0 + 1) : Int32).toInt ≤ 41; first | decide | (constructor <;> (have := kk_rng i_4_1; have := kk_add2 (x := i_1_0) (y := 2) (a := i_1_0.toInt) (b := 2) rfl rfl (by omega) (by omega); have := kk_sub2 (x := p0) (y := 2) (a := p0.toInt) (b := 2) rfl rfl (by omega) (by omega); have := kk_add2 (x := i_1_0) (y := 1) (a := i_1_0.toInt) (b := 1) rfl rfl (by omega) (by omega); omega))), hP, hD, hS, lv_sub hl [0, 3, 4, 5] rfl⟩
      · have t_5 : i_4_0.toInt ≤ (p0 - 2).toInt := kk_nlt c_5
        refine lv_iload hx hb dX6_workOutSums_54 (lv_at hl 1 rfl) ?_
        refine lv_aload_n hx hb dX6_workOutSums_56 rfl (lv_at hl 3 rfl) ?_
        refine va_get (D := (dC, dI)) (ci := 6) (v := .ref h1) (C := RX6) (T := TX6) (N := 5) hx hb hts (fun _ h => List.mem_cons_of_mem _ (List.mem_append_right _ h)) hown hK hP 0 rfl rfl 0 (by decide) (hts (.fieldLink RX6 11 "KinkStreet$Pieces" "spreads" "[[I") (List.mem_of_getElem? (i := 2) rfl)) (fun _ h9 => h9) rfl dX6_workOutSums_57 ?_
        refine lv_iload_n hx hb dX6_workOutSums_60 rfl (lv_at hl 2 rfl) ?_
        have hi_8 : vp_in (i_1_0 : Int32) 40 := (vp_in_iff.mpr ⟨by have := kk_rng i_4_1; have := kk_add2 (x := i_1_0) (y := 2) (a := i_1_0.toInt) (b := 2) rfl rfl (by omega) (by omega); have := kk_sub2 (x := p0) (y := 2) (a := p0.toInt) (b := 2) rfl rfl (by omega) (by omega); omega, by have := kk_rng i_4_1; have := kk_add2 (x := i_1_0) (y := 2) (a := i_1_0.toInt) (b := 2) rfl rfl (by omega) (by omega); have := kk_sub2 (x := p0) (y := 2) (a := p0.toInt) (b := 2) rfl rfl (by omega) (by omega); omega⟩)
        have hk_8 : (i_1_0 : Int32).toNatClampNeg < 40 := Nat.not_le.mp fun q => hi_8 (Or.inr q)
        refine kk_aald hx hb hK hP 1 0 rfl rfl hi_8 dX6_workOutSums_61 ?_
        refine W.eq (g2 := F0 m 62 ls [.ref (h3 (i_1_0 : Int32).toNatClampNeg), .int i_4_1]) rfl ?_
        refine lv_iload hx hb dX6_workOutSums_62 (lv_at hl 0 rfl) ?_
        refine va_iald hx hb hK hP _ 1 (kk_getr (kk_getl (kk_rowI hk_8))) rfl (vp_in_iff.mpr ⟨by have := kk_rng i_4_1; have := kk_add2 (x := i_1_0) (y := 2) (a := i_1_0.toInt) (b := 2) rfl rfl (by omega) (by omega); have := kk_sub2 (x := p0) (y := 2) (a := p0.toInt) (b := 2) rfl rfl (by omega) (by omega); omega, by have := kk_rng i_4_1; have := kk_add2 (x := i_1_0) (y := 2) (a := i_1_0.toInt) (b := 2) rfl rfl (by omega) (by omega); have := kk_sub2 (x := p0) (y := 2) (a := p0.toInt) (b := 2) rfl rfl (by omega) (by omega); omega⟩) dX6_workOutSums_64 ?_
        refine lv_topi (fun y_9 e_9 => ?_)
        clear e_9
        refine lv_aload_n hx hb dX6_workOutSums_65 rfl (lv_at hl 3 rfl) ?_
        refine va_get (D := (dC, dI)) (ci := 6) (v := .ref h2) (C := RX6) (T := TX6) (N := 5) hx hb hts (fun _ h => List.mem_cons_of_mem _ (List.mem_append_right _ h)) hown hK hP 0 rfl rfl 1 (by decide) (hts (.fieldLink RX6 16 "KinkStreet$Pieces" "sums" "[[I") (List.mem_of_getElem? (i := 3) rfl)) (fun _ h9 => h9) rfl dX6_workOutSums_66 ?_
        refine lv_iload_n hx hb dX6_workOutSums_69 rfl (lv_at hl 5 rfl) ?_
        refine lv_iconst (v := 1) hx hb dX6_workOutSums_70 (by decide) ?_
        refine lv_isub hx hb dX6_workOutSums_71 ?_
        have hi_10 : vp_in ((p1 - 1) : Int32) 6 := (vp_in_iff.mpr ⟨by have := kk_rng i_4_1; have := kk_add2 (x := i_1_0) (y := 2) (a := i_1_0.toInt) (b := 2) rfl rfl (by omega) (by omega); have := kk_sub2 (x := p0) (y := 2) (a := p0.toInt) (b := 2) rfl rfl (by omega) (by omega); have := kk_sub2 (x := p1) (y := 1) (a := p1.toInt) (b := 1) rfl rfl (by omega) (by omega); omega, by have := kk_rng i_4_1; have := kk_add2 (x := i_1_0) (y := 2) (a := i_1_0.toInt) (b := 2) rfl rfl (by omega) (by omega); have := kk_sub2 (x := p0) (y := 2) (a := p0.toInt) (b := 2) rfl rfl (by omega) (by omega); have := kk_sub2 (x := p1) (y := 1) (a := p1.toInt) (b := 1) rfl rfl (by omega) (by omega); omega⟩)
        have hk_10 : ((p1 - 1) : Int32).toNatClampNeg < 6 := Nat.not_le.mp fun q => hi_10 (Or.inr q)
        refine kk_aald hx hb hK hP 2 0 rfl rfl hi_10 dX6_workOutSums_72 ?_
        refine W.eq (g2 := F0 m 73 ls [.ref (h4 ((p1 - 1) : Int32).toNatClampNeg), .int y_9, .int i_4_1]) rfl ?_
        refine lv_iload hx hb dX6_workOutSums_73 (lv_at hl 0 rfl) ?_
        refine va_iald hx hb hK hP _ 1 (kk_getr (kk_getr (kk_rowI hk_10))) rfl (vp_in_iff.mpr ⟨by have := kk_rng i_4_1; have := kk_add2 (x := i_1_0) (y := 2) (a := i_1_0.toInt) (b := 2) rfl rfl (by omega) (by omega); have := kk_sub2 (x := p0) (y := 2) (a := p0.toInt) (b := 2) rfl rfl (by omega) (by omega); have := kk_sub2 (x := p1) (y := 1) (a := p1.toInt) (b := 1) rfl rfl (by omega) (by omega); omega, by have := kk_rng i_4_1; have := kk_add2 (x := i_1_0) (y := 2) (a := i_1_0.toInt) (b := 2) rfl rfl (by omega) (by omega); have := kk_sub2 (x := p0) (y := 2) (a := p0.toInt) (b := 2) rfl rfl (by omega) (by omega); have := kk_sub2 (x := p1) (y := 1) (a := p1.toInt) (b := 1) rfl rfl (by omega) (by omega); omega⟩) dX6_workOutSums_75 ?_
        refine lv_topi (fun y_11 e_11 => ?_)
        clear e_11
        refine lv_iadd hx hb dX6_workOutSums_76 ?_
        refine va_mmin hx hb (hml.trans hl.1.symm) hown (hts (.methodLink RX6 63 Lib.Math.min.name) (List.mem_of_getElem? (i := 4) rfl)) (hts (.static Lib.Math.min.name) (List.mem_of_getElem? (i := 5) rfl)) (hts (.initialized "java/lang/Math") (List.mem_of_getElem? (i := 6) rfl)) (hts (.code Lib.Math.min.name Lib.Math.min.code 2 (some .int)) (List.mem_of_getElem? (i := 7) rfl)) (Nat.le_of_ble_eq_true rfl) (Nat.le_of_ble_eq_true rfl) (Nat.le_of_ble_eq_true rfl) (Nat.le_of_ble_eq_true rfl) dX6_workOutSums_77 ?_
        refine lv_topi (fun y_12 e_12 => ?_)
        have t_12 : y_12.toInt ≤ i_4_1.toInt ∧ y_12.toInt ≤ (y_9 + y_11).toInt ∧ (y_12.toInt = i_4_1.toInt ∨ y_12.toInt = (y_9 + y_11).toInt) := by rw [e_12]; exact kk_min _ _
        clear e_12
        refine lv_istore (lv' := [(4, .int y_12), (5, .int i_4_0), (3, .int i_1_0), (0, .ref h0), (1, .int p0), (2, .int p1)]) hx hb dX6_workOutSums_80 hl (by decide) rfl (fun ls hl => ?_)
        refine lv_iinc (v := (i_4_0 + 1)) (lv' := [(5, .int (i_4_0 + 1)), (4, .int y_12), (3, .int i_1_0), (0, .ref h0), (1, .int p0), (2, .int p1)]) hx hb dX6_workOutSums_82 hl (k := 1) rfl (by first | rfl | decide) (by decide) rfl (fun ls hl => ?_)
        refine lv_goto (tgt := 46) hx hb dX6_workOutSums_85 (by decide) ?_
        exact ih_4 ((i_4_0 + 1), y_12) _ _ _ (by show ((42 : Int) - ((i_4_0 + 1)).toInt).toNat < ((42 : Int) - i_4_0.toInt).toNat; have := kk_rng y_12; have := kk_rng y_11; have := kk_rng y_9; have := kk_rng i_4_1; have := kk_add2 (x := i_1_0) (y := 2) (a := i_1_0.toInt) (b := 2) rfl rfl (by omega) (by omega); have := kk_sub2 (x := p0) (y := 2) (a := p0.toInt) (b := 2) rfl rfl (by omega) (by omega); have := kk_sub2 (x := p1) (y := 1) (a := p1.toInt) (b := 1) rfl rfl (by omega) (by omega); have := kk_add2 (x := i_4_0) (y := 1) (a := i_4_0.toInt) (b := 1) rfl rfl (by omega) (by omega); exact kk_mu (by omega) (by omega)) ⟨(by show 2 ≤ ((i_4_0 + 1) : Int32).toInt ∧ ((i_4_0 + 1) : Int32).toInt ≤ 42; first | decide | (constructor <;> (have := kk_rng y_12; have := kk_rng y_11; have := kk_rng y_9; have := kk_rng i_4_1; have := kk_add2 (x := i_1_0) (y := 2) (a := i_1_0.toInt) (b := 2) rfl rfl (by omega) (by omega); have := kk_sub2 (x := p0) (y := 2) (a := p0.toInt) (b := 2) rfl rfl (by omega) (by omega); have := kk_sub2 (x := p1) (y := 1) (a := p1.toInt) (b := 1) rfl rfl (by omega) (by omega); have := kk_add2 (x := i_4_0) (y := 1) (a := i_4_0.toInt) (b := 1) rfl rfl (by omega) (by omega); omega))), (by show (-2147483648) ≤ (y_12 : Int32).toInt ∧ (y_12 : Int32).toInt ≤ 1000000000; first | decide | (constructor <;> (have := kk_rng y_12; have := kk_rng y_11; have := kk_rng y_9; have := kk_rng i_4_1; have := kk_add2 (x := i_1_0) (y := 2) (a := i_1_0.toInt) (b := 2) rfl rfl (by omega) (by omega); have := kk_sub2 (x := p0) (y := 2) (a := p0.toInt) (b := 2) rfl rfl (by omega) (by omega); have := kk_sub2 (x := p1) (y := 1) (a := p1.toInt) (b := 1) rfl rfl (by omega) (by omega); have := kk_add2 (x := i_4_0) (y := 1) (a := i_4_0.toInt) (b := 1) rfl rfl (by omega) (by omega); omega))), (by show ((i_1_0 + 2) : Int32).toInt ≤ ((i_4_0 + 1) : Int32).toInt; first | decide | (have := kk_rng y_12; have := kk_rng y_11; have := kk_rng y_9; have := kk_rng i_4_1; have := kk_add2 (x := i_1_0) (y := 2) (a := i_1_0.toInt) (b := 2) rfl rfl (by omega) (by omega); have := kk_sub2 (x := p0) (y := 2) (a := p0.toInt) (b := 2) rfl rfl (by omega) (by omega); have := kk_sub2 (x := p1) (y := 1) (a := p1.toInt) (b := 1) rfl rfl (by omega) (by omega); have := kk_add2 (x := i_4_0) (y := 1) (a := i_4_0.toInt) (b := 1) rfl rfl (by omega) (by omega); omega)), hP, hD, hS, lv_sub hl [0, 1, 2, 3, 4, 5] rfl⟩
    · have t_3 : p1.toInt = 1 := kk_eq c_3
      refine lv_iload_n hx hb dX6_workOutSums_16 rfl (lv_at hl 3 rfl) ?_
      refine lv_iload_n hx hb dX6_workOutSums_17 rfl (lv_at hl 1 rfl) ?_
      refine lv_isub hx hb dX6_workOutSums_18 ?_
      refine lv_iconst (v := 2) hx hb dX6_workOutSums_19 (by decide) ?_
      refine lv_icmp_lt (tgt := 34) hx hb dX6_workOutSums_20 (by decide) (fun c_13 => ?_) (fun c_13 => ?_)
      · have t_13 : (p0 - i_1_0).toInt < 2 := kk_lt c_13
        refine lv_ldc hx hb hown (hts _ (List.mem_of_getElem? (i := 1) rfl)) dX6_workOutSums_34 ?_
        refine lv_istore (lv' := [(4, .int 1000000000), (3, .int i_1_0), (0, .ref h0), (1, .int p0), (2, .int p1)]) hx hb dX6_workOutSums_36 hl (by decide) rfl (fun ls hl => ?_)
        refine lv_goto (tgt := 88) hx hb dX6_workOutSums_38 (by decide) ?_
        refine lv_aload_n hx hb dX6_workOutSums_88 rfl (lv_at hl 2 rfl) ?_
        refine va_get (D := (dC, dI)) (ci := 6) (v := .ref h2) (C := RX6) (T := TX6) (N := 5) hx hb hts (fun _ h => List.mem_cons_of_mem _ (List.mem_append_right _ h)) hown hK hP 0 rfl rfl 1 (by decide) (hts (.fieldLink RX6 16 "KinkStreet$Pieces" "sums" "[[I") (List.mem_of_getElem? (i := 3) rfl)) (fun _ h9 => h9) rfl dX6_workOutSums_89 ?_
        refine lv_iload_n hx hb dX6_workOutSums_92 rfl (lv_at hl 4 rfl) ?_
        have hi_14 : vp_in (p1 : Int32) 6 := (vp_in_iff.mpr ⟨by have := kk_sub2 (x := p0) (y := i_1_0) (a := p0.toInt) (b := i_1_0.toInt) rfl rfl (by omega) (by omega); omega, by have := kk_sub2 (x := p0) (y := i_1_0) (a := p0.toInt) (b := i_1_0.toInt) rfl rfl (by omega) (by omega); omega⟩)
        have hk_14 : (p1 : Int32).toNatClampNeg < 6 := Nat.not_le.mp fun q => hi_14 (Or.inr q)
        refine kk_aald hx hb hK hP 2 0 rfl rfl hi_14 dX6_workOutSums_93 ?_
        refine W.eq (g2 := F0 m 94 ls [.ref (h4 (p1 : Int32).toNatClampNeg)]) rfl ?_
        refine lv_iload_n hx hb dX6_workOutSums_94 rfl (lv_at hl 1 rfl) ?_
        refine lv_iload hx hb dX6_workOutSums_95 (lv_at hl 0 rfl) ?_
        refine va_iast hx hb hK hP hD hS _ 1 (kk_getr (kk_getr (kk_rowI hk_14))) rfl (vp_in_iff.mpr ⟨by have := kk_sub2 (x := p0) (y := i_1_0) (a := p0.toInt) (b := i_1_0.toInt) rfl rfl (by omega) (by omega); omega, by have := kk_sub2 (x := p0) (y := i_1_0) (a := p0.toInt) (b := i_1_0.toInt) rfl rfl (by omega) (by omega); omega⟩) dX6_workOutSums_97 (fun H locs hP hD hS => ?_)
        rw [kk_setr, kk_setr, kk_rowsI_set hk_14] at hP hD
        generalize kk_upF f_1_1 (p1 : Int32).toNatClampNeg (upd (f_1_1 (p1 : Int32).toNatClampNeg) (i_1_0 : Int32).toNatClampNeg 1000000000) = F_15 at hP hD
        have hP : va_P (dC, dI) vwCl (([(h0, Sum.inr (6, [Value.ref h1, Value.ref h2, Value.ref h5, Value.ref h6, Value.int n0_pieceCount])), (h1, Sum.inl (cAint, 40, Sum.inr (Sum.inr (Sum.inr (Sum.inr (fun j => some (h3 j))))))), (h2, Sum.inl (cAint, 6, Sum.inr (Sum.inr (Sum.inr (Sum.inr (fun j => some (h4 j)))))))] : va_W) ++ (kk_rowsI h3 cint 41 F3 40 ++ (kk_rowsI h4 cint 41 F_15 6))) H := hP
        have hD : va_D A (([(h0, Sum.inr (6, [Value.ref h1, Value.ref h2, Value.ref h5, Value.ref h6, Value.int n0_pieceCount])), (h1, Sum.inl (cAint, 40, Sum.inr (Sum.inr (Sum.inr (Sum.inr (fun j => some (h3 j))))))), (h2, Sum.inl (cAint, 6, Sum.inr (Sum.inr (Sum.inr (Sum.inr (fun j => some (h4 j)))))))] : va_W) ++ (kk_rowsI h3 cint 41 F3 40 ++ (kk_rowsI h4 cint 41 F_15 6))) := hD
        refine lv_iinc (v := (i_1_0 + 1)) (lv' := [(3, .int (i_1_0 + 1)), (4, .int 1000000000), (0, .ref h0), (1, .int p0), (2, .int p1)]) hx hb dX6_workOutSums_98 hl (k := 1) rfl (by first | rfl | decide) (by decide) rfl (fun ls hl => ?_)
        refine lv_goto (tgt := 2) hx hb dX6_workOutSums_101 (by decide) ?_
        exact ih_1 ((i_1_0 + 1), F_15) _ _ _ (by show ((41 : Int) - ((i_1_0 + 1)).toInt).toNat < ((41 : Int) - i_1_0.toInt).toNat; have := kk_sub2 (x := p0) (y := i_1_0) (a := p0.toInt) (b := i_1_0.toInt) rfl rfl (by omega) (by omega); have := kk_add2 (x := i_1_0) (y := 1) (a := i_1_0.toInt) (b := 1) rfl rfl (by omega) (by omega); exact kk_mu (by omega) (by omega)) ⟨(by show 0 ≤ ((i_1_0 + 1) : Int32).toInt ∧ ((i_1_0 + 1) : Int32).toInt ≤ 41; first | decide | (constructor <;> (have := kk_sub2 (x := p0) (y := i_1_0) (a := p0.toInt) (b := i_1_0.toInt) rfl rfl (by omega) (by omega); have := kk_add2 (x := i_1_0) (y := 1) (a := i_1_0.toInt) (b := 1) rfl rfl (by omega) (by omega); omega))), hP, hD, hS, lv_sub hl [0, 2, 3, 4] rfl⟩
      · have t_13 : 2 ≤ (p0 - i_1_0).toInt := kk_nlt c_13
        refine lv_aload_n hx hb dX6_workOutSums_23 rfl (lv_at hl 2 rfl) ?_
        refine va_get (D := (dC, dI)) (ci := 6) (v := .ref h1) (C := RX6) (T := TX6) (N := 5) hx hb hts (fun _ h => List.mem_cons_of_mem _ (List.mem_append_right _ h)) hown hK hP 0 rfl rfl 0 (by decide) (hts (.fieldLink RX6 11 "KinkStreet$Pieces" "spreads" "[[I") (List.mem_of_getElem? (i := 2) rfl)) (fun _ h9 => h9) rfl dX6_workOutSums_24 ?_
        refine lv_iload_n hx hb dX6_workOutSums_27 rfl (lv_at hl 1 rfl) ?_
        have hi_16 : vp_in (i_1_0 : Int32) 40 := (vp_in_iff.mpr ⟨by have := kk_sub2 (x := p0) (y := i_1_0) (a := p0.toInt) (b := i_1_0.toInt) rfl rfl (by omega) (by omega); omega, by have := kk_sub2 (x := p0) (y := i_1_0) (a := p0.toInt) (b := i_1_0.toInt) rfl rfl (by omega) (by omega); omega⟩)
        have hk_16 : (i_1_0 : Int32).toNatClampNeg < 40 := Nat.not_le.mp fun q => hi_16 (Or.inr q)
        refine kk_aald hx hb hK hP 1 0 rfl rfl hi_16 dX6_workOutSums_28 ?_
        refine W.eq (g2 := F0 m 29 ls [.ref (h3 (i_1_0 : Int32).toNatClampNeg)]) rfl ?_
        refine lv_iload_n hx hb dX6_workOutSums_29 rfl (lv_at hl 3 rfl) ?_
        refine va_iald hx hb hK hP _ 1 (kk_getr (kk_getl (kk_rowI hk_16))) rfl (vp_in_iff.mpr ⟨by have := kk_sub2 (x := p0) (y := i_1_0) (a := p0.toInt) (b := i_1_0.toInt) rfl rfl (by omega) (by omega); omega, by have := kk_sub2 (x := p0) (y := i_1_0) (a := p0.toInt) (b := i_1_0.toInt) rfl rfl (by omega) (by omega); omega⟩) dX6_workOutSums_30 ?_
        refine lv_topi (fun y_17 e_17 => ?_)
        clear e_17
        refine lv_goto (tgt := 36) hx hb dX6_workOutSums_31 (by decide) ?_
        refine lv_istore (lv' := [(4, .int y_17), (3, .int i_1_0), (0, .ref h0), (1, .int p0), (2, .int p1)]) hx hb dX6_workOutSums_36 hl (by decide) rfl (fun ls hl => ?_)
        refine lv_goto (tgt := 88) hx hb dX6_workOutSums_38 (by decide) ?_
        refine lv_aload_n hx hb dX6_workOutSums_88 rfl (lv_at hl 2 rfl) ?_
        refine va_get (D := (dC, dI)) (ci := 6) (v := .ref h2) (C := RX6) (T := TX6) (N := 5) hx hb hts (fun _ h => List.mem_cons_of_mem _ (List.mem_append_right _ h)) hown hK hP 0 rfl rfl 1 (by decide) (hts (.fieldLink RX6 16 "KinkStreet$Pieces" "sums" "[[I") (List.mem_of_getElem? (i := 3) rfl)) (fun _ h9 => h9) rfl dX6_workOutSums_89 ?_
        refine lv_iload_n hx hb dX6_workOutSums_92 rfl (lv_at hl 4 rfl) ?_
        have hi_18 : vp_in (p1 : Int32) 6 := (vp_in_iff.mpr ⟨by have := kk_sub2 (x := p0) (y := i_1_0) (a := p0.toInt) (b := i_1_0.toInt) rfl rfl (by omega) (by omega); omega, by have := kk_sub2 (x := p0) (y := i_1_0) (a := p0.toInt) (b := i_1_0.toInt) rfl rfl (by omega) (by omega); omega⟩)
        have hk_18 : (p1 : Int32).toNatClampNeg < 6 := Nat.not_le.mp fun q => hi_18 (Or.inr q)
        refine kk_aald hx hb hK hP 2 0 rfl rfl hi_18 dX6_workOutSums_93 ?_
        refine W.eq (g2 := F0 m 94 ls [.ref (h4 (p1 : Int32).toNatClampNeg)]) rfl ?_
        refine lv_iload_n hx hb dX6_workOutSums_94 rfl (lv_at hl 1 rfl) ?_
        refine lv_iload hx hb dX6_workOutSums_95 (lv_at hl 0 rfl) ?_
        refine va_iast hx hb hK hP hD hS _ 1 (kk_getr (kk_getr (kk_rowI hk_18))) rfl (vp_in_iff.mpr ⟨by have := kk_sub2 (x := p0) (y := i_1_0) (a := p0.toInt) (b := i_1_0.toInt) rfl rfl (by omega) (by omega); omega, by have := kk_sub2 (x := p0) (y := i_1_0) (a := p0.toInt) (b := i_1_0.toInt) rfl rfl (by omega) (by omega); omega⟩) dX6_workOutSums_97 (fun H locs hP hD hS => ?_)
        rw [kk_setr, kk_setr, kk_rowsI_set hk_18] at hP hD
        generalize kk_upF f_1_1 (p1 : Int32).toNatClampNeg (upd (f_1_1 (p1 : Int32).toNatClampNeg) (i_1_0 : Int32).toNatClampNeg y_17) = F_19 at hP hD
        have hP : va_P (dC, dI) vwCl (([(h0, Sum.inr (6, [Value.ref h1, Value.ref h2, Value.ref h5, Value.ref h6, Value.int n0_pieceCount])), (h1, Sum.inl (cAint, 40, Sum.inr (Sum.inr (Sum.inr (Sum.inr (fun j => some (h3 j))))))), (h2, Sum.inl (cAint, 6, Sum.inr (Sum.inr (Sum.inr (Sum.inr (fun j => some (h4 j)))))))] : va_W) ++ (kk_rowsI h3 cint 41 F3 40 ++ (kk_rowsI h4 cint 41 F_19 6))) H := hP
        have hD : va_D A (([(h0, Sum.inr (6, [Value.ref h1, Value.ref h2, Value.ref h5, Value.ref h6, Value.int n0_pieceCount])), (h1, Sum.inl (cAint, 40, Sum.inr (Sum.inr (Sum.inr (Sum.inr (fun j => some (h3 j))))))), (h2, Sum.inl (cAint, 6, Sum.inr (Sum.inr (Sum.inr (Sum.inr (fun j => some (h4 j)))))))] : va_W) ++ (kk_rowsI h3 cint 41 F3 40 ++ (kk_rowsI h4 cint 41 F_19 6))) := hD
        refine lv_iinc (v := (i_1_0 + 1)) (lv' := [(3, .int (i_1_0 + 1)), (4, .int y_17), (0, .ref h0), (1, .int p0), (2, .int p1)]) hx hb dX6_workOutSums_98 hl (k := 1) rfl (by first | rfl | decide) (by decide) rfl (fun ls hl => ?_)
        refine lv_goto (tgt := 2) hx hb dX6_workOutSums_101 (by decide) ?_
        exact ih_1 ((i_1_0 + 1), F_19) _ _ _ (by show ((41 : Int) - ((i_1_0 + 1)).toInt).toNat < ((41 : Int) - i_1_0.toInt).toNat; have := kk_sub2 (x := p0) (y := i_1_0) (a := p0.toInt) (b := i_1_0.toInt) rfl rfl (by omega) (by omega); have := kk_add2 (x := i_1_0) (y := 1) (a := i_1_0.toInt) (b := 1) rfl rfl (by omega) (by omega); exact kk_mu (by omega) (by omega)) ⟨(by show 0 ≤ ((i_1_0 + 1) : Int32).toInt ∧ ((i_1_0 + 1) : Int32).toInt ≤ 41; first | decide | (constructor <;> (have := kk_sub2 (x := p0) (y := i_1_0) (a := p0.toInt) (b := i_1_0.toInt) rfl rfl (by omega) (by omega); have := kk_add2 (x := i_1_0) (y := 1) (a := i_1_0.toInt) (b := 1) rfl rfl (by omega) (by omega); omega))), hP, hD, hS, lv_sub hl [0, 2, 3, 4] rfl⟩
set_option maxHeartbeats 4000000 in
set_option maxRecDepth 100000 in
theorem g_X6_sum_0 (l : Launch) (dC : Nat → ClassId) (dI : Nat → Nat → Nat) (h0 : Nat) (h1 : Nat) (h2 : Nat) (h3 : Nat → Nat) (h4 : Nat → Nat) (h5 : Nat) (h6 : Nat) (cAint cint : ClassId) (sz : Nat) (n0_pieceCount : Int32) (F3 : Nat → Nat → Int32) (F4 : Nat → Nat → Int32) (tn0_pieceCount : 0 ≤ n0_pieceCount.toInt ∧ n0_pieceCount.toInt ≤ 5) : Met l yX6_sum wsX6_sum ({ frames := 0, cells := 0, slots := 0, locals := 0 }) (va_Pc [.ref h0] (fun U => U.heap.size = sz ∧ va_P (dC, dI) vwCl (([(h0, Sum.inr (6, [Value.ref h1, Value.ref h2, Value.ref h5, Value.ref h6, Value.int n0_pieceCount])), (h1, Sum.inl (cAint, 40, Sum.inr (Sum.inr (Sum.inr (Sum.inr (fun j => some (h3 j))))))), (h2, Sum.inl (cAint, 6, Sum.inr (Sum.inr (Sum.inr (Sum.inr (fun j => some (h4 j)))))))] : va_W) ++ (kk_rowsI h3 cint 41 F3 40 ++ (kk_rowsI h4 cint 41 F4 6))) U.heap ∧ va_K (dC, dI) vwCl [(cAint, .array .int), (cint, .int)] U ∧ va_D (fun _ => True) (([(h0, Sum.inr (6, [Value.ref h1, Value.ref h2, Value.ref h5, Value.ref h6, Value.int n0_pieceCount])), (h1, Sum.inl (cAint, 40, Sum.inr (Sum.inr (Sum.inr (Sum.inr (fun j => some (h3 j))))))), (h2, Sum.inl (cAint, 6, Sum.inr (Sum.inr (Sum.inr (Sum.inr (fun j => some (h4 j)))))))] : va_W) ++ (kk_rowsI h3 cint 41 F3 40 ++ (kk_rowsI h4 cint 41 F4 6))))) (va_Qi (fun (r : Int32) (_ : Unit) => True) (fun (_ : Unit) t => va_P (dC, dI) vwCl (([(h0, Sum.inr (6, [Value.ref h1, Value.ref h2, Value.ref h5, Value.ref h6, Value.int n0_pieceCount])), (h1, Sum.inl (cAint, 40, Sum.inr (Sum.inr (Sum.inr (Sum.inr (fun j => some (h3 j))))))), (h2, Sum.inl (cAint, 6, Sum.inr (Sum.inr (Sum.inr (Sum.inr (fun j => some (h4 j)))))))] : va_W) ++ (kk_rowsI h3 cint 41 F3 40 ++ (kk_rowsI h4 cint 41 F4 6))) t.heap ∧ va_K (dC, dI) vwCl [] t ∧ va_D (va_A (([(h0, Sum.inr (6, [Value.ref h1, Value.ref h2, Value.ref h5, Value.ref h6, Value.int n0_pieceCount])), (h1, Sum.inl (cAint, 40, Sum.inr (Sum.inr (Sum.inr (Sum.inr (fun j => some (h3 j))))))), (h2, Sum.inl (cAint, 6, Sum.inr (Sum.inr (Sum.inr (Sum.inr (fun j => some (h4 j)))))))] : va_W) ++ (kk_rowsI h3 cint 41 F3 40 ++ (kk_rowsI h4 cint 41 F4 6))) sz) (([(h0, Sum.inr (6, [Value.ref h1, Value.ref h2, Value.ref h5, Value.ref h6, Value.int n0_pieceCount])), (h1, Sum.inl (cAint, 40, Sum.inr (Sum.inr (Sum.inr (Sum.inr (fun j => some (h3 j))))))), (h2, Sum.inl (cAint, 6, Sum.inr (Sum.inr (Sum.inr (Sum.inr (fun j => some (h4 j)))))))] : va_W) ++ (kk_rowsI h3 cint 41 F3 40 ++ (kk_rowsI h4 cint 41 F4 6)))) (va_A (([(h0, Sum.inr (6, [Value.ref h1, Value.ref h2, Value.ref h5, Value.ref h6, Value.int n0_pieceCount])), (h1, Sum.inl (cAint, 40, Sum.inr (Sum.inr (Sum.inr (Sum.inr (fun j => some (h3 j))))))), (h2, Sum.inl (cAint, 6, Sum.inr (Sum.inr (Sum.inr (Sum.inr (fun j => some (h4 j)))))))] : va_W) ++ (kk_rowsI h3 cint 41 F3 40 ++ (kk_rowsI h4 cint 41 F4 6))) sz)) 0 0 (va_A (([(h0, Sum.inr (6, [Value.ref h1, Value.ref h2, Value.ref h5, Value.ref h6, Value.int n0_pieceCount])), (h1, Sum.inl (cAint, 40, Sum.inr (Sum.inr (Sum.inr (Sum.inr (fun j => some (h3 j))))))), (h2, Sum.inl (cAint, 6, Sum.inr (Sum.inr (Sum.inr (Sum.inr (fun j => some (h4 j)))))))] : va_W) ++ (kk_rowsI h3 cint 41 F3 40 ++ (kk_rowsI h4 cint 41 F4 6))) sz) := by
  refine Met.ofW (cc := cX6_sum) (maxL := 1) (ret := (some .int)) (by decide) rfl ?_
  intro p e s m args below meth c s₁ B hml hv
  obtain ⟨rfl, hsz, hP, hK, hD0⟩ := hv
  have hx := B.exec
  have hb := B.bytes
  have hr := B.returns
  have hts := atoms_spec (ws := wsX6_sum) B.pre
  have hown : s.vm.findClass RX6 = some m.cls := findClass_of_methodNamed B.named
  have hlocks := B.notSynchronized
  subst hsz
  have hD := hD0.self (sz := s.heap.size)
  generalize hAe : va_A (([(h0, Sum.inr (6, [Value.ref h1, Value.ref h2, Value.ref h5, Value.ref h6, Value.int n0_pieceCount])), (h1, Sum.inl (cAint, 40, Sum.inr (Sum.inr (Sum.inr (Sum.inr (fun j => some (h3 j))))))), (h2, Sum.inl (cAint, 6, Sum.inr (Sum.inr (Sum.inr (Sum.inr (fun j => some (h4 j)))))))] : va_W) ++ (kk_rowsI h3 cint 41 F3 40 ++ (kk_rowsI h4 cint 41 F4 6))) s.heap.size = A at hD ⊢
  have hA : ∀ q : Nat, s.heap.size ≤ q → A q := fun q h => by rw [← hAe]; exact Or.inr h
  have hS : va_S A s.heap s.heap [] := va_S.rf
  have hP : va_P (dC, dI) vwCl (([(h0, Sum.inr (6, [Value.ref h1, Value.ref h2, Value.ref h5, Value.ref h6, Value.int n0_pieceCount])), (h1, Sum.inl (cAint, 40, Sum.inr (Sum.inr (Sum.inr (Sum.inr (fun j => some (h3 j))))))), (h2, Sum.inl (cAint, 6, Sum.inr (Sum.inr (Sum.inr (Sum.inr (fun j => some (h4 j)))))))] : va_W) ++ (kk_rowsI h3 cint 41 F3 40 ++ (kk_rowsI h4 cint 41 F4 6))) s.heap := hP
  have hl := lv_entry ([.ref h0]) (n := 1) (Nat.le_of_ble_eq_true rfl)
  rw [lg_entry_eq]
  generalize (lg_sl ([.ref h0]) ++ List.replicate (1 - (lg_sl ([.ref h0])).length) Slot.unset).toArray = ls at hl ⊢
  have hl : lv_has ls 1 [(0, .ref h0)] := hl
  refine lv_aload_n hx hb dX6_sum_0 rfl (lv_at hl 0 rfl) ?_
  refine va_get (D := (dC, dI)) (ci := 6) (v := .ref h2) (C := RX6) (T := TX6) (N := 5) hx hb hts (fun _ h => List.mem_cons_of_mem _ (List.mem_append_right _ h)) hown hK hP 0 rfl rfl 1 (by decide) (hts (.fieldLink RX6 16 "KinkStreet$Pieces" "sums" "[[I") (List.mem_of_getElem? (i := 1) rfl)) (fun _ h9 => h9) rfl dX6_sum_1 ?_
  refine lv_aload_n hx hb dX6_sum_4 rfl (lv_at hl 0 rfl) ?_
  refine va_get (D := (dC, dI)) (ci := 6) (v := .int n0_pieceCount) (C := RX6) (T := TX6) (N := 5) hx hb hts (fun _ h => List.mem_cons_of_mem _ (List.mem_append_right _ h)) hown hK hP 0 rfl rfl 4 (by decide) (hts (.fieldLink RX6 40 "KinkStreet$Pieces" "pieceCount" "I") (List.mem_of_getElem? (i := 2) rfl)) (fun _ h9 => h9) rfl dX6_sum_5 ?_
  have hi_1 : vp_in (n0_pieceCount : Int32) 6 := (vp_in_iff.mpr ⟨by omega, by omega⟩)
  have hk_1 : (n0_pieceCount : Int32).toNatClampNeg < 6 := Nat.not_le.mp fun q => hi_1 (Or.inr q)
  refine kk_aald hx hb hK hP 2 0 rfl rfl hi_1 dX6_sum_8 ?_
  refine W.eq (g2 := F0 m 9 ls [.ref (h4 (n0_pieceCount : Int32).toNatClampNeg)]) rfl ?_
  refine lv_iconst (v := 0) hx hb dX6_sum_9 (by decide) ?_
  refine va_iald hx hb hK hP _ 1 (kk_getr (kk_getr (kk_rowI hk_1))) rfl (by unfold vp_in; decide) dX6_sum_10 ?_
  refine lv_topi (fun y_2 e_2 => ?_)
  clear e_2
  have hP9 := hP.part (cx := [(h0, Sum.inr (6, [Value.ref h1, Value.ref h2, Value.ref h5, Value.ref h6, Value.int n0_pieceCount])), (h1, Sum.inl (cAint, 40, Sum.inr (Sum.inr (Sum.inr (Sum.inr (fun j => some (h3 j))))))), (h2, Sum.inl (cAint, 6, Sum.inr (Sum.inr (Sum.inr (Sum.inr (fun j => some (h4 j)))))))]) [0, 1, 2] rfl
  have hD9 := hD.part (cx := [(h0, Sum.inr (6, [Value.ref h1, Value.ref h2, Value.ref h5, Value.ref h6, Value.int n0_pieceCount])), (h1, Sum.inl (cAint, 40, Sum.inr (Sum.inr (Sum.inr (Sum.inr (fun j => some (h3 j))))))), (h2, Sum.inl (cAint, 6, Sum.inr (Sum.inr (Sum.inr (Sum.inr (fun j => some (h4 j)))))))]) [0, 1, 2] (by decide) rfl
  have hK9 := hK.sub (tys' := []) [] rfl
  exact W.iret (v := y_2) hx hb hr (fun t ht hW => ⟨⟨y_2, (), rfl, trivial, by rw [ht]; exact hP9, va_K.moved hW.alike hK9, hD9⟩, hS.F ht⟩) hS.2.2 dX6_sum_11
set_option maxHeartbeats 4000000 in
set_option maxRecDepth 100000 in
theorem g_X6_howMany_0 (l : Launch) (dC : Nat → ClassId) (dI : Nat → Nat → Nat) (h0 : Nat) (h1 : Nat) (h2 : Nat) (h3 : Nat) (h4 : Nat) (sz : Nat) (n0_pieceCount : Int32) (tn0_pieceCount : 0 ≤ n0_pieceCount.toInt ∧ n0_pieceCount.toInt ≤ 5) : Met l yX6_howMany wsX6_howMany ({ frames := 0, cells := 0, slots := 0, locals := 0 }) (va_Pc [.ref h0] (fun U => U.heap.size = sz ∧ va_P (dC, dI) vwCl [(h0, Sum.inr (6, [Value.ref h1, Value.ref h2, Value.ref h3, Value.ref h4, Value.int n0_pieceCount]))] U.heap ∧ va_K (dC, dI) vwCl [] U ∧ va_D (fun _ => True) [(h0, Sum.inr (6, [Value.ref h1, Value.ref h2, Value.ref h3, Value.ref h4, Value.int n0_pieceCount]))])) (va_Qi (fun (r : Int32) (_ : Unit) => n0_pieceCount = r) (fun (_ : Unit) t => va_P (dC, dI) vwCl [(h0, Sum.inr (6, [Value.ref h1, Value.ref h2, Value.ref h3, Value.ref h4, Value.int n0_pieceCount]))] t.heap ∧ va_K (dC, dI) vwCl [] t ∧ va_D (va_A [(h0, Sum.inr (6, [Value.ref h1, Value.ref h2, Value.ref h3, Value.ref h4, Value.int n0_pieceCount]))] sz) [(h0, Sum.inr (6, [Value.ref h1, Value.ref h2, Value.ref h3, Value.ref h4, Value.int n0_pieceCount]))]) (va_A [(h0, Sum.inr (6, [Value.ref h1, Value.ref h2, Value.ref h3, Value.ref h4, Value.int n0_pieceCount]))] sz)) 0 0 (va_A [(h0, Sum.inr (6, [Value.ref h1, Value.ref h2, Value.ref h3, Value.ref h4, Value.int n0_pieceCount]))] sz) := by
  refine Met.ofW (cc := cX6_howMany) (maxL := 1) (ret := (some .int)) (by decide) rfl ?_
  intro p e s m args below meth c s₁ B hml hv
  obtain ⟨rfl, hsz, hP, hK, hD0⟩ := hv
  have hx := B.exec
  have hb := B.bytes
  have hr := B.returns
  have hts := atoms_spec (ws := wsX6_howMany) B.pre
  have hown : s.vm.findClass RX6 = some m.cls := findClass_of_methodNamed B.named
  have hlocks := B.notSynchronized
  subst hsz
  have hD := hD0.self (sz := s.heap.size)
  generalize hAe : va_A [(h0, Sum.inr (6, [Value.ref h1, Value.ref h2, Value.ref h3, Value.ref h4, Value.int n0_pieceCount]))] s.heap.size = A at hD ⊢
  have hA : ∀ q : Nat, s.heap.size ≤ q → A q := fun q h => by rw [← hAe]; exact Or.inr h
  have hS : va_S A s.heap s.heap [] := va_S.rf
  have hP : va_P (dC, dI) vwCl [(h0, Sum.inr (6, [Value.ref h1, Value.ref h2, Value.ref h3, Value.ref h4, Value.int n0_pieceCount]))] s.heap := hP
  have hl := lv_entry ([.ref h0]) (n := 1) (Nat.le_of_ble_eq_true rfl)
  rw [lg_entry_eq]
  generalize (lg_sl ([.ref h0]) ++ List.replicate (1 - (lg_sl ([.ref h0])).length) Slot.unset).toArray = ls at hl ⊢
  have hl : lv_has ls 1 [(0, .ref h0)] := hl
  refine lv_aload_n hx hb dX6_howMany_0 rfl (lv_at hl 0 rfl) ?_
  refine va_get (D := (dC, dI)) (ci := 6) (v := .int n0_pieceCount) (C := RX6) (T := TX6) (N := 5) hx hb hts (fun _ h => List.mem_cons_of_mem _ (List.mem_append_right _ h)) hown hK hP 0 rfl rfl 4 (by decide) (hts (.fieldLink RX6 40 "KinkStreet$Pieces" "pieceCount" "I") (List.mem_of_getElem? (i := 1) rfl)) (fun _ h9 => h9) rfl dX6_howMany_1 ?_
  obtain ⟨hP9, hD9⟩ := kk_leafout (wc := [(h0, Sum.inr (6, [Value.ref h1, Value.ref h2, Value.ref h3, Value.ref h4, Value.int n0_pieceCount]))]) hP hD [0] (by decide) rfl
  have hK9 := hK.sub (tys' := []) [] rfl
  exact W.iret (v := n0_pieceCount) hx hb hr (fun t ht hW => ⟨⟨n0_pieceCount, (), rfl, rfl, by rw [ht]; exact hP9, va_K.moved hW.alike hK9, hD9⟩, hS.F ht⟩) hS.2.2 dX6_howMany_4
set_option maxHeartbeats 4000000 in
set_option maxRecDepth 100000 in
theorem g_X6_begin_0 (l : Launch) (dC : Nat → ClassId) (dI : Nat → Nat → Nat) (h0 : Nat) (h1 : Nat) (h2 : Nat) (h3 : Nat) (h4 : Nat) (cint : ClassId) (sz : Nat) (p0 : Int32) (n0_pieceCount : Int32) (f1 : Nat → Int32) (tn0_pieceCount : 0 ≤ n0_pieceCount.toInt ∧ n0_pieceCount.toInt ≤ 5) (bf1 : ∀ j : Nat, j < 5 → 0 ≤ (f1 j).toInt ∧ (f1 j).toInt ≤ 40 + 2 * (j : Int)) : Met l yX6_begin wsX6_begin ({ frames := 0, cells := 0, slots := 0, locals := 0 }) (va_Pc [.ref h0, .int p0] (fun U => U.heap.size = sz ∧ va_P (dC, dI) vwCl [(h0, Sum.inr (6, [Value.ref h2, Value.ref h3, Value.ref h4, Value.ref h1, Value.int n0_pieceCount])), (h1, Sum.inl (cint, 5, Sum.inl f1))] U.heap ∧ va_K (dC, dI) vwCl [(cint, .int)] U ∧ va_D (fun _ => True) [(h0, Sum.inr (6, [Value.ref h2, Value.ref h3, Value.ref h4, Value.ref h1, Value.int n0_pieceCount])), (h1, Sum.inl (cint, 5, Sum.inl f1))])) (va_Qi (fun (r : Int32) (_ : Unit) => ((-1) ≤ r.toInt ∧ r.toInt ≤ 48)) (fun (_ : Unit) t => va_P (dC, dI) vwCl [(h0, Sum.inr (6, [Value.ref h2, Value.ref h3, Value.ref h4, Value.ref h1, Value.int n0_pieceCount])), (h1, Sum.inl (cint, 5, Sum.inl f1))] t.heap ∧ va_K (dC, dI) vwCl [] t ∧ va_D (va_A [(h0, Sum.inr (6, [Value.ref h2, Value.ref h3, Value.ref h4, Value.ref h1, Value.int n0_pieceCount])), (h1, Sum.inl (cint, 5, Sum.inl f1))] sz) [(h0, Sum.inr (6, [Value.ref h2, Value.ref h3, Value.ref h4, Value.ref h1, Value.int n0_pieceCount])), (h1, Sum.inl (cint, 5, Sum.inl f1))]) (va_A [(h0, Sum.inr (6, [Value.ref h2, Value.ref h3, Value.ref h4, Value.ref h1, Value.int n0_pieceCount])), (h1, Sum.inl (cint, 5, Sum.inl f1))] sz)) 0 0 (va_A [(h0, Sum.inr (6, [Value.ref h2, Value.ref h3, Value.ref h4, Value.ref h1, Value.int n0_pieceCount])), (h1, Sum.inl (cint, 5, Sum.inl f1))] sz) := by
  refine Met.ofW (cc := cX6_begin) (maxL := 2) (ret := (some .int)) (by decide) rfl ?_
  intro p e s m args below meth c s₁ B hml hv
  obtain ⟨rfl, hsz, hP, hK, hD0⟩ := hv
  have hx := B.exec
  have hb := B.bytes
  have hr := B.returns
  have hts := atoms_spec (ws := wsX6_begin) B.pre
  have hown : s.vm.findClass RX6 = some m.cls := findClass_of_methodNamed B.named
  have hlocks := B.notSynchronized
  subst hsz
  have hD := hD0.self (sz := s.heap.size)
  generalize hAe : va_A [(h0, Sum.inr (6, [Value.ref h2, Value.ref h3, Value.ref h4, Value.ref h1, Value.int n0_pieceCount])), (h1, Sum.inl (cint, 5, Sum.inl f1))] s.heap.size = A at hD ⊢
  have hA : ∀ q : Nat, s.heap.size ≤ q → A q := fun q h => by rw [← hAe]; exact Or.inr h
  have hS : va_S A s.heap s.heap [] := va_S.rf
  have hP : va_P (dC, dI) vwCl [(h0, Sum.inr (6, [Value.ref h2, Value.ref h3, Value.ref h4, Value.ref h1, Value.int n0_pieceCount])), (h1, Sum.inl (cint, 5, Sum.inl f1))] s.heap := hP
  have hl := lv_entry ([.ref h0, .int p0]) (n := 2) (Nat.le_of_ble_eq_true rfl)
  rw [lg_entry_eq]
  generalize (lg_sl ([.ref h0, .int p0]) ++ List.replicate (2 - (lg_sl ([.ref h0, .int p0])).length) Slot.unset).toArray = ls at hl ⊢
  have hl : lv_has ls 2 [(0, .ref h0), (1, .int p0)] := hl
  refine lv_iload_n hx hb dX6_begin_0 rfl (lv_at hl 1 rfl) ?_
  refine lv_if_lt (tgt := 22) hx hb dX6_begin_1 (by decide) (fun c_1 => ?_) (fun c_1 => ?_)
  · have t_1 : p0.toInt < 0 := kk_lt c_1
    refine lv_iconst (v := (-1)) hx hb dX6_begin_22 (by decide) ?_
    obtain ⟨hP9, hD9⟩ := kk_leafout (wc := [(h0, Sum.inr (6, [Value.ref h2, Value.ref h3, Value.ref h4, Value.ref h1, Value.int n0_pieceCount])), (h1, Sum.inl (cint, 5, Sum.inl f1))]) hP hD [0, 1] (by decide) rfl
    have hK9 := hK.sub (tys' := []) [] rfl
    exact W.iret (v := (-1)) hx hb hr (fun t ht hW => ⟨⟨(-1), (), rfl, (by show (-1) ≤ ((-1) : Int32).toInt ∧ ((-1) : Int32).toInt ≤ 48; first | decide | (constructor <;> (have := kk_rng p0; omega))), by rw [ht]; exact hP9, va_K.moved hW.alike hK9, hD9⟩, hS.F ht⟩) hS.2.2 dX6_begin_23
  · have t_1 : 0 ≤ p0.toInt := kk_nlt c_1
    refine lv_iload_n hx hb dX6_begin_4 rfl (lv_at hl 1 rfl) ?_
    refine lv_aload_n hx hb dX6_begin_5 rfl (lv_at hl 0 rfl) ?_
    refine va_get (D := (dC, dI)) (ci := 6) (v := .ref h1) (C := RX6) (T := TX6) (N := 5) hx hb hts (fun _ h => List.mem_cons_of_mem _ (List.mem_append_right _ h)) hown hK hP 0 rfl rfl 3 (by decide) (hts (.fieldLink RX6 23 "KinkStreet$Pieces" "begins" "[I") (List.mem_of_getElem? (i := 1) rfl)) (fun _ h9 => h9) rfl dX6_begin_6 ?_
    refine va_alen (v := 5) hx hb hK hP 1 0 rfl rfl rfl dX6_begin_9 ?_
    refine lv_icmp_ge (tgt := 22) hx hb dX6_begin_10 (by decide) (fun c_2 => ?_) (fun c_2 => ?_)
    · have t_2 : 5 ≤ p0.toInt := kk_le c_2
      refine lv_iconst (v := (-1)) hx hb dX6_begin_22 (by decide) ?_
      obtain ⟨hP9, hD9⟩ := kk_leafout (wc := [(h0, Sum.inr (6, [Value.ref h2, Value.ref h3, Value.ref h4, Value.ref h1, Value.int n0_pieceCount])), (h1, Sum.inl (cint, 5, Sum.inl f1))]) hP hD [0, 1] (by decide) rfl
      have hK9 := hK.sub (tys' := []) [] rfl
      exact W.iret (v := (-1)) hx hb hr (fun t ht hW => ⟨⟨(-1), (), rfl, (by show (-1) ≤ ((-1) : Int32).toInt ∧ ((-1) : Int32).toInt ≤ 48; first | decide | (constructor <;> (have := kk_rng p0; omega))), by rw [ht]; exact hP9, va_K.moved hW.alike hK9, hD9⟩, hS.F ht⟩) hS.2.2 dX6_begin_23
    · have t_2 : p0.toInt < 5 := kk_nle c_2
      refine lv_aload_n hx hb dX6_begin_13 rfl (lv_at hl 0 rfl) ?_
      refine va_get (D := (dC, dI)) (ci := 6) (v := .ref h1) (C := RX6) (T := TX6) (N := 5) hx hb hts (fun _ h => List.mem_cons_of_mem _ (List.mem_append_right _ h)) hown hK hP 0 rfl rfl 3 (by decide) (hts (.fieldLink RX6 23 "KinkStreet$Pieces" "begins" "[I") (List.mem_of_getElem? (i := 1) rfl)) (fun _ h9 => h9) rfl dX6_begin_14 ?_
      refine lv_iload_n hx hb dX6_begin_17 rfl (lv_at hl 1 rfl) ?_
      have hi_3 : vp_in p0 5 := (vp_in_iff.mpr ⟨by omega, by omega⟩)
      refine va_iald hx hb hK hP 1 0 rfl rfl hi_3 dX6_begin_18 ?_
      refine lv_topi (fun y_3 e_3 => ?_)
      have t_3 : 0 ≤ y_3.toInt ∧ y_3.toInt ≤ 40 + 2 * ((p0 : Int32).toNatClampNeg : Int) := by rw [e_3]; exact bf1 _ (Nat.not_le.mp fun q => hi_3 (Or.inr q))
      have u_3 := kk_tn (x := (p0 : Int32)) (by show 0 ≤ (p0 : Int32).toInt; omega)
      have t_3 : 0 ≤ y_3.toInt ∧ y_3.toInt ≤ 40 + 2 * p0.toInt := by omega
      clear e_3
      refine lv_goto (tgt := 23) hx hb dX6_begin_19 (by decide) ?_
      obtain ⟨hP9, hD9⟩ := kk_leafout (wc := [(h0, Sum.inr (6, [Value.ref h2, Value.ref h3, Value.ref h4, Value.ref h1, Value.int n0_pieceCount])), (h1, Sum.inl (cint, 5, Sum.inl f1))]) hP hD [0, 1] (by decide) rfl
      have hK9 := hK.sub (tys' := []) [] rfl
      exact W.iret (v := y_3) hx hb hr (fun t ht hW => ⟨⟨y_3, (), rfl, (by show (-1) ≤ (y_3 : Int32).toInt ∧ (y_3 : Int32).toInt ≤ 48; first | decide | (constructor <;> (omega))), by rw [ht]; exact hP9, va_K.moved hW.alike hK9, hD9⟩, hS.F ht⟩) hS.2.2 dX6_begin_23
set_option maxHeartbeats 4000000 in
set_option maxRecDepth 100000 in
theorem g_X5_isKind_0 (l : Launch) (dC : Nat → ClassId) (dI : Nat → Nat → Nat) (sz : Nat) (p0 : Int32) : Met l yX5_isKind wsX5_isKind ({ frames := 0, cells := 0, slots := 0, locals := 0 }) (va_Pc [.int p0] (fun U => U.heap.size = sz ∧ va_P (dC, dI) vwCl [] U.heap ∧ va_K (dC, dI) vwCl [] U ∧ va_D (fun _ => True) [])) (va_Qi (fun (r : Int32) (_ : Unit) => ((0 : Int32) = r) ∨ (0 ≤ p0.toInt ∧ p0.toInt < 8 ∧ (1 : Int32) = r)) (fun (_ : Unit) t => va_P (dC, dI) vwCl [] t.heap ∧ va_K (dC, dI) vwCl [] t ∧ va_D (va_A [] sz) []) (va_A [] sz)) 0 0 (va_A [] sz) := by
  refine Met.ofW (cc := cX5_isKind) (maxL := 1) (ret := (some .boolean)) (by decide) rfl ?_
  intro p e s m args below meth c s₁ B hml hv
  obtain ⟨rfl, hsz, hP, hK, hD0⟩ := hv
  have hx := B.exec
  have hb := B.bytes
  have hr := B.returns
  have hts := atoms_spec (ws := wsX5_isKind) B.pre
  have hown : s.vm.findClass RX5 = some m.cls := findClass_of_methodNamed B.named
  have hlocks := B.notSynchronized
  subst hsz
  have hD := hD0.self (sz := s.heap.size)
  generalize hAe : va_A [] s.heap.size = A at hD ⊢
  have hA : ∀ q : Nat, s.heap.size ≤ q → A q := fun q h => by rw [← hAe]; exact Or.inr h
  have hS : va_S A s.heap s.heap [] := va_S.rf
  have hP : va_P (dC, dI) vwCl [] s.heap := hP
  have hl := lv_entry ([.int p0]) (n := 1) (Nat.le_of_ble_eq_true rfl)
  rw [lg_entry_eq]
  generalize (lg_sl ([.int p0]) ++ List.replicate (1 - (lg_sl ([.int p0])).length) Slot.unset).toArray = ls at hl ⊢
  have hl : lv_has ls 1 [(0, .int p0)] := hl
  refine lv_iload_n hx hb dX5_isKind_0 rfl (lv_at hl 0 rfl) ?_
  refine lv_if_lt (tgt := 14) hx hb dX5_isKind_1 (by decide) (fun c_1 => ?_) (fun c_1 => ?_)
  · have t_1 : p0.toInt < 0 := kk_lt c_1
    refine lv_iconst (v := 0) hx hb dX5_isKind_14 (by decide) ?_
    obtain ⟨hP9, hD9⟩ := kk_leafout (wc := []) hP hD [] (by decide) rfl
    have hK9 := hK.sub (tys' := []) [] rfl
    exact W.zret (v := 0) hx hb hr rfl (fun t ht hW => ⟨⟨0, (), rfl, Or.inl rfl, by rw [ht]; exact hP9, va_K.moved hW.alike hK9, hD9⟩, hS.F ht⟩) hS.2.2 dX5_isKind_15
  · have t_1 : 0 ≤ p0.toInt := kk_nlt c_1
    refine lv_iload_n hx hb dX5_isKind_4 rfl (lv_at hl 0 rfl) ?_
    refine lv_bipush (v := 8) hx hb dX5_isKind_5 (by decide) ?_
    refine lv_icmp_ge (tgt := 14) hx hb dX5_isKind_7 (by decide) (fun c_2 => ?_) (fun c_2 => ?_)
    · have t_2 : 8 ≤ p0.toInt := kk_le c_2
      refine lv_iconst (v := 0) hx hb dX5_isKind_14 (by decide) ?_
      obtain ⟨hP9, hD9⟩ := kk_leafout (wc := []) hP hD [] (by decide) rfl
      have hK9 := hK.sub (tys' := []) [] rfl
      exact W.zret (v := 0) hx hb hr rfl (fun t ht hW => ⟨⟨0, (), rfl, Or.inl rfl, by rw [ht]; exact hP9, va_K.moved hW.alike hK9, hD9⟩, hS.F ht⟩) hS.2.2 dX5_isKind_15
    · have t_2 : p0.toInt < 8 := kk_nle c_2
      refine lv_iconst (v := 1) hx hb dX5_isKind_10 (by decide) ?_
      refine lv_goto (tgt := 15) hx hb dX5_isKind_11 (by decide) ?_
      obtain ⟨hP9, hD9⟩ := kk_leafout (wc := []) hP hD [] (by decide) rfl
      have hK9 := hK.sub (tys' := []) [] rfl
      exact W.zret (v := 1) hx hb hr rfl (fun t ht hW => ⟨⟨1, (), rfl, Or.inr (⟨by first | assumption | (omega), by first | assumption | (omega), rfl⟩), by rw [ht]; exact hP9, va_K.moved hW.alike hK9, hD9⟩, hS.F ht⟩) hS.2.2 dX5_isKind_15
set_option maxHeartbeats 4000000 in
set_option maxRecDepth 100000 in
theorem g_X5_isUnder_0 (l : Launch) (dC : Nat → ClassId) (dI : Nat → Nat → Nat) (sz : Nat) (p0 : Int32) (p1 : Int32) (aABOVE : Nat) : Met l yX5_isUnder wsX5_isUnder ({ frames := 1, cells := 0, slots := 0, locals := 20 }) (va_Pc [.int p0, .int p1] (fun U => U.heap.size = sz ∧ va_P (dC, dI) vwCl [] U.heap ∧ va_K (dC, dI) vwCl [] U ∧ va_D (fun _ => True) [] ∧ va_Z "KinkStreet$Lines" "ABOVE" "[I" (.ref aABOVE) (va_A [] sz) U U.heap ∧ va_T .int aABOVE 8 tb_ABOVE (va_A [] sz) U U.heap)) (va_Qi (fun (r : Int32) (_ : Unit) => ((0 : Int32) = r) ∨ (0 ≤ p1.toInt ∧ p1.toInt ≤ 7 ∧ (1 : Int32) = r)) (fun (_ : Unit) t => va_P (dC, dI) vwCl [] t.heap ∧ va_K (dC, dI) vwCl [] t ∧ va_D (va_A [] sz) []) (va_A [] sz)) 0 0 (va_A [] sz) := by
  refine Met.ofW (cc := cX5_isUnder) (maxL := 4) (ret := (some .boolean)) (by decide) rfl ?_
  intro p e s m args below meth c s₁ B hml hv
  obtain ⟨rfl, hsz, hP, hK, hD0, hZABOVE, hTABOVE⟩ := hv
  have hx := B.exec
  have hb := B.bytes
  have hr := B.returns
  have hts := atoms_spec (ws := wsX5_isUnder) B.pre
  have hown : s.vm.findClass RX5 = some m.cls := findClass_of_methodNamed B.named
  have hlocks := B.notSynchronized
  subst hsz
  have hD := hD0.self (sz := s.heap.size)
  generalize hAe : va_A [] s.heap.size = A at hD hZABOVE hTABOVE ⊢
  have hA : ∀ q : Nat, s.heap.size ≤ q → A q := fun q h => by rw [← hAe]; exact Or.inr h
  have hS : va_S A s.heap s.heap [] := va_S.rf
  have hP : va_P (dC, dI) vwCl [] s.heap := hP
  have hl := lv_entry ([.int p0, .int p1]) (n := 4) (Nat.le_of_ble_eq_true rfl)
  rw [lg_entry_eq]
  generalize (lg_sl ([.int p0, .int p1]) ++ List.replicate (4 - (lg_sl ([.int p0, .int p1])).length) Slot.unset).toArray = ls at hl ⊢
  have hl : lv_has ls 4 [(0, .int p0), (1, .int p1)] := hl
  refine lv_iload_n hx hb dX5_isUnder_0 rfl (lv_at hl 0 rfl) ?_
  refine lv_istore_n (lv' := [(2, .int p0), (0, .int p0), (1, .int p1)]) hx hb dX5_isUnder_1 rfl hl (by decide) rfl (fun ls hl => ?_)
  refine lv_iconst (v := 0) hx hb dX5_isUnder_2 (by decide) ?_
  refine lv_istore_n (lv' := [(3, .int 0), (2, .int p0), (0, .int p0), (1, .int p1)]) hx hb dX5_isUnder_3 rfl hl (by decide) rfl (fun ls hl => ?_)
  refine kk_loop (σ := Int32 × Int32) (fun x H locs ls => (0 ≤ x.1.toInt ∧ x.1.toInt ≤ 8) ∧ va_P (dC, dI) vwCl [] H ∧ va_D A [] ∧ va_S A s.heap H locs ∧ lv_has ls 4 [(3, .int x.1), (2, .int x.2), (0, .int p0), (1, .int p1)]) (fun x => ((8 : Int) - x.1.toInt).toNat) ?_ (0, p0) _ _ _ ⟨(by show 0 ≤ (0 : Int32).toInt ∧ (0 : Int32).toInt ≤ 8; first | decide | (constructor <;> (omega))), hP, hD, hS, hl⟩
  rintro ⟨i_1_0, i_1_1⟩ H locs ls ⟨t_1_0, hP, hD, hS, hl⟩ ih_1
  have t_1_0 : (0 ≤ i_1_0.toInt ∧ i_1_0.toInt ≤ 8) := t_1_0
  have hl : lv_has ls 4 [(3, .int i_1_0), (2, .int i_1_1), (0, .int p0), (1, .int p1)] := hl
  have hP : va_P (dC, dI) vwCl [] H := hP
  have hD : va_D A [] := hD
  refine lv_iload_n hx hb dX5_isUnder_4 rfl (lv_at hl 0 rfl) ?_
  refine lv_bipush (v := 8) hx hb dX5_isUnder_5 (by decide) ?_
  refine lv_icmp_ge (tgt := 36) hx hb dX5_isUnder_7 (by decide) (fun c_2 => ?_) (fun c_2 => ?_)
  · have t_2 : 8 ≤ i_1_0.toInt := kk_le c_2
    refine lv_iconst (v := 0) hx hb dX5_isUnder_36 (by decide) ?_
    obtain ⟨hP9, hD9⟩ := kk_leafout (wc := []) hP hD [] (by decide) rfl
    have hK9 := hK.sub (tys' := []) [] rfl
    exact W.zret (v := 0) hx hb hr rfl (fun t ht hW => ⟨⟨0, (), rfl, Or.inl rfl, by rw [ht]; exact hP9, va_K.moved hW.alike hK9, hD9⟩, hS.F ht⟩) hS.2.2 dX5_isUnder_37
  · have t_2 : i_1_0.toInt < 8 := kk_nle c_2
    refine lv_iload_n hx hb dX5_isUnder_10 rfl (lv_at hl 1 rfl) ?_
    obtain ⟨hPc, hDc, hFc⟩ := kk_cutout (wc := []) hP hD hS hA [] (by decide) rfl
    have hKc := hK.sub (tys' := []) [] rfl
    refine va_calli (va_runS (As := [.int i_1_1]) (rest := []) ⟨hx, hb, hml, hown, hts⟩ (g_X5_isKind_0 l dC dI H.size i_1_1) (va_cwS 1 hts gX5_isUnder_X5_isKind rfl rfl rfl (by decide +kernel) ⟨Nat.le_of_ble_eq_true rfl, Nat.le_of_ble_eq_true rfl⟩) ⟨fun a U g mk q => by obtain ⟨q0, q1, qP, qK, qD⟩ := q; exact ⟨q0, q1, qP, va_K.moved (u := U) (U := U.calling g mk a) (Vm.Alike.refl U.vm) qK, qD⟩, fun U hU hW => ⟨rfl, by rw [hU], by rw [hU]; exact hPc, va_K.moved hW.alike hKc, hDc.weaken (fun _ _ _ _ => trivial)⟩⟩ rfl rfl hl.1 rfl (lv_room (Nat.le_of_ble_eq_true rfl)) dX5_isUnder_11 ⟨Nat.le_of_ble_eq_true rfl, Nat.le_of_ble_eq_true rfl⟩) hS (fun q _ h => hFc q h) hFc (fun r_3 u t H1 locs ht hvm hw hB hz1 hk1 hS => ?_)
    obtain ⟨hP1, hK1, hD1⟩ := hB
    rw [ht] at hP1
    have hK1 := va_K.moved hvm.symm hK1
    obtain ⟨hP, hD⟩ := va_join (wr := []) (w1 := []) hP hD [] [] rfl rfl (by decide) (by decide) hk1 hFc hP1 hD1
    generalize H1 = H at hP hS ⊢
    have hP : va_P (dC, dI) vwCl [] H := hP
    have hD : va_D A [] := hD
    rcases hw with ⟨rfl⟩ | ⟨t_3_0, t_3_1, rfl⟩
    · skip
      refine lv_if_eq (tgt := 36) hx hb dX5_isUnder_14 (by decide) (fun _ => ?_) (fun c => absurd c (by decide))
      refine lv_iconst (v := 0) hx hb dX5_isUnder_36 (by decide) ?_
      obtain ⟨hP9, hD9⟩ := kk_leafout (wc := []) hP hD [] (by decide) rfl
      have hK9 := hK.sub (tys' := []) [] rfl
      exact W.zret (v := 0) hx hb hr rfl (fun t ht hW => ⟨⟨0, (), rfl, Or.inl rfl, by rw [ht]; exact hP9, va_K.moved hW.alike hK9, hD9⟩, hS.F ht⟩) hS.2.2 dX5_isUnder_37
    · skip
      have t_3_0 : (0 : Int) ≤ i_1_1.toInt := t_3_0
      have t_3_1 : (i_1_1.toInt : Int) < 8 := t_3_1
      refine lv_if_eq (tgt := 36) hx hb dX5_isUnder_14 (by decide) (fun c => absurd c (by decide)) (fun _ => ?_)
      refine lv_iload_n hx hb dX5_isUnder_17 rfl (lv_at hl 1 rfl) ?_
      refine lv_iload_n hx hb dX5_isUnder_18 rfl (lv_at hl 3 rfl) ?_
      refine lv_icmp_ne (tgt := 24) hx hb dX5_isUnder_19 (by decide) (fun c_4 => ?_) (fun c_4 => ?_)
      · have t_4 : i_1_1.toInt ≠ p1.toInt := kk_ne c_4
        refine va_gets hx hb hZABOVE hS hown (hts (.fieldLink RX5 22 "KinkStreet$Lines" "ABOVE" "[I") (List.mem_of_getElem? (i := 1) rfl)) (fun _ h9 => h9) dX5_isUnder_24 ?_
        refine lv_iload_n hx hb dX5_isUnder_27 rfl (lv_at hl 1 rfl) ?_
        have hi_5 : vp_in i_1_1 8 := (vp_in_iff.mpr ⟨by omega, by omega⟩)
        obtain ⟨y_5, e_5, t_5⟩ := tb_ABOVE_b _ (Nat.not_le.mp fun q => hi_5 (Or.inr q))
        refine va_ti (v := .int y_5) hx hb hTABOVE hS hi_5 e_5 dX5_isUnder_28 ?_
        refine lv_istore_n (lv' := [(2, .int y_5), (3, .int i_1_0), (0, .int p0), (1, .int p1)]) hx hb dX5_isUnder_29 rfl hl (by decide) rfl (fun ls hl => ?_)
        refine lv_iinc (v := (i_1_0 + 1)) (lv' := [(3, .int (i_1_0 + 1)), (2, .int y_5), (0, .int p0), (1, .int p1)]) hx hb dX5_isUnder_30 hl (k := 1) rfl (by first | rfl | decide) (by decide) rfl (fun ls hl => ?_)
        refine lv_goto (tgt := 4) hx hb dX5_isUnder_33 (by decide) ?_
        exact ih_1 ((i_1_0 + 1), y_5) _ _ _ (by show ((8 : Int) - ((i_1_0 + 1)).toInt).toNat < ((8 : Int) - i_1_0.toInt).toNat; have := kk_add2 (x := i_1_0) (y := 1) (a := i_1_0.toInt) (b := 1) rfl rfl (by omega) (by omega); exact kk_mu (by omega) (by omega)) ⟨(by show 0 ≤ ((i_1_0 + 1) : Int32).toInt ∧ ((i_1_0 + 1) : Int32).toInt ≤ 8; first | decide | (constructor <;> (have := kk_add2 (x := i_1_0) (y := 1) (a := i_1_0.toInt) (b := 1) rfl rfl (by omega) (by omega); omega))), hP, hD, hS, lv_sub hl [0, 1, 2, 3] rfl⟩
      · have t_4 : i_1_1.toInt = p1.toInt := kk_eq c_4
        refine lv_iconst (v := 1) hx hb dX5_isUnder_22 (by decide) ?_
        obtain ⟨hP9, hD9⟩ := kk_leafout (wc := []) hP hD [] (by decide) rfl
        have hK9 := hK.sub (tys' := []) [] rfl
        exact W.zret (v := 1) hx hb hr rfl (fun t ht hW => ⟨⟨1, (), rfl, Or.inr (⟨by first | assumption | (omega), by first | assumption | (omega), rfl⟩), by rw [ht]; exact hP9, va_K.moved hW.alike hK9, hD9⟩, hS.F ht⟩) hS.2.2 dX5_isUnder_23
set_option maxHeartbeats 4000000 in
set_option maxRecDepth 100000 in
theorem g_X5_size_0 (l : Launch) (dC : Nat → ClassId) (dI : Nat → Nat → Nat) (h0 : Nat) (h1 : Nat) (h2 : Nat) (sz : Nat) (n0_size : Int32) (n0_ran : Int32) (tn0_size : 0 ≤ n0_size.toInt ∧ n0_size.toInt ≤ 50) (tn0_ran : 0 ≤ n0_ran.toInt ∧ n0_ran.toInt ≤ 1000) : Met l yX5_size wsX5_size ({ frames := 0, cells := 0, slots := 0, locals := 0 }) (va_Pc [.ref h0] (fun U => U.heap.size = sz ∧ va_P (dC, dI) vwCl [(h0, Sum.inr (5, [Value.ref h1, Value.int n0_size, Value.ref h2, Value.int n0_ran]))] U.heap ∧ va_K (dC, dI) vwCl [] U ∧ va_D (fun _ => True) [(h0, Sum.inr (5, [Value.ref h1, Value.int n0_size, Value.ref h2, Value.int n0_ran]))])) (va_Qi (fun (r : Int32) (_ : Unit) => n0_size = r) (fun (_ : Unit) t => va_P (dC, dI) vwCl [(h0, Sum.inr (5, [Value.ref h1, Value.int n0_size, Value.ref h2, Value.int n0_ran]))] t.heap ∧ va_K (dC, dI) vwCl [] t ∧ va_D (va_A [(h0, Sum.inr (5, [Value.ref h1, Value.int n0_size, Value.ref h2, Value.int n0_ran]))] sz) [(h0, Sum.inr (5, [Value.ref h1, Value.int n0_size, Value.ref h2, Value.int n0_ran]))]) (va_A [(h0, Sum.inr (5, [Value.ref h1, Value.int n0_size, Value.ref h2, Value.int n0_ran]))] sz)) 0 0 (va_A [(h0, Sum.inr (5, [Value.ref h1, Value.int n0_size, Value.ref h2, Value.int n0_ran]))] sz) := by
  refine Met.ofW (cc := cX5_size) (maxL := 1) (ret := (some .int)) (by decide) rfl ?_
  intro p e s m args below meth c s₁ B hml hv
  obtain ⟨rfl, hsz, hP, hK, hD0⟩ := hv
  have hx := B.exec
  have hb := B.bytes
  have hr := B.returns
  have hts := atoms_spec (ws := wsX5_size) B.pre
  have hown : s.vm.findClass RX5 = some m.cls := findClass_of_methodNamed B.named
  have hlocks := B.notSynchronized
  subst hsz
  have hD := hD0.self (sz := s.heap.size)
  generalize hAe : va_A [(h0, Sum.inr (5, [Value.ref h1, Value.int n0_size, Value.ref h2, Value.int n0_ran]))] s.heap.size = A at hD ⊢
  have hA : ∀ q : Nat, s.heap.size ≤ q → A q := fun q h => by rw [← hAe]; exact Or.inr h
  have hS : va_S A s.heap s.heap [] := va_S.rf
  have hP : va_P (dC, dI) vwCl [(h0, Sum.inr (5, [Value.ref h1, Value.int n0_size, Value.ref h2, Value.int n0_ran]))] s.heap := hP
  have hl := lv_entry ([.ref h0]) (n := 1) (Nat.le_of_ble_eq_true rfl)
  rw [lg_entry_eq]
  generalize (lg_sl ([.ref h0]) ++ List.replicate (1 - (lg_sl ([.ref h0])).length) Slot.unset).toArray = ls at hl ⊢
  have hl : lv_has ls 1 [(0, .ref h0)] := hl
  refine lv_aload_n hx hb dX5_size_0 rfl (lv_at hl 0 rfl) ?_
  refine va_get (D := (dC, dI)) (ci := 5) (v := .int n0_size) (C := RX5) (T := TX5) (N := 4) hx hb hts (fun _ h => List.mem_cons_of_mem _ (List.mem_append_right _ h)) hown hK hP 0 rfl rfl 1 (by decide) (hts (.fieldLink RX5 25 "KinkStreet$Lines" "size" "I") (List.mem_of_getElem? (i := 1) rfl)) (fun _ h9 => h9) rfl dX5_size_1 ?_
  obtain ⟨hP9, hD9⟩ := kk_leafout (wc := [(h0, Sum.inr (5, [Value.ref h1, Value.int n0_size, Value.ref h2, Value.int n0_ran]))]) hP hD [0] (by decide) rfl
  have hK9 := hK.sub (tys' := []) [] rfl
  exact W.iret (v := n0_size) hx hb hr (fun t ht hW => ⟨⟨n0_size, (), rfl, rfl, by rw [ht]; exact hP9, va_K.moved hW.alike hK9, hD9⟩, hS.F ht⟩) hS.2.2 dX5_size_4
set_option maxHeartbeats 4000000 in
set_option maxRecDepth 100000 in
theorem g_X5_isFull_0 (l : Launch) (dC : Nat → ClassId) (dI : Nat → Nat → Nat) (h0 : Nat) (h1 : Nat) (h2 : Nat) (sz : Nat) (n0_size : Int32) (n0_ran : Int32) (tn0_size : 0 ≤ n0_size.toInt ∧ n0_size.toInt ≤ 50) (tn0_ran : 0 ≤ n0_ran.toInt ∧ n0_ran.toInt ≤ 1000) : Met l yX5_isFull wsX5_isFull ({ frames := 0, cells := 0, slots := 0, locals := 0 }) (va_Pc [.ref h0] (fun U => U.heap.size = sz ∧ va_P (dC, dI) vwCl [(h0, Sum.inr (5, [Value.ref h1, Value.int n0_size, Value.ref h2, Value.int n0_ran]))] U.heap ∧ va_K (dC, dI) vwCl [] U ∧ va_D (fun _ => True) [(h0, Sum.inr (5, [Value.ref h1, Value.int n0_size, Value.ref h2, Value.int n0_ran]))])) (va_Qi (fun (r : Int32) (_ : Unit) => (n0_size.toInt < 50 ∧ (0 : Int32) = r) ∨ (50 ≤ n0_size.toInt ∧ (1 : Int32) = r)) (fun (_ : Unit) t => va_P (dC, dI) vwCl [(h0, Sum.inr (5, [Value.ref h1, Value.int n0_size, Value.ref h2, Value.int n0_ran]))] t.heap ∧ va_K (dC, dI) vwCl [] t ∧ va_D (va_A [(h0, Sum.inr (5, [Value.ref h1, Value.int n0_size, Value.ref h2, Value.int n0_ran]))] sz) [(h0, Sum.inr (5, [Value.ref h1, Value.int n0_size, Value.ref h2, Value.int n0_ran]))]) (va_A [(h0, Sum.inr (5, [Value.ref h1, Value.int n0_size, Value.ref h2, Value.int n0_ran]))] sz)) 0 0 (va_A [(h0, Sum.inr (5, [Value.ref h1, Value.int n0_size, Value.ref h2, Value.int n0_ran]))] sz) := by
  refine Met.ofW (cc := cX5_isFull) (maxL := 1) (ret := (some .boolean)) (by decide) rfl ?_
  intro p e s m args below meth c s₁ B hml hv
  obtain ⟨rfl, hsz, hP, hK, hD0⟩ := hv
  have hx := B.exec
  have hb := B.bytes
  have hr := B.returns
  have hts := atoms_spec (ws := wsX5_isFull) B.pre
  have hown : s.vm.findClass RX5 = some m.cls := findClass_of_methodNamed B.named
  have hlocks := B.notSynchronized
  subst hsz
  have hD := hD0.self (sz := s.heap.size)
  generalize hAe : va_A [(h0, Sum.inr (5, [Value.ref h1, Value.int n0_size, Value.ref h2, Value.int n0_ran]))] s.heap.size = A at hD ⊢
  have hA : ∀ q : Nat, s.heap.size ≤ q → A q := fun q h => by rw [← hAe]; exact Or.inr h
  have hS : va_S A s.heap s.heap [] := va_S.rf
  have hP : va_P (dC, dI) vwCl [(h0, Sum.inr (5, [Value.ref h1, Value.int n0_size, Value.ref h2, Value.int n0_ran]))] s.heap := hP
  have hl := lv_entry ([.ref h0]) (n := 1) (Nat.le_of_ble_eq_true rfl)
  rw [lg_entry_eq]
  generalize (lg_sl ([.ref h0]) ++ List.replicate (1 - (lg_sl ([.ref h0])).length) Slot.unset).toArray = ls at hl ⊢
  have hl : lv_has ls 1 [(0, .ref h0)] := hl
  refine lv_aload_n hx hb dX5_isFull_0 rfl (lv_at hl 0 rfl) ?_
  refine va_get (D := (dC, dI)) (ci := 5) (v := .int n0_size) (C := RX5) (T := TX5) (N := 4) hx hb hts (fun _ h => List.mem_cons_of_mem _ (List.mem_append_right _ h)) hown hK hP 0 rfl rfl 1 (by decide) (hts (.fieldLink RX5 25 "KinkStreet$Lines" "size" "I") (List.mem_of_getElem? (i := 1) rfl)) (fun _ h9 => h9) rfl dX5_isFull_1 ?_
  refine lv_bipush (v := 50) hx hb dX5_isFull_4 (by decide) ?_
  refine lv_icmp_lt (tgt := 13) hx hb dX5_isFull_6 (by decide) (fun c_1 => ?_) (fun c_1 => ?_)
  · have t_1 : n0_size.toInt < 50 := kk_lt c_1
    refine lv_iconst (v := 0) hx hb dX5_isFull_13 (by decide) ?_
    obtain ⟨hP9, hD9⟩ := kk_leafout (wc := [(h0, Sum.inr (5, [Value.ref h1, Value.int n0_size, Value.ref h2, Value.int n0_ran]))]) hP hD [0] (by decide) rfl
    have hK9 := hK.sub (tys' := []) [] rfl
    exact W.zret (v := 0) hx hb hr rfl (fun t ht hW => ⟨⟨0, (), rfl, Or.inl ⟨by first | assumption | (omega), rfl⟩, by rw [ht]; exact hP9, va_K.moved hW.alike hK9, hD9⟩, hS.F ht⟩) hS.2.2 dX5_isFull_14
  · have t_1 : 50 ≤ n0_size.toInt := kk_nlt c_1
    refine lv_iconst (v := 1) hx hb dX5_isFull_9 (by decide) ?_
    refine lv_goto (tgt := 14) hx hb dX5_isFull_10 (by decide) ?_
    obtain ⟨hP9, hD9⟩ := kk_leafout (wc := [(h0, Sum.inr (5, [Value.ref h1, Value.int n0_size, Value.ref h2, Value.int n0_ran]))]) hP hD [0] (by decide) rfl
    have hK9 := hK.sub (tys' := []) [] rfl
    exact W.zret (v := 1) hx hb hr rfl (fun t ht hW => ⟨⟨1, (), rfl, Or.inr (⟨by first | assumption | (omega), rfl⟩), by rw [ht]; exact hP9, va_K.moved hW.alike hK9, hD9⟩, hS.F ht⟩) hS.2.2 dX5_isFull_14
set_option maxHeartbeats 4000000 in
set_option maxRecDepth 100000 in
theorem g_X5_has_0 (l : Launch) (dC : Nat → ClassId) (dI : Nat → Nat → Nat) (h0 : Nat) (h1 : Nat) (h2 : Nat) (sz : Nat) (p0 : Int32) (n0_size : Int32) (n0_ran : Int32) (tn0_size : 0 ≤ n0_size.toInt ∧ n0_size.toInt ≤ 50) (tn0_ran : 0 ≤ n0_ran.toInt ∧ n0_ran.toInt ≤ 1000) : Met l yX5_has wsX5_has ({ frames := 0, cells := 0, slots := 0, locals := 0 }) (va_Pc [.ref h0, .int p0] (fun U => U.heap.size = sz ∧ va_P (dC, dI) vwCl [(h0, Sum.inr (5, [Value.ref h1, Value.int n0_size, Value.ref h2, Value.int n0_ran]))] U.heap ∧ va_K (dC, dI) vwCl [] U ∧ va_D (fun _ => True) [(h0, Sum.inr (5, [Value.ref h1, Value.int n0_size, Value.ref h2, Value.int n0_ran]))])) (va_Qi (fun (r : Int32) (_ : Unit) => ((0 : Int32) = r) ∨ (0 ≤ p0.toInt ∧ p0.toInt < n0_size.toInt ∧ p0.toInt ≤ 49 ∧ (1 : Int32) = r)) (fun (_ : Unit) t => va_P (dC, dI) vwCl [(h0, Sum.inr (5, [Value.ref h1, Value.int n0_size, Value.ref h2, Value.int n0_ran]))] t.heap ∧ va_K (dC, dI) vwCl [] t ∧ va_D (va_A [(h0, Sum.inr (5, [Value.ref h1, Value.int n0_size, Value.ref h2, Value.int n0_ran]))] sz) [(h0, Sum.inr (5, [Value.ref h1, Value.int n0_size, Value.ref h2, Value.int n0_ran]))]) (va_A [(h0, Sum.inr (5, [Value.ref h1, Value.int n0_size, Value.ref h2, Value.int n0_ran]))] sz)) 0 0 (va_A [(h0, Sum.inr (5, [Value.ref h1, Value.int n0_size, Value.ref h2, Value.int n0_ran]))] sz) := by
  refine Met.ofW (cc := cX5_has) (maxL := 2) (ret := (some .boolean)) (by decide) rfl ?_
  intro p e s m args below meth c s₁ B hml hv
  obtain ⟨rfl, hsz, hP, hK, hD0⟩ := hv
  have hx := B.exec
  have hb := B.bytes
  have hr := B.returns
  have hts := atoms_spec (ws := wsX5_has) B.pre
  have hown : s.vm.findClass RX5 = some m.cls := findClass_of_methodNamed B.named
  have hlocks := B.notSynchronized
  subst hsz
  have hD := hD0.self (sz := s.heap.size)
  generalize hAe : va_A [(h0, Sum.inr (5, [Value.ref h1, Value.int n0_size, Value.ref h2, Value.int n0_ran]))] s.heap.size = A at hD ⊢
  have hA : ∀ q : Nat, s.heap.size ≤ q → A q := fun q h => by rw [← hAe]; exact Or.inr h
  have hS : va_S A s.heap s.heap [] := va_S.rf
  have hP : va_P (dC, dI) vwCl [(h0, Sum.inr (5, [Value.ref h1, Value.int n0_size, Value.ref h2, Value.int n0_ran]))] s.heap := hP
  have hl := lv_entry ([.ref h0, .int p0]) (n := 2) (Nat.le_of_ble_eq_true rfl)
  rw [lg_entry_eq]
  generalize (lg_sl ([.ref h0, .int p0]) ++ List.replicate (2 - (lg_sl ([.ref h0, .int p0])).length) Slot.unset).toArray = ls at hl ⊢
  have hl : lv_has ls 2 [(0, .ref h0), (1, .int p0)] := hl
  refine lv_iload_n hx hb dX5_has_0 rfl (lv_at hl 1 rfl) ?_
  refine lv_if_lt (tgt := 16) hx hb dX5_has_1 (by decide) (fun c_1 => ?_) (fun c_1 => ?_)
  · have t_1 : p0.toInt < 0 := kk_lt c_1
    refine lv_iconst (v := 0) hx hb dX5_has_16 (by decide) ?_
    obtain ⟨hP9, hD9⟩ := kk_leafout (wc := [(h0, Sum.inr (5, [Value.ref h1, Value.int n0_size, Value.ref h2, Value.int n0_ran]))]) hP hD [0] (by decide) rfl
    have hK9 := hK.sub (tys' := []) [] rfl
    exact W.zret (v := 0) hx hb hr rfl (fun t ht hW => ⟨⟨0, (), rfl, Or.inl rfl, by rw [ht]; exact hP9, va_K.moved hW.alike hK9, hD9⟩, hS.F ht⟩) hS.2.2 dX5_has_17
  · have t_1 : 0 ≤ p0.toInt := kk_nlt c_1
    refine lv_iload_n hx hb dX5_has_4 rfl (lv_at hl 1 rfl) ?_
    refine lv_aload_n hx hb dX5_has_5 rfl (lv_at hl 0 rfl) ?_
    refine va_get (D := (dC, dI)) (ci := 5) (v := .int n0_size) (C := RX5) (T := TX5) (N := 4) hx hb hts (fun _ h => List.mem_cons_of_mem _ (List.mem_append_right _ h)) hown hK hP 0 rfl rfl 1 (by decide) (hts (.fieldLink RX5 25 "KinkStreet$Lines" "size" "I") (List.mem_of_getElem? (i := 1) rfl)) (fun _ h9 => h9) rfl dX5_has_6 ?_
    refine lv_icmp_ge (tgt := 16) hx hb dX5_has_9 (by decide) (fun c_2 => ?_) (fun c_2 => ?_)
    · have t_2 : n0_size.toInt ≤ p0.toInt := kk_le c_2
      refine lv_iconst (v := 0) hx hb dX5_has_16 (by decide) ?_
      obtain ⟨hP9, hD9⟩ := kk_leafout (wc := [(h0, Sum.inr (5, [Value.ref h1, Value.int n0_size, Value.ref h2, Value.int n0_ran]))]) hP hD [0] (by decide) rfl
      have hK9 := hK.sub (tys' := []) [] rfl
      exact W.zret (v := 0) hx hb hr rfl (fun t ht hW => ⟨⟨0, (), rfl, Or.inl rfl, by rw [ht]; exact hP9, va_K.moved hW.alike hK9, hD9⟩, hS.F ht⟩) hS.2.2 dX5_has_17
    · have t_2 : p0.toInt < n0_size.toInt := kk_nle c_2
      refine lv_iconst (v := 1) hx hb dX5_has_12 (by decide) ?_
      refine lv_goto (tgt := 17) hx hb dX5_has_13 (by decide) ?_
      obtain ⟨hP9, hD9⟩ := kk_leafout (wc := [(h0, Sum.inr (5, [Value.ref h1, Value.int n0_size, Value.ref h2, Value.int n0_ran]))]) hP hD [0] (by decide) rfl
      have hK9 := hK.sub (tys' := []) [] rfl
      exact W.zret (v := 1) hx hb hr rfl (fun t ht hW => ⟨⟨1, (), rfl, Or.inr (⟨by first | assumption | (omega), by first | assumption | (omega), by first | assumption | (omega), rfl⟩), by rw [ht]; exact hP9, va_K.moved hW.alike hK9, hD9⟩, hS.F ht⟩) hS.2.2 dX5_has_17
set_option maxHeartbeats 4000000 in
set_option maxRecDepth 100000 in
theorem g_X5_append_0 (l : Launch) (dC : Nat → ClassId) (dI : Nat → Nat → Nat) (h0 : Nat) (h1 : Nat) (h2 : Nat) (cint : ClassId) (sz : Nat) (p0 : Int32) (tp0 : 0 ≤ p0.toInt ∧ p0.toInt ≤ 7) (n0_size : Int32) (n0_ran : Int32) (f1 : Nat → Int32) (tn0_size : 0 ≤ n0_size.toInt ∧ n0_size.toInt ≤ 50) (tn0_ran : 0 ≤ n0_ran.toInt ∧ n0_ran.toInt ≤ 1000) (bf1 : ∀ j, j < 50 → 0 ≤ (f1 j).toInt ∧ (f1 j).toInt ≤ 7) : Met l yX5_append wsX5_append ({ frames := 1, cells := 0, slots := 0, locals := 20 }) (va_Pc [.ref h0, .int p0] (fun U => U.heap.size = sz ∧ va_P (dC, dI) vwCl [(h0, Sum.inr (5, [Value.ref h1, Value.int n0_size, Value.ref h2, Value.int n0_ran])), (h1, Sum.inl (cint, 50, Sum.inl f1))] U.heap ∧ va_K (dC, dI) vwCl [(cint, .int)] U ∧ va_D (fun _ => True) [(h0, Sum.inr (5, [Value.ref h1, Value.int n0_size, Value.ref h2, Value.int n0_ran])), (h1, Sum.inl (cint, 50, Sum.inl f1))])) (va_Qi (fun (r : Int32) (_ : Unit) => ((-3) ≤ r.toInt ∧ r.toInt ≤ 49)) (fun (_ : Unit) t => ∃ (m0_size : Int32) (g1 : Nat → Int32), (1 ≤ m0_size.toInt ∧ m0_size.toInt ≤ 50) ∧ (∀ j, j < 50 → 0 ≤ (g1 j).toInt ∧ (g1 j).toInt ≤ 7) ∧ va_P (dC, dI) vwCl [(h0, Sum.inr (5, [Value.ref h1, Value.int m0_size, Value.ref h2, Value.int n0_ran])), (h1, Sum.inl (cint, 50, Sum.inl g1))] t.heap ∧ va_K (dC, dI) vwCl [] t ∧ va_D (va_A [(h0, Sum.inr (5, [Value.ref h1, Value.int n0_size, Value.ref h2, Value.int n0_ran])), (h1, Sum.inl (cint, 50, Sum.inl f1))] sz) [(h0, Sum.inr (5, [Value.ref h1, Value.int m0_size, Value.ref h2, Value.int n0_ran])), (h1, Sum.inl (cint, 50, Sum.inl g1))]) (va_A [(h0, Sum.inr (5, [Value.ref h1, Value.int n0_size, Value.ref h2, Value.int n0_ran])), (h1, Sum.inl (cint, 50, Sum.inl f1))] sz)) 0 0 (va_A [(h0, Sum.inr (5, [Value.ref h1, Value.int n0_size, Value.ref h2, Value.int n0_ran])), (h1, Sum.inl (cint, 50, Sum.inl f1))] sz) := by
  refine Met.ofW (cc := cX5_append) (maxL := 2) (ret := (some .int)) (by decide) rfl ?_
  intro p e s m args below meth c s₁ B hml hv
  obtain ⟨rfl, hsz, hP, hK, hD0⟩ := hv
  have hx := B.exec
  have hb := B.bytes
  have hr := B.returns
  have hts := atoms_spec (ws := wsX5_append) B.pre
  have hown : s.vm.findClass RX5 = some m.cls := findClass_of_methodNamed B.named
  have hlocks := B.notSynchronized
  subst hsz
  have hD := hD0.self (sz := s.heap.size)
  generalize hAe : va_A [(h0, Sum.inr (5, [Value.ref h1, Value.int n0_size, Value.ref h2, Value.int n0_ran])), (h1, Sum.inl (cint, 50, Sum.inl f1))] s.heap.size = A at hD ⊢
  have hA : ∀ q : Nat, s.heap.size ≤ q → A q := fun q h => by rw [← hAe]; exact Or.inr h
  have hS : va_S A s.heap s.heap [] := va_S.rf
  have hP : va_P (dC, dI) vwCl [(h0, Sum.inr (5, [Value.ref h1, Value.int n0_size, Value.ref h2, Value.int n0_ran])), (h1, Sum.inl (cint, 50, Sum.inl f1))] s.heap := hP
  have hl := lv_entry ([.ref h0, .int p0]) (n := 2) (Nat.le_of_ble_eq_true rfl)
  rw [lg_entry_eq]
  generalize (lg_sl ([.ref h0, .int p0]) ++ List.replicate (2 - (lg_sl ([.ref h0, .int p0])).length) Slot.unset).toArray = ls at hl ⊢
  have hl : lv_has ls 2 [(0, .ref h0), (1, .int p0)] := hl
  refine lv_aload_n hx hb dX5_append_0 rfl (lv_at hl 0 rfl) ?_
  obtain ⟨hPc, hDc, hFc⟩ := kk_cutout (wc := [(h0, Sum.inr (5, [Value.ref h1, Value.int n0_size, Value.ref h2, Value.int n0_ran]))]) hP hD hS hA [0] (by decide) rfl
  have hKc := hK.sub (tys' := []) [] rfl
  refine va_calli (va_runV (As := []) (rest := []) ⟨hx, hb, hml, hown, hts⟩ (g_X5_isFull_0 l dC dI h0 h1 h2 s.heap.size n0_size n0_ran tn0_size tn0_ran) (cwV 0 hts gX5_append_X5_isFull rfl rfl rfl (by decide +kernel) ⟨Nat.le_of_ble_eq_true rfl, Nat.le_of_ble_eq_true rfl⟩) ⟨fun a U g mk q => by obtain ⟨q0, q1, qP, qK, qD⟩ := q; exact ⟨q0, q1, qP, va_K.moved (u := U) (U := U.calling g mk a) (Vm.Alike.refl U.vm) qK, qD⟩, va_recv hKc hPc (ci := 5) (q0 := 0) rfl rfl, fun U hU hW => ⟨rfl, by rw [hU], by rw [hU]; exact hPc, va_K.moved hW.alike hKc, hDc.weaken (fun _ _ _ _ => trivial)⟩⟩ rfl rfl hl.1 rfl (lv_room (Nat.le_of_ble_eq_true rfl)) dX5_append_1 ⟨Nat.le_of_ble_eq_true rfl, Nat.le_of_ble_eq_true rfl⟩) hS (fun q _ h => hFc q h) hFc (fun r_1 u t H1 locs ht hvm hw hB hz1 hk1 hS => ?_)
  obtain ⟨hP1, hK1, hD1⟩ := hB
  rw [ht] at hP1
  have hK1 := va_K.moved hvm.symm hK1
  obtain ⟨hP, hD⟩ := va_join (wr := [(h1, Sum.inl (cint, 50, Sum.inl f1))]) (w1 := [(h0, Sum.inr (5, [Value.ref h1, Value.int n0_size, Value.ref h2, Value.int n0_ran]))]) hP hD [0] [1] rfl rfl (by decide) (by decide) hk1 hFc hP1 hD1
  generalize H1 = H at hP hS ⊢
  have hP : va_P (dC, dI) vwCl [(h1, Sum.inl (cint, 50, Sum.inl f1)), (h0, Sum.inr (5, [Value.ref h1, Value.int n0_size, Value.ref h2, Value.int n0_ran]))] H := hP
  have hD : va_D A [(h1, Sum.inl (cint, 50, Sum.inl f1)), (h0, Sum.inr (5, [Value.ref h1, Value.int n0_size, Value.ref h2, Value.int n0_ran]))] := hD
  rcases hw with ⟨t_1_0, rfl⟩ | ⟨t_1_0, rfl⟩
  · skip
    have t_1_0 : (n0_size.toInt : Int) < 50 := t_1_0
    refine lv_if_eq (tgt := 10) hx hb dX5_append_4 (by decide) (fun _ => ?_) (fun c => absurd c (by decide))
    refine lv_aload_n hx hb dX5_append_10 rfl (lv_at hl 0 rfl) ?_
    refine va_get (D := (dC, dI)) (ci := 5) (v := .ref h1) (C := RX5) (T := TX5) (N := 4) hx hb hts (fun _ h => List.mem_cons_of_mem _ (List.mem_append_right _ h)) hown hK hP 1 rfl rfl 0 (by decide) (hts (.fieldLink RX5 11 "KinkStreet$Lines" "kinds" "[I") (List.mem_of_getElem? (i := 1) rfl)) (fun _ h9 => h9) rfl dX5_append_11 ?_
    refine lv_aload_n hx hb dX5_append_14 rfl (lv_at hl 0 rfl) ?_
    refine va_get (D := (dC, dI)) (ci := 5) (v := .int n0_size) (C := RX5) (T := TX5) (N := 4) hx hb hts (fun _ h => List.mem_cons_of_mem _ (List.mem_append_right _ h)) hown hK hP 1 rfl rfl 1 (by decide) (hts (.fieldLink RX5 25 "KinkStreet$Lines" "size" "I") (List.mem_of_getElem? (i := 2) rfl)) (fun _ h9 => h9) rfl dX5_append_15 ?_
    refine lv_iload_n hx hb dX5_append_18 rfl (lv_at hl 1 rfl) ?_
    refine va_iast hx hb hK hP hD hS 0 0 rfl rfl (vp_in_iff.mpr ⟨by omega, by omega⟩) dX5_append_19 (fun H locs hP hD hS => ?_)
    have b_2 := kk_upb (k := (n0_size : Int32).toNatClampNeg) bf1 (show 0 ≤ (p0 : Int32).toInt ∧ (p0 : Int32).toInt ≤ 7 from by first | decide | (constructor <;> (omega)))
    generalize upd f1 (n0_size : Int32).toNatClampNeg p0 = f_2 at hP hD b_2
    have hP : va_P (dC, dI) vwCl [(h1, Sum.inl (cint, 50, Sum.inl f_2)), (h0, Sum.inr (5, [Value.ref h1, Value.int n0_size, Value.ref h2, Value.int n0_ran]))] H := hP
    have hD : va_D A [(h1, Sum.inl (cint, 50, Sum.inl f_2)), (h0, Sum.inr (5, [Value.ref h1, Value.int n0_size, Value.ref h2, Value.int n0_ran]))] := hD
    refine lv_aload_n hx hb dX5_append_20 rfl (lv_at hl 0 rfl) ?_
    refine lv_dup hx hb dX5_append_21 rfl ?_
    refine va_get (D := (dC, dI)) (ci := 5) (v := .int n0_size) (C := RX5) (T := TX5) (N := 4) hx hb hts (fun _ h => List.mem_cons_of_mem _ (List.mem_append_right _ h)) hown hK hP 1 rfl rfl 1 (by decide) (hts (.fieldLink RX5 25 "KinkStreet$Lines" "size" "I") (List.mem_of_getElem? (i := 2) rfl)) (fun _ h9 => h9) rfl dX5_append_22 ?_
    refine lv_dup_x1 hx hb dX5_append_25 rfl rfl ?_
    refine lv_iconst (v := 1) hx hb dX5_append_26 (by decide) ?_
    refine lv_iadd hx hb dX5_append_27 ?_
    refine va_put (D := (dC, dI)) (ci := 5) (v := .int (n0_size + 1)) (ty := .int) (C := RX5) (T := TX5) (N := 4) hx hb hts (fun _ h => List.mem_cons_of_mem _ (List.mem_append_right _ h)) tyX5 tyX5_ok nmX5 hown hK hP hD hS 1 rfl rfl 1 (by decide) (hts (.fieldLink RX5 25 "KinkStreet$Lines" "size" "I") (List.mem_of_getElem? (i := 2) rfl)) (fun _ h9 => h9) rfl (by decide +kernel) rfl rfl (Nat.le_of_ble_eq_true rfl) dX5_append_28 (fun H locs hP hD hS => ?_)
    have hP : va_P (dC, dI) vwCl [(h1, Sum.inl (cint, 50, Sum.inl f_2)), (h0, Sum.inr (5, [Value.ref h1, Value.int (n0_size + 1), Value.ref h2, Value.int n0_ran]))] H := hP
    have hD : va_D A [(h1, Sum.inl (cint, 50, Sum.inl f_2)), (h0, Sum.inr (5, [Value.ref h1, Value.int (n0_size + 1), Value.ref h2, Value.int n0_ran]))] := hD
    obtain ⟨hP9, hD9⟩ := kk_leafout (wc := [(h0, Sum.inr (5, [Value.ref h1, Value.int (n0_size + 1), Value.ref h2, Value.int n0_ran])), (h1, Sum.inl (cint, 50, Sum.inl f_2))]) hP hD [1, 0] (by decide) rfl
    have hK9 := hK.sub (tys' := []) [] rfl
    exact W.iret (v := n0_size) hx hb hr (fun t ht hW => ⟨⟨n0_size, (), rfl, (by show (-3) ≤ (n0_size : Int32).toInt ∧ (n0_size : Int32).toInt ≤ 49; first | decide | (constructor <;> (have := kk_add2 (x := n0_size) (y := 1) (a := n0_size.toInt) (b := 1) rfl rfl (by omega) (by omega); omega))), (n0_size + 1), f_2, (by show 1 ≤ ((n0_size + 1) : Int32).toInt ∧ ((n0_size + 1) : Int32).toInt ≤ 50; first | decide | (constructor <;> (have := kk_add2 (x := n0_size) (y := 1) (a := n0_size.toInt) (b := 1) rfl rfl (by omega) (by omega); omega))), b_2, by rw [ht]; exact hP9, va_K.moved hW.alike hK9, hD9⟩, hS.F ht⟩) hS.2.2 dX5_append_31
  · skip
    have t_1_0 : (50 : Int) ≤ n0_size.toInt := t_1_0
    refine lv_if_eq (tgt := 10) hx hb dX5_append_4 (by decide) (fun c => absurd c (by decide)) (fun _ => ?_)
    refine lv_bipush (v := (-3)) hx hb dX5_append_7 (by decide) ?_
    obtain ⟨hP9, hD9⟩ := kk_leafout (wc := [(h0, Sum.inr (5, [Value.ref h1, Value.int n0_size, Value.ref h2, Value.int n0_ran])), (h1, Sum.inl (cint, 50, Sum.inl f1))]) hP hD [1, 0] (by decide) rfl
    have hK9 := hK.sub (tys' := []) [] rfl
    exact W.iret (v := (-3)) hx hb hr (fun t ht hW => ⟨⟨(-3), (), rfl, (by show (-3) ≤ ((-3) : Int32).toInt ∧ ((-3) : Int32).toInt ≤ 49; first | decide | (constructor <;> (omega))), n0_size, f1, (by show 1 ≤ (n0_size : Int32).toInt ∧ (n0_size : Int32).toInt ≤ 50; first | decide | (constructor <;> (omega))), bf1, by rw [ht]; exact hP9, va_K.moved hW.alike hK9, hD9⟩, hS.F ht⟩) hS.2.2 dX5_append_9
set_option maxHeartbeats 4000000 in
set_option maxRecDepth 100000 in
theorem g_X5_kindOf_0 (l : Launch) (dC : Nat → ClassId) (dI : Nat → Nat → Nat) (h0 : Nat) (h1 : Nat) (h2 : Nat) (cint : ClassId) (sz : Nat) (p0 : Int32) (n0_size : Int32) (n0_ran : Int32) (f1 : Nat → Int32) (tn0_size : 0 ≤ n0_size.toInt ∧ n0_size.toInt ≤ 50) (tn0_ran : 0 ≤ n0_ran.toInt ∧ n0_ran.toInt ≤ 1000) (bf1 : ∀ j, j < 50 → 0 ≤ (f1 j).toInt ∧ (f1 j).toInt ≤ 7) : Met l yX5_kindOf wsX5_kindOf ({ frames := 1, cells := 0, slots := 0, locals := 21 }) (va_Pc [.ref h0, .int p0] (fun U => U.heap.size = sz ∧ va_P (dC, dI) vwCl [(h0, Sum.inr (5, [Value.ref h1, Value.int n0_size, Value.ref h2, Value.int n0_ran])), (h1, Sum.inl (cint, 50, Sum.inl f1))] U.heap ∧ va_K (dC, dI) vwCl [(cint, .int)] U ∧ va_D (fun _ => True) [(h0, Sum.inr (5, [Value.ref h1, Value.int n0_size, Value.ref h2, Value.int n0_ran])), (h1, Sum.inl (cint, 50, Sum.inl f1))])) (va_Qi (fun (r : Int32) (_ : Unit) => ((-1) ≤ r.toInt ∧ r.toInt ≤ 7)) (fun (_ : Unit) t => va_P (dC, dI) vwCl [(h0, Sum.inr (5, [Value.ref h1, Value.int n0_size, Value.ref h2, Value.int n0_ran])), (h1, Sum.inl (cint, 50, Sum.inl f1))] t.heap ∧ va_K (dC, dI) vwCl [] t ∧ va_D (va_A [(h0, Sum.inr (5, [Value.ref h1, Value.int n0_size, Value.ref h2, Value.int n0_ran])), (h1, Sum.inl (cint, 50, Sum.inl f1))] sz) [(h0, Sum.inr (5, [Value.ref h1, Value.int n0_size, Value.ref h2, Value.int n0_ran])), (h1, Sum.inl (cint, 50, Sum.inl f1))]) (va_A [(h0, Sum.inr (5, [Value.ref h1, Value.int n0_size, Value.ref h2, Value.int n0_ran])), (h1, Sum.inl (cint, 50, Sum.inl f1))] sz)) 0 0 (va_A [(h0, Sum.inr (5, [Value.ref h1, Value.int n0_size, Value.ref h2, Value.int n0_ran])), (h1, Sum.inl (cint, 50, Sum.inl f1))] sz) := by
  refine Met.ofW (cc := cX5_kindOf) (maxL := 2) (ret := (some .int)) (by decide) rfl ?_
  intro p e s m args below meth c s₁ B hml hv
  obtain ⟨rfl, hsz, hP, hK, hD0⟩ := hv
  have hx := B.exec
  have hb := B.bytes
  have hr := B.returns
  have hts := atoms_spec (ws := wsX5_kindOf) B.pre
  have hown : s.vm.findClass RX5 = some m.cls := findClass_of_methodNamed B.named
  have hlocks := B.notSynchronized
  subst hsz
  have hD := hD0.self (sz := s.heap.size)
  generalize hAe : va_A [(h0, Sum.inr (5, [Value.ref h1, Value.int n0_size, Value.ref h2, Value.int n0_ran])), (h1, Sum.inl (cint, 50, Sum.inl f1))] s.heap.size = A at hD ⊢
  have hA : ∀ q : Nat, s.heap.size ≤ q → A q := fun q h => by rw [← hAe]; exact Or.inr h
  have hS : va_S A s.heap s.heap [] := va_S.rf
  have hP : va_P (dC, dI) vwCl [(h0, Sum.inr (5, [Value.ref h1, Value.int n0_size, Value.ref h2, Value.int n0_ran])), (h1, Sum.inl (cint, 50, Sum.inl f1))] s.heap := hP
  have hl := lv_entry ([.ref h0, .int p0]) (n := 2) (Nat.le_of_ble_eq_true rfl)
  rw [lg_entry_eq]
  generalize (lg_sl ([.ref h0, .int p0]) ++ List.replicate (2 - (lg_sl ([.ref h0, .int p0])).length) Slot.unset).toArray = ls at hl ⊢
  have hl : lv_has ls 2 [(0, .ref h0), (1, .int p0)] := hl
  refine lv_aload_n hx hb dX5_kindOf_0 rfl (lv_at hl 0 rfl) ?_
  refine lv_iload_n hx hb dX5_kindOf_1 rfl (lv_at hl 1 rfl) ?_
  obtain ⟨hPc, hDc, hFc⟩ := kk_cutout (wc := [(h0, Sum.inr (5, [Value.ref h1, Value.int n0_size, Value.ref h2, Value.int n0_ran]))]) hP hD hS hA [0] (by decide) rfl
  have hKc := hK.sub (tys' := []) [] rfl
  refine va_calli (va_runV (As := [.int p0]) (rest := []) ⟨hx, hb, hml, hown, hts⟩ (g_X5_has_0 l dC dI h0 h1 h2 s.heap.size p0 n0_size n0_ran tn0_size tn0_ran) (cwV 1 hts gX5_kindOf_X5_has rfl rfl rfl (by decide +kernel) ⟨Nat.le_of_ble_eq_true rfl, Nat.le_of_ble_eq_true rfl⟩) ⟨fun a U g mk q => by obtain ⟨q0, q1, qP, qK, qD⟩ := q; exact ⟨q0, q1, qP, va_K.moved (u := U) (U := U.calling g mk a) (Vm.Alike.refl U.vm) qK, qD⟩, va_recv hKc hPc (ci := 5) (q0 := 0) rfl rfl, fun U hU hW => ⟨rfl, by rw [hU], by rw [hU]; exact hPc, va_K.moved hW.alike hKc, hDc.weaken (fun _ _ _ _ => trivial)⟩⟩ rfl rfl hl.1 rfl (lv_room (Nat.le_of_ble_eq_true rfl)) dX5_kindOf_2 ⟨Nat.le_of_ble_eq_true rfl, Nat.le_of_ble_eq_true rfl⟩) hS (fun q _ h => hFc q h) hFc (fun r_1 u t H1 locs ht hvm hw hB hz1 hk1 hS => ?_)
  obtain ⟨hP1, hK1, hD1⟩ := hB
  rw [ht] at hP1
  have hK1 := va_K.moved hvm.symm hK1
  obtain ⟨hP, hD⟩ := va_join (wr := [(h1, Sum.inl (cint, 50, Sum.inl f1))]) (w1 := [(h0, Sum.inr (5, [Value.ref h1, Value.int n0_size, Value.ref h2, Value.int n0_ran]))]) hP hD [0] [1] rfl rfl (by decide) (by decide) hk1 hFc hP1 hD1
  generalize H1 = H at hP hS ⊢
  have hP : va_P (dC, dI) vwCl [(h1, Sum.inl (cint, 50, Sum.inl f1)), (h0, Sum.inr (5, [Value.ref h1, Value.int n0_size, Value.ref h2, Value.int n0_ran]))] H := hP
  have hD : va_D A [(h1, Sum.inl (cint, 50, Sum.inl f1)), (h0, Sum.inr (5, [Value.ref h1, Value.int n0_size, Value.ref h2, Value.int n0_ran]))] := hD
  rcases hw with ⟨rfl⟩ | ⟨t_1_0, t_1_1, t_1_2, rfl⟩
  · skip
    refine lv_if_eq (tgt := 17) hx hb dX5_kindOf_5 (by decide) (fun _ => ?_) (fun c => absurd c (by decide))
    refine lv_iconst (v := (-1)) hx hb dX5_kindOf_17 (by decide) ?_
    obtain ⟨hP9, hD9⟩ := kk_leafout (wc := [(h0, Sum.inr (5, [Value.ref h1, Value.int n0_size, Value.ref h2, Value.int n0_ran])), (h1, Sum.inl (cint, 50, Sum.inl f1))]) hP hD [1, 0] (by decide) rfl
    have hK9 := hK.sub (tys' := []) [] rfl
    exact W.iret (v := (-1)) hx hb hr (fun t ht hW => ⟨⟨(-1), (), rfl, (by show (-1) ≤ ((-1) : Int32).toInt ∧ ((-1) : Int32).toInt ≤ 7; first | decide | (constructor <;> (omega))), by rw [ht]; exact hP9, va_K.moved hW.alike hK9, hD9⟩, hS.F ht⟩) hS.2.2 dX5_kindOf_18
  · skip
    have t_1_0 : (0 : Int) ≤ p0.toInt := t_1_0
    have t_1_2 : (p0.toInt : Int) ≤ 49 := t_1_2
    refine lv_if_eq (tgt := 17) hx hb dX5_kindOf_5 (by decide) (fun c => absurd c (by decide)) (fun _ => ?_)
    refine lv_aload_n hx hb dX5_kindOf_8 rfl (lv_at hl 0 rfl) ?_
    refine va_get (D := (dC, dI)) (ci := 5) (v := .ref h1) (C := RX5) (T := TX5) (N := 4) hx hb hts (fun _ h => List.mem_cons_of_mem _ (List.mem_append_right _ h)) hown hK hP 1 rfl rfl 0 (by decide) (hts (.fieldLink RX5 11 "KinkStreet$Lines" "kinds" "[I") (List.mem_of_getElem? (i := 1) rfl)) (fun _ h9 => h9) rfl dX5_kindOf_9 ?_
    refine lv_iload_n hx hb dX5_kindOf_12 rfl (lv_at hl 1 rfl) ?_
    have hi_2 : vp_in p0 50 := (vp_in_iff.mpr ⟨by omega, by omega⟩)
    refine va_iald hx hb hK hP 0 0 rfl rfl hi_2 dX5_kindOf_13 ?_
    refine lv_topi (fun y_2 e_2 => ?_)
    have t_2 : 0 ≤ y_2.toInt ∧ y_2.toInt ≤ 7 := by rw [e_2]; exact bf1 _ (Nat.not_le.mp fun q => hi_2 (Or.inr q))
    clear e_2
    refine lv_goto (tgt := 18) hx hb dX5_kindOf_14 (by decide) ?_
    obtain ⟨hP9, hD9⟩ := kk_leafout (wc := [(h0, Sum.inr (5, [Value.ref h1, Value.int n0_size, Value.ref h2, Value.int n0_ran])), (h1, Sum.inl (cint, 50, Sum.inl f1))]) hP hD [1, 0] (by decide) rfl
    have hK9 := hK.sub (tys' := []) [] rfl
    exact W.iret (v := y_2) hx hb hr (fun t ht hW => ⟨⟨y_2, (), rfl, (by show (-1) ≤ (y_2 : Int32).toInt ∧ (y_2 : Int32).toInt ≤ 7; first | decide | (constructor <;> (omega))), by rw [ht]; exact hP9, va_K.moved hW.alike hK9, hD9⟩, hS.F ht⟩) hS.2.2 dX5_kindOf_18
set_option maxHeartbeats 4000000 in
set_option maxRecDepth 100000 in
theorem g_X5_bodiesThatRan_0 (l : Launch) (dC : Nat → ClassId) (dI : Nat → Nat → Nat) (h0 : Nat) (h1 : Nat) (h2 : Nat) (sz : Nat) (n0_size : Int32) (n0_ran : Int32) (tn0_size : 0 ≤ n0_size.toInt ∧ n0_size.toInt ≤ 50) (tn0_ran : 0 ≤ n0_ran.toInt ∧ n0_ran.toInt ≤ 1000) : Met l yX5_bodiesThatRan wsX5_bodiesThatRan ({ frames := 0, cells := 0, slots := 0, locals := 0 }) (va_Pc [.ref h0] (fun U => U.heap.size = sz ∧ va_P (dC, dI) vwCl [(h0, Sum.inr (5, [Value.ref h1, Value.int n0_size, Value.ref h2, Value.int n0_ran]))] U.heap ∧ va_K (dC, dI) vwCl [] U ∧ va_D (fun _ => True) [(h0, Sum.inr (5, [Value.ref h1, Value.int n0_size, Value.ref h2, Value.int n0_ran]))])) (va_Qi (fun (r : Int32) (_ : Unit) => n0_ran = r) (fun (_ : Unit) t => va_P (dC, dI) vwCl [(h0, Sum.inr (5, [Value.ref h1, Value.int n0_size, Value.ref h2, Value.int n0_ran]))] t.heap ∧ va_K (dC, dI) vwCl [] t ∧ va_D (va_A [(h0, Sum.inr (5, [Value.ref h1, Value.int n0_size, Value.ref h2, Value.int n0_ran]))] sz) [(h0, Sum.inr (5, [Value.ref h1, Value.int n0_size, Value.ref h2, Value.int n0_ran]))]) (va_A [(h0, Sum.inr (5, [Value.ref h1, Value.int n0_size, Value.ref h2, Value.int n0_ran]))] sz)) 0 0 (va_A [(h0, Sum.inr (5, [Value.ref h1, Value.int n0_size, Value.ref h2, Value.int n0_ran]))] sz) := by
  refine Met.ofW (cc := cX5_bodiesThatRan) (maxL := 1) (ret := (some .int)) (by decide) rfl ?_
  intro p e s m args below meth c s₁ B hml hv
  obtain ⟨rfl, hsz, hP, hK, hD0⟩ := hv
  have hx := B.exec
  have hb := B.bytes
  have hr := B.returns
  have hts := atoms_spec (ws := wsX5_bodiesThatRan) B.pre
  have hown : s.vm.findClass RX5 = some m.cls := findClass_of_methodNamed B.named
  have hlocks := B.notSynchronized
  subst hsz
  have hD := hD0.self (sz := s.heap.size)
  generalize hAe : va_A [(h0, Sum.inr (5, [Value.ref h1, Value.int n0_size, Value.ref h2, Value.int n0_ran]))] s.heap.size = A at hD ⊢
  have hA : ∀ q : Nat, s.heap.size ≤ q → A q := fun q h => by rw [← hAe]; exact Or.inr h
  have hS : va_S A s.heap s.heap [] := va_S.rf
  have hP : va_P (dC, dI) vwCl [(h0, Sum.inr (5, [Value.ref h1, Value.int n0_size, Value.ref h2, Value.int n0_ran]))] s.heap := hP
  have hl := lv_entry ([.ref h0]) (n := 1) (Nat.le_of_ble_eq_true rfl)
  rw [lg_entry_eq]
  generalize (lg_sl ([.ref h0]) ++ List.replicate (1 - (lg_sl ([.ref h0])).length) Slot.unset).toArray = ls at hl ⊢
  have hl : lv_has ls 1 [(0, .ref h0)] := hl
  refine lv_aload_n hx hb dX5_bodiesThatRan_0 rfl (lv_at hl 0 rfl) ?_
  refine va_get (D := (dC, dI)) (ci := 5) (v := .int n0_ran) (C := RX5) (T := TX5) (N := 4) hx hb hts (fun _ h => List.mem_cons_of_mem _ (List.mem_append_right _ h)) hown hK hP 0 rfl rfl 3 (by decide) (hts (.fieldLink RX5 36 "KinkStreet$Lines" "ran" "I") (List.mem_of_getElem? (i := 1) rfl)) (fun _ h9 => h9) rfl dX5_bodiesThatRan_1 ?_
  obtain ⟨hP9, hD9⟩ := kk_leafout (wc := [(h0, Sum.inr (5, [Value.ref h1, Value.int n0_size, Value.ref h2, Value.int n0_ran]))]) hP hD [0] (by decide) rfl
  have hK9 := hK.sub (tys' := []) [] rfl
  exact W.iret (v := n0_ran) hx hb hr (fun t ht hW => ⟨⟨n0_ran, (), rfl, rfl, by rw [ht]; exact hP9, va_K.moved hW.alike hK9, hD9⟩, hS.F ht⟩) hS.2.2 dX5_bodiesThatRan_4
set_option maxHeartbeats 4000000 in
set_option maxRecDepth 100000 in
theorem g_X5_traced_0 (l : Launch) (dC : Nat → ClassId) (dI : Nat → Nat → Nat) (h0 : Nat) (h1 : Nat) (h2 : Nat) (cint : ClassId) (sz : Nat) (p0 : Int32) (n0_size : Int32) (n0_ran : Int32) (f1 : Nat → Int32) (tn0_size : 0 ≤ n0_size.toInt ∧ n0_size.toInt ≤ 50) (tn0_ran : 0 ≤ n0_ran.toInt ∧ n0_ran.toInt ≤ 1000) : Met l yX5_traced wsX5_traced ({ frames := 0, cells := 0, slots := 0, locals := 0 }) (va_Pc [.ref h0, .int p0] (fun U => U.heap.size = sz ∧ va_P (dC, dI) vwCl [(h0, Sum.inr (5, [Value.ref h2, Value.int n0_size, Value.ref h1, Value.int n0_ran])), (h1, Sum.inl (cint, 24, Sum.inl f1))] U.heap ∧ va_K (dC, dI) vwCl [(cint, .int)] U ∧ va_D (fun _ => True) [(h0, Sum.inr (5, [Value.ref h2, Value.int n0_size, Value.ref h1, Value.int n0_ran])), (h1, Sum.inl (cint, 24, Sum.inl f1))])) (va_Qi (fun (r : Int32) (_ : Unit) => True) (fun (_ : Unit) t => va_P (dC, dI) vwCl [(h0, Sum.inr (5, [Value.ref h2, Value.int n0_size, Value.ref h1, Value.int n0_ran])), (h1, Sum.inl (cint, 24, Sum.inl f1))] t.heap ∧ va_K (dC, dI) vwCl [] t ∧ va_D (va_A [(h0, Sum.inr (5, [Value.ref h2, Value.int n0_size, Value.ref h1, Value.int n0_ran])), (h1, Sum.inl (cint, 24, Sum.inl f1))] sz) [(h0, Sum.inr (5, [Value.ref h2, Value.int n0_size, Value.ref h1, Value.int n0_ran])), (h1, Sum.inl (cint, 24, Sum.inl f1))]) (va_A [(h0, Sum.inr (5, [Value.ref h2, Value.int n0_size, Value.ref h1, Value.int n0_ran])), (h1, Sum.inl (cint, 24, Sum.inl f1))] sz)) 0 0 (va_A [(h0, Sum.inr (5, [Value.ref h2, Value.int n0_size, Value.ref h1, Value.int n0_ran])), (h1, Sum.inl (cint, 24, Sum.inl f1))] sz) := by
  refine Met.ofW (cc := cX5_traced) (maxL := 2) (ret := (some .int)) (by decide) rfl ?_
  intro p e s m args below meth c s₁ B hml hv
  obtain ⟨rfl, hsz, hP, hK, hD0⟩ := hv
  have hx := B.exec
  have hb := B.bytes
  have hr := B.returns
  have hts := atoms_spec (ws := wsX5_traced) B.pre
  have hown : s.vm.findClass RX5 = some m.cls := findClass_of_methodNamed B.named
  have hlocks := B.notSynchronized
  subst hsz
  have hD := hD0.self (sz := s.heap.size)
  generalize hAe : va_A [(h0, Sum.inr (5, [Value.ref h2, Value.int n0_size, Value.ref h1, Value.int n0_ran])), (h1, Sum.inl (cint, 24, Sum.inl f1))] s.heap.size = A at hD ⊢
  have hA : ∀ q : Nat, s.heap.size ≤ q → A q := fun q h => by rw [← hAe]; exact Or.inr h
  have hS : va_S A s.heap s.heap [] := va_S.rf
  have hP : va_P (dC, dI) vwCl [(h0, Sum.inr (5, [Value.ref h2, Value.int n0_size, Value.ref h1, Value.int n0_ran])), (h1, Sum.inl (cint, 24, Sum.inl f1))] s.heap := hP
  have hl := lv_entry ([.ref h0, .int p0]) (n := 2) (Nat.le_of_ble_eq_true rfl)
  rw [lg_entry_eq]
  generalize (lg_sl ([.ref h0, .int p0]) ++ List.replicate (2 - (lg_sl ([.ref h0, .int p0])).length) Slot.unset).toArray = ls at hl ⊢
  have hl : lv_has ls 2 [(0, .ref h0), (1, .int p0)] := hl
  refine lv_iload_n hx hb dX5_traced_0 rfl (lv_at hl 1 rfl) ?_
  refine lv_if_lt (tgt := 27) hx hb dX5_traced_1 (by decide) (fun c_1 => ?_) (fun c_1 => ?_)
  · have t_1 : p0.toInt < 0 := kk_lt c_1
    refine lv_iconst (v := (-1)) hx hb dX5_traced_27 (by decide) ?_
    obtain ⟨hP9, hD9⟩ := kk_leafout (wc := [(h0, Sum.inr (5, [Value.ref h2, Value.int n0_size, Value.ref h1, Value.int n0_ran])), (h1, Sum.inl (cint, 24, Sum.inl f1))]) hP hD [0, 1] (by decide) rfl
    have hK9 := hK.sub (tys' := []) [] rfl
    exact W.iret (v := (-1)) hx hb hr (fun t ht hW => ⟨⟨(-1), (), rfl, trivial, by rw [ht]; exact hP9, va_K.moved hW.alike hK9, hD9⟩, hS.F ht⟩) hS.2.2 dX5_traced_28
  · have t_1 : 0 ≤ p0.toInt := kk_nlt c_1
    refine lv_iload_n hx hb dX5_traced_4 rfl (lv_at hl 1 rfl) ?_
    refine lv_aload_n hx hb dX5_traced_5 rfl (lv_at hl 0 rfl) ?_
    refine va_get (D := (dC, dI)) (ci := 5) (v := .int n0_ran) (C := RX5) (T := TX5) (N := 4) hx hb hts (fun _ h => List.mem_cons_of_mem _ (List.mem_append_right _ h)) hown hK hP 0 rfl rfl 3 (by decide) (hts (.fieldLink RX5 36 "KinkStreet$Lines" "ran" "I") (List.mem_of_getElem? (i := 1) rfl)) (fun _ h9 => h9) rfl dX5_traced_6 ?_
    refine lv_icmp_ge (tgt := 27) hx hb dX5_traced_9 (by decide) (fun c_2 => ?_) (fun c_2 => ?_)
    · have t_2 : n0_ran.toInt ≤ p0.toInt := kk_le c_2
      refine lv_iconst (v := (-1)) hx hb dX5_traced_27 (by decide) ?_
      obtain ⟨hP9, hD9⟩ := kk_leafout (wc := [(h0, Sum.inr (5, [Value.ref h2, Value.int n0_size, Value.ref h1, Value.int n0_ran])), (h1, Sum.inl (cint, 24, Sum.inl f1))]) hP hD [0, 1] (by decide) rfl
      have hK9 := hK.sub (tys' := []) [] rfl
      exact W.iret (v := (-1)) hx hb hr (fun t ht hW => ⟨⟨(-1), (), rfl, trivial, by rw [ht]; exact hP9, va_K.moved hW.alike hK9, hD9⟩, hS.F ht⟩) hS.2.2 dX5_traced_28
    · have t_2 : p0.toInt < n0_ran.toInt := kk_nle c_2
      refine lv_iload_n hx hb dX5_traced_12 rfl (lv_at hl 1 rfl) ?_
      refine lv_bipush (v := 24) hx hb dX5_traced_13 (by decide) ?_
      refine lv_icmp_ge (tgt := 27) hx hb dX5_traced_15 (by decide) (fun c_3 => ?_) (fun c_3 => ?_)
      · have t_3 : 24 ≤ p0.toInt := kk_le c_3
        refine lv_iconst (v := (-1)) hx hb dX5_traced_27 (by decide) ?_
        obtain ⟨hP9, hD9⟩ := kk_leafout (wc := [(h0, Sum.inr (5, [Value.ref h2, Value.int n0_size, Value.ref h1, Value.int n0_ran])), (h1, Sum.inl (cint, 24, Sum.inl f1))]) hP hD [0, 1] (by decide) rfl
        have hK9 := hK.sub (tys' := []) [] rfl
        exact W.iret (v := (-1)) hx hb hr (fun t ht hW => ⟨⟨(-1), (), rfl, trivial, by rw [ht]; exact hP9, va_K.moved hW.alike hK9, hD9⟩, hS.F ht⟩) hS.2.2 dX5_traced_28
      · have t_3 : p0.toInt < 24 := kk_nle c_3
        refine lv_aload_n hx hb dX5_traced_18 rfl (lv_at hl 0 rfl) ?_
        refine va_get (D := (dC, dI)) (ci := 5) (v := .ref h1) (C := RX5) (T := TX5) (N := 4) hx hb hts (fun _ h => List.mem_cons_of_mem _ (List.mem_append_right _ h)) hown hK hP 0 rfl rfl 2 (by decide) (hts (.fieldLink RX5 15 "KinkStreet$Lines" "trace" "[I") (List.mem_of_getElem? (i := 2) rfl)) (fun _ h9 => h9) rfl dX5_traced_19 ?_
        refine lv_iload_n hx hb dX5_traced_22 rfl (lv_at hl 1 rfl) ?_
        have hi_4 : vp_in p0 24 := (vp_in_iff.mpr ⟨by omega, by omega⟩)
        refine va_iald hx hb hK hP 1 0 rfl rfl hi_4 dX5_traced_23 ?_
        refine lv_topi (fun y_4 e_4 => ?_)
        clear e_4
        refine lv_goto (tgt := 28) hx hb dX5_traced_24 (by decide) ?_
        obtain ⟨hP9, hD9⟩ := kk_leafout (wc := [(h0, Sum.inr (5, [Value.ref h2, Value.int n0_size, Value.ref h1, Value.int n0_ran])), (h1, Sum.inl (cint, 24, Sum.inl f1))]) hP hD [0, 1] (by decide) rfl
        have hK9 := hK.sub (tys' := []) [] rfl
        exact W.iret (v := y_4) hx hb hr (fun t ht hW => ⟨⟨y_4, (), rfl, trivial, by rw [ht]; exact hP9, va_K.moved hW.alike hK9, hD9⟩, hS.F ht⟩) hS.2.2 dX5_traced_28
set_option maxHeartbeats 4000000 in
set_option maxRecDepth 100000 in
theorem g_X5_runLine_0 (l : Launch) (dC : Nat → ClassId) (dI : Nat → Nat → Nat) (h0 : Nat) (h1 : Nat) (h2 : Nat) (cint : ClassId) (sz : Nat) (p0 : Int32) (p2 : Int32) (p3 : Int32) (n0_size : Int32) (n0_ran : Int32) (f1 : Nat → Int32) (tn0_size : 0 ≤ n0_size.toInt ∧ n0_size.toInt ≤ 50) (tn0_ran : 0 ≤ n0_ran.toInt ∧ n0_ran.toInt ≤ 1000) (bf1 : ∀ j, j < 50 → 0 ≤ (f1 j).toInt ∧ (f1 j).toInt ≤ 7) : Met l yX5_runLine wsX5_runLine ({ frames := 2, cells := 0, slots := 0, locals := 42 }) (va_Pc [.ref h0, .int p0, .int 1, .int p2, .int p3] (fun U => U.heap.size = sz ∧ va_P (dC, dI) vwCl [(h0, Sum.inr (5, [Value.ref h1, Value.int n0_size, Value.ref h2, Value.int n0_ran])), (h1, Sum.inl (cint, 50, Sum.inl f1))] U.heap ∧ va_K (dC, dI) vwCl [(cint, .int)] U ∧ va_D (fun _ => True) [(h0, Sum.inr (5, [Value.ref h1, Value.int n0_size, Value.ref h2, Value.int n0_ran])), (h1, Sum.inl (cint, 50, Sum.inl f1))])) (va_Qi (fun (r : Int32) (_ : Unit) => (p2 + p0) = r) (fun (_ : Unit) t => va_P (dC, dI) vwCl [(h0, Sum.inr (5, [Value.ref h1, Value.int n0_size, Value.ref h2, Value.int n0_ran])), (h1, Sum.inl (cint, 50, Sum.inl f1))] t.heap ∧ va_K (dC, dI) vwCl [] t ∧ va_D (va_A [(h0, Sum.inr (5, [Value.ref h1, Value.int n0_size, Value.ref h2, Value.int n0_ran])), (h1, Sum.inl (cint, 50, Sum.inl f1))] sz) [(h0, Sum.inr (5, [Value.ref h1, Value.int n0_size, Value.ref h2, Value.int n0_ran])), (h1, Sum.inl (cint, 50, Sum.inl f1))]) (va_A [(h0, Sum.inr (5, [Value.ref h1, Value.int n0_size, Value.ref h2, Value.int n0_ran])), (h1, Sum.inl (cint, 50, Sum.inl f1))] sz)) 0 0 (va_A [(h0, Sum.inr (5, [Value.ref h1, Value.int n0_size, Value.ref h2, Value.int n0_ran])), (h1, Sum.inl (cint, 50, Sum.inl f1))] sz) := by
  refine Met.ofW (cc := cX5_runLine) (maxL := 6) (ret := (some .int)) (by decide) rfl ?_
  intro p e s m args below meth c s₁ B hml hv
  obtain ⟨rfl, hsz, hP, hK, hD0⟩ := hv
  have hx := B.exec
  have hb := B.bytes
  have hr := B.returns
  have hts := atoms_spec (ws := wsX5_runLine) B.pre
  have hown : s.vm.findClass RX5 = some m.cls := findClass_of_methodNamed B.named
  have hlocks := B.notSynchronized
  subst hsz
  have hD := hD0.self (sz := s.heap.size)
  generalize hAe : va_A [(h0, Sum.inr (5, [Value.ref h1, Value.int n0_size, Value.ref h2, Value.int n0_ran])), (h1, Sum.inl (cint, 50, Sum.inl f1))] s.heap.size = A at hD ⊢
  have hA : ∀ q : Nat, s.heap.size ≤ q → A q := fun q h => by rw [← hAe]; exact Or.inr h
  have hS : va_S A s.heap s.heap [] := va_S.rf
  have hP : va_P (dC, dI) vwCl [(h0, Sum.inr (5, [Value.ref h1, Value.int n0_size, Value.ref h2, Value.int n0_ran])), (h1, Sum.inl (cint, 50, Sum.inl f1))] s.heap := hP
  have hl := lv_entry ([.ref h0, .int p0, .int 1, .int p2, .int p3]) (n := 6) (Nat.le_of_ble_eq_true rfl)
  rw [lg_entry_eq]
  generalize (lg_sl ([.ref h0, .int p0, .int 1, .int p2, .int p3]) ++ List.replicate (6 - (lg_sl ([.ref h0, .int p0, .int 1, .int p2, .int p3])).length) Slot.unset).toArray = ls at hl ⊢
  have hl : lv_has ls 6 [(0, .ref h0), (1, .int p0), (2, .int 1), (3, .int p2), (4, .int p3)] := hl
  refine lv_aload_n hx hb dX5_runLine_0 rfl (lv_at hl 0 rfl) ?_
  refine lv_iload_n hx hb dX5_runLine_1 rfl (lv_at hl 1 rfl) ?_
  obtain ⟨hPc, hDc, hFc⟩ := kk_cutout (wc := [(h0, Sum.inr (5, [Value.ref h1, Value.int n0_size, Value.ref h2, Value.int n0_ran])), (h1, Sum.inl (cint, 50, Sum.inl f1))]) hP hD hS hA [0, 1] (by decide) rfl
  have hKc := hK.sub (tys' := [(cint, .int)]) [0] rfl
  refine va_calli (va_runV (As := [.int p0]) (rest := []) ⟨hx, hb, hml, hown, hts⟩ (g_X5_kindOf_0 l dC dI h0 h1 h2 cint s.heap.size p0 n0_size n0_ran f1 tn0_size tn0_ran bf1) (cwV 1 hts gX5_runLine_X5_kindOf rfl rfl rfl (by decide +kernel) ⟨Nat.le_of_ble_eq_true rfl, Nat.le_of_ble_eq_true rfl⟩) ⟨fun a U g mk q => by obtain ⟨q0, q1, qP, qK, qD⟩ := q; exact ⟨q0, q1, qP, va_K.moved (u := U) (U := U.calling g mk a) (Vm.Alike.refl U.vm) qK, qD⟩, va_recv hKc hPc (ci := 5) (q0 := 0) rfl rfl, fun U hU hW => ⟨rfl, by rw [hU], by rw [hU]; exact hPc, va_K.moved hW.alike hKc, hDc.weaken (fun _ _ _ _ => trivial)⟩⟩ rfl rfl hl.1 rfl (lv_room (Nat.le_of_ble_eq_true rfl)) dX5_runLine_2 ⟨Nat.le_of_ble_eq_true rfl, Nat.le_of_ble_eq_true rfl⟩) hS (fun q _ h => hFc q h) hFc (fun r_1 u t H1 locs ht hvm hw hB hz1 hk1 hS => ?_)
  obtain ⟨hP1, hK1, hD1⟩ := hB
  rw [ht] at hP1
  have hK1 := va_K.moved hvm.symm hK1
  obtain ⟨hP, hD⟩ := va_join (wr := []) (w1 := [(h0, Sum.inr (5, [Value.ref h1, Value.int n0_size, Value.ref h2, Value.int n0_ran])), (h1, Sum.inl (cint, 50, Sum.inl f1))]) hP hD [0, 1] [] rfl rfl (by decide) (by decide) hk1 hFc hP1 hD1
  generalize H1 = H at hP hS ⊢
  have hP : va_P (dC, dI) vwCl [(h0, Sum.inr (5, [Value.ref h1, Value.int n0_size, Value.ref h2, Value.int n0_ran])), (h1, Sum.inl (cint, 50, Sum.inl f1))] H := hP
  have hD : va_D A [(h0, Sum.inr (5, [Value.ref h1, Value.int n0_size, Value.ref h2, Value.int n0_ran])), (h1, Sum.inl (cint, 50, Sum.inl f1))] := hD
  have t_1 : (-1) ≤ r_1.toInt ∧ r_1.toInt ≤ 7 := hw
  refine lv_istore (lv' := [(5, .int r_1), (0, .ref h0), (1, .int p0), (2, .int 1), (3, .int p2), (4, .int p3)]) hx hb dX5_runLine_5 hl (by decide) rfl (fun ls hl => ?_)
  refine lv_iload_n hx hb dX5_runLine_7 rfl (lv_at hl 3 rfl) ?_
  refine lv_lookup (tgt := 44) (off := 36) hx hb dX5_runLine_8 (by decide) (by decide) (by decide) ?_
  refine lv_iload_n hx hb dX5_runLine_44 rfl (lv_at hl 4 rfl) ?_
  refine lv_iload_n hx hb dX5_runLine_45 rfl (lv_at hl 2 rfl) ?_
  refine lv_iadd hx hb dX5_runLine_46 ?_
  obtain ⟨hP9, hD9⟩ := kk_leafout (wc := [(h0, Sum.inr (5, [Value.ref h1, Value.int n0_size, Value.ref h2, Value.int n0_ran])), (h1, Sum.inl (cint, 50, Sum.inl f1))]) hP hD [0, 1] (by decide) rfl
  have hK9 := hK.sub (tys' := []) [] rfl
  exact W.iret (v := (p2 + p0)) hx hb hr (fun t ht hW => ⟨⟨(p2 + p0), (), rfl, rfl, by rw [ht]; exact hP9, va_K.moved hW.alike hK9, hD9⟩, hS.F ht⟩) hS.2.2 dX5_runLine_47
set_option maxHeartbeats 4000000 in
set_option maxRecDepth 100000 in
theorem g_X5_call_0 (l : Launch) (dC : Nat → ClassId) (dI : Nat → Nat → Nat) (h0 : Nat) (h1 : Nat) (h2 : Nat) (cint : ClassId) (sz : Nat) (p0 : Int32) (p3 : Int32) (p4 : Int32) (n0_size : Int32) (n0_ran : Int32) (f1 : Nat → Int32) (f2 : Nat → Int32) (tn0_size : 0 ≤ n0_size.toInt ∧ n0_size.toInt ≤ 50) (tn0_ran : 0 ≤ n0_ran.toInt ∧ n0_ran.toInt ≤ 999) (bf1 : ∀ j, j < 50 → 0 ≤ (f1 j).toInt ∧ (f1 j).toInt ≤ 7) (aOWN_BODIES : Nat) : Met l yX5_call wsX5_call ({ frames := 3, cells := 0, slots := 0, locals := 67 }) (va_Pc [.ref h0, .int p0, .int 0, .int 0, .int p3, .int p4] (fun U => U.heap.size = sz ∧ va_P (dC, dI) vwCl [(h0, Sum.inr (5, [Value.ref h1, Value.int n0_size, Value.ref h2, Value.int n0_ran])), (h1, Sum.inl (cint, 50, Sum.inl f1)), (h2, Sum.inl (cint, 24, Sum.inl f2))] U.heap ∧ va_K (dC, dI) vwCl [(cint, .int)] U ∧ va_D (fun _ => True) [(h0, Sum.inr (5, [Value.ref h1, Value.int n0_size, Value.ref h2, Value.int n0_ran])), (h1, Sum.inl (cint, 50, Sum.inl f1)), (h2, Sum.inl (cint, 24, Sum.inl f2))] ∧ va_Z "KinkStreet$Lines" "OWN_BODIES" "[I" (.ref aOWN_BODIES) (va_A [(h0, Sum.inr (5, [Value.ref h1, Value.int n0_size, Value.ref h2, Value.int n0_ran])), (h1, Sum.inl (cint, 50, Sum.inl f1)), (h2, Sum.inl (cint, 24, Sum.inl f2))] sz) U U.heap ∧ va_T .int aOWN_BODIES 32 tb_OWN_BODIES (va_A [(h0, Sum.inr (5, [Value.ref h1, Value.int n0_size, Value.ref h2, Value.int n0_ran])), (h1, Sum.inl (cint, 50, Sum.inl f1)), (h2, Sum.inl (cint, 24, Sum.inl f2))] sz) U U.heap)) (va_Qi (fun (r : Int32) (_ : Unit) => True) (fun (_ : Unit) t => ∃ (m0_ran : Int32) (g2 : Nat → Int32), (0 ≤ m0_ran.toInt ∧ m0_ran.toInt ≤ 1000) ∧ (m0_ran.toInt ≤ n0_ran.toInt + 1) ∧ va_P (dC, dI) vwCl [(h0, Sum.inr (5, [Value.ref h1, Value.int n0_size, Value.ref h2, Value.int m0_ran])), (h1, Sum.inl (cint, 50, Sum.inl f1)), (h2, Sum.inl (cint, 24, Sum.inl g2))] t.heap ∧ va_K (dC, dI) vwCl [] t ∧ va_D (va_A [(h0, Sum.inr (5, [Value.ref h1, Value.int n0_size, Value.ref h2, Value.int n0_ran])), (h1, Sum.inl (cint, 50, Sum.inl f1)), (h2, Sum.inl (cint, 24, Sum.inl f2))] sz) [(h0, Sum.inr (5, [Value.ref h1, Value.int n0_size, Value.ref h2, Value.int m0_ran])), (h1, Sum.inl (cint, 50, Sum.inl f1)), (h2, Sum.inl (cint, 24, Sum.inl g2))]) (va_A [(h0, Sum.inr (5, [Value.ref h1, Value.int n0_size, Value.ref h2, Value.int n0_ran])), (h1, Sum.inl (cint, 50, Sum.inl f1)), (h2, Sum.inl (cint, 24, Sum.inl f2))] sz)) 0 0 (va_A [(h0, Sum.inr (5, [Value.ref h1, Value.int n0_size, Value.ref h2, Value.int n0_ran])), (h1, Sum.inl (cint, 50, Sum.inl f1)), (h2, Sum.inl (cint, 24, Sum.inl f2))] sz) := by
  refine Met.ofW (cc := cX5_call) (maxL := 8) (ret := (some .int)) (by decide) rfl ?_
  intro p e s m args below meth c s₁ B hml hv
  obtain ⟨rfl, hsz, hP, hK, hD0, hZOWN_BODIES, hTOWN_BODIES⟩ := hv
  have hx := B.exec
  have hb := B.bytes
  have hr := B.returns
  have hts := atoms_spec (ws := wsX5_call) B.pre
  have hown : s.vm.findClass RX5 = some m.cls := findClass_of_methodNamed B.named
  have hlocks := B.notSynchronized
  subst hsz
  have hD := hD0.self (sz := s.heap.size)
  generalize hAe : va_A [(h0, Sum.inr (5, [Value.ref h1, Value.int n0_size, Value.ref h2, Value.int n0_ran])), (h1, Sum.inl (cint, 50, Sum.inl f1)), (h2, Sum.inl (cint, 24, Sum.inl f2))] s.heap.size = A at hD hZOWN_BODIES hTOWN_BODIES ⊢
  have hA : ∀ q : Nat, s.heap.size ≤ q → A q := fun q h => by rw [← hAe]; exact Or.inr h
  have hS : va_S A s.heap s.heap [] := va_S.rf
  have hP : va_P (dC, dI) vwCl [(h0, Sum.inr (5, [Value.ref h1, Value.int n0_size, Value.ref h2, Value.int n0_ran])), (h1, Sum.inl (cint, 50, Sum.inl f1)), (h2, Sum.inl (cint, 24, Sum.inl f2))] s.heap := hP
  have hl := lv_entry ([.ref h0, .int p0, .int 0, .int 0, .int p3, .int p4]) (n := 8) (Nat.le_of_ble_eq_true rfl)
  rw [lg_entry_eq]
  generalize (lg_sl ([.ref h0, .int p0, .int 0, .int 0, .int p3, .int p4]) ++ List.replicate (8 - (lg_sl ([.ref h0, .int p0, .int 0, .int 0, .int p3, .int p4])).length) Slot.unset).toArray = ls at hl ⊢
  have hl : lv_has ls 8 [(0, .ref h0), (1, .int p0), (2, .int 0), (3, .int 0), (4, .int p3), (5, .int p4)] := hl
  refine lv_iload_n hx hb dX5_call_0 rfl (lv_at hl 2 rfl) ?_
  refine lv_istore (lv' := [(6, .int 0), (0, .ref h0), (1, .int p0), (2, .int 0), (3, .int 0), (4, .int p3), (5, .int p4)]) hx hb dX5_call_1 hl (by decide) rfl (fun ls hl => ?_)
  refine lv_iconst (v := 0) hx hb dX5_call_3 (by decide) ?_
  refine lv_istore (lv' := [(7, .int 0), (6, .int 0), (0, .ref h0), (1, .int p0), (2, .int 0), (3, .int 0), (4, .int p3), (5, .int p4)]) hx hb dX5_call_4 hl (by decide) rfl (fun ls hl => ?_)
  refine lv_iload hx hb dX5_call_6 (lv_at hl 0 rfl) ?_
  refine lv_bipush (v := 8) hx hb dX5_call_8 (by decide) ?_
  refine lv_icmp_ge (tgt := 48) hx hb dX5_call_10 (by decide) (fun c => absurd c (by decide)) (fun _ => ?_)
  refine lv_iload hx hb dX5_call_13 (lv_at hl 1 rfl) ?_
  obtain ⟨hPc, hDc, hFc⟩ := kk_cutout (wc := []) hP hD hS hA [] (by decide) rfl
  have hKc := hK.sub (tys' := []) [] rfl
  refine va_calli (va_runS (As := [.int 0]) (rest := []) ⟨hx, hb, hml, hown, hts⟩ (g_X5_isKind_0 l dC dI s.heap.size 0) (va_cwS 1 hts gX5_call_X5_isKind rfl rfl rfl (by decide +kernel) ⟨Nat.le_of_ble_eq_true rfl, Nat.le_of_ble_eq_true rfl⟩) ⟨fun a U g mk q => by obtain ⟨q0, q1, qP, qK, qD⟩ := q; exact ⟨q0, q1, qP, va_K.moved (u := U) (U := U.calling g mk a) (Vm.Alike.refl U.vm) qK, qD⟩, fun U hU hW => ⟨rfl, by rw [hU], by rw [hU]; exact hPc, va_K.moved hW.alike hKc, hDc.weaken (fun _ _ _ _ => trivial)⟩⟩ rfl rfl hl.1 rfl (lv_room (Nat.le_of_ble_eq_true rfl)) dX5_call_15 ⟨Nat.le_of_ble_eq_true rfl, Nat.le_of_ble_eq_true rfl⟩) hS (fun q _ h => hFc q h) hFc (fun r_1 u t H1 locs ht hvm hw hB hz1 hk1 hS => ?_)
  obtain ⟨hP1, hK1, hD1⟩ := hB
  rw [ht] at hP1
  have hK1 := va_K.moved hvm.symm hK1
  obtain ⟨hP, hD⟩ := va_join (wr := [(h0, Sum.inr (5, [Value.ref h1, Value.int n0_size, Value.ref h2, Value.int n0_ran])), (h1, Sum.inl (cint, 50, Sum.inl f1)), (h2, Sum.inl (cint, 24, Sum.inl f2))]) (w1 := []) hP hD [] [0, 1, 2] rfl rfl (by decide) (by decide) hk1 hFc hP1 hD1
  generalize H1 = H at hP hS ⊢
  have hP : va_P (dC, dI) vwCl [(h0, Sum.inr (5, [Value.ref h1, Value.int n0_size, Value.ref h2, Value.int n0_ran])), (h1, Sum.inl (cint, 50, Sum.inl f1)), (h2, Sum.inl (cint, 24, Sum.inl f2))] H := hP
  have hD : va_D A [(h0, Sum.inr (5, [Value.ref h1, Value.int n0_size, Value.ref h2, Value.int n0_ran])), (h1, Sum.inl (cint, 50, Sum.inl f1)), (h2, Sum.inl (cint, 24, Sum.inl f2))] := hD
  rcases hw with ⟨rfl⟩ | ⟨t_1_0, t_1_1, rfl⟩
  · skip
    refine lv_if_eq (tgt := 48) hx hb dX5_call_18 (by decide) (fun _ => ?_) (fun c => absurd c (by decide))
    refine lv_iload hx hb dX5_call_48 (lv_at hl 1 rfl) ?_
    obtain ⟨hPc, hDc, hFc⟩ := kk_cutout (wc := []) hP hD hS hA [] (by decide) rfl
    have hKc := hK.sub (tys' := []) [] rfl
    refine va_calli (va_runS (As := [.int 0]) (rest := []) ⟨hx, hb, hml, hown, hts⟩ (g_X5_isKind_0 l dC dI H.size 0) (va_cwS 1 hts gX5_call_X5_isKind rfl rfl rfl (by decide +kernel) ⟨Nat.le_of_ble_eq_true rfl, Nat.le_of_ble_eq_true rfl⟩) ⟨fun a U g mk q => by obtain ⟨q0, q1, qP, qK, qD⟩ := q; exact ⟨q0, q1, qP, va_K.moved (u := U) (U := U.calling g mk a) (Vm.Alike.refl U.vm) qK, qD⟩, fun U hU hW => ⟨rfl, by rw [hU], by rw [hU]; exact hPc, va_K.moved hW.alike hKc, hDc.weaken (fun _ _ _ _ => trivial)⟩⟩ rfl rfl hl.1 rfl (lv_room (Nat.le_of_ble_eq_true rfl)) dX5_call_50 ⟨Nat.le_of_ble_eq_true rfl, Nat.le_of_ble_eq_true rfl⟩) hS (fun q _ h => hFc q h) hFc (fun r_2 u t H1 locs ht hvm hw hB hz1 hk1 hS => ?_)
    obtain ⟨hP1, hK1, hD1⟩ := hB
    rw [ht] at hP1
    have hK1 := va_K.moved hvm.symm hK1
    obtain ⟨hP, hD⟩ := va_join (wr := [(h0, Sum.inr (5, [Value.ref h1, Value.int n0_size, Value.ref h2, Value.int n0_ran])), (h1, Sum.inl (cint, 50, Sum.inl f1)), (h2, Sum.inl (cint, 24, Sum.inl f2))]) (w1 := []) hP hD [] [0, 1, 2] rfl rfl (by decide) (by decide) hk1 hFc hP1 hD1
    generalize H1 = H at hP hS ⊢
    have hP : va_P (dC, dI) vwCl [(h0, Sum.inr (5, [Value.ref h1, Value.int n0_size, Value.ref h2, Value.int n0_ran])), (h1, Sum.inl (cint, 50, Sum.inl f1)), (h2, Sum.inl (cint, 24, Sum.inl f2))] H := hP
    have hD : va_D A [(h0, Sum.inr (5, [Value.ref h1, Value.int n0_size, Value.ref h2, Value.int n0_ran])), (h1, Sum.inl (cint, 50, Sum.inl f1)), (h2, Sum.inl (cint, 24, Sum.inl f2))] := hD
    rcases hw with ⟨rfl⟩ | ⟨t_2_0, t_2_1, rfl⟩
    · skip
      refine lv_if_eq (tgt := 63) hx hb dX5_call_53 (by decide) (fun _ => ?_) (fun c => absurd c (by decide))
      refine lv_iconst (v := 0) hx hb dX5_call_63 (by decide) ?_
      obtain ⟨hP9, hD9⟩ := kk_leafout (wc := [(h0, Sum.inr (5, [Value.ref h1, Value.int n0_size, Value.ref h2, Value.int n0_ran])), (h1, Sum.inl (cint, 50, Sum.inl f1)), (h2, Sum.inl (cint, 24, Sum.inl f2))]) hP hD [0, 1, 2] (by decide) rfl
      have hK9 := hK.sub (tys' := []) [] rfl
      exact W.iret (v := 0) hx hb hr (fun t ht hW => ⟨⟨0, (), rfl, trivial, n0_ran, f2, (by show 0 ≤ (n0_ran : Int32).toInt ∧ (n0_ran : Int32).toInt ≤ 1000; first | decide | (constructor <;> (omega))), (by show (n0_ran : Int32).toInt ≤ (n0_ran : Int32).toInt + 1; first | decide | (omega)), by rw [ht]; exact hP9, va_K.moved hW.alike hK9, hD9⟩, hS.F ht⟩) hS.2.2 dX5_call_64
    · skip
      have t_2_0 : (0 : Int) ≤ 0 := t_2_0
      have t_2_1 : (0 : Int) < 8 := t_2_1
      refine lv_if_eq (tgt := 63) hx hb dX5_call_53 (by decide) (fun c => absurd c (by decide)) (fun _ => ?_)
      refine lv_iload hx hb dX5_call_56 (lv_at hl 7 rfl) ?_
      refine lv_bipush (v := 40) hx hb dX5_call_58 (by decide) ?_
      refine lv_icmp_le (tgt := 65) hx hb dX5_call_60 (by decide) (fun c_3 => ?_) (fun c_3 => ?_)
      · have t_3 : p4.toInt ≤ 40 := kk_le c_3
        refine va_gets hx hb hZOWN_BODIES hS hown (hts (.fieldLink RX5 43 "KinkStreet$Lines" "OWN_BODIES" "[I") (List.mem_of_getElem? (i := 1) rfl)) (fun _ h9 => h9) dX5_call_65 ?_
        refine lv_iload hx hb dX5_call_68 (lv_at hl 1 rfl) ?_
        refine lv_iconst (v := 4) hx hb dX5_call_70 (by decide) ?_
        refine lv_imul hx hb dX5_call_71 ?_
        refine lv_topi (fun y_4 e_4 => ?_)
        obtain rfl : y_4 = 0 := e_4.trans (by decide)
        refine lv_iload_n hx hb dX5_call_72 rfl (lv_at hl 5 rfl) ?_
        refine lv_iadd hx hb dX5_call_73 ?_
        refine lv_topi (fun y_5 e_5 => ?_)
        obtain rfl : y_5 = 0 := e_5.trans (by decide)
        refine va_ti (v := .int 1) hx hb hTOWN_BODIES hS (by unfold vp_in; decide) rfl dX5_call_74 ?_
        refine lv_istore (lv' := [(7, .int 1), (6, .int 0), (0, .ref h0), (1, .int p0), (2, .int 0), (3, .int 0), (4, .int p3), (5, .int p4)]) hx hb dX5_call_75 hl (by decide) rfl (fun ls hl => ?_)
        refine lv_aload_n hx hb dX5_call_77 rfl (lv_at hl 2 rfl) ?_
        refine va_get (D := (dC, dI)) (ci := 5) (v := .int n0_ran) (C := RX5) (T := TX5) (N := 4) hx hb hts (fun _ h => List.mem_cons_of_mem _ (List.mem_append_right _ h)) hown hK hP 0 rfl rfl 3 (by decide) (hts (.fieldLink RX5 36 "KinkStreet$Lines" "ran" "I") (List.mem_of_getElem? (i := 3) rfl)) (fun _ h9 => h9) rfl dX5_call_78 ?_
        refine lv_bipush (v := 24) hx hb dX5_call_81 (by decide) ?_
        refine kk_cut (σ := (Nat → Int32)) (pc' := 97) (fun x H locs ls => va_P (dC, dI) vwCl [(h0, Sum.inr (5, [Value.ref h1, Value.int n0_size, Value.ref h2, Value.int n0_ran])), (h1, Sum.inl (cint, 50, Sum.inl f1)), (h2, Sum.inl (cint, 24, Sum.inl x))] H ∧ va_D A [(h0, Sum.inr (5, [Value.ref h1, Value.int n0_size, Value.ref h2, Value.int n0_ran])), (h1, Sum.inl (cint, 50, Sum.inl f1)), (h2, Sum.inl (cint, 24, Sum.inl x))] ∧ va_S A s.heap H locs ∧ lv_has ls 8 [(7, .int 1), (6, .int 0), (0, .ref h0), (1, .int p0), (2, .int 0), (3, .int 0), (4, .int p3), (5, .int p4)]) ?_ (fun hcut_8 => ?_)
        · rintro f_8_0 H locs ls ⟨hP, hD, hS, hl⟩
          have hl : lv_has ls 8 [(7, .int 1), (6, .int 0), (0, .ref h0), (1, .int p0), (2, .int 0), (3, .int 0), (4, .int p3), (5, .int p4)] := hl
          have hP : va_P (dC, dI) vwCl [(h0, Sum.inr (5, [Value.ref h1, Value.int n0_size, Value.ref h2, Value.int n0_ran])), (h1, Sum.inl (cint, 50, Sum.inl f1)), (h2, Sum.inl (cint, 24, Sum.inl f_8_0))] H := hP
          have hD : va_D A [(h0, Sum.inr (5, [Value.ref h1, Value.int n0_size, Value.ref h2, Value.int n0_ran])), (h1, Sum.inl (cint, 50, Sum.inl f1)), (h2, Sum.inl (cint, 24, Sum.inl f_8_0))] := hD
          refine lv_aload_n hx hb dX5_call_97 rfl (lv_at hl 2 rfl) ?_
          refine lv_dup hx hb dX5_call_98 rfl ?_
          refine va_get (D := (dC, dI)) (ci := 5) (v := .int n0_ran) (C := RX5) (T := TX5) (N := 4) hx hb hts (fun _ h => List.mem_cons_of_mem _ (List.mem_append_right _ h)) hown hK hP 0 rfl rfl 3 (by decide) (hts (.fieldLink RX5 36 "KinkStreet$Lines" "ran" "I") (List.mem_of_getElem? (i := 3) rfl)) (fun _ h9 => h9) rfl dX5_call_99 ?_
          refine lv_iconst (v := 1) hx hb dX5_call_102 (by decide) ?_
          refine lv_iadd hx hb dX5_call_103 ?_
          refine va_put (D := (dC, dI)) (ci := 5) (v := .int (n0_ran + 1)) (ty := .int) (C := RX5) (T := TX5) (N := 4) hx hb hts (fun _ h => List.mem_cons_of_mem _ (List.mem_append_right _ h)) tyX5 tyX5_ok nmX5 hown hK hP hD hS 0 rfl rfl 3 (by decide) (hts (.fieldLink RX5 36 "KinkStreet$Lines" "ran" "I") (List.mem_of_getElem? (i := 3) rfl)) (fun _ h9 => h9) rfl (by decide +kernel) rfl rfl (Nat.le_of_ble_eq_true rfl) dX5_call_104 (fun H locs hP hD hS => ?_)
          have hP : va_P (dC, dI) vwCl [(h0, Sum.inr (5, [Value.ref h1, Value.int n0_size, Value.ref h2, Value.int (n0_ran + 1)])), (h1, Sum.inl (cint, 50, Sum.inl f1)), (h2, Sum.inl (cint, 24, Sum.inl f_8_0))] H := hP
          have hD : va_D A [(h0, Sum.inr (5, [Value.ref h1, Value.int n0_size, Value.ref h2, Value.int (n0_ran + 1)])), (h1, Sum.inl (cint, 50, Sum.inl f1)), (h2, Sum.inl (cint, 24, Sum.inl f_8_0))] := hD
          refine lv_iload hx hb dX5_call_107 (lv_at hl 1 rfl) ?_
          refine lv_if_ne (tgt := 128) hx hb dX5_call_109 (by decide) (fun c => absurd c (by decide)) (fun _ => ?_)
          refine lv_aload_n hx hb dX5_call_112 rfl (lv_at hl 2 rfl) ?_
          refine lv_iload_n hx hb dX5_call_113 rfl (lv_at hl 3 rfl) ?_
          refine lv_iload hx hb dX5_call_114 (lv_at hl 0 rfl) ?_
          refine lv_iload hx hb dX5_call_116 (lv_at hl 6 rfl) ?_
          refine lv_iload hx hb dX5_call_118 (lv_at hl 7 rfl) ?_
          refine lv_iconst (v := 1) hx hb dX5_call_120 (by decide) ?_
          refine lv_iadd hx hb dX5_call_121 ?_
          obtain ⟨hPc, hDc, hFc⟩ := kk_cutout (wc := [(h0, Sum.inr (5, [Value.ref h1, Value.int n0_size, Value.ref h2, Value.int (n0_ran + 1)])), (h1, Sum.inl (cint, 50, Sum.inl f1))]) hP hD hS hA [0, 1] (by decide) rfl
          have hKc := hK.sub (tys' := [(cint, .int)]) [0] rfl
          refine va_calli (va_runV (As := [.int p0, .int 1, .int p3, .int (p4 + 1)]) (rest := []) ⟨hx, hb, hml, hown, hts⟩ (g_X5_runLine_0 l dC dI h0 h1 h2 cint H.size p0 p3 (p4 + 1) n0_size (n0_ran + 1) f1 tn0_size (by show 0 ≤ ((n0_ran + 1) : Int32).toInt ∧ ((n0_ran + 1) : Int32).toInt ≤ 1000; first | decide | (constructor <;> (have := kk_rng p4; have := kk_add2 (x := n0_ran) (y := 1) (a := n0_ran.toInt) (b := 1) rfl rfl (by omega) (by omega); have := kk_rng p4; have := kk_add2 (x := p4) (y := 1) (a := p4.toInt) (b := 1) rfl rfl (by omega) (by omega); omega))) bf1) (cwV 4 hts gX5_call_X5_runLine rfl rfl rfl (by decide +kernel) ⟨Nat.le_of_ble_eq_true rfl, Nat.le_of_ble_eq_true rfl⟩) ⟨fun a U g mk q => by obtain ⟨q0, q1, qP, qK, qD⟩ := q; exact ⟨q0, q1, qP, va_K.moved (u := U) (U := U.calling g mk a) (Vm.Alike.refl U.vm) qK, qD⟩, va_recv hKc hPc (ci := 5) (q0 := 0) rfl rfl, fun U hU hW => ⟨rfl, by rw [hU], by rw [hU]; exact hPc, va_K.moved hW.alike hKc, hDc.weaken (fun _ _ _ _ => trivial)⟩⟩ rfl rfl hl.1 rfl (lv_room (Nat.le_of_ble_eq_true rfl)) dX5_call_122 ⟨Nat.le_of_ble_eq_true rfl, Nat.le_of_ble_eq_true rfl⟩) hS (fun q _ h => hFc q h) hFc (fun r_9 u t H1 locs ht hvm hw hB hz1 hk1 hS => ?_)
          obtain ⟨hP1, hK1, hD1⟩ := hB
          rw [ht] at hP1
          have hK1 := va_K.moved hvm.symm hK1
          obtain ⟨hP, hD⟩ := va_join (wr := [(h2, Sum.inl (cint, 24, Sum.inl f_8_0))]) (w1 := [(h0, Sum.inr (5, [Value.ref h1, Value.int n0_size, Value.ref h2, Value.int (n0_ran + 1)])), (h1, Sum.inl (cint, 50, Sum.inl f1))]) hP hD [0, 1] [2] rfl rfl (by decide) (by decide) hk1 hFc hP1 hD1
          generalize H1 = H at hP hS ⊢
          have hP : va_P (dC, dI) vwCl [(h2, Sum.inl (cint, 24, Sum.inl f_8_0)), (h0, Sum.inr (5, [Value.ref h1, Value.int n0_size, Value.ref h2, Value.int (n0_ran + 1)])), (h1, Sum.inl (cint, 50, Sum.inl f1))] H := hP
          have hD : va_D A [(h2, Sum.inl (cint, 24, Sum.inl f_8_0)), (h0, Sum.inr (5, [Value.ref h1, Value.int n0_size, Value.ref h2, Value.int (n0_ran + 1)])), (h1, Sum.inl (cint, 50, Sum.inl f1))] := hD
          obtain rfl := hw
          refine lv_goto (tgt := 143) hx hb dX5_call_125 (by decide) ?_
          obtain ⟨hP9, hD9⟩ := kk_leafout (wc := [(h0, Sum.inr (5, [Value.ref h1, Value.int n0_size, Value.ref h2, Value.int (n0_ran + 1)])), (h1, Sum.inl (cint, 50, Sum.inl f1)), (h2, Sum.inl (cint, 24, Sum.inl f_8_0))]) hP hD [1, 2, 0] (by decide) rfl
          have hK9 := hK.sub (tys' := []) [] rfl
          exact W.iret (v := (p3 + p0)) hx hb hr (fun t ht hW => ⟨⟨(p3 + p0), (), rfl, trivial, (n0_ran + 1), f_8_0, (by show 0 ≤ ((n0_ran + 1) : Int32).toInt ∧ ((n0_ran + 1) : Int32).toInt ≤ 1000; first | decide | (constructor <;> (have := kk_rng p4; have := kk_add2 (x := n0_ran) (y := 1) (a := n0_ran.toInt) (b := 1) rfl rfl (by omega) (by omega); have := kk_rng p4; have := kk_add2 (x := p4) (y := 1) (a := p4.toInt) (b := 1) rfl rfl (by omega) (by omega); omega))), (by show ((n0_ran + 1) : Int32).toInt ≤ (n0_ran : Int32).toInt + 1; first | decide | (have := kk_rng p4; have := kk_add2 (x := n0_ran) (y := 1) (a := n0_ran.toInt) (b := 1) rfl rfl (by omega) (by omega); have := kk_rng p4; have := kk_add2 (x := p4) (y := 1) (a := p4.toInt) (b := 1) rfl rfl (by omega) (by omega); omega)), by rw [ht]; exact hP9, va_K.moved hW.alike hK9, hD9⟩, hS.F ht⟩) hS.2.2 dX5_call_143
        · skip
          refine lv_icmp_ge (tgt := 97) hx hb dX5_call_83 (by decide) (fun c_10 => ?_) (fun c_10 => ?_)
          · have t_10 : 24 ≤ n0_ran.toInt := kk_le c_10
            exact hcut_8 (f2) _ _ _ ⟨hP, hD, hS, lv_sub hl [0, 1, 2, 3, 4, 5, 6, 7] rfl⟩
          · have t_10 : n0_ran.toInt < 24 := kk_nle c_10
            refine lv_aload_n hx hb dX5_call_86 rfl (lv_at hl 2 rfl) ?_
            refine va_get (D := (dC, dI)) (ci := 5) (v := .ref h2) (C := RX5) (T := TX5) (N := 4) hx hb hts (fun _ h => List.mem_cons_of_mem _ (List.mem_append_right _ h)) hown hK hP 0 rfl rfl 2 (by decide) (hts (.fieldLink RX5 15 "KinkStreet$Lines" "trace" "[I") (List.mem_of_getElem? (i := 4) rfl)) (fun _ h9 => h9) rfl dX5_call_87 ?_
            refine lv_aload_n hx hb dX5_call_90 rfl (lv_at hl 2 rfl) ?_
            refine va_get (D := (dC, dI)) (ci := 5) (v := .int n0_ran) (C := RX5) (T := TX5) (N := 4) hx hb hts (fun _ h => List.mem_cons_of_mem _ (List.mem_append_right _ h)) hown hK hP 0 rfl rfl 3 (by decide) (hts (.fieldLink RX5 36 "KinkStreet$Lines" "ran" "I") (List.mem_of_getElem? (i := 3) rfl)) (fun _ h9 => h9) rfl dX5_call_91 ?_
            refine lv_iload hx hb dX5_call_94 (lv_at hl 0 rfl) ?_
            refine va_iast hx hb hK hP hD hS 2 0 rfl rfl (vp_in_iff.mpr ⟨by have := kk_rng p4; omega, by have := kk_rng p4; omega⟩) dX5_call_96 (fun H locs hP hD hS => ?_)
            generalize upd f2 (n0_ran : Int32).toNatClampNeg 1 = f_11 at hP hD
            have hP : va_P (dC, dI) vwCl [(h0, Sum.inr (5, [Value.ref h1, Value.int n0_size, Value.ref h2, Value.int n0_ran])), (h1, Sum.inl (cint, 50, Sum.inl f1)), (h2, Sum.inl (cint, 24, Sum.inl f_11))] H := hP
            have hD : va_D A [(h0, Sum.inr (5, [Value.ref h1, Value.int n0_size, Value.ref h2, Value.int n0_ran])), (h1, Sum.inl (cint, 50, Sum.inl f1)), (h2, Sum.inl (cint, 24, Sum.inl f_11))] := hD
            exact hcut_8 (f_11) _ _ _ ⟨hP, hD, hS, lv_sub hl [0, 1, 2, 3, 4, 5, 6, 7] rfl⟩
      · have t_3 : 40 < p4.toInt := kk_nle c_3
        refine lv_iconst (v := 0) hx hb dX5_call_63 (by decide) ?_
        obtain ⟨hP9, hD9⟩ := kk_leafout (wc := [(h0, Sum.inr (5, [Value.ref h1, Value.int n0_size, Value.ref h2, Value.int n0_ran])), (h1, Sum.inl (cint, 50, Sum.inl f1)), (h2, Sum.inl (cint, 24, Sum.inl f2))]) hP hD [0, 1, 2] (by decide) rfl
        have hK9 := hK.sub (tys' := []) [] rfl
        exact W.iret (v := 0) hx hb hr (fun t ht hW => ⟨⟨0, (), rfl, trivial, n0_ran, f2, (by show 0 ≤ (n0_ran : Int32).toInt ∧ (n0_ran : Int32).toInt ≤ 1000; first | decide | (constructor <;> (have := kk_rng p4; omega))), (by show (n0_ran : Int32).toInt ≤ (n0_ran : Int32).toInt + 1; first | decide | (have := kk_rng p4; omega)), by rw [ht]; exact hP9, va_K.moved hW.alike hK9, hD9⟩, hS.F ht⟩) hS.2.2 dX5_call_64
  · skip
    have t_1_0 : (0 : Int) ≤ 0 := t_1_0
    have t_1_1 : (0 : Int) < 8 := t_1_1
    refine lv_if_eq (tgt := 48) hx hb dX5_call_18 (by decide) (fun c => absurd c (by decide)) (fun _ => ?_)
    refine va_gets hx hb hZOWN_BODIES hS hown (hts (.fieldLink RX5 43 "KinkStreet$Lines" "OWN_BODIES" "[I") (List.mem_of_getElem? (i := 1) rfl)) (fun _ h9 => h9) dX5_call_21 ?_
    refine lv_iload hx hb dX5_call_24 (lv_at hl 1 rfl) ?_
    refine lv_iconst (v := 4) hx hb dX5_call_26 (by decide) ?_
    refine lv_imul hx hb dX5_call_27 ?_
    refine lv_topi (fun y_12 e_12 => ?_)
    obtain rfl : y_12 = 0 := e_12.trans (by decide)
    refine lv_iload_n hx hb dX5_call_28 rfl (lv_at hl 5 rfl) ?_
    refine lv_iadd hx hb dX5_call_29 ?_
    refine lv_topi (fun y_13 e_13 => ?_)
    obtain rfl : y_13 = 0 := e_13.trans (by decide)
    refine va_ti (v := .int 1) hx hb hTOWN_BODIES hS (by unfold vp_in; decide) rfl dX5_call_30 ?_
    refine lv_if_ne (tgt := 48) hx hb dX5_call_31 (by decide) (fun _ => ?_) (fun c => absurd c (by decide))
    refine lv_iload hx hb dX5_call_48 (lv_at hl 1 rfl) ?_
    obtain ⟨hPc, hDc, hFc⟩ := kk_cutout (wc := []) hP hD hS hA [] (by decide) rfl
    have hKc := hK.sub (tys' := []) [] rfl
    refine va_calli (va_runS (As := [.int 0]) (rest := []) ⟨hx, hb, hml, hown, hts⟩ (g_X5_isKind_0 l dC dI H.size 0) (va_cwS 1 hts gX5_call_X5_isKind rfl rfl rfl (by decide +kernel) ⟨Nat.le_of_ble_eq_true rfl, Nat.le_of_ble_eq_true rfl⟩) ⟨fun a U g mk q => by obtain ⟨q0, q1, qP, qK, qD⟩ := q; exact ⟨q0, q1, qP, va_K.moved (u := U) (U := U.calling g mk a) (Vm.Alike.refl U.vm) qK, qD⟩, fun U hU hW => ⟨rfl, by rw [hU], by rw [hU]; exact hPc, va_K.moved hW.alike hKc, hDc.weaken (fun _ _ _ _ => trivial)⟩⟩ rfl rfl hl.1 rfl (lv_room (Nat.le_of_ble_eq_true rfl)) dX5_call_50 ⟨Nat.le_of_ble_eq_true rfl, Nat.le_of_ble_eq_true rfl⟩) hS (fun q _ h => hFc q h) hFc (fun r_14 u t H1 locs ht hvm hw hB hz1 hk1 hS => ?_)
    obtain ⟨hP1, hK1, hD1⟩ := hB
    rw [ht] at hP1
    have hK1 := va_K.moved hvm.symm hK1
    obtain ⟨hP, hD⟩ := va_join (wr := [(h0, Sum.inr (5, [Value.ref h1, Value.int n0_size, Value.ref h2, Value.int n0_ran])), (h1, Sum.inl (cint, 50, Sum.inl f1)), (h2, Sum.inl (cint, 24, Sum.inl f2))]) (w1 := []) hP hD [] [0, 1, 2] rfl rfl (by decide) (by decide) hk1 hFc hP1 hD1
    generalize H1 = H at hP hS ⊢
    have hP : va_P (dC, dI) vwCl [(h0, Sum.inr (5, [Value.ref h1, Value.int n0_size, Value.ref h2, Value.int n0_ran])), (h1, Sum.inl (cint, 50, Sum.inl f1)), (h2, Sum.inl (cint, 24, Sum.inl f2))] H := hP
    have hD : va_D A [(h0, Sum.inr (5, [Value.ref h1, Value.int n0_size, Value.ref h2, Value.int n0_ran])), (h1, Sum.inl (cint, 50, Sum.inl f1)), (h2, Sum.inl (cint, 24, Sum.inl f2))] := hD
    rcases hw with ⟨rfl⟩ | ⟨t_14_0, t_14_1, rfl⟩
    · skip
      refine lv_if_eq (tgt := 63) hx hb dX5_call_53 (by decide) (fun _ => ?_) (fun c => absurd c (by decide))
      refine lv_iconst (v := 0) hx hb dX5_call_63 (by decide) ?_
      obtain ⟨hP9, hD9⟩ := kk_leafout (wc := [(h0, Sum.inr (5, [Value.ref h1, Value.int n0_size, Value.ref h2, Value.int n0_ran])), (h1, Sum.inl (cint, 50, Sum.inl f1)), (h2, Sum.inl (cint, 24, Sum.inl f2))]) hP hD [0, 1, 2] (by decide) rfl
      have hK9 := hK.sub (tys' := []) [] rfl
      exact W.iret (v := 0) hx hb hr (fun t ht hW => ⟨⟨0, (), rfl, trivial, n0_ran, f2, (by show 0 ≤ (n0_ran : Int32).toInt ∧ (n0_ran : Int32).toInt ≤ 1000; first | decide | (constructor <;> (omega))), (by show (n0_ran : Int32).toInt ≤ (n0_ran : Int32).toInt + 1; first | decide | (omega)), by rw [ht]; exact hP9, va_K.moved hW.alike hK9, hD9⟩, hS.F ht⟩) hS.2.2 dX5_call_64
    · skip
      have t_14_0 : (0 : Int) ≤ 0 := t_14_0
      have t_14_1 : (0 : Int) < 8 := t_14_1
      refine lv_if_eq (tgt := 63) hx hb dX5_call_53 (by decide) (fun c => absurd c (by decide)) (fun _ => ?_)
      refine lv_iload hx hb dX5_call_56 (lv_at hl 7 rfl) ?_
      refine lv_bipush (v := 40) hx hb dX5_call_58 (by decide) ?_
      refine lv_icmp_le (tgt := 65) hx hb dX5_call_60 (by decide) (fun c_15 => ?_) (fun c_15 => ?_)
      · have t_15 : p4.toInt ≤ 40 := kk_le c_15
        refine va_gets hx hb hZOWN_BODIES hS hown (hts (.fieldLink RX5 43 "KinkStreet$Lines" "OWN_BODIES" "[I") (List.mem_of_getElem? (i := 1) rfl)) (fun _ h9 => h9) dX5_call_65 ?_
        refine lv_iload hx hb dX5_call_68 (lv_at hl 1 rfl) ?_
        refine lv_iconst (v := 4) hx hb dX5_call_70 (by decide) ?_
        refine lv_imul hx hb dX5_call_71 ?_
        refine lv_topi (fun y_16 e_16 => ?_)
        obtain rfl : y_16 = 0 := e_16.trans (by decide)
        refine lv_iload_n hx hb dX5_call_72 rfl (lv_at hl 5 rfl) ?_
        refine lv_iadd hx hb dX5_call_73 ?_
        refine lv_topi (fun y_17 e_17 => ?_)
        obtain rfl : y_17 = 0 := e_17.trans (by decide)
        refine va_ti (v := .int 1) hx hb hTOWN_BODIES hS (by unfold vp_in; decide) rfl dX5_call_74 ?_
        refine lv_istore (lv' := [(7, .int 1), (6, .int 0), (0, .ref h0), (1, .int p0), (2, .int 0), (3, .int 0), (4, .int p3), (5, .int p4)]) hx hb dX5_call_75 hl (by decide) rfl (fun ls hl => ?_)
        refine lv_aload_n hx hb dX5_call_77 rfl (lv_at hl 2 rfl) ?_
        refine va_get (D := (dC, dI)) (ci := 5) (v := .int n0_ran) (C := RX5) (T := TX5) (N := 4) hx hb hts (fun _ h => List.mem_cons_of_mem _ (List.mem_append_right _ h)) hown hK hP 0 rfl rfl 3 (by decide) (hts (.fieldLink RX5 36 "KinkStreet$Lines" "ran" "I") (List.mem_of_getElem? (i := 3) rfl)) (fun _ h9 => h9) rfl dX5_call_78 ?_
        refine lv_bipush (v := 24) hx hb dX5_call_81 (by decide) ?_
        refine kk_cut (σ := (Nat → Int32)) (pc' := 97) (fun x H locs ls => va_P (dC, dI) vwCl [(h0, Sum.inr (5, [Value.ref h1, Value.int n0_size, Value.ref h2, Value.int n0_ran])), (h1, Sum.inl (cint, 50, Sum.inl f1)), (h2, Sum.inl (cint, 24, Sum.inl x))] H ∧ va_D A [(h0, Sum.inr (5, [Value.ref h1, Value.int n0_size, Value.ref h2, Value.int n0_ran])), (h1, Sum.inl (cint, 50, Sum.inl f1)), (h2, Sum.inl (cint, 24, Sum.inl x))] ∧ va_S A s.heap H locs ∧ lv_has ls 8 [(7, .int 1), (6, .int 0), (0, .ref h0), (1, .int p0), (2, .int 0), (3, .int 0), (4, .int p3), (5, .int p4)]) ?_ (fun hcut_20 => ?_)
        · rintro f_20_0 H locs ls ⟨hP, hD, hS, hl⟩
          have hl : lv_has ls 8 [(7, .int 1), (6, .int 0), (0, .ref h0), (1, .int p0), (2, .int 0), (3, .int 0), (4, .int p3), (5, .int p4)] := hl
          have hP : va_P (dC, dI) vwCl [(h0, Sum.inr (5, [Value.ref h1, Value.int n0_size, Value.ref h2, Value.int n0_ran])), (h1, Sum.inl (cint, 50, Sum.inl f1)), (h2, Sum.inl (cint, 24, Sum.inl f_20_0))] H := hP
          have hD : va_D A [(h0, Sum.inr (5, [Value.ref h1, Value.int n0_size, Value.ref h2, Value.int n0_ran])), (h1, Sum.inl (cint, 50, Sum.inl f1)), (h2, Sum.inl (cint, 24, Sum.inl f_20_0))] := hD
          refine lv_aload_n hx hb dX5_call_97 rfl (lv_at hl 2 rfl) ?_
          refine lv_dup hx hb dX5_call_98 rfl ?_
          refine va_get (D := (dC, dI)) (ci := 5) (v := .int n0_ran) (C := RX5) (T := TX5) (N := 4) hx hb hts (fun _ h => List.mem_cons_of_mem _ (List.mem_append_right _ h)) hown hK hP 0 rfl rfl 3 (by decide) (hts (.fieldLink RX5 36 "KinkStreet$Lines" "ran" "I") (List.mem_of_getElem? (i := 3) rfl)) (fun _ h9 => h9) rfl dX5_call_99 ?_
          refine lv_iconst (v := 1) hx hb dX5_call_102 (by decide) ?_
          refine lv_iadd hx hb dX5_call_103 ?_
          refine va_put (D := (dC, dI)) (ci := 5) (v := .int (n0_ran + 1)) (ty := .int) (C := RX5) (T := TX5) (N := 4) hx hb hts (fun _ h => List.mem_cons_of_mem _ (List.mem_append_right _ h)) tyX5 tyX5_ok nmX5 hown hK hP hD hS 0 rfl rfl 3 (by decide) (hts (.fieldLink RX5 36 "KinkStreet$Lines" "ran" "I") (List.mem_of_getElem? (i := 3) rfl)) (fun _ h9 => h9) rfl (by decide +kernel) rfl rfl (Nat.le_of_ble_eq_true rfl) dX5_call_104 (fun H locs hP hD hS => ?_)
          have hP : va_P (dC, dI) vwCl [(h0, Sum.inr (5, [Value.ref h1, Value.int n0_size, Value.ref h2, Value.int (n0_ran + 1)])), (h1, Sum.inl (cint, 50, Sum.inl f1)), (h2, Sum.inl (cint, 24, Sum.inl f_20_0))] H := hP
          have hD : va_D A [(h0, Sum.inr (5, [Value.ref h1, Value.int n0_size, Value.ref h2, Value.int (n0_ran + 1)])), (h1, Sum.inl (cint, 50, Sum.inl f1)), (h2, Sum.inl (cint, 24, Sum.inl f_20_0))] := hD
          refine lv_iload hx hb dX5_call_107 (lv_at hl 1 rfl) ?_
          refine lv_if_ne (tgt := 128) hx hb dX5_call_109 (by decide) (fun c => absurd c (by decide)) (fun _ => ?_)
          refine lv_aload_n hx hb dX5_call_112 rfl (lv_at hl 2 rfl) ?_
          refine lv_iload_n hx hb dX5_call_113 rfl (lv_at hl 3 rfl) ?_
          refine lv_iload hx hb dX5_call_114 (lv_at hl 0 rfl) ?_
          refine lv_iload hx hb dX5_call_116 (lv_at hl 6 rfl) ?_
          refine lv_iload hx hb dX5_call_118 (lv_at hl 7 rfl) ?_
          refine lv_iconst (v := 1) hx hb dX5_call_120 (by decide) ?_
          refine lv_iadd hx hb dX5_call_121 ?_
          obtain ⟨hPc, hDc, hFc⟩ := kk_cutout (wc := [(h0, Sum.inr (5, [Value.ref h1, Value.int n0_size, Value.ref h2, Value.int (n0_ran + 1)])), (h1, Sum.inl (cint, 50, Sum.inl f1))]) hP hD hS hA [0, 1] (by decide) rfl
          have hKc := hK.sub (tys' := [(cint, .int)]) [0] rfl
          refine va_calli (va_runV (As := [.int p0, .int 1, .int p3, .int (p4 + 1)]) (rest := []) ⟨hx, hb, hml, hown, hts⟩ (g_X5_runLine_0 l dC dI h0 h1 h2 cint H.size p0 p3 (p4 + 1) n0_size (n0_ran + 1) f1 tn0_size (by show 0 ≤ ((n0_ran + 1) : Int32).toInt ∧ ((n0_ran + 1) : Int32).toInt ≤ 1000; first | decide | (constructor <;> (have := kk_rng p4; have := kk_add2 (x := n0_ran) (y := 1) (a := n0_ran.toInt) (b := 1) rfl rfl (by omega) (by omega); have := kk_rng p4; have := kk_add2 (x := p4) (y := 1) (a := p4.toInt) (b := 1) rfl rfl (by omega) (by omega); omega))) bf1) (cwV 4 hts gX5_call_X5_runLine rfl rfl rfl (by decide +kernel) ⟨Nat.le_of_ble_eq_true rfl, Nat.le_of_ble_eq_true rfl⟩) ⟨fun a U g mk q => by obtain ⟨q0, q1, qP, qK, qD⟩ := q; exact ⟨q0, q1, qP, va_K.moved (u := U) (U := U.calling g mk a) (Vm.Alike.refl U.vm) qK, qD⟩, va_recv hKc hPc (ci := 5) (q0 := 0) rfl rfl, fun U hU hW => ⟨rfl, by rw [hU], by rw [hU]; exact hPc, va_K.moved hW.alike hKc, hDc.weaken (fun _ _ _ _ => trivial)⟩⟩ rfl rfl hl.1 rfl (lv_room (Nat.le_of_ble_eq_true rfl)) dX5_call_122 ⟨Nat.le_of_ble_eq_true rfl, Nat.le_of_ble_eq_true rfl⟩) hS (fun q _ h => hFc q h) hFc (fun r_21 u t H1 locs ht hvm hw hB hz1 hk1 hS => ?_)
          obtain ⟨hP1, hK1, hD1⟩ := hB
          rw [ht] at hP1
          have hK1 := va_K.moved hvm.symm hK1
          obtain ⟨hP, hD⟩ := va_join (wr := [(h2, Sum.inl (cint, 24, Sum.inl f_20_0))]) (w1 := [(h0, Sum.inr (5, [Value.ref h1, Value.int n0_size, Value.ref h2, Value.int (n0_ran + 1)])), (h1, Sum.inl (cint, 50, Sum.inl f1))]) hP hD [0, 1] [2] rfl rfl (by decide) (by decide) hk1 hFc hP1 hD1
          generalize H1 = H at hP hS ⊢
          have hP : va_P (dC, dI) vwCl [(h2, Sum.inl (cint, 24, Sum.inl f_20_0)), (h0, Sum.inr (5, [Value.ref h1, Value.int n0_size, Value.ref h2, Value.int (n0_ran + 1)])), (h1, Sum.inl (cint, 50, Sum.inl f1))] H := hP
          have hD : va_D A [(h2, Sum.inl (cint, 24, Sum.inl f_20_0)), (h0, Sum.inr (5, [Value.ref h1, Value.int n0_size, Value.ref h2, Value.int (n0_ran + 1)])), (h1, Sum.inl (cint, 50, Sum.inl f1))] := hD
          obtain rfl := hw
          refine lv_goto (tgt := 143) hx hb dX5_call_125 (by decide) ?_
          obtain ⟨hP9, hD9⟩ := kk_leafout (wc := [(h0, Sum.inr (5, [Value.ref h1, Value.int n0_size, Value.ref h2, Value.int (n0_ran + 1)])), (h1, Sum.inl (cint, 50, Sum.inl f1)), (h2, Sum.inl (cint, 24, Sum.inl f_20_0))]) hP hD [1, 2, 0] (by decide) rfl
          have hK9 := hK.sub (tys' := []) [] rfl
          exact W.iret (v := (p3 + p0)) hx hb hr (fun t ht hW => ⟨⟨(p3 + p0), (), rfl, trivial, (n0_ran + 1), f_20_0, (by show 0 ≤ ((n0_ran + 1) : Int32).toInt ∧ ((n0_ran + 1) : Int32).toInt ≤ 1000; first | decide | (constructor <;> (have := kk_rng p4; have := kk_add2 (x := n0_ran) (y := 1) (a := n0_ran.toInt) (b := 1) rfl rfl (by omega) (by omega); have := kk_rng p4; have := kk_add2 (x := p4) (y := 1) (a := p4.toInt) (b := 1) rfl rfl (by omega) (by omega); omega))), (by show ((n0_ran + 1) : Int32).toInt ≤ (n0_ran : Int32).toInt + 1; first | decide | (have := kk_rng p4; have := kk_add2 (x := n0_ran) (y := 1) (a := n0_ran.toInt) (b := 1) rfl rfl (by omega) (by omega); have := kk_rng p4; have := kk_add2 (x := p4) (y := 1) (a := p4.toInt) (b := 1) rfl rfl (by omega) (by omega); omega)), by rw [ht]; exact hP9, va_K.moved hW.alike hK9, hD9⟩, hS.F ht⟩) hS.2.2 dX5_call_143
        · skip
          refine lv_icmp_ge (tgt := 97) hx hb dX5_call_83 (by decide) (fun c_22 => ?_) (fun c_22 => ?_)
          · have t_22 : 24 ≤ n0_ran.toInt := kk_le c_22
            exact hcut_20 (f2) _ _ _ ⟨hP, hD, hS, lv_sub hl [0, 1, 2, 3, 4, 5, 6, 7] rfl⟩
          · have t_22 : n0_ran.toInt < 24 := kk_nle c_22
            refine lv_aload_n hx hb dX5_call_86 rfl (lv_at hl 2 rfl) ?_
            refine va_get (D := (dC, dI)) (ci := 5) (v := .ref h2) (C := RX5) (T := TX5) (N := 4) hx hb hts (fun _ h => List.mem_cons_of_mem _ (List.mem_append_right _ h)) hown hK hP 0 rfl rfl 2 (by decide) (hts (.fieldLink RX5 15 "KinkStreet$Lines" "trace" "[I") (List.mem_of_getElem? (i := 4) rfl)) (fun _ h9 => h9) rfl dX5_call_87 ?_
            refine lv_aload_n hx hb dX5_call_90 rfl (lv_at hl 2 rfl) ?_
            refine va_get (D := (dC, dI)) (ci := 5) (v := .int n0_ran) (C := RX5) (T := TX5) (N := 4) hx hb hts (fun _ h => List.mem_cons_of_mem _ (List.mem_append_right _ h)) hown hK hP 0 rfl rfl 3 (by decide) (hts (.fieldLink RX5 36 "KinkStreet$Lines" "ran" "I") (List.mem_of_getElem? (i := 3) rfl)) (fun _ h9 => h9) rfl dX5_call_91 ?_
            refine lv_iload hx hb dX5_call_94 (lv_at hl 0 rfl) ?_
            refine va_iast hx hb hK hP hD hS 2 0 rfl rfl (vp_in_iff.mpr ⟨by have := kk_rng p4; omega, by have := kk_rng p4; omega⟩) dX5_call_96 (fun H locs hP hD hS => ?_)
            generalize upd f2 (n0_ran : Int32).toNatClampNeg 1 = f_23 at hP hD
            have hP : va_P (dC, dI) vwCl [(h0, Sum.inr (5, [Value.ref h1, Value.int n0_size, Value.ref h2, Value.int n0_ran])), (h1, Sum.inl (cint, 50, Sum.inl f1)), (h2, Sum.inl (cint, 24, Sum.inl f_23))] H := hP
            have hD : va_D A [(h0, Sum.inr (5, [Value.ref h1, Value.int n0_size, Value.ref h2, Value.int n0_ran])), (h1, Sum.inl (cint, 50, Sum.inl f1)), (h2, Sum.inl (cint, 24, Sum.inl f_23))] := hD
            exact hcut_20 (f_23) _ _ _ ⟨hP, hD, hS, lv_sub hl [0, 1, 2, 3, 4, 5, 6, 7] rfl⟩
      · have t_15 : 40 < p4.toInt := kk_nle c_15
        refine lv_iconst (v := 0) hx hb dX5_call_63 (by decide) ?_
        obtain ⟨hP9, hD9⟩ := kk_leafout (wc := [(h0, Sum.inr (5, [Value.ref h1, Value.int n0_size, Value.ref h2, Value.int n0_ran])), (h1, Sum.inl (cint, 50, Sum.inl f1)), (h2, Sum.inl (cint, 24, Sum.inl f2))]) hP hD [0, 1, 2] (by decide) rfl
        have hK9 := hK.sub (tys' := []) [] rfl
        exact W.iret (v := 0) hx hb hr (fun t ht hW => ⟨⟨0, (), rfl, trivial, n0_ran, f2, (by show 0 ≤ (n0_ran : Int32).toInt ∧ (n0_ran : Int32).toInt ≤ 1000; first | decide | (constructor <;> (have := kk_rng p4; omega))), (by show (n0_ran : Int32).toInt ≤ (n0_ran : Int32).toInt + 1; first | decide | (have := kk_rng p4; omega)), by rw [ht]; exact hP9, va_K.moved hW.alike hK9, hD9⟩, hS.F ht⟩) hS.2.2 dX5_call_64
