set_option maxHeartbeats 4000000 in
set_option maxRecDepth 100000 in
theorem g_X2_foundPlot_0 (l : Launch) (dC : Nat → ClassId) (dI : Nat → Nat → Nat) (h0 : Nat) (h1 : Nat) (h2 : Nat) (h3 : Nat) (h4 : Nat) (h5 : Nat) (h6 : Nat) (h7 : Nat) (h8 : Nat) (h9 : Nat) (cint : ClassId) (sz : Nat) (p0 : Int32) (n0_size : Int32) (n0_names : Int32) (n0_plots : Int32) (n0_ways : Int32) (f1 : Nat → Int32) (f2 : Nat → Int32) (tn0_size : 0 ≤ n0_size.toInt ∧ n0_size.toInt ≤ 10) (tn0_names : 0 ≤ n0_names.toInt ∧ n0_names.toInt ≤ 8) (tn0_plots : 0 ≤ n0_plots.toInt ∧ n0_plots.toInt ≤ 40) : Met l yX2_foundPlot wsX2_foundPlot ({ frames := 2, cells := 0, slots := 0, locals := 42 }) (va_Pc [.ref h0, .int p0] (fun U => U.heap.size = sz ∧ va_P (dC, dI) vwCl [(h0, Sum.inr (2, [Value.ref h3, Value.ref h4, Value.ref h5, Value.int n0_size, Value.ref h1, Value.int n0_names, Value.int n0_plots, Value.ref h6, Value.ref h7, Value.ref h8, Value.ref h9, Value.ref h2, Value.int n0_ways])), (h1, Sum.inl (cint, 8, Sum.inl f1)), (h2, Sum.inl (cint, 5, Sum.inl f2))] U.heap ∧ va_K (dC, dI) vwCl [(cint, .int)] U ∧ va_D (fun _ => True) [(h0, Sum.inr (2, [Value.ref h3, Value.ref h4, Value.ref h5, Value.int n0_size, Value.ref h1, Value.int n0_names, Value.int n0_plots, Value.ref h6, Value.ref h7, Value.ref h8, Value.ref h9, Value.ref h2, Value.int n0_ways])), (h1, Sum.inl (cint, 8, Sum.inl f1)), (h2, Sum.inl (cint, 5, Sum.inl f2))])) (va_Qi (fun (r : Int32) (_ : Unit) => True) (fun (_ : Unit) t => va_P (dC, dI) vwCl [(h0, Sum.inr (2, [Value.ref h3, Value.ref h4, Value.ref h5, Value.int n0_size, Value.ref h1, Value.int n0_names, Value.int n0_plots, Value.ref h6, Value.ref h7, Value.ref h8, Value.ref h9, Value.ref h2, Value.int n0_ways])), (h1, Sum.inl (cint, 8, Sum.inl f1)), (h2, Sum.inl (cint, 5, Sum.inl f2))] t.heap ∧ va_K (dC, dI) vwCl [] t ∧ va_D (va_A [(h0, Sum.inr (2, [Value.ref h3, Value.ref h4, Value.ref h5, Value.int n0_size, Value.ref h1, Value.int n0_names, Value.int n0_plots, Value.ref h6, Value.ref h7, Value.ref h8, Value.ref h9, Value.ref h2, Value.int n0_ways])), (h1, Sum.inl (cint, 8, Sum.inl f1)), (h2, Sum.inl (cint, 5, Sum.inl f2))] sz) [(h0, Sum.inr (2, [Value.ref h3, Value.ref h4, Value.ref h5, Value.int n0_size, Value.ref h1, Value.int n0_names, Value.int n0_plots, Value.ref h6, Value.ref h7, Value.ref h8, Value.ref h9, Value.ref h2, Value.int n0_ways])), (h1, Sum.inl (cint, 8, Sum.inl f1)), (h2, Sum.inl (cint, 5, Sum.inl f2))]) (va_A [(h0, Sum.inr (2, [Value.ref h3, Value.ref h4, Value.ref h5, Value.int n0_size, Value.ref h1, Value.int n0_names, Value.int n0_plots, Value.ref h6, Value.ref h7, Value.ref h8, Value.ref h9, Value.ref h2, Value.int n0_ways])), (h1, Sum.inl (cint, 8, Sum.inl f1)), (h2, Sum.inl (cint, 5, Sum.inl f2))] sz)) 0 0 (va_A [(h0, Sum.inr (2, [Value.ref h3, Value.ref h4, Value.ref h5, Value.int n0_size, Value.ref h1, Value.int n0_names, Value.int n0_plots, Value.ref h6, Value.ref h7, Value.ref h8, Value.ref h9, Value.ref h2, Value.int n0_ways])), (h1, Sum.inl (cint, 8, Sum.inl f1)), (h2, Sum.inl (cint, 5, Sum.inl f2))] sz) := by
  refine Met.ofW (cc := cX2_foundPlot) (maxL := 2) (ret := (some .int)) (by decide) rfl ?_
  intro p e s m args below meth c s₁ B hml hv
  obtain ⟨rfl, hsz, hP, hK, hD0⟩ := hv
  have hx := B.exec
  have hb := B.bytes
  have hr := B.returns
  have hts := atoms_spec (ws := wsX2_foundPlot) B.pre
  have hown : s.vm.findClass RX2 = some m.cls := findClass_of_methodNamed B.named
  have hlocks := B.notSynchronized
  subst hsz
  have hD := hD0.self (sz := s.heap.size)
  generalize hAe : va_A [(h0, Sum.inr (2, [Value.ref h3, Value.ref h4, Value.ref h5, Value.int n0_size, Value.ref h1, Value.int n0_names, Value.int n0_plots, Value.ref h6, Value.ref h7, Value.ref h8, Value.ref h9, Value.ref h2, Value.int n0_ways])), (h1, Sum.inl (cint, 8, Sum.inl f1)), (h2, Sum.inl (cint, 5, Sum.inl f2))] s.heap.size = A at hD ⊢
  have hA : ∀ q : Nat, s.heap.size ≤ q → A q := fun q h => by rw [← hAe]; exact Or.inr h
  have hS : va_S A s.heap s.heap [] := va_S.rf
  have hP : va_P (dC, dI) vwCl [(h0, Sum.inr (2, [Value.ref h3, Value.ref h4, Value.ref h5, Value.int n0_size, Value.ref h1, Value.int n0_names, Value.int n0_plots, Value.ref h6, Value.ref h7, Value.ref h8, Value.ref h9, Value.ref h2, Value.int n0_ways])), (h1, Sum.inl (cint, 8, Sum.inl f1)), (h2, Sum.inl (cint, 5, Sum.inl f2))] s.heap := hP
  have hl := lv_entry ([.ref h0, .int p0]) (n := 2) (Nat.le_of_ble_eq_true rfl)
  rw [lg_entry_eq]
  generalize (lg_sl ([.ref h0, .int p0]) ++ List.replicate (2 - (lg_sl ([.ref h0, .int p0])).length) Slot.unset).toArray = ls at hl ⊢
  have hl : lv_has ls 2 [(0, .ref h0), (1, .int p0)] := hl
  refine lv_aload_n hx hb dX2_foundPlot_0 rfl (lv_at hl 0 rfl) ?_
  refine va_get (D := (dC, dI)) (ci := 2) (v := .ref h2) (C := RX2) (T := TX2) (N := 13) hx hb hts (fun _ h => List.mem_cons_of_mem _ (List.mem_append_right _ h)) hown hK hP 0 rfl rfl 11 (by decide) (hts (.fieldLink RX2 38 "KinkStreet$Deeds" "found" "[I") (List.mem_of_getElem? (i := 1) rfl)) (fun _ h9 => h9) rfl dX2_foundPlot_1 ?_
  refine lv_aload_n hx hb dX2_foundPlot_4 rfl (lv_at hl 0 rfl) ?_
  refine lv_iload_n hx hb dX2_foundPlot_5 rfl (lv_at hl 1 rfl) ?_
  obtain ⟨hPc, hDc, hFc⟩ := kk_cutout (wc := [(h0, Sum.inr (2, [Value.ref h3, Value.ref h4, Value.ref h5, Value.int n0_size, Value.ref h1, Value.int n0_names, Value.int n0_plots, Value.ref h6, Value.ref h7, Value.ref h8, Value.ref h9, Value.ref h2, Value.int n0_ways])), (h1, Sum.inl (cint, 8, Sum.inl f1))]) hP hD hS hA [0, 1] (by decide) rfl
  have hKc := hK.sub (tys' := [(cint, .int)]) [0] rfl
  refine va_calli (va_runV (As := [.int p0]) (rest := [.ref h2]) ⟨hx, hb, hml, hown, hts⟩ (g_X2_seat_0 l dC dI h0 h1 h3 h4 h5 h6 h7 h8 h9 h2 cint s.heap.size p0 n0_size n0_names n0_plots n0_ways f1 tn0_size tn0_names tn0_plots) (cwV 1 hts gX2_foundPlot_X2_seat rfl rfl rfl (by decide +kernel) ⟨Nat.le_of_ble_eq_true rfl, Nat.le_of_ble_eq_true rfl⟩) ⟨fun a U g mk q => by obtain ⟨q0, q1, qP, qK, qD⟩ := q; exact ⟨q0, q1, qP, va_K.moved (u := U) (U := U.calling g mk a) (Vm.Alike.refl U.vm) qK, qD⟩, va_recv hKc hPc (ci := 2) (q0 := 0) rfl rfl, fun U hU hW => ⟨rfl, by rw [hU], by rw [hU]; exact hPc, va_K.moved hW.alike hKc, hDc.weaken (fun _ _ _ _ => trivial)⟩⟩ rfl rfl hl.1 rfl (lv_room (Nat.le_of_ble_eq_true rfl)) dX2_foundPlot_6 ⟨Nat.le_of_ble_eq_true rfl, Nat.le_of_ble_eq_true rfl⟩) hS (fun q _ h => hFc q h) hFc (fun r_1 u t H1 locs ht hvm hw hB hz1 hk1 hS => ?_)
  obtain ⟨hP1, hK1, hD1⟩ := hB
  rw [ht] at hP1
  have hK1 := va_K.moved hvm.symm hK1
  obtain ⟨hP, hD⟩ := va_join (wr := [(h2, Sum.inl (cint, 5, Sum.inl f2))]) (w1 := [(h0, Sum.inr (2, [Value.ref h3, Value.ref h4, Value.ref h5, Value.int n0_size, Value.ref h1, Value.int n0_names, Value.int n0_plots, Value.ref h6, Value.ref h7, Value.ref h8, Value.ref h9, Value.ref h2, Value.int n0_ways])), (h1, Sum.inl (cint, 8, Sum.inl f1))]) hP hD [0, 1] [2] rfl rfl (by decide) (by decide) hk1 hFc hP1 hD1
  generalize H1 = H at hP hS ⊢
  have hP : va_P (dC, dI) vwCl [(h2, Sum.inl (cint, 5, Sum.inl f2)), (h0, Sum.inr (2, [Value.ref h3, Value.ref h4, Value.ref h5, Value.int n0_size, Value.ref h1, Value.int n0_names, Value.int n0_plots, Value.ref h6, Value.ref h7, Value.ref h8, Value.ref h9, Value.ref h2, Value.int n0_ways])), (h1, Sum.inl (cint, 8, Sum.inl f1))] H := hP
  have hD : va_D A [(h2, Sum.inl (cint, 5, Sum.inl f2)), (h0, Sum.inr (2, [Value.ref h3, Value.ref h4, Value.ref h5, Value.int n0_size, Value.ref h1, Value.int n0_names, Value.int n0_plots, Value.ref h6, Value.ref h7, Value.ref h8, Value.ref h9, Value.ref h2, Value.int n0_ways])), (h1, Sum.inl (cint, 8, Sum.inl f1))] := hD
  have t_1 : 0 ≤ r_1.toInt ∧ r_1.toInt ≤ 4 := hw
  have hi_2 : vp_in r_1 5 := (vp_in_iff.mpr ⟨by omega, by omega⟩)
  refine va_iald hx hb hK hP 0 0 rfl rfl hi_2 dX2_foundPlot_9 ?_
  refine lv_topi (fun y_2 e_2 => ?_)
  clear e_2
  obtain ⟨hP9, hD9⟩ := kk_leafout (wc := [(h0, Sum.inr (2, [Value.ref h3, Value.ref h4, Value.ref h5, Value.int n0_size, Value.ref h1, Value.int n0_names, Value.int n0_plots, Value.ref h6, Value.ref h7, Value.ref h8, Value.ref h9, Value.ref h2, Value.int n0_ways])), (h1, Sum.inl (cint, 8, Sum.inl f1)), (h2, Sum.inl (cint, 5, Sum.inl f2))]) hP hD [1, 2, 0] (by decide) rfl
  have hK9 := hK.sub (tys' := []) [] rfl
  exact W.iret (v := y_2) hx hb hr (fun t ht hW => ⟨⟨y_2, (), rfl, trivial, by rw [ht]; exact hP9, va_K.moved hW.alike hK9, hD9⟩, hS.F ht⟩) hS.2.2 dX2_foundPlot_10
set_option maxHeartbeats 4000000 in
set_option maxRecDepth 100000 in
theorem g_X6_sortIn_0 (l : Launch) (dC : Nat → ClassId) (dI : Nat → Nat → Nat) (h0 : Nat) (h1 : Nat) (h2 : Nat) (h3 : Nat) (h4 : Nat) (cint : ClassId) (sz : Nat) (p0 : Int32) (p1 : Int32) (tp1 : 0 ≤ p1.toInt ∧ p1.toInt ≤ 39) (n0_pieceCount : Int32) (f1 : Nat → Int32) (tn0_pieceCount : 0 ≤ n0_pieceCount.toInt ∧ n0_pieceCount.toInt ≤ 5) : Met l yX6_sortIn wsX6_sortIn ({ frames := 1, cells := 0, slots := 0, locals := 21 }) (va_Pc [.ref h0, .int p0, .int p1] (fun U => U.heap.size = sz ∧ va_P (dC, dI) vwCl [(h0, Sum.inr (6, [Value.ref h2, Value.ref h3, Value.ref h1, Value.ref h4, Value.int n0_pieceCount])), (h1, Sum.inl (cint, 40, Sum.inl f1))] U.heap ∧ va_K (dC, dI) vwCl [(cint, .int)] U ∧ va_D (fun _ => True) [(h0, Sum.inr (6, [Value.ref h2, Value.ref h3, Value.ref h1, Value.ref h4, Value.int n0_pieceCount])), (h1, Sum.inl (cint, 40, Sum.inl f1))])) (va_Qv (fun (_ : Unit) => True) (fun (_ : Unit) t => ∃ (g1 : Nat → Int32), va_P (dC, dI) vwCl [(h0, Sum.inr (6, [Value.ref h2, Value.ref h3, Value.ref h1, Value.ref h4, Value.int n0_pieceCount])), (h1, Sum.inl (cint, 40, Sum.inl g1))] t.heap ∧ va_K (dC, dI) vwCl [] t ∧ va_D (va_A [(h0, Sum.inr (6, [Value.ref h2, Value.ref h3, Value.ref h1, Value.ref h4, Value.int n0_pieceCount])), (h1, Sum.inl (cint, 40, Sum.inl f1))] sz) [(h0, Sum.inr (6, [Value.ref h2, Value.ref h3, Value.ref h1, Value.ref h4, Value.int n0_pieceCount])), (h1, Sum.inl (cint, 40, Sum.inl g1))]) (va_A [(h0, Sum.inr (6, [Value.ref h2, Value.ref h3, Value.ref h1, Value.ref h4, Value.int n0_pieceCount])), (h1, Sum.inl (cint, 40, Sum.inl f1))] sz)) 0 0 (va_A [(h0, Sum.inr (6, [Value.ref h2, Value.ref h3, Value.ref h1, Value.ref h4, Value.int n0_pieceCount])), (h1, Sum.inl (cint, 40, Sum.inl f1))] sz) := by
  refine Met.ofW (cc := cX6_sortIn) (maxL := 4) (ret := none) (by decide) rfl ?_
  intro p e s m args below meth c s₁ B hml hv
  obtain ⟨rfl, hsz, hP, hK, hD0⟩ := hv
  have hx := B.exec
  have hb := B.bytes
  have hr := B.returns
  have hts := atoms_spec (ws := wsX6_sortIn) B.pre
  have hown : s.vm.findClass RX6 = some m.cls := findClass_of_methodNamed B.named
  have hlocks := B.notSynchronized
  subst hsz
  have hD := hD0.self (sz := s.heap.size)
  generalize hAe : va_A [(h0, Sum.inr (6, [Value.ref h2, Value.ref h3, Value.ref h1, Value.ref h4, Value.int n0_pieceCount])), (h1, Sum.inl (cint, 40, Sum.inl f1))] s.heap.size = A at hD ⊢
  have hA : ∀ q : Nat, s.heap.size ≤ q → A q := fun q h => by rw [← hAe]; exact Or.inr h
  have hS : va_S A s.heap s.heap [] := va_S.rf
  have hP : va_P (dC, dI) vwCl [(h0, Sum.inr (6, [Value.ref h2, Value.ref h3, Value.ref h1, Value.ref h4, Value.int n0_pieceCount])), (h1, Sum.inl (cint, 40, Sum.inl f1))] s.heap := hP
  have hl := lv_entry ([.ref h0, .int p0, .int p1]) (n := 4) (Nat.le_of_ble_eq_true rfl)
  rw [lg_entry_eq]
  generalize (lg_sl ([.ref h0, .int p0, .int p1]) ++ List.replicate (4 - (lg_sl ([.ref h0, .int p0, .int p1])).length) Slot.unset).toArray = ls at hl ⊢
  have hl : lv_has ls 4 [(0, .ref h0), (1, .int p0), (2, .int p1)] := hl
  refine lv_iload_n hx hb dX6_sortIn_0 rfl (lv_at hl 2 rfl) ?_
  refine lv_aload_n hx hb dX6_sortIn_1 rfl (lv_at hl 0 rfl) ?_
  refine va_get (D := (dC, dI)) (ci := 6) (v := .ref h1) (C := RX6) (T := TX6) (N := 5) hx hb hts (fun _ h => List.mem_cons_of_mem _ (List.mem_append_right _ h)) hown hK hP 0 rfl rfl 2 (by decide) (hts (.fieldLink RX6 19 "KinkStreet$Pieces" "sorted" "[I") (List.mem_of_getElem? (i := 1) rfl)) (fun _ h9 => h9) rfl dX6_sortIn_2 ?_
  refine va_alen (v := 40) hx hb hK hP 1 0 rfl rfl rfl dX6_sortIn_5 ?_
  refine lv_iconst (v := 1) hx hb dX6_sortIn_6 (by decide) ?_
  refine lv_isub hx hb dX6_sortIn_7 ?_
  refine lv_topi (fun y_1 e_1 => ?_)
  obtain rfl : y_1 = 39 := e_1.trans (by decide)
  refine va_mmin hx hb (hml.trans hl.1.symm) hown (hts (.methodLink RX6 63 Lib.Math.min.name) (List.mem_of_getElem? (i := 2) rfl)) (hts (.static Lib.Math.min.name) (List.mem_of_getElem? (i := 3) rfl)) (hts (.initialized "java/lang/Math") (List.mem_of_getElem? (i := 4) rfl)) (hts (.code Lib.Math.min.name Lib.Math.min.code 2 (some .int)) (List.mem_of_getElem? (i := 5) rfl)) (Nat.le_of_ble_eq_true rfl) (Nat.le_of_ble_eq_true rfl) (Nat.le_of_ble_eq_true rfl) (Nat.le_of_ble_eq_true rfl) dX6_sortIn_8 ?_
  refine lv_topi (fun y_2 e_2 => ?_)
  have t_2 : y_2.toInt ≤ p1.toInt ∧ y_2.toInt ≤ 39 ∧ (y_2.toInt = p1.toInt ∨ y_2.toInt = 39) := by rw [e_2]; exact kk_min _ _
  clear e_2
  refine lv_istore_n (lv' := [(3, .int y_2), (0, .ref h0), (1, .int p0), (2, .int p1)]) hx hb dX6_sortIn_11 rfl hl (by decide) rfl (fun ls hl => ?_)
  refine kk_loop (σ := Int32 × (Nat → Int32)) (fun x H locs ls => (0 ≤ x.1.toInt ∧ x.1.toInt ≤ 39) ∧ x.1.toInt ≤ y_2.toInt ∧ va_P (dC, dI) vwCl [(h0, Sum.inr (6, [Value.ref h2, Value.ref h3, Value.ref h1, Value.ref h4, Value.int n0_pieceCount])), (h1, Sum.inl (cint, 40, Sum.inl x.2))] H ∧ va_D A [(h0, Sum.inr (6, [Value.ref h2, Value.ref h3, Value.ref h1, Value.ref h4, Value.int n0_pieceCount])), (h1, Sum.inl (cint, 40, Sum.inl x.2))] ∧ va_S A s.heap H locs ∧ lv_has ls 4 [(3, .int x.1), (0, .ref h0), (1, .int p0), (2, .int p1)]) (fun x => (x.1.toInt - (0 : Int)).toNat) ?_ (y_2, f1) _ _ _ ⟨(by show 0 ≤ (y_2 : Int32).toInt ∧ (y_2 : Int32).toInt ≤ 39; first | decide | (constructor <;> (omega))), (by show (y_2 : Int32).toInt ≤ (y_2 : Int32).toInt; first | decide | (omega)), hP, hD, hS, hl⟩
  rintro ⟨i_3_0, f_3_1⟩ H locs ls ⟨t_3_0, z_3_0, hP, hD, hS, hl⟩ ih_3
  have t_3_0 : (0 ≤ i_3_0.toInt ∧ i_3_0.toInt ≤ 39) := t_3_0
  have z_3_0 : i_3_0.toInt ≤ y_2.toInt := z_3_0
  have hl : lv_has ls 4 [(3, .int i_3_0), (0, .ref h0), (1, .int p0), (2, .int p1)] := hl
  have hP : va_P (dC, dI) vwCl [(h0, Sum.inr (6, [Value.ref h2, Value.ref h3, Value.ref h1, Value.ref h4, Value.int n0_pieceCount])), (h1, Sum.inl (cint, 40, Sum.inl f_3_1))] H := hP
  have hD : va_D A [(h0, Sum.inr (6, [Value.ref h2, Value.ref h3, Value.ref h1, Value.ref h4, Value.int n0_pieceCount])), (h1, Sum.inl (cint, 40, Sum.inl f_3_1))] := hD
  refine lv_iload_n hx hb dX6_sortIn_12 rfl (lv_at hl 0 rfl) ?_
  refine lv_if_le (tgt := 48) hx hb dX6_sortIn_13 (by decide) (fun c_4 => ?_) (fun c_4 => ?_)
  · have t_4 : i_3_0.toInt ≤ 0 := kk_le c_4
    refine lv_aload_n hx hb dX6_sortIn_48 rfl (lv_at hl 1 rfl) ?_
    refine va_get (D := (dC, dI)) (ci := 6) (v := .ref h1) (C := RX6) (T := TX6) (N := 5) hx hb hts (fun _ h => List.mem_cons_of_mem _ (List.mem_append_right _ h)) hown hK hP 0 rfl rfl 2 (by decide) (hts (.fieldLink RX6 19 "KinkStreet$Pieces" "sorted" "[I") (List.mem_of_getElem? (i := 1) rfl)) (fun _ h9 => h9) rfl dX6_sortIn_49 ?_
    refine lv_iload_n hx hb dX6_sortIn_52 rfl (lv_at hl 0 rfl) ?_
    refine lv_iload_n hx hb dX6_sortIn_53 rfl (lv_at hl 2 rfl) ?_
    refine va_iast hx hb hK hP hD hS 1 0 rfl rfl (vp_in_iff.mpr ⟨by omega, by omega⟩) dX6_sortIn_54 (fun H locs hP hD hS => ?_)
    generalize upd f_3_1 (i_3_0 : Int32).toNatClampNeg p0 = f_5 at hP hD
    have hP : va_P (dC, dI) vwCl [(h0, Sum.inr (6, [Value.ref h2, Value.ref h3, Value.ref h1, Value.ref h4, Value.int n0_pieceCount])), (h1, Sum.inl (cint, 40, Sum.inl f_5))] H := hP
    have hD : va_D A [(h0, Sum.inr (6, [Value.ref h2, Value.ref h3, Value.ref h1, Value.ref h4, Value.int n0_pieceCount])), (h1, Sum.inl (cint, 40, Sum.inl f_5))] := hD
    obtain ⟨hP9, hD9⟩ := kk_leafout (wc := [(h0, Sum.inr (6, [Value.ref h2, Value.ref h3, Value.ref h1, Value.ref h4, Value.int n0_pieceCount])), (h1, Sum.inl (cint, 40, Sum.inl f_5))]) hP hD [0, 1] (by decide) rfl
    have hK9 := hK.sub (tys' := []) [] rfl
    exact W.vret hx hb hr (fun t ht hW => ⟨⟨(), rfl, trivial, f_5, by rw [ht]; exact hP9, va_K.moved hW.alike hK9, hD9⟩, hS.F ht⟩) hS.2.2 dX6_sortIn_55
  · have t_4 : 0 < i_3_0.toInt := kk_nle c_4
    refine lv_aload_n hx hb dX6_sortIn_16 rfl (lv_at hl 1 rfl) ?_
    refine va_get (D := (dC, dI)) (ci := 6) (v := .ref h1) (C := RX6) (T := TX6) (N := 5) hx hb hts (fun _ h => List.mem_cons_of_mem _ (List.mem_append_right _ h)) hown hK hP 0 rfl rfl 2 (by decide) (hts (.fieldLink RX6 19 "KinkStreet$Pieces" "sorted" "[I") (List.mem_of_getElem? (i := 1) rfl)) (fun _ h9 => h9) rfl dX6_sortIn_17 ?_
    refine lv_iload_n hx hb dX6_sortIn_20 rfl (lv_at hl 0 rfl) ?_
    refine lv_iconst (v := 1) hx hb dX6_sortIn_21 (by decide) ?_
    refine lv_isub hx hb dX6_sortIn_22 ?_
    have hi_6 : vp_in (i_3_0 - 1) 40 := (vp_in_iff.mpr ⟨by have := kk_sub2 (x := i_3_0) (y := 1) (a := i_3_0.toInt) (b := 1) rfl rfl (by omega) (by omega); omega, by have := kk_sub2 (x := i_3_0) (y := 1) (a := i_3_0.toInt) (b := 1) rfl rfl (by omega) (by omega); omega⟩)
    refine va_iald hx hb hK hP 1 0 rfl rfl hi_6 dX6_sortIn_23 ?_
    refine lv_topi (fun y_6 e_6 => ?_)
    clear e_6
    refine lv_iload_n hx hb dX6_sortIn_24 rfl (lv_at hl 2 rfl) ?_
    refine lv_icmp_le (tgt := 48) hx hb dX6_sortIn_25 (by decide) (fun c_7 => ?_) (fun c_7 => ?_)
    · have t_7 : y_6.toInt ≤ p0.toInt := kk_le c_7
      refine lv_aload_n hx hb dX6_sortIn_48 rfl (lv_at hl 1 rfl) ?_
      refine va_get (D := (dC, dI)) (ci := 6) (v := .ref h1) (C := RX6) (T := TX6) (N := 5) hx hb hts (fun _ h => List.mem_cons_of_mem _ (List.mem_append_right _ h)) hown hK hP 0 rfl rfl 2 (by decide) (hts (.fieldLink RX6 19 "KinkStreet$Pieces" "sorted" "[I") (List.mem_of_getElem? (i := 1) rfl)) (fun _ h9 => h9) rfl dX6_sortIn_49 ?_
      refine lv_iload_n hx hb dX6_sortIn_52 rfl (lv_at hl 0 rfl) ?_
      refine lv_iload_n hx hb dX6_sortIn_53 rfl (lv_at hl 2 rfl) ?_
      refine va_iast hx hb hK hP hD hS 1 0 rfl rfl (vp_in_iff.mpr ⟨by have := kk_rng y_6; have := kk_rng p0; have := kk_sub2 (x := i_3_0) (y := 1) (a := i_3_0.toInt) (b := 1) rfl rfl (by omega) (by omega); omega, by have := kk_rng y_6; have := kk_rng p0; have := kk_sub2 (x := i_3_0) (y := 1) (a := i_3_0.toInt) (b := 1) rfl rfl (by omega) (by omega); omega⟩) dX6_sortIn_54 (fun H locs hP hD hS => ?_)
      generalize upd f_3_1 (i_3_0 : Int32).toNatClampNeg p0 = f_8 at hP hD
      have hP : va_P (dC, dI) vwCl [(h0, Sum.inr (6, [Value.ref h2, Value.ref h3, Value.ref h1, Value.ref h4, Value.int n0_pieceCount])), (h1, Sum.inl (cint, 40, Sum.inl f_8))] H := hP
      have hD : va_D A [(h0, Sum.inr (6, [Value.ref h2, Value.ref h3, Value.ref h1, Value.ref h4, Value.int n0_pieceCount])), (h1, Sum.inl (cint, 40, Sum.inl f_8))] := hD
      obtain ⟨hP9, hD9⟩ := kk_leafout (wc := [(h0, Sum.inr (6, [Value.ref h2, Value.ref h3, Value.ref h1, Value.ref h4, Value.int n0_pieceCount])), (h1, Sum.inl (cint, 40, Sum.inl f_8))]) hP hD [0, 1] (by decide) rfl
      have hK9 := hK.sub (tys' := []) [] rfl
      exact W.vret hx hb hr (fun t ht hW => ⟨⟨(), rfl, trivial, f_8, by rw [ht]; exact hP9, va_K.moved hW.alike hK9, hD9⟩, hS.F ht⟩) hS.2.2 dX6_sortIn_55
    · have t_7 : p0.toInt < y_6.toInt := kk_nle c_7
      refine lv_aload_n hx hb dX6_sortIn_28 rfl (lv_at hl 1 rfl) ?_
      refine va_get (D := (dC, dI)) (ci := 6) (v := .ref h1) (C := RX6) (T := TX6) (N := 5) hx hb hts (fun _ h => List.mem_cons_of_mem _ (List.mem_append_right _ h)) hown hK hP 0 rfl rfl 2 (by decide) (hts (.fieldLink RX6 19 "KinkStreet$Pieces" "sorted" "[I") (List.mem_of_getElem? (i := 1) rfl)) (fun _ h9 => h9) rfl dX6_sortIn_29 ?_
      refine lv_iload_n hx hb dX6_sortIn_32 rfl (lv_at hl 0 rfl) ?_
      refine lv_aload_n hx hb dX6_sortIn_33 rfl (lv_at hl 1 rfl) ?_
      refine va_get (D := (dC, dI)) (ci := 6) (v := .ref h1) (C := RX6) (T := TX6) (N := 5) hx hb hts (fun _ h => List.mem_cons_of_mem _ (List.mem_append_right _ h)) hown hK hP 0 rfl rfl 2 (by decide) (hts (.fieldLink RX6 19 "KinkStreet$Pieces" "sorted" "[I") (List.mem_of_getElem? (i := 1) rfl)) (fun _ h9 => h9) rfl dX6_sortIn_34 ?_
      refine lv_iload_n hx hb dX6_sortIn_37 rfl (lv_at hl 0 rfl) ?_
      refine lv_iconst (v := 1) hx hb dX6_sortIn_38 (by decide) ?_
      refine lv_isub hx hb dX6_sortIn_39 ?_
      have hi_9 : vp_in (i_3_0 - 1) 40 := (vp_in_iff.mpr ⟨by have := kk_rng p0; have := kk_rng y_6; have := kk_sub2 (x := i_3_0) (y := 1) (a := i_3_0.toInt) (b := 1) rfl rfl (by omega) (by omega); omega, by have := kk_rng p0; have := kk_rng y_6; have := kk_sub2 (x := i_3_0) (y := 1) (a := i_3_0.toInt) (b := 1) rfl rfl (by omega) (by omega); omega⟩)
      refine va_iald hx hb hK hP 1 0 rfl rfl hi_9 dX6_sortIn_40 ?_
      refine lv_topi (fun y_9 e_9 => ?_)
      clear e_9
      refine va_iast hx hb hK hP hD hS 1 0 rfl rfl (vp_in_iff.mpr ⟨by have := kk_rng p0; have := kk_rng y_6; have := kk_sub2 (x := i_3_0) (y := 1) (a := i_3_0.toInt) (b := 1) rfl rfl (by omega) (by omega); omega, by have := kk_rng p0; have := kk_rng y_6; have := kk_sub2 (x := i_3_0) (y := 1) (a := i_3_0.toInt) (b := 1) rfl rfl (by omega) (by omega); omega⟩) dX6_sortIn_41 (fun H locs hP hD hS => ?_)
      generalize upd f_3_1 (i_3_0 : Int32).toNatClampNeg y_9 = f_10 at hP hD
      have hP : va_P (dC, dI) vwCl [(h0, Sum.inr (6, [Value.ref h2, Value.ref h3, Value.ref h1, Value.ref h4, Value.int n0_pieceCount])), (h1, Sum.inl (cint, 40, Sum.inl f_10))] H := hP
      have hD : va_D A [(h0, Sum.inr (6, [Value.ref h2, Value.ref h3, Value.ref h1, Value.ref h4, Value.int n0_pieceCount])), (h1, Sum.inl (cint, 40, Sum.inl f_10))] := hD
      refine lv_iinc (v := (i_3_0 + (-1))) (lv' := [(3, .int (i_3_0 + (-1))), (0, .ref h0), (1, .int p0), (2, .int p1)]) hx hb dX6_sortIn_42 hl (k := 0) rfl (by first | rfl | decide) (by decide) rfl (fun ls hl => ?_)
      refine lv_goto (tgt := 12) hx hb dX6_sortIn_45 (by decide) ?_
      exact ih_3 ((i_3_0 + (-1)), f_10) _ _ _ (by show (((i_3_0 + (-1))).toInt - (0 : Int)).toNat < (i_3_0.toInt - (0 : Int)).toNat; have := kk_rng p0; have := kk_rng y_6; have := kk_sub2 (x := i_3_0) (y := 1) (a := i_3_0.toInt) (b := 1) rfl rfl (by omega) (by omega); have := kk_add2 (x := i_3_0) (y := (-1)) (a := i_3_0.toInt) (b := (-1)) rfl rfl (by omega) (by omega); exact kk_mu (by omega) (by omega)) ⟨(by show 0 ≤ ((i_3_0 + (-1)) : Int32).toInt ∧ ((i_3_0 + (-1)) : Int32).toInt ≤ 39; first | decide | (constructor <;> (have := kk_rng p0; have := kk_rng y_6; have := kk_sub2 (x := i_3_0) (y := 1) (a := i_3_0.toInt) (b := 1) rfl rfl (by omega) (by omega); have := kk_add2 (x := i_3_0) (y := (-1)) (a := i_3_0.toInt) (b := (-1)) rfl rfl (by omega) (by omega); omega))), (by show ((i_3_0 + (-1)) : Int32).toInt ≤ (y_2 : Int32).toInt; first | decide | (have := kk_rng p0; have := kk_rng y_6; have := kk_sub2 (x := i_3_0) (y := 1) (a := i_3_0.toInt) (b := 1) rfl rfl (by omega) (by omega); have := kk_add2 (x := i_3_0) (y := (-1)) (a := i_3_0.toInt) (b := (-1)) rfl rfl (by omega) (by omega); omega)), hP, hD, hS, lv_sub hl [0, 1, 2, 3] rfl⟩
