set_option maxHeartbeats 4000000 in
set_option maxRecDepth 100000 in
theorem g_X2_isName_0 (l : Launch) (dC : Nat → ClassId) (dI : Nat → Nat → Nat) (sz : Nat) (p0 : Int32) : Met l yX2_isName wsX2_isName ({ frames := 0, cells := 0, slots := 0, locals := 0 }) (va_Pc [.int p0] (fun U => U.heap.size = sz ∧ va_P (dC, dI) vwCl [] U.heap ∧ va_K (dC, dI) vwCl [] U ∧ va_D (fun _ => True) [])) (va_Qi (fun (r : Int32) (_ : Unit) => ((0 : Int32) = r) ∨ (0 ≤ p0.toInt ∧ p0.toInt < 8 ∧ (1 : Int32) = r)) (fun (_ : Unit) t => va_P (dC, dI) vwCl [] t.heap ∧ va_K (dC, dI) vwCl [] t ∧ va_D (va_A [] sz) []) (va_A [] sz)) 0 0 (va_A [] sz) := by
  refine Met.ofW (cc := cX2_isName) (maxL := 1) (ret := (some .boolean)) (by decide) rfl ?_
  intro p e s m args below meth c s₁ B hml hv
  obtain ⟨rfl, hsz, hP, hK, hD0⟩ := hv
  have hx := B.exec
  have hb := B.bytes
  have hr := B.returns
  have hts := atoms_spec (ws := wsX2_isName) B.pre
  have hown : s.vm.findClass RX2 = some m.cls := findClass_of_methodNamed B.named
  have hlocks := B.notSynchronized
  subst hsz
  have hD := hD0.self (sz := s.heap.size)
  generalize hAe : va_A [] s.heap.size = A at hD ⊢
  have hA : ∀ q : Nat, s.heap.size ≤ q → A q := fun q h => by rw [← hAe]; exact Or.inr h
  have hS : va_S A s.heap s.heap [] := va_S.rf
  have hP : va_P (dC, dI) vwCl [] s.heap := hP
  have hl := lv_entry ([.int p0]) (n := 1) (Nat.le_of_ble_eq_true rfl)
  rw [lg_entry_eq]
  generalize (lg_sl ([.int p0]) ++ List.replicate (1 - (lg_sl ([.int p0])).length) Slot.unset).toArray = ls at hl ⊢
  have hl : lv_has ls 1 [(0, .int p0)] := hl
  refine lv_iload_n hx hb dX2_isName_0 rfl (lv_at hl 0 rfl) ?_
  refine lv_if_lt (tgt := 14) hx hb dX2_isName_1 (by decide) (fun c_1 => ?_) (fun c_1 => ?_)
  · have t_1 : p0.toInt < 0 := kk_lt c_1
    refine lv_iconst (v := 0) hx hb dX2_isName_14 (by decide) ?_
    obtain ⟨hP9, hD9⟩ := kk_leafout (wc := []) hP hD [] (by decide) rfl
    have hK9 := hK.sub (tys' := []) [] rfl
    exact W.zret (v := 0) hx hb hr rfl (fun t ht hW => ⟨⟨0, (), rfl, Or.inl rfl, by rw [ht]; exact hP9, va_K.moved hW.alike hK9, hD9⟩, hS.F ht⟩) hS.2.2 dX2_isName_15
  · have t_1 : 0 ≤ p0.toInt := kk_nlt c_1
    refine lv_iload_n hx hb dX2_isName_4 rfl (lv_at hl 0 rfl) ?_
    refine lv_bipush (v := 8) hx hb dX2_isName_5 (by decide) ?_
    refine lv_icmp_ge (tgt := 14) hx hb dX2_isName_7 (by decide) (fun c_2 => ?_) (fun c_2 => ?_)
    · have t_2 : 8 ≤ p0.toInt := kk_le c_2
      refine lv_iconst (v := 0) hx hb dX2_isName_14 (by decide) ?_
      obtain ⟨hP9, hD9⟩ := kk_leafout (wc := []) hP hD [] (by decide) rfl
      have hK9 := hK.sub (tys' := []) [] rfl
      exact W.zret (v := 0) hx hb hr rfl (fun t ht hW => ⟨⟨0, (), rfl, Or.inl rfl, by rw [ht]; exact hP9, va_K.moved hW.alike hK9, hD9⟩, hS.F ht⟩) hS.2.2 dX2_isName_15
    · have t_2 : p0.toInt < 8 := kk_nle c_2
      refine lv_iconst (v := 1) hx hb dX2_isName_10 (by decide) ?_
      refine lv_goto (tgt := 15) hx hb dX2_isName_11 (by decide) ?_
      obtain ⟨hP9, hD9⟩ := kk_leafout (wc := []) hP hD [] (by decide) rfl
      have hK9 := hK.sub (tys' := []) [] rfl
      exact W.zret (v := 1) hx hb hr rfl (fun t ht hW => ⟨⟨1, (), rfl, Or.inr (⟨by first | assumption | (omega), by first | assumption | (omega), rfl⟩), by rw [ht]; exact hP9, va_K.moved hW.alike hK9, hD9⟩, hS.F ht⟩) hS.2.2 dX2_isName_15
set_option maxHeartbeats 4000000 in
set_option maxRecDepth 100000 in
theorem g_X2_size_0 (l : Launch) (dC : Nat → ClassId) (dI : Nat → Nat → Nat) (h0 : Nat) (h1 : Nat) (h2 : Nat) (h3 : Nat) (h4 : Nat) (h5 : Nat) (h6 : Nat) (h7 : Nat) (h8 : Nat) (h9 : Nat) (sz : Nat) (n0_size : Int32) (n0_names : Int32) (n0_plots : Int32) (n0_ways : Int32) (tn0_size : 0 ≤ n0_size.toInt ∧ n0_size.toInt ≤ 10) (tn0_names : 0 ≤ n0_names.toInt ∧ n0_names.toInt ≤ 8) (tn0_plots : 0 ≤ n0_plots.toInt ∧ n0_plots.toInt ≤ 40) : Met l yX2_size wsX2_size ({ frames := 0, cells := 0, slots := 0, locals := 0 }) (va_Pc [.ref h0] (fun U => U.heap.size = sz ∧ va_P (dC, dI) vwCl [(h0, Sum.inr (2, [Value.ref h1, Value.ref h2, Value.ref h3, Value.int n0_size, Value.ref h4, Value.int n0_names, Value.int n0_plots, Value.ref h5, Value.ref h6, Value.ref h7, Value.ref h8, Value.ref h9, Value.int n0_ways]))] U.heap ∧ va_K (dC, dI) vwCl [] U ∧ va_D (fun _ => True) [(h0, Sum.inr (2, [Value.ref h1, Value.ref h2, Value.ref h3, Value.int n0_size, Value.ref h4, Value.int n0_names, Value.int n0_plots, Value.ref h5, Value.ref h6, Value.ref h7, Value.ref h8, Value.ref h9, Value.int n0_ways]))])) (va_Qi (fun (r : Int32) (_ : Unit) => n0_size = r) (fun (_ : Unit) t => va_P (dC, dI) vwCl [(h0, Sum.inr (2, [Value.ref h1, Value.ref h2, Value.ref h3, Value.int n0_size, Value.ref h4, Value.int n0_names, Value.int n0_plots, Value.ref h5, Value.ref h6, Value.ref h7, Value.ref h8, Value.ref h9, Value.int n0_ways]))] t.heap ∧ va_K (dC, dI) vwCl [] t ∧ va_D (va_A [(h0, Sum.inr (2, [Value.ref h1, Value.ref h2, Value.ref h3, Value.int n0_size, Value.ref h4, Value.int n0_names, Value.int n0_plots, Value.ref h5, Value.ref h6, Value.ref h7, Value.ref h8, Value.ref h9, Value.int n0_ways]))] sz) [(h0, Sum.inr (2, [Value.ref h1, Value.ref h2, Value.ref h3, Value.int n0_size, Value.ref h4, Value.int n0_names, Value.int n0_plots, Value.ref h5, Value.ref h6, Value.ref h7, Value.ref h8, Value.ref h9, Value.int n0_ways]))]) (va_A [(h0, Sum.inr (2, [Value.ref h1, Value.ref h2, Value.ref h3, Value.int n0_size, Value.ref h4, Value.int n0_names, Value.int n0_plots, Value.ref h5, Value.ref h6, Value.ref h7, Value.ref h8, Value.ref h9, Value.int n0_ways]))] sz)) 0 0 (va_A [(h0, Sum.inr (2, [Value.ref h1, Value.ref h2, Value.ref h3, Value.int n0_size, Value.ref h4, Value.int n0_names, Value.int n0_plots, Value.ref h5, Value.ref h6, Value.ref h7, Value.ref h8, Value.ref h9, Value.int n0_ways]))] sz) := by
  refine Met.ofW (cc := cX2_size) (maxL := 1) (ret := (some .int)) (by decide) rfl ?_
  intro p e s m args below meth c s₁ B hml hv
  obtain ⟨rfl, hsz, hP, hK, hD0⟩ := hv
  have hx := B.exec
  have hb := B.bytes
  have hr := B.returns
  have hts := atoms_spec (ws := wsX2_size) B.pre
  have hown : s.vm.findClass RX2 = some m.cls := findClass_of_methodNamed B.named
  have hlocks := B.notSynchronized
  subst hsz
  have hD := hD0.self (sz := s.heap.size)
  generalize hAe : va_A [(h0, Sum.inr (2, [Value.ref h1, Value.ref h2, Value.ref h3, Value.int n0_size, Value.ref h4, Value.int n0_names, Value.int n0_plots, Value.ref h5, Value.ref h6, Value.ref h7, Value.ref h8, Value.ref h9, Value.int n0_ways]))] s.heap.size = A at hD ⊢
  have hA : ∀ q : Nat, s.heap.size ≤ q → A q := fun q h => by rw [← hAe]; exact Or.inr h
  have hS : va_S A s.heap s.heap [] := va_S.rf
  have hP : va_P (dC, dI) vwCl [(h0, Sum.inr (2, [Value.ref h1, Value.ref h2, Value.ref h3, Value.int n0_size, Value.ref h4, Value.int n0_names, Value.int n0_plots, Value.ref h5, Value.ref h6, Value.ref h7, Value.ref h8, Value.ref h9, Value.int n0_ways]))] s.heap := hP
  have hl := lv_entry ([.ref h0]) (n := 1) (Nat.le_of_ble_eq_true rfl)
  rw [lg_entry_eq]
  generalize (lg_sl ([.ref h0]) ++ List.replicate (1 - (lg_sl ([.ref h0])).length) Slot.unset).toArray = ls at hl ⊢
  have hl : lv_has ls 1 [(0, .ref h0)] := hl
  refine lv_aload_n hx hb dX2_size_0 rfl (lv_at hl 0 rfl) ?_
  refine va_get (D := (dC, dI)) (ci := 2) (v := .int n0_size) (C := RX2) (T := TX2) (N := 13) hx hb hts (fun _ h => List.mem_cons_of_mem _ (List.mem_append_right _ h)) hown hK hP 0 rfl rfl 3 (by decide) (hts (.fieldLink RX2 41 "KinkStreet$Deeds" "size" "I") (List.mem_of_getElem? (i := 1) rfl)) (fun _ h9 => h9) rfl dX2_size_1 ?_
  obtain ⟨hP9, hD9⟩ := kk_leafout (wc := [(h0, Sum.inr (2, [Value.ref h1, Value.ref h2, Value.ref h3, Value.int n0_size, Value.ref h4, Value.int n0_names, Value.int n0_plots, Value.ref h5, Value.ref h6, Value.ref h7, Value.ref h8, Value.ref h9, Value.int n0_ways]))]) hP hD [0] (by decide) rfl
  have hK9 := hK.sub (tys' := []) [] rfl
  exact W.iret (v := n0_size) hx hb hr (fun t ht hW => ⟨⟨n0_size, (), rfl, rfl, by rw [ht]; exact hP9, va_K.moved hW.alike hK9, hD9⟩, hS.F ht⟩) hS.2.2 dX2_size_4
set_option maxHeartbeats 4000000 in
set_option maxRecDepth 100000 in
theorem g_X2_isFull_0 (l : Launch) (dC : Nat → ClassId) (dI : Nat → Nat → Nat) (h0 : Nat) (h1 : Nat) (h2 : Nat) (h3 : Nat) (h4 : Nat) (h5 : Nat) (h6 : Nat) (h7 : Nat) (h8 : Nat) (h9 : Nat) (sz : Nat) (n0_size : Int32) (n0_names : Int32) (n0_plots : Int32) (n0_ways : Int32) (tn0_size : 0 ≤ n0_size.toInt ∧ n0_size.toInt ≤ 10) (tn0_names : 0 ≤ n0_names.toInt ∧ n0_names.toInt ≤ 8) (tn0_plots : 0 ≤ n0_plots.toInt ∧ n0_plots.toInt ≤ 40) : Met l yX2_isFull wsX2_isFull ({ frames := 0, cells := 0, slots := 0, locals := 0 }) (va_Pc [.ref h0] (fun U => U.heap.size = sz ∧ va_P (dC, dI) vwCl [(h0, Sum.inr (2, [Value.ref h1, Value.ref h2, Value.ref h3, Value.int n0_size, Value.ref h4, Value.int n0_names, Value.int n0_plots, Value.ref h5, Value.ref h6, Value.ref h7, Value.ref h8, Value.ref h9, Value.int n0_ways]))] U.heap ∧ va_K (dC, dI) vwCl [] U ∧ va_D (fun _ => True) [(h0, Sum.inr (2, [Value.ref h1, Value.ref h2, Value.ref h3, Value.int n0_size, Value.ref h4, Value.int n0_names, Value.int n0_plots, Value.ref h5, Value.ref h6, Value.ref h7, Value.ref h8, Value.ref h9, Value.int n0_ways]))])) (va_Qi (fun (r : Int32) (_ : Unit) => (n0_size.toInt < 10 ∧ (0 : Int32) = r) ∨ (10 ≤ n0_size.toInt ∧ (1 : Int32) = r)) (fun (_ : Unit) t => va_P (dC, dI) vwCl [(h0, Sum.inr (2, [Value.ref h1, Value.ref h2, Value.ref h3, Value.int n0_size, Value.ref h4, Value.int n0_names, Value.int n0_plots, Value.ref h5, Value.ref h6, Value.ref h7, Value.ref h8, Value.ref h9, Value.int n0_ways]))] t.heap ∧ va_K (dC, dI) vwCl [] t ∧ va_D (va_A [(h0, Sum.inr (2, [Value.ref h1, Value.ref h2, Value.ref h3, Value.int n0_size, Value.ref h4, Value.int n0_names, Value.int n0_plots, Value.ref h5, Value.ref h6, Value.ref h7, Value.ref h8, Value.ref h9, Value.int n0_ways]))] sz) [(h0, Sum.inr (2, [Value.ref h1, Value.ref h2, Value.ref h3, Value.int n0_size, Value.ref h4, Value.int n0_names, Value.int n0_plots, Value.ref h5, Value.ref h6, Value.ref h7, Value.ref h8, Value.ref h9, Value.int n0_ways]))]) (va_A [(h0, Sum.inr (2, [Value.ref h1, Value.ref h2, Value.ref h3, Value.int n0_size, Value.ref h4, Value.int n0_names, Value.int n0_plots, Value.ref h5, Value.ref h6, Value.ref h7, Value.ref h8, Value.ref h9, Value.int n0_ways]))] sz)) 0 0 (va_A [(h0, Sum.inr (2, [Value.ref h1, Value.ref h2, Value.ref h3, Value.int n0_size, Value.ref h4, Value.int n0_names, Value.int n0_plots, Value.ref h5, Value.ref h6, Value.ref h7, Value.ref h8, Value.ref h9, Value.int n0_ways]))] sz) := by
  refine Met.ofW (cc := cX2_isFull) (maxL := 1) (ret := (some .boolean)) (by decide) rfl ?_
  intro p e s m args below meth c s₁ B hml hv
  obtain ⟨rfl, hsz, hP, hK, hD0⟩ := hv
  have hx := B.exec
  have hb := B.bytes
  have hr := B.returns
  have hts := atoms_spec (ws := wsX2_isFull) B.pre
  have hown : s.vm.findClass RX2 = some m.cls := findClass_of_methodNamed B.named
  have hlocks := B.notSynchronized
  subst hsz
  have hD := hD0.self (sz := s.heap.size)
  generalize hAe : va_A [(h0, Sum.inr (2, [Value.ref h1, Value.ref h2, Value.ref h3, Value.int n0_size, Value.ref h4, Value.int n0_names, Value.int n0_plots, Value.ref h5, Value.ref h6, Value.ref h7, Value.ref h8, Value.ref h9, Value.int n0_ways]))] s.heap.size = A at hD ⊢
  have hA : ∀ q : Nat, s.heap.size ≤ q → A q := fun q h => by rw [← hAe]; exact Or.inr h
  have hS : va_S A s.heap s.heap [] := va_S.rf
  have hP : va_P (dC, dI) vwCl [(h0, Sum.inr (2, [Value.ref h1, Value.ref h2, Value.ref h3, Value.int n0_size, Value.ref h4, Value.int n0_names, Value.int n0_plots, Value.ref h5, Value.ref h6, Value.ref h7, Value.ref h8, Value.ref h9, Value.int n0_ways]))] s.heap := hP
  have hl := lv_entry ([.ref h0]) (n := 1) (Nat.le_of_ble_eq_true rfl)
  rw [lg_entry_eq]
  generalize (lg_sl ([.ref h0]) ++ List.replicate (1 - (lg_sl ([.ref h0])).length) Slot.unset).toArray = ls at hl ⊢
  have hl : lv_has ls 1 [(0, .ref h0)] := hl
  refine lv_aload_n hx hb dX2_isFull_0 rfl (lv_at hl 0 rfl) ?_
  refine va_get (D := (dC, dI)) (ci := 2) (v := .int n0_size) (C := RX2) (T := TX2) (N := 13) hx hb hts (fun _ h => List.mem_cons_of_mem _ (List.mem_append_right _ h)) hown hK hP 0 rfl rfl 3 (by decide) (hts (.fieldLink RX2 41 "KinkStreet$Deeds" "size" "I") (List.mem_of_getElem? (i := 1) rfl)) (fun _ h9 => h9) rfl dX2_isFull_1 ?_
  refine lv_bipush (v := 10) hx hb dX2_isFull_4 (by decide) ?_
  refine lv_icmp_lt (tgt := 13) hx hb dX2_isFull_6 (by decide) (fun c_1 => ?_) (fun c_1 => ?_)
  · have t_1 : n0_size.toInt < 10 := kk_lt c_1
    refine lv_iconst (v := 0) hx hb dX2_isFull_13 (by decide) ?_
    obtain ⟨hP9, hD9⟩ := kk_leafout (wc := [(h0, Sum.inr (2, [Value.ref h1, Value.ref h2, Value.ref h3, Value.int n0_size, Value.ref h4, Value.int n0_names, Value.int n0_plots, Value.ref h5, Value.ref h6, Value.ref h7, Value.ref h8, Value.ref h9, Value.int n0_ways]))]) hP hD [0] (by decide) rfl
    have hK9 := hK.sub (tys' := []) [] rfl
    exact W.zret (v := 0) hx hb hr rfl (fun t ht hW => ⟨⟨0, (), rfl, Or.inl ⟨by first | assumption | (omega), rfl⟩, by rw [ht]; exact hP9, va_K.moved hW.alike hK9, hD9⟩, hS.F ht⟩) hS.2.2 dX2_isFull_14
  · have t_1 : 10 ≤ n0_size.toInt := kk_nlt c_1
    refine lv_iconst (v := 1) hx hb dX2_isFull_9 (by decide) ?_
    refine lv_goto (tgt := 14) hx hb dX2_isFull_10 (by decide) ?_
    obtain ⟨hP9, hD9⟩ := kk_leafout (wc := [(h0, Sum.inr (2, [Value.ref h1, Value.ref h2, Value.ref h3, Value.int n0_size, Value.ref h4, Value.int n0_names, Value.int n0_plots, Value.ref h5, Value.ref h6, Value.ref h7, Value.ref h8, Value.ref h9, Value.int n0_ways]))]) hP hD [0] (by decide) rfl
    have hK9 := hK.sub (tys' := []) [] rfl
    exact W.zret (v := 1) hx hb hr rfl (fun t ht hW => ⟨⟨1, (), rfl, Or.inr (⟨by first | assumption | (omega), rfl⟩), by rw [ht]; exact hP9, va_K.moved hW.alike hK9, hD9⟩, hS.F ht⟩) hS.2.2 dX2_isFull_14
set_option maxHeartbeats 4000000 in
set_option maxRecDepth 100000 in
theorem g_X2_write_0 (l : Launch) (dC : Nat → ClassId) (dI : Nat → Nat → Nat) (h0 : Nat) (h1 : Nat) (h2 : Nat) (h3 : Nat) (h4 : Nat) (h5 : Nat) (h6 : Nat) (h7 : Nat) (h8 : Nat) (h9 : Nat) (cint : ClassId) (sz : Nat) (p0 : Int32) (p1 : Int32) (p2 : Int32) (n0_size : Int32) (n0_names : Int32) (n0_plots : Int32) (n0_ways : Int32) (f1 : Nat → Int32) (f2 : Nat → Int32) (f3 : Nat → Int32) (tn0_size : 0 ≤ n0_size.toInt ∧ n0_size.toInt ≤ 10) (tn0_names : 0 ≤ n0_names.toInt ∧ n0_names.toInt ≤ 8) (tn0_plots : 0 ≤ n0_plots.toInt ∧ n0_plots.toInt ≤ 40) : Met l yX2_write wsX2_write ({ frames := 1, cells := 0, slots := 0, locals := 20 }) (va_Pc [.ref h0, .int p0, .int p1, .int p2] (fun U => U.heap.size = sz ∧ va_P (dC, dI) vwCl [(h0, Sum.inr (2, [Value.ref h1, Value.ref h2, Value.ref h3, Value.int n0_size, Value.ref h4, Value.int n0_names, Value.int n0_plots, Value.ref h5, Value.ref h6, Value.ref h7, Value.ref h8, Value.ref h9, Value.int n0_ways])), (h1, Sum.inl (cint, 10, Sum.inl f1)), (h2, Sum.inl (cint, 10, Sum.inl f2)), (h3, Sum.inl (cint, 10, Sum.inl f3))] U.heap ∧ va_K (dC, dI) vwCl [(cint, .int)] U ∧ va_D (fun _ => True) [(h0, Sum.inr (2, [Value.ref h1, Value.ref h2, Value.ref h3, Value.int n0_size, Value.ref h4, Value.int n0_names, Value.int n0_plots, Value.ref h5, Value.ref h6, Value.ref h7, Value.ref h8, Value.ref h9, Value.int n0_ways])), (h1, Sum.inl (cint, 10, Sum.inl f1)), (h2, Sum.inl (cint, 10, Sum.inl f2)), (h3, Sum.inl (cint, 10, Sum.inl f3))])) (va_Qi (fun (r : Int32) (_ : Unit) => (1 ≤ r.toInt ∧ r.toInt ≤ 10)) (fun (_ : Unit) t => ∃ (m0_size : Int32) (g1 : Nat → Int32) (g2 : Nat → Int32) (g3 : Nat → Int32), (1 ≤ m0_size.toInt ∧ m0_size.toInt ≤ 10) ∧ va_P (dC, dI) vwCl [(h0, Sum.inr (2, [Value.ref h1, Value.ref h2, Value.ref h3, Value.int m0_size, Value.ref h4, Value.int n0_names, Value.int n0_plots, Value.ref h5, Value.ref h6, Value.ref h7, Value.ref h8, Value.ref h9, Value.int n0_ways])), (h1, Sum.inl (cint, 10, Sum.inl g1)), (h2, Sum.inl (cint, 10, Sum.inl g2)), (h3, Sum.inl (cint, 10, Sum.inl g3))] t.heap ∧ va_K (dC, dI) vwCl [] t ∧ va_D (va_A [(h0, Sum.inr (2, [Value.ref h1, Value.ref h2, Value.ref h3, Value.int n0_size, Value.ref h4, Value.int n0_names, Value.int n0_plots, Value.ref h5, Value.ref h6, Value.ref h7, Value.ref h8, Value.ref h9, Value.int n0_ways])), (h1, Sum.inl (cint, 10, Sum.inl f1)), (h2, Sum.inl (cint, 10, Sum.inl f2)), (h3, Sum.inl (cint, 10, Sum.inl f3))] sz) [(h0, Sum.inr (2, [Value.ref h1, Value.ref h2, Value.ref h3, Value.int m0_size, Value.ref h4, Value.int n0_names, Value.int n0_plots, Value.ref h5, Value.ref h6, Value.ref h7, Value.ref h8, Value.ref h9, Value.int n0_ways])), (h1, Sum.inl (cint, 10, Sum.inl g1)), (h2, Sum.inl (cint, 10, Sum.inl g2)), (h3, Sum.inl (cint, 10, Sum.inl g3))]) (va_A [(h0, Sum.inr (2, [Value.ref h1, Value.ref h2, Value.ref h3, Value.int n0_size, Value.ref h4, Value.int n0_names, Value.int n0_plots, Value.ref h5, Value.ref h6, Value.ref h7, Value.ref h8, Value.ref h9, Value.int n0_ways])), (h1, Sum.inl (cint, 10, Sum.inl f1)), (h2, Sum.inl (cint, 10, Sum.inl f2)), (h3, Sum.inl (cint, 10, Sum.inl f3))] sz)) 0 0 (va_A [(h0, Sum.inr (2, [Value.ref h1, Value.ref h2, Value.ref h3, Value.int n0_size, Value.ref h4, Value.int n0_names, Value.int n0_plots, Value.ref h5, Value.ref h6, Value.ref h7, Value.ref h8, Value.ref h9, Value.int n0_ways])), (h1, Sum.inl (cint, 10, Sum.inl f1)), (h2, Sum.inl (cint, 10, Sum.inl f2)), (h3, Sum.inl (cint, 10, Sum.inl f3))] sz) := by
  refine Met.ofW (cc := cX2_write) (maxL := 4) (ret := (some .int)) (by decide) rfl ?_
  intro p e s m args below meth c s₁ B hml hv
  obtain ⟨rfl, hsz, hP, hK, hD0⟩ := hv
  have hx := B.exec
  have hb := B.bytes
  have hr := B.returns
  have hts := atoms_spec (ws := wsX2_write) B.pre
  have hown : s.vm.findClass RX2 = some m.cls := findClass_of_methodNamed B.named
  have hlocks := B.notSynchronized
  subst hsz
  have hD := hD0.self (sz := s.heap.size)
  generalize hAe : va_A [(h0, Sum.inr (2, [Value.ref h1, Value.ref h2, Value.ref h3, Value.int n0_size, Value.ref h4, Value.int n0_names, Value.int n0_plots, Value.ref h5, Value.ref h6, Value.ref h7, Value.ref h8, Value.ref h9, Value.int n0_ways])), (h1, Sum.inl (cint, 10, Sum.inl f1)), (h2, Sum.inl (cint, 10, Sum.inl f2)), (h3, Sum.inl (cint, 10, Sum.inl f3))] s.heap.size = A at hD ⊢
  have hA : ∀ q : Nat, s.heap.size ≤ q → A q := fun q h => by rw [← hAe]; exact Or.inr h
  have hS : va_S A s.heap s.heap [] := va_S.rf
  have hP : va_P (dC, dI) vwCl [(h0, Sum.inr (2, [Value.ref h1, Value.ref h2, Value.ref h3, Value.int n0_size, Value.ref h4, Value.int n0_names, Value.int n0_plots, Value.ref h5, Value.ref h6, Value.ref h7, Value.ref h8, Value.ref h9, Value.int n0_ways])), (h1, Sum.inl (cint, 10, Sum.inl f1)), (h2, Sum.inl (cint, 10, Sum.inl f2)), (h3, Sum.inl (cint, 10, Sum.inl f3))] s.heap := hP
  have hl := lv_entry ([.ref h0, .int p0, .int p1, .int p2]) (n := 4) (Nat.le_of_ble_eq_true rfl)
  rw [lg_entry_eq]
  generalize (lg_sl ([.ref h0, .int p0, .int p1, .int p2]) ++ List.replicate (4 - (lg_sl ([.ref h0, .int p0, .int p1, .int p2])).length) Slot.unset).toArray = ls at hl ⊢
  have hl : lv_has ls 4 [(0, .ref h0), (1, .int p0), (2, .int p1), (3, .int p2)] := hl
  refine lv_aload_n hx hb dX2_write_0 rfl (lv_at hl 0 rfl) ?_
  obtain ⟨hPc, hDc, hFc⟩ := kk_cutout (wc := [(h0, Sum.inr (2, [Value.ref h1, Value.ref h2, Value.ref h3, Value.int n0_size, Value.ref h4, Value.int n0_names, Value.int n0_plots, Value.ref h5, Value.ref h6, Value.ref h7, Value.ref h8, Value.ref h9, Value.int n0_ways]))]) hP hD hS hA [0] (by decide) rfl
  have hKc := hK.sub (tys' := []) [] rfl
  refine va_calli (va_runV (As := []) (rest := []) ⟨hx, hb, hml, hown, hts⟩ (g_X2_isFull_0 l dC dI h0 h1 h2 h3 h4 h5 h6 h7 h8 h9 s.heap.size n0_size n0_names n0_plots n0_ways tn0_size tn0_names tn0_plots) (cwV 0 hts gX2_write_X2_isFull rfl rfl rfl (by decide +kernel) ⟨Nat.le_of_ble_eq_true rfl, Nat.le_of_ble_eq_true rfl⟩) ⟨fun a U g mk q => by obtain ⟨q0, q1, qP, qK, qD⟩ := q; exact ⟨q0, q1, qP, va_K.moved (u := U) (U := U.calling g mk a) (Vm.Alike.refl U.vm) qK, qD⟩, va_recv hKc hPc (ci := 2) (q0 := 0) rfl rfl, fun U hU hW => ⟨rfl, by rw [hU], by rw [hU]; exact hPc, va_K.moved hW.alike hKc, hDc.weaken (fun _ _ _ _ => trivial)⟩⟩ rfl rfl hl.1 rfl (lv_room (Nat.le_of_ble_eq_true rfl)) dX2_write_1 ⟨Nat.le_of_ble_eq_true rfl, Nat.le_of_ble_eq_true rfl⟩) hS (fun q _ h => hFc q h) hFc (fun r_1 u t H1 locs ht hvm hw hB hz1 hk1 hS => ?_)
  obtain ⟨hP1, hK1, hD1⟩ := hB
  rw [ht] at hP1
  have hK1 := va_K.moved hvm.symm hK1
  obtain ⟨hP, hD⟩ := va_join (wr := [(h1, Sum.inl (cint, 10, Sum.inl f1)), (h2, Sum.inl (cint, 10, Sum.inl f2)), (h3, Sum.inl (cint, 10, Sum.inl f3))]) (w1 := [(h0, Sum.inr (2, [Value.ref h1, Value.ref h2, Value.ref h3, Value.int n0_size, Value.ref h4, Value.int n0_names, Value.int n0_plots, Value.ref h5, Value.ref h6, Value.ref h7, Value.ref h8, Value.ref h9, Value.int n0_ways]))]) hP hD [0] [1, 2, 3] rfl rfl (by decide) (by decide) hk1 hFc hP1 hD1
  generalize H1 = H at hP hS ⊢
  have hP : va_P (dC, dI) vwCl [(h1, Sum.inl (cint, 10, Sum.inl f1)), (h2, Sum.inl (cint, 10, Sum.inl f2)), (h3, Sum.inl (cint, 10, Sum.inl f3)), (h0, Sum.inr (2, [Value.ref h1, Value.ref h2, Value.ref h3, Value.int n0_size, Value.ref h4, Value.int n0_names, Value.int n0_plots, Value.ref h5, Value.ref h6, Value.ref h7, Value.ref h8, Value.ref h9, Value.int n0_ways]))] H := hP
  have hD : va_D A [(h1, Sum.inl (cint, 10, Sum.inl f1)), (h2, Sum.inl (cint, 10, Sum.inl f2)), (h3, Sum.inl (cint, 10, Sum.inl f3)), (h0, Sum.inr (2, [Value.ref h1, Value.ref h2, Value.ref h3, Value.int n0_size, Value.ref h4, Value.int n0_names, Value.int n0_plots, Value.ref h5, Value.ref h6, Value.ref h7, Value.ref h8, Value.ref h9, Value.int n0_ways]))] := hD
  rcases hw with ⟨t_1_0, rfl⟩ | ⟨t_1_0, rfl⟩
  · skip
    have t_1_0 : (n0_size.toInt : Int) < 10 := t_1_0
    refine lv_if_ne (tgt := 47) hx hb dX2_write_4 (by decide) (fun c => absurd c (by decide)) (fun _ => ?_)
    refine lv_aload_n hx hb dX2_write_7 rfl (lv_at hl 0 rfl) ?_
    refine va_get (D := (dC, dI)) (ci := 2) (v := .ref h1) (C := RX2) (T := TX2) (N := 13) hx hb hts (fun _ h => List.mem_cons_of_mem _ (List.mem_append_right _ h)) hown hK hP 3 rfl rfl 0 (by decide) (hts (.fieldLink RX2 11 "KinkStreet$Deeds" "ones" "[I") (List.mem_of_getElem? (i := 1) rfl)) (fun _ h9 => h9) rfl dX2_write_8 ?_
    refine lv_aload_n hx hb dX2_write_11 rfl (lv_at hl 0 rfl) ?_
    refine va_get (D := (dC, dI)) (ci := 2) (v := .int n0_size) (C := RX2) (T := TX2) (N := 13) hx hb hts (fun _ h => List.mem_cons_of_mem _ (List.mem_append_right _ h)) hown hK hP 3 rfl rfl 3 (by decide) (hts (.fieldLink RX2 41 "KinkStreet$Deeds" "size" "I") (List.mem_of_getElem? (i := 2) rfl)) (fun _ h9 => h9) rfl dX2_write_12 ?_
    refine lv_iload_n hx hb dX2_write_15 rfl (lv_at hl 1 rfl) ?_
    refine va_iast hx hb hK hP hD hS 0 0 rfl rfl (vp_in_iff.mpr ⟨by omega, by omega⟩) dX2_write_16 (fun H locs hP hD hS => ?_)
    generalize upd f1 (n0_size : Int32).toNatClampNeg p0 = f_2 at hP hD
    have hP : va_P (dC, dI) vwCl [(h1, Sum.inl (cint, 10, Sum.inl f_2)), (h2, Sum.inl (cint, 10, Sum.inl f2)), (h3, Sum.inl (cint, 10, Sum.inl f3)), (h0, Sum.inr (2, [Value.ref h1, Value.ref h2, Value.ref h3, Value.int n0_size, Value.ref h4, Value.int n0_names, Value.int n0_plots, Value.ref h5, Value.ref h6, Value.ref h7, Value.ref h8, Value.ref h9, Value.int n0_ways]))] H := hP
    have hD : va_D A [(h1, Sum.inl (cint, 10, Sum.inl f_2)), (h2, Sum.inl (cint, 10, Sum.inl f2)), (h3, Sum.inl (cint, 10, Sum.inl f3)), (h0, Sum.inr (2, [Value.ref h1, Value.ref h2, Value.ref h3, Value.int n0_size, Value.ref h4, Value.int n0_names, Value.int n0_plots, Value.ref h5, Value.ref h6, Value.ref h7, Value.ref h8, Value.ref h9, Value.int n0_ways]))] := hD
    refine lv_aload_n hx hb dX2_write_17 rfl (lv_at hl 0 rfl) ?_
    refine va_get (D := (dC, dI)) (ci := 2) (v := .ref h2) (C := RX2) (T := TX2) (N := 13) hx hb hts (fun _ h => List.mem_cons_of_mem _ (List.mem_append_right _ h)) hown hK hP 3 rfl rfl 1 (by decide) (hts (.fieldLink RX2 15 "KinkStreet$Deeds" "others" "[I") (List.mem_of_getElem? (i := 3) rfl)) (fun _ h9 => h9) rfl dX2_write_18 ?_
    refine lv_aload_n hx hb dX2_write_21 rfl (lv_at hl 0 rfl) ?_
    refine va_get (D := (dC, dI)) (ci := 2) (v := .int n0_size) (C := RX2) (T := TX2) (N := 13) hx hb hts (fun _ h => List.mem_cons_of_mem _ (List.mem_append_right _ h)) hown hK hP 3 rfl rfl 3 (by decide) (hts (.fieldLink RX2 41 "KinkStreet$Deeds" "size" "I") (List.mem_of_getElem? (i := 2) rfl)) (fun _ h9 => h9) rfl dX2_write_22 ?_
    refine lv_iload_n hx hb dX2_write_25 rfl (lv_at hl 2 rfl) ?_
    refine va_iast hx hb hK hP hD hS 1 0 rfl rfl (vp_in_iff.mpr ⟨by omega, by omega⟩) dX2_write_26 (fun H locs hP hD hS => ?_)
    generalize upd f2 (n0_size : Int32).toNatClampNeg p1 = f_3 at hP hD
    have hP : va_P (dC, dI) vwCl [(h1, Sum.inl (cint, 10, Sum.inl f_2)), (h2, Sum.inl (cint, 10, Sum.inl f_3)), (h3, Sum.inl (cint, 10, Sum.inl f3)), (h0, Sum.inr (2, [Value.ref h1, Value.ref h2, Value.ref h3, Value.int n0_size, Value.ref h4, Value.int n0_names, Value.int n0_plots, Value.ref h5, Value.ref h6, Value.ref h7, Value.ref h8, Value.ref h9, Value.int n0_ways]))] H := hP
    have hD : va_D A [(h1, Sum.inl (cint, 10, Sum.inl f_2)), (h2, Sum.inl (cint, 10, Sum.inl f_3)), (h3, Sum.inl (cint, 10, Sum.inl f3)), (h0, Sum.inr (2, [Value.ref h1, Value.ref h2, Value.ref h3, Value.int n0_size, Value.ref h4, Value.int n0_names, Value.int n0_plots, Value.ref h5, Value.ref h6, Value.ref h7, Value.ref h8, Value.ref h9, Value.int n0_ways]))] := hD
    refine lv_aload_n hx hb dX2_write_27 rfl (lv_at hl 0 rfl) ?_
    refine va_get (D := (dC, dI)) (ci := 2) (v := .ref h3) (C := RX2) (T := TX2) (N := 13) hx hb hts (fun _ h => List.mem_cons_of_mem _ (List.mem_append_right _ h)) hown hK hP 3 rfl rfl 2 (by decide) (hts (.fieldLink RX2 18 "KinkStreet$Deeds" "tolds" "[I") (List.mem_of_getElem? (i := 4) rfl)) (fun _ h9 => h9) rfl dX2_write_28 ?_
    refine lv_aload_n hx hb dX2_write_31 rfl (lv_at hl 0 rfl) ?_
    refine va_get (D := (dC, dI)) (ci := 2) (v := .int n0_size) (C := RX2) (T := TX2) (N := 13) hx hb hts (fun _ h => List.mem_cons_of_mem _ (List.mem_append_right _ h)) hown hK hP 3 rfl rfl 3 (by decide) (hts (.fieldLink RX2 41 "KinkStreet$Deeds" "size" "I") (List.mem_of_getElem? (i := 2) rfl)) (fun _ h9 => h9) rfl dX2_write_32 ?_
    refine lv_iload_n hx hb dX2_write_35 rfl (lv_at hl 3 rfl) ?_
    refine va_iast hx hb hK hP hD hS 2 0 rfl rfl (vp_in_iff.mpr ⟨by omega, by omega⟩) dX2_write_36 (fun H locs hP hD hS => ?_)
    generalize upd f3 (n0_size : Int32).toNatClampNeg p2 = f_4 at hP hD
    have hP : va_P (dC, dI) vwCl [(h1, Sum.inl (cint, 10, Sum.inl f_2)), (h2, Sum.inl (cint, 10, Sum.inl f_3)), (h3, Sum.inl (cint, 10, Sum.inl f_4)), (h0, Sum.inr (2, [Value.ref h1, Value.ref h2, Value.ref h3, Value.int n0_size, Value.ref h4, Value.int n0_names, Value.int n0_plots, Value.ref h5, Value.ref h6, Value.ref h7, Value.ref h8, Value.ref h9, Value.int n0_ways]))] H := hP
    have hD : va_D A [(h1, Sum.inl (cint, 10, Sum.inl f_2)), (h2, Sum.inl (cint, 10, Sum.inl f_3)), (h3, Sum.inl (cint, 10, Sum.inl f_4)), (h0, Sum.inr (2, [Value.ref h1, Value.ref h2, Value.ref h3, Value.int n0_size, Value.ref h4, Value.int n0_names, Value.int n0_plots, Value.ref h5, Value.ref h6, Value.ref h7, Value.ref h8, Value.ref h9, Value.int n0_ways]))] := hD
    refine lv_aload_n hx hb dX2_write_37 rfl (lv_at hl 0 rfl) ?_
    refine lv_dup hx hb dX2_write_38 rfl ?_
    refine va_get (D := (dC, dI)) (ci := 2) (v := .int n0_size) (C := RX2) (T := TX2) (N := 13) hx hb hts (fun _ h => List.mem_cons_of_mem _ (List.mem_append_right _ h)) hown hK hP 3 rfl rfl 3 (by decide) (hts (.fieldLink RX2 41 "KinkStreet$Deeds" "size" "I") (List.mem_of_getElem? (i := 2) rfl)) (fun _ h9 => h9) rfl dX2_write_39 ?_
    refine lv_iconst (v := 1) hx hb dX2_write_42 (by decide) ?_
    refine lv_iadd hx hb dX2_write_43 ?_
    refine va_put (D := (dC, dI)) (ci := 2) (v := .int (n0_size + 1)) (ty := .int) (C := RX2) (T := TX2) (N := 13) hx hb hts (fun _ h => List.mem_cons_of_mem _ (List.mem_append_right _ h)) tyX2 tyX2_ok nmX2 hown hK hP hD hS 3 rfl rfl 3 (by decide) (hts (.fieldLink RX2 41 "KinkStreet$Deeds" "size" "I") (List.mem_of_getElem? (i := 2) rfl)) (fun _ h9 => h9) rfl (by decide +kernel) rfl rfl (Nat.le_of_ble_eq_true rfl) dX2_write_44 (fun H locs hP hD hS => ?_)
    have hP : va_P (dC, dI) vwCl [(h1, Sum.inl (cint, 10, Sum.inl f_2)), (h2, Sum.inl (cint, 10, Sum.inl f_3)), (h3, Sum.inl (cint, 10, Sum.inl f_4)), (h0, Sum.inr (2, [Value.ref h1, Value.ref h2, Value.ref h3, Value.int (n0_size + 1), Value.ref h4, Value.int n0_names, Value.int n0_plots, Value.ref h5, Value.ref h6, Value.ref h7, Value.ref h8, Value.ref h9, Value.int n0_ways]))] H := hP
    have hD : va_D A [(h1, Sum.inl (cint, 10, Sum.inl f_2)), (h2, Sum.inl (cint, 10, Sum.inl f_3)), (h3, Sum.inl (cint, 10, Sum.inl f_4)), (h0, Sum.inr (2, [Value.ref h1, Value.ref h2, Value.ref h3, Value.int (n0_size + 1), Value.ref h4, Value.int n0_names, Value.int n0_plots, Value.ref h5, Value.ref h6, Value.ref h7, Value.ref h8, Value.ref h9, Value.int n0_ways]))] := hD
    refine lv_aload_n hx hb dX2_write_47 rfl (lv_at hl 0 rfl) ?_
    refine va_get (D := (dC, dI)) (ci := 2) (v := .int (n0_size + 1)) (C := RX2) (T := TX2) (N := 13) hx hb hts (fun _ h => List.mem_cons_of_mem _ (List.mem_append_right _ h)) hown hK hP 3 rfl rfl 3 (by decide) (hts (.fieldLink RX2 41 "KinkStreet$Deeds" "size" "I") (List.mem_of_getElem? (i := 2) rfl)) (fun _ h9 => h9) rfl dX2_write_48 ?_
    obtain ⟨hP9, hD9⟩ := kk_leafout (wc := [(h0, Sum.inr (2, [Value.ref h1, Value.ref h2, Value.ref h3, Value.int (n0_size + 1), Value.ref h4, Value.int n0_names, Value.int n0_plots, Value.ref h5, Value.ref h6, Value.ref h7, Value.ref h8, Value.ref h9, Value.int n0_ways])), (h1, Sum.inl (cint, 10, Sum.inl f_2)), (h2, Sum.inl (cint, 10, Sum.inl f_3)), (h3, Sum.inl (cint, 10, Sum.inl f_4))]) hP hD [3, 0, 1, 2] (by decide) rfl
    have hK9 := hK.sub (tys' := []) [] rfl
    exact W.iret (v := (n0_size + 1)) hx hb hr (fun t ht hW => ⟨⟨(n0_size + 1), (), rfl, (by show 1 ≤ ((n0_size + 1) : Int32).toInt ∧ ((n0_size + 1) : Int32).toInt ≤ 10; first | decide | (constructor <;> (have := kk_add2 (x := n0_size) (y := 1) (a := n0_size.toInt) (b := 1) rfl rfl (by omega) (by omega); omega))), (n0_size + 1), f_2, f_3, f_4, (by show 1 ≤ ((n0_size + 1) : Int32).toInt ∧ ((n0_size + 1) : Int32).toInt ≤ 10; first | decide | (constructor <;> (have := kk_add2 (x := n0_size) (y := 1) (a := n0_size.toInt) (b := 1) rfl rfl (by omega) (by omega); omega))), by rw [ht]; exact hP9, va_K.moved hW.alike hK9, hD9⟩, hS.F ht⟩) hS.2.2 dX2_write_51
  · skip
    have t_1_0 : (10 : Int) ≤ n0_size.toInt := t_1_0
    refine lv_if_ne (tgt := 47) hx hb dX2_write_4 (by decide) (fun _ => ?_) (fun c => absurd c (by decide))
    refine lv_aload_n hx hb dX2_write_47 rfl (lv_at hl 0 rfl) ?_
    refine va_get (D := (dC, dI)) (ci := 2) (v := .int n0_size) (C := RX2) (T := TX2) (N := 13) hx hb hts (fun _ h => List.mem_cons_of_mem _ (List.mem_append_right _ h)) hown hK hP 3 rfl rfl 3 (by decide) (hts (.fieldLink RX2 41 "KinkStreet$Deeds" "size" "I") (List.mem_of_getElem? (i := 2) rfl)) (fun _ h9 => h9) rfl dX2_write_48 ?_
    obtain ⟨hP9, hD9⟩ := kk_leafout (wc := [(h0, Sum.inr (2, [Value.ref h1, Value.ref h2, Value.ref h3, Value.int n0_size, Value.ref h4, Value.int n0_names, Value.int n0_plots, Value.ref h5, Value.ref h6, Value.ref h7, Value.ref h8, Value.ref h9, Value.int n0_ways])), (h1, Sum.inl (cint, 10, Sum.inl f1)), (h2, Sum.inl (cint, 10, Sum.inl f2)), (h3, Sum.inl (cint, 10, Sum.inl f3))]) hP hD [3, 0, 1, 2] (by decide) rfl
    have hK9 := hK.sub (tys' := []) [] rfl
    exact W.iret (v := n0_size) hx hb hr (fun t ht hW => ⟨⟨n0_size, (), rfl, (by show 1 ≤ (n0_size : Int32).toInt ∧ (n0_size : Int32).toInt ≤ 10; first | decide | (constructor <;> (omega))), n0_size, f1, f2, f3, (by show 1 ≤ (n0_size : Int32).toInt ∧ (n0_size : Int32).toInt ≤ 10; first | decide | (constructor <;> (omega))), by rw [ht]; exact hP9, va_K.moved hW.alike hK9, hD9⟩, hS.F ht⟩) hS.2.2 dX2_write_51
set_option maxHeartbeats 4000000 in
set_option maxRecDepth 100000 in
theorem g_X2_clear_0 (l : Launch) (dC : Nat → ClassId) (dI : Nat → Nat → Nat) (h0 : Nat) (h1 : Nat) (h2 : Nat) (h3 : Nat) (h4 : Nat) (h5 : Nat) (h6 : Nat) (h7 : Nat) (h8 : Nat) (h9 : Nat) (sz : Nat) (n0_size : Int32) (n0_names : Int32) (n0_plots : Int32) (n0_ways : Int32) (tn0_size : 0 ≤ n0_size.toInt ∧ n0_size.toInt ≤ 10) (tn0_names : 0 ≤ n0_names.toInt ∧ n0_names.toInt ≤ 8) (tn0_plots : 0 ≤ n0_plots.toInt ∧ n0_plots.toInt ≤ 40) : Met l yX2_clear wsX2_clear ({ frames := 0, cells := 0, slots := 0, locals := 0 }) (va_Pc [.ref h0] (fun U => U.heap.size = sz ∧ va_P (dC, dI) vwCl [(h0, Sum.inr (2, [Value.ref h1, Value.ref h2, Value.ref h3, Value.int n0_size, Value.ref h4, Value.int n0_names, Value.int n0_plots, Value.ref h5, Value.ref h6, Value.ref h7, Value.ref h8, Value.ref h9, Value.int n0_ways]))] U.heap ∧ va_K (dC, dI) vwCl [] U ∧ va_D (fun _ => True) [(h0, Sum.inr (2, [Value.ref h1, Value.ref h2, Value.ref h3, Value.int n0_size, Value.ref h4, Value.int n0_names, Value.int n0_plots, Value.ref h5, Value.ref h6, Value.ref h7, Value.ref h8, Value.ref h9, Value.int n0_ways]))])) (va_Qi (fun (r : Int32) (_ : Unit) => n0_size = r) (fun (_ : Unit) t => ∃ (m0_size : Int32), (0 ≤ m0_size.toInt ∧ m0_size.toInt ≤ 0) ∧ va_P (dC, dI) vwCl [(h0, Sum.inr (2, [Value.ref h1, Value.ref h2, Value.ref h3, Value.int m0_size, Value.ref h4, Value.int n0_names, Value.int n0_plots, Value.ref h5, Value.ref h6, Value.ref h7, Value.ref h8, Value.ref h9, Value.int n0_ways]))] t.heap ∧ va_K (dC, dI) vwCl [] t ∧ va_D (va_A [(h0, Sum.inr (2, [Value.ref h1, Value.ref h2, Value.ref h3, Value.int n0_size, Value.ref h4, Value.int n0_names, Value.int n0_plots, Value.ref h5, Value.ref h6, Value.ref h7, Value.ref h8, Value.ref h9, Value.int n0_ways]))] sz) [(h0, Sum.inr (2, [Value.ref h1, Value.ref h2, Value.ref h3, Value.int m0_size, Value.ref h4, Value.int n0_names, Value.int n0_plots, Value.ref h5, Value.ref h6, Value.ref h7, Value.ref h8, Value.ref h9, Value.int n0_ways]))]) (va_A [(h0, Sum.inr (2, [Value.ref h1, Value.ref h2, Value.ref h3, Value.int n0_size, Value.ref h4, Value.int n0_names, Value.int n0_plots, Value.ref h5, Value.ref h6, Value.ref h7, Value.ref h8, Value.ref h9, Value.int n0_ways]))] sz)) 0 0 (va_A [(h0, Sum.inr (2, [Value.ref h1, Value.ref h2, Value.ref h3, Value.int n0_size, Value.ref h4, Value.int n0_names, Value.int n0_plots, Value.ref h5, Value.ref h6, Value.ref h7, Value.ref h8, Value.ref h9, Value.int n0_ways]))] sz) := by
  refine Met.ofW (cc := cX2_clear) (maxL := 2) (ret := (some .int)) (by decide) rfl ?_
  intro p e s m args below meth c s₁ B hml hv
  obtain ⟨rfl, hsz, hP, hK, hD0⟩ := hv
  have hx := B.exec
  have hb := B.bytes
  have hr := B.returns
  have hts := atoms_spec (ws := wsX2_clear) B.pre
  have hown : s.vm.findClass RX2 = some m.cls := findClass_of_methodNamed B.named
  have hlocks := B.notSynchronized
  subst hsz
  have hD := hD0.self (sz := s.heap.size)
  generalize hAe : va_A [(h0, Sum.inr (2, [Value.ref h1, Value.ref h2, Value.ref h3, Value.int n0_size, Value.ref h4, Value.int n0_names, Value.int n0_plots, Value.ref h5, Value.ref h6, Value.ref h7, Value.ref h8, Value.ref h9, Value.int n0_ways]))] s.heap.size = A at hD ⊢
  have hA : ∀ q : Nat, s.heap.size ≤ q → A q := fun q h => by rw [← hAe]; exact Or.inr h
  have hS : va_S A s.heap s.heap [] := va_S.rf
  have hP : va_P (dC, dI) vwCl [(h0, Sum.inr (2, [Value.ref h1, Value.ref h2, Value.ref h3, Value.int n0_size, Value.ref h4, Value.int n0_names, Value.int n0_plots, Value.ref h5, Value.ref h6, Value.ref h7, Value.ref h8, Value.ref h9, Value.int n0_ways]))] s.heap := hP
  have hl := lv_entry ([.ref h0]) (n := 2) (Nat.le_of_ble_eq_true rfl)
  rw [lg_entry_eq]
  generalize (lg_sl ([.ref h0]) ++ List.replicate (2 - (lg_sl ([.ref h0])).length) Slot.unset).toArray = ls at hl ⊢
  have hl : lv_has ls 2 [(0, .ref h0)] := hl
  refine lv_aload_n hx hb dX2_clear_0 rfl (lv_at hl 0 rfl) ?_
  refine va_get (D := (dC, dI)) (ci := 2) (v := .int n0_size) (C := RX2) (T := TX2) (N := 13) hx hb hts (fun _ h => List.mem_cons_of_mem _ (List.mem_append_right _ h)) hown hK hP 0 rfl rfl 3 (by decide) (hts (.fieldLink RX2 41 "KinkStreet$Deeds" "size" "I") (List.mem_of_getElem? (i := 1) rfl)) (fun _ h9 => h9) rfl dX2_clear_1 ?_
  refine lv_istore_n (lv' := [(1, .int n0_size), (0, .ref h0)]) hx hb dX2_clear_4 rfl hl (by decide) rfl (fun ls hl => ?_)
  refine lv_aload_n hx hb dX2_clear_5 rfl (lv_at hl 1 rfl) ?_
  refine lv_iconst (v := 0) hx hb dX2_clear_6 (by decide) ?_
  refine va_put (D := (dC, dI)) (ci := 2) (v := .int 0) (ty := .int) (C := RX2) (T := TX2) (N := 13) hx hb hts (fun _ h => List.mem_cons_of_mem _ (List.mem_append_right _ h)) tyX2 tyX2_ok nmX2 hown hK hP hD hS 0 rfl rfl 3 (by decide) (hts (.fieldLink RX2 41 "KinkStreet$Deeds" "size" "I") (List.mem_of_getElem? (i := 1) rfl)) (fun _ h9 => h9) rfl (by decide +kernel) rfl rfl (Nat.le_of_ble_eq_true rfl) dX2_clear_7 (fun H locs hP hD hS => ?_)
  have hP : va_P (dC, dI) vwCl [(h0, Sum.inr (2, [Value.ref h1, Value.ref h2, Value.ref h3, Value.int 0, Value.ref h4, Value.int n0_names, Value.int n0_plots, Value.ref h5, Value.ref h6, Value.ref h7, Value.ref h8, Value.ref h9, Value.int n0_ways]))] H := hP
  have hD : va_D A [(h0, Sum.inr (2, [Value.ref h1, Value.ref h2, Value.ref h3, Value.int 0, Value.ref h4, Value.int n0_names, Value.int n0_plots, Value.ref h5, Value.ref h6, Value.ref h7, Value.ref h8, Value.ref h9, Value.int n0_ways]))] := hD
  refine lv_iload_n hx hb dX2_clear_10 rfl (lv_at hl 0 rfl) ?_
  obtain ⟨hP9, hD9⟩ := kk_leafout (wc := [(h0, Sum.inr (2, [Value.ref h1, Value.ref h2, Value.ref h3, Value.int 0, Value.ref h4, Value.int n0_names, Value.int n0_plots, Value.ref h5, Value.ref h6, Value.ref h7, Value.ref h8, Value.ref h9, Value.int n0_ways]))]) hP hD [0] (by decide) rfl
  have hK9 := hK.sub (tys' := []) [] rfl
  exact W.iret (v := n0_size) hx hb hr (fun t ht hW => ⟨⟨n0_size, (), rfl, rfl, 0, (by show 0 ≤ (0 : Int32).toInt ∧ (0 : Int32).toInt ≤ 0; first | decide | (constructor <;> (omega))), by rw [ht]; exact hP9, va_K.moved hW.alike hK9, hD9⟩, hS.F ht⟩) hS.2.2 dX2_clear_11
set_option maxHeartbeats 4000000 in
set_option maxRecDepth 100000 in
theorem g_X2_mention_0 (l : Launch) (dC : Nat → ClassId) (dI : Nat → Nat → Nat) (h0 : Nat) (h1 : Nat) (h2 : Nat) (h3 : Nat) (h4 : Nat) (h5 : Nat) (h6 : Nat) (h7 : Nat) (h8 : Nat) (h9 : Nat) (cint : ClassId) (sz : Nat) (p0 : Int32) (n0_size : Int32) (n0_names : Int32) (n0_plots : Int32) (n0_ways : Int32) (f1 : Nat → Int32) (f2 : Nat → Int32) (tn0_size : 0 ≤ n0_size.toInt ∧ n0_size.toInt ≤ 10) (tn0_names : 0 ≤ n0_names.toInt ∧ n0_names.toInt ≤ 8) (tn0_plots : 0 ≤ n0_plots.toInt ∧ n0_plots.toInt ≤ 40) : Met l yX2_mention wsX2_mention ({ frames := 0, cells := 0, slots := 0, locals := 0 }) (va_Pc [.ref h0, .int p0] (fun U => U.heap.size = sz ∧ va_P (dC, dI) vwCl [(h0, Sum.inr (2, [Value.ref h1, Value.ref h2, Value.ref h3, Value.int n0_size, Value.ref h4, Value.int n0_names, Value.int n0_plots, Value.ref h5, Value.ref h6, Value.ref h7, Value.ref h8, Value.ref h9, Value.int n0_ways])), (h1, Sum.inl (cint, 10, Sum.inl f1)), (h2, Sum.inl (cint, 10, Sum.inl f2))] U.heap ∧ va_K (dC, dI) vwCl [(cint, .int)] U ∧ va_D (fun _ => True) [(h0, Sum.inr (2, [Value.ref h1, Value.ref h2, Value.ref h3, Value.int n0_size, Value.ref h4, Value.int n0_names, Value.int n0_plots, Value.ref h5, Value.ref h6, Value.ref h7, Value.ref h8, Value.ref h9, Value.int n0_ways])), (h1, Sum.inl (cint, 10, Sum.inl f1)), (h2, Sum.inl (cint, 10, Sum.inl f2))])) (va_Qi (fun (r : Int32) (_ : Unit) => ((0 : Int32) = r) ∨ (1 ≤ n0_size.toInt ∧ (1 : Int32) = r)) (fun (_ : Unit) t => va_P (dC, dI) vwCl [(h0, Sum.inr (2, [Value.ref h1, Value.ref h2, Value.ref h3, Value.int n0_size, Value.ref h4, Value.int n0_names, Value.int n0_plots, Value.ref h5, Value.ref h6, Value.ref h7, Value.ref h8, Value.ref h9, Value.int n0_ways])), (h1, Sum.inl (cint, 10, Sum.inl f1)), (h2, Sum.inl (cint, 10, Sum.inl f2))] t.heap ∧ va_K (dC, dI) vwCl [] t ∧ va_D (va_A [(h0, Sum.inr (2, [Value.ref h1, Value.ref h2, Value.ref h3, Value.int n0_size, Value.ref h4, Value.int n0_names, Value.int n0_plots, Value.ref h5, Value.ref h6, Value.ref h7, Value.ref h8, Value.ref h9, Value.int n0_ways])), (h1, Sum.inl (cint, 10, Sum.inl f1)), (h2, Sum.inl (cint, 10, Sum.inl f2))] sz) [(h0, Sum.inr (2, [Value.ref h1, Value.ref h2, Value.ref h3, Value.int n0_size, Value.ref h4, Value.int n0_names, Value.int n0_plots, Value.ref h5, Value.ref h6, Value.ref h7, Value.ref h8, Value.ref h9, Value.int n0_ways])), (h1, Sum.inl (cint, 10, Sum.inl f1)), (h2, Sum.inl (cint, 10, Sum.inl f2))]) (va_A [(h0, Sum.inr (2, [Value.ref h1, Value.ref h2, Value.ref h3, Value.int n0_size, Value.ref h4, Value.int n0_names, Value.int n0_plots, Value.ref h5, Value.ref h6, Value.ref h7, Value.ref h8, Value.ref h9, Value.int n0_ways])), (h1, Sum.inl (cint, 10, Sum.inl f1)), (h2, Sum.inl (cint, 10, Sum.inl f2))] sz)) 0 0 (va_A [(h0, Sum.inr (2, [Value.ref h1, Value.ref h2, Value.ref h3, Value.int n0_size, Value.ref h4, Value.int n0_names, Value.int n0_plots, Value.ref h5, Value.ref h6, Value.ref h7, Value.ref h8, Value.ref h9, Value.int n0_ways])), (h1, Sum.inl (cint, 10, Sum.inl f1)), (h2, Sum.inl (cint, 10, Sum.inl f2))] sz) := by
  refine Met.ofW (cc := cX2_mention) (maxL := 3) (ret := (some .boolean)) (by decide) rfl ?_
  intro p e s m args below meth c s₁ B hml hv
  obtain ⟨rfl, hsz, hP, hK, hD0⟩ := hv
  have hx := B.exec
  have hb := B.bytes
  have hr := B.returns
  have hts := atoms_spec (ws := wsX2_mention) B.pre
  have hown : s.vm.findClass RX2 = some m.cls := findClass_of_methodNamed B.named
  have hlocks := B.notSynchronized
  subst hsz
  have hD := hD0.self (sz := s.heap.size)
  generalize hAe : va_A [(h0, Sum.inr (2, [Value.ref h1, Value.ref h2, Value.ref h3, Value.int n0_size, Value.ref h4, Value.int n0_names, Value.int n0_plots, Value.ref h5, Value.ref h6, Value.ref h7, Value.ref h8, Value.ref h9, Value.int n0_ways])), (h1, Sum.inl (cint, 10, Sum.inl f1)), (h2, Sum.inl (cint, 10, Sum.inl f2))] s.heap.size = A at hD ⊢
  have hA : ∀ q : Nat, s.heap.size ≤ q → A q := fun q h => by rw [← hAe]; exact Or.inr h
  have hS : va_S A s.heap s.heap [] := va_S.rf
  have hP : va_P (dC, dI) vwCl [(h0, Sum.inr (2, [Value.ref h1, Value.ref h2, Value.ref h3, Value.int n0_size, Value.ref h4, Value.int n0_names, Value.int n0_plots, Value.ref h5, Value.ref h6, Value.ref h7, Value.ref h8, Value.ref h9, Value.int n0_ways])), (h1, Sum.inl (cint, 10, Sum.inl f1)), (h2, Sum.inl (cint, 10, Sum.inl f2))] s.heap := hP
  have hl := lv_entry ([.ref h0, .int p0]) (n := 3) (Nat.le_of_ble_eq_true rfl)
  rw [lg_entry_eq]
  generalize (lg_sl ([.ref h0, .int p0]) ++ List.replicate (3 - (lg_sl ([.ref h0, .int p0])).length) Slot.unset).toArray = ls at hl ⊢
  have hl : lv_has ls 3 [(0, .ref h0), (1, .int p0)] := hl
  refine lv_iconst (v := 0) hx hb dX2_mention_0 (by decide) ?_
  refine lv_istore_n (lv' := [(2, .int 0), (0, .ref h0), (1, .int p0)]) hx hb dX2_mention_1 rfl hl (by decide) rfl (fun ls hl => ?_)
  refine kk_loop (σ := Int32) (fun x H locs ls => (0 ≤ x.toInt ∧ x.toInt ≤ 10) ∧ va_P (dC, dI) vwCl [(h0, Sum.inr (2, [Value.ref h1, Value.ref h2, Value.ref h3, Value.int n0_size, Value.ref h4, Value.int n0_names, Value.int n0_plots, Value.ref h5, Value.ref h6, Value.ref h7, Value.ref h8, Value.ref h9, Value.int n0_ways])), (h1, Sum.inl (cint, 10, Sum.inl f1)), (h2, Sum.inl (cint, 10, Sum.inl f2))] H ∧ va_D A [(h0, Sum.inr (2, [Value.ref h1, Value.ref h2, Value.ref h3, Value.int n0_size, Value.ref h4, Value.int n0_names, Value.int n0_plots, Value.ref h5, Value.ref h6, Value.ref h7, Value.ref h8, Value.ref h9, Value.int n0_ways])), (h1, Sum.inl (cint, 10, Sum.inl f1)), (h2, Sum.inl (cint, 10, Sum.inl f2))] ∧ va_S A s.heap H locs ∧ lv_has ls 3 [(2, .int x), (0, .ref h0), (1, .int p0)]) (fun x => ((10 : Int) - x.toInt).toNat) ?_ (0) _ _ _ ⟨(by show 0 ≤ (0 : Int32).toInt ∧ (0 : Int32).toInt ≤ 10; first | decide | (constructor <;> (omega))), hP, hD, hS, hl⟩
  rintro i_1_0 H locs ls ⟨t_1_0, hP, hD, hS, hl⟩ ih_1
  have t_1_0 : (0 ≤ i_1_0.toInt ∧ i_1_0.toInt ≤ 10) := t_1_0
  have hl : lv_has ls 3 [(2, .int i_1_0), (0, .ref h0), (1, .int p0)] := hl
  have hP : va_P (dC, dI) vwCl [(h0, Sum.inr (2, [Value.ref h1, Value.ref h2, Value.ref h3, Value.int n0_size, Value.ref h4, Value.int n0_names, Value.int n0_plots, Value.ref h5, Value.ref h6, Value.ref h7, Value.ref h8, Value.ref h9, Value.int n0_ways])), (h1, Sum.inl (cint, 10, Sum.inl f1)), (h2, Sum.inl (cint, 10, Sum.inl f2))] H := hP
  have hD : va_D A [(h0, Sum.inr (2, [Value.ref h1, Value.ref h2, Value.ref h3, Value.int n0_size, Value.ref h4, Value.int n0_names, Value.int n0_plots, Value.ref h5, Value.ref h6, Value.ref h7, Value.ref h8, Value.ref h9, Value.int n0_ways])), (h1, Sum.inl (cint, 10, Sum.inl f1)), (h2, Sum.inl (cint, 10, Sum.inl f2))] := hD
  refine lv_iload_n hx hb dX2_mention_2 rfl (lv_at hl 0 rfl) ?_
  refine lv_aload_n hx hb dX2_mention_3 rfl (lv_at hl 1 rfl) ?_
  refine va_get (D := (dC, dI)) (ci := 2) (v := .int n0_size) (C := RX2) (T := TX2) (N := 13) hx hb hts (fun _ h => List.mem_cons_of_mem _ (List.mem_append_right _ h)) hown hK hP 0 rfl rfl 3 (by decide) (hts (.fieldLink RX2 41 "KinkStreet$Deeds" "size" "I") (List.mem_of_getElem? (i := 1) rfl)) (fun _ h9 => h9) rfl dX2_mention_4 ?_
  refine lv_icmp_ge (tgt := 38) hx hb dX2_mention_7 (by decide) (fun c_2 => ?_) (fun c_2 => ?_)
  · have t_2 : n0_size.toInt ≤ i_1_0.toInt := kk_le c_2
    refine lv_iconst (v := 0) hx hb dX2_mention_38 (by decide) ?_
    obtain ⟨hP9, hD9⟩ := kk_leafout (wc := [(h0, Sum.inr (2, [Value.ref h1, Value.ref h2, Value.ref h3, Value.int n0_size, Value.ref h4, Value.int n0_names, Value.int n0_plots, Value.ref h5, Value.ref h6, Value.ref h7, Value.ref h8, Value.ref h9, Value.int n0_ways])), (h1, Sum.inl (cint, 10, Sum.inl f1)), (h2, Sum.inl (cint, 10, Sum.inl f2))]) hP hD [0, 1, 2] (by decide) rfl
    have hK9 := hK.sub (tys' := []) [] rfl
    exact W.zret (v := 0) hx hb hr rfl (fun t ht hW => ⟨⟨0, (), rfl, Or.inl rfl, by rw [ht]; exact hP9, va_K.moved hW.alike hK9, hD9⟩, hS.F ht⟩) hS.2.2 dX2_mention_39
  · have t_2 : i_1_0.toInt < n0_size.toInt := kk_nle c_2
    refine lv_aload_n hx hb dX2_mention_10 rfl (lv_at hl 1 rfl) ?_
    refine va_get (D := (dC, dI)) (ci := 2) (v := .ref h1) (C := RX2) (T := TX2) (N := 13) hx hb hts (fun _ h => List.mem_cons_of_mem _ (List.mem_append_right _ h)) hown hK hP 0 rfl rfl 0 (by decide) (hts (.fieldLink RX2 11 "KinkStreet$Deeds" "ones" "[I") (List.mem_of_getElem? (i := 2) rfl)) (fun _ h9 => h9) rfl dX2_mention_11 ?_
    refine lv_iload_n hx hb dX2_mention_14 rfl (lv_at hl 0 rfl) ?_
    have hi_3 : vp_in i_1_0 10 := (vp_in_iff.mpr ⟨by omega, by omega⟩)
    refine va_iald hx hb hK hP 1 0 rfl rfl hi_3 dX2_mention_15 ?_
    refine lv_topi (fun y_3 e_3 => ?_)
    clear e_3
    refine lv_iload_n hx hb dX2_mention_16 rfl (lv_at hl 2 rfl) ?_
    refine lv_icmp_eq (tgt := 30) hx hb dX2_mention_17 (by decide) (fun c_4 => ?_) (fun c_4 => ?_)
    · have t_4 : y_3.toInt = p0.toInt := kk_eq c_4
      refine lv_iconst (v := 1) hx hb dX2_mention_30 (by decide) ?_
      obtain ⟨hP9, hD9⟩ := kk_leafout (wc := [(h0, Sum.inr (2, [Value.ref h1, Value.ref h2, Value.ref h3, Value.int n0_size, Value.ref h4, Value.int n0_names, Value.int n0_plots, Value.ref h5, Value.ref h6, Value.ref h7, Value.ref h8, Value.ref h9, Value.int n0_ways])), (h1, Sum.inl (cint, 10, Sum.inl f1)), (h2, Sum.inl (cint, 10, Sum.inl f2))]) hP hD [0, 1, 2] (by decide) rfl
      have hK9 := hK.sub (tys' := []) [] rfl
      exact W.zret (v := 1) hx hb hr rfl (fun t ht hW => ⟨⟨1, (), rfl, Or.inr (⟨by first | assumption | (have := kk_rng y_3; have := kk_rng p0; omega), rfl⟩), by rw [ht]; exact hP9, va_K.moved hW.alike hK9, hD9⟩, hS.F ht⟩) hS.2.2 dX2_mention_31
    · have t_4 : y_3.toInt ≠ p0.toInt := kk_ne c_4
      refine lv_aload_n hx hb dX2_mention_20 rfl (lv_at hl 1 rfl) ?_
      refine va_get (D := (dC, dI)) (ci := 2) (v := .ref h2) (C := RX2) (T := TX2) (N := 13) hx hb hts (fun _ h => List.mem_cons_of_mem _ (List.mem_append_right _ h)) hown hK hP 0 rfl rfl 1 (by decide) (hts (.fieldLink RX2 15 "KinkStreet$Deeds" "others" "[I") (List.mem_of_getElem? (i := 3) rfl)) (fun _ h9 => h9) rfl dX2_mention_21 ?_
      refine lv_iload_n hx hb dX2_mention_24 rfl (lv_at hl 0 rfl) ?_
      have hi_5 : vp_in i_1_0 10 := (vp_in_iff.mpr ⟨by omega, by omega⟩)
      refine va_iald hx hb hK hP 2 0 rfl rfl hi_5 dX2_mention_25 ?_
      refine lv_topi (fun y_5 e_5 => ?_)
      clear e_5
      refine lv_iload_n hx hb dX2_mention_26 rfl (lv_at hl 2 rfl) ?_
      refine lv_icmp_ne (tgt := 32) hx hb dX2_mention_27 (by decide) (fun c_6 => ?_) (fun c_6 => ?_)
      · have t_6 : y_5.toInt ≠ p0.toInt := kk_ne c_6
        refine lv_iinc (v := (i_1_0 + 1)) (lv' := [(2, .int (i_1_0 + 1)), (0, .ref h0), (1, .int p0)]) hx hb dX2_mention_32 hl (k := 0) rfl (by first | rfl | decide) (by decide) rfl (fun ls hl => ?_)
        refine lv_goto (tgt := 2) hx hb dX2_mention_35 (by decide) ?_
        exact ih_1 ((i_1_0 + 1)) _ _ _ (by show ((10 : Int) - ((i_1_0 + 1)).toInt).toNat < ((10 : Int) - i_1_0.toInt).toNat; have := kk_add2 (x := i_1_0) (y := 1) (a := i_1_0.toInt) (b := 1) rfl rfl (by omega) (by omega); exact kk_mu (by omega) (by omega)) ⟨(by show 0 ≤ ((i_1_0 + 1) : Int32).toInt ∧ ((i_1_0 + 1) : Int32).toInt ≤ 10; first | decide | (constructor <;> (have := kk_add2 (x := i_1_0) (y := 1) (a := i_1_0.toInt) (b := 1) rfl rfl (by omega) (by omega); omega))), hP, hD, hS, lv_sub hl [0, 1, 2] rfl⟩
      · have t_6 : y_5.toInt = p0.toInt := kk_eq c_6
        refine lv_iconst (v := 1) hx hb dX2_mention_30 (by decide) ?_
        obtain ⟨hP9, hD9⟩ := kk_leafout (wc := [(h0, Sum.inr (2, [Value.ref h1, Value.ref h2, Value.ref h3, Value.int n0_size, Value.ref h4, Value.int n0_names, Value.int n0_plots, Value.ref h5, Value.ref h6, Value.ref h7, Value.ref h8, Value.ref h9, Value.int n0_ways])), (h1, Sum.inl (cint, 10, Sum.inl f1)), (h2, Sum.inl (cint, 10, Sum.inl f2))]) hP hD [0, 1, 2] (by decide) rfl
        have hK9 := hK.sub (tys' := []) [] rfl
        exact W.zret (v := 1) hx hb hr rfl (fun t ht hW => ⟨⟨1, (), rfl, Or.inr (⟨by first | assumption | (have := kk_rng y_5; have := kk_rng p0; omega), rfl⟩), by rw [ht]; exact hP9, va_K.moved hW.alike hK9, hD9⟩, hS.F ht⟩) hS.2.2 dX2_mention_31
