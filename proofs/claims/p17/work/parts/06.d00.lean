set_option maxHeartbeats 4000000 in
set_option maxRecDepth 100000 in
theorem g_X2_isName_0 (l : Launch) (dC : Nat → ClassId) (dI : Nat → Nat → Nat) (sz : Nat) (p0 : Int32) : Met l yX2_isName wsX2_isName ({ frames := 0, cells := 0, slots := 0, locals := 0 }) (va_Pc [.int p0] (fun U => U.heap.size = sz ∧ va_P (dC, dI) vwCl [] U.heap ∧ va_K (dC, dI) vwCl [] U ∧ va_D (fun _ => True) [])) (va_Qi (fun (r : Int32) (_ : Unit) => ((0 : Int32) = r) ∨ (0 ≤ p0.toInt ∧ p0.toInt < 8 ∧ (1 : Int32) = r)) (fun (_ : Unit) t => va_P (dC, dI) vwCl [] t.heap ∧ va_K (dC, dI) vwCl [] t ∧ va_D (va_A [] sz) []) (va_A [] sz)) 0 0 (va_A [] sz) := by
  refine Met.ofW (cc := cX2_isName) (maxL := 1) (ret := (some .boolean)) (by decide) rfl ?_
  intro p e s m args below meth c s₁ B hml hv
  obtain ⟨rfl, hsz, hP, hK, hD0⟩ := hv
  have hx := B.exec
  have hb := B.bytes
  have hr := B.returns
  have hts := atoms_spec (ws := wsX2_isName) B.pre
  have hown : s.vm.findClass RX2 = some m.cls := findClass_of_methodNamed B.named
  have hlocks := B.notSynchronized
  subst hsz
  have hD := hD0.self (sz := s.heap.size)
  generalize hAe : va_A [] s.heap.size = A at hD ⊢
  have hA : ∀ q : Nat, s.heap.size ≤ q → A q := fun q h => by rw [← hAe]; exact Or.inr h
  have hS : va_S A s.heap s.heap [] := va_S.rf
  have hP : va_P (dC, dI) vwCl [] s.heap := hP
  have hl := lv_entry ([.int p0]) (n := 1) (Nat.le_of_ble_eq_true rfl)
  rw [lg_entry_eq]
  generalize (lg_sl ([.int p0]) ++ List.replicate (1 - (lg_sl ([.int p0])).length) Slot.unset).toArray = ls at hl ⊢
  have hl : lv_has ls 1 [(0, .int p0)] := hl
  refine lv_iload_n hx hb dX2_isName_0 rfl (lv_at hl 0 rfl) ?_
  refine lv_if_lt (tgt := 14) hx hb dX2_isName_1 (by decide) (fun c_1 => ?_) (fun c_1 => ?_)
  · have t_1 : p0.toInt < 0 := kk_lt c_1
    refine lv_iconst (v := 0) hx hb dX2_isName_14 kk_ic_0 ?_
    obtain ⟨hP9, hD9⟩ := kk_leafout (wc := []) hP hD [] (by decide) rfl
    have hK9 := kk_Ks (tq := []) hK [] rfl
    exact W.zret (v := 0) hx hb hr rfl (fun t ht hW => ⟨⟨0, (), rfl, Or.inl rfl, by rw [ht]; exact hP9, va_K.moved hW.alike hK9, hD9⟩, hS.F ht⟩) hS.2.2 dX2_isName_15
  · have t_1 : 0 ≤ p0.toInt := kk_nlt c_1
    refine lv_iload_n hx hb dX2_isName_4 rfl (lv_at hl 0 rfl) ?_
    refine lv_bipush (v := 8) hx hb dX2_isName_5 kk_bi_8 ?_
    refine lv_icmp_ge (tgt := 14) hx hb dX2_isName_7 (by decide) (fun c_2 => ?_) (fun c_2 => ?_)
    · have t_2 : 8 ≤ p0.toInt := kk_le c_2
      refine lv_iconst (v := 0) hx hb dX2_isName_14 kk_ic_0 ?_
      obtain ⟨hP9, hD9⟩ := kk_leafout (wc := []) hP hD [] (by decide) rfl
      have hK9 := kk_Ks (tq := []) hK [] rfl
      exact W.zret (v := 0) hx hb hr rfl (fun t ht hW => ⟨⟨0, (), rfl, Or.inl rfl, by rw [ht]; exact hP9, va_K.moved hW.alike hK9, hD9⟩, hS.F ht⟩) hS.2.2 dX2_isName_15
    · have t_2 : p0.toInt < 8 := kk_nle c_2
      refine lv_iconst (v := 1) hx hb dX2_isName_10 kk_ic_1 ?_
      refine lv_goto (tgt := 15) hx hb dX2_isName_11 (by decide) ?_
      obtain ⟨hP9, hD9⟩ := kk_leafout (wc := []) hP hD [] (by decide) rfl
      have hK9 := kk_Ks (tq := []) hK [] rfl
      exact W.zret (v := 1) hx hb hr rfl (fun t ht hW => ⟨⟨1, (), rfl, Or.inr (⟨by first | with_reducible assumption | (omega) | assumption, by first | with_reducible assumption | (omega) | assumption, rfl⟩), by rw [ht]; exact hP9, va_K.moved hW.alike hK9, hD9⟩, hS.F ht⟩) hS.2.2 dX2_isName_15
set_option maxHeartbeats 4000000 in
set_option maxRecDepth 100000 in
theorem g_X2_size_0 (l : Launch) (dC : Nat → ClassId) (dI : Nat → Nat → Nat) (h0 : Nat) (h1 : Nat) (h2 : Nat) (h3 : Nat) (h4 : Nat) (h5 : Nat) (h6 : Nat) (h7 : Nat) (h8 : Nat) (h9 : Nat) (sz : Nat) (n0_size : Int32) (n0_names : Int32) (n0_plots : Int32) (n0_ways : Int32) (tn0_size : 0 ≤ n0_size.toInt ∧ n0_size.toInt ≤ 10) (tn0_names : kk_bx (0 ≤ n0_names.toInt ∧ n0_names.toInt ≤ 8)) (tn0_plots : kk_bx (0 ≤ n0_plots.toInt ∧ n0_plots.toInt ≤ 40)) : Met l yX2_size wsX2_size ({ frames := 0, cells := 0, slots := 0, locals := 0 }) (va_Pc [.ref h0] (fun U => U.heap.size = sz ∧ va_P (dC, dI) vwCl [(h0, kO2 h1 h2 h3 n0_size h4 n0_names n0_plots h5 h6 h7 h8 h9 n0_ways)] U.heap ∧ va_K (dC, dI) vwCl [] U ∧ va_D (fun _ => True) [(h0, kO2 h1 h2 h3 n0_size h4 n0_names n0_plots h5 h6 h7 h8 h9 n0_ways)])) (va_Qi (fun (r : Int32) (_ : Unit) => n0_size = r) (fun (_ : Unit) t => va_P (dC, dI) vwCl [(h0, kO2 h1 h2 h3 n0_size h4 n0_names n0_plots h5 h6 h7 h8 h9 n0_ways)] t.heap ∧ va_K (dC, dI) vwCl [] t ∧ va_D (va_A [(h0, kO2 h1 h2 h3 n0_size h4 n0_names n0_plots h5 h6 h7 h8 h9 n0_ways)] sz) [(h0, kO2 h1 h2 h3 n0_size h4 n0_names n0_plots h5 h6 h7 h8 h9 n0_ways)]) (va_A [(h0, kO2 h1 h2 h3 n0_size h4 n0_names n0_plots h5 h6 h7 h8 h9 n0_ways)] sz)) 0 0 (va_A [(h0, kO2 h1 h2 h3 n0_size h4 n0_names n0_plots h5 h6 h7 h8 h9 n0_ways)] sz) := by
  refine Met.ofW (cc := cX2_size) (maxL := 1) (ret := (some .int)) (by decide) rfl ?_
  intro p e s m args below meth c s₁ B hml hv
  obtain ⟨rfl, hsz, hP, hK, hD0⟩ := hv
  have hx := B.exec
  have hb := B.bytes
  have hr := B.returns
  have hts := atoms_spec (ws := wsX2_size) B.pre
  have hown : s.vm.findClass RX2 = some m.cls := findClass_of_methodNamed B.named
  have hlocks := B.notSynchronized
  subst hsz
  have hD := hD0.self (sz := s.heap.size)
  generalize hAe : va_A [(h0, kO2 h1 h2 h3 n0_size h4 n0_names n0_plots h5 h6 h7 h8 h9 n0_ways)] s.heap.size = A at hD ⊢
  have hA : ∀ q : Nat, s.heap.size ≤ q → A q := fun q h => by rw [← hAe]; exact Or.inr h
  have hS : va_S A s.heap s.heap [] := va_S.rf
  have hP : va_P (dC, dI) vwCl [(h0, kO2 h1 h2 h3 n0_size h4 n0_names n0_plots h5 h6 h7 h8 h9 n0_ways)] s.heap := hP
  have hl := lv_entry ([.ref h0]) (n := 1) (Nat.le_of_ble_eq_true rfl)
  rw [lg_entry_eq]
  generalize (lg_sl ([.ref h0]) ++ List.replicate (1 - (lg_sl ([.ref h0])).length) Slot.unset).toArray = ls at hl ⊢
  have hl : lv_has ls 1 [(0, .ref h0)] := hl
  refine lv_aload_n hx hb dX2_size_0 rfl (lv_at hl 0 rfl) ?_
  refine va_get (D := (dC, dI)) (ci := 2) (v := .int n0_size) (C := RX2) (T := TX2) (N := 13) hx hb hts (fun _ h => List.mem_cons_of_mem _ (List.mem_append_right _ h)) hown hK hP 0 rfl rfl 3 (by decide) (hts (.fieldLink RX2 41 "KinkStreet$Deeds" "size" "I") (List.mem_of_getElem? (i := 1) rfl)) (fun _ h9 => h9) rfl dX2_size_1 ?_
  obtain ⟨hP9, hD9⟩ := kk_leafout (wc := [(h0, kO2 h1 h2 h3 n0_size h4 n0_names n0_plots h5 h6 h7 h8 h9 n0_ways)]) hP hD [0] (by decide) rfl
  have hK9 := kk_Ks (tq := []) hK [] rfl
  exact W.iret (v := n0_size) hx hb hr (fun t ht hW => ⟨⟨n0_size, (), rfl, rfl, by rw [ht]; exact hP9, va_K.moved hW.alike hK9, hD9⟩, hS.F ht⟩) hS.2.2 dX2_size_4
set_option maxHeartbeats 4000000 in
set_option maxRecDepth 100000 in
theorem g_X2_isFull_0 (l : Launch) (dC : Nat → ClassId) (dI : Nat → Nat → Nat) (h0 : Nat) (h1 : Nat) (h2 : Nat) (h3 : Nat) (h4 : Nat) (h5 : Nat) (h6 : Nat) (h7 : Nat) (h8 : Nat) (h9 : Nat) (sz : Nat) (n0_size : Int32) (n0_names : Int32) (n0_plots : Int32) (n0_ways : Int32) (tn0_size : 0 ≤ n0_size.toInt ∧ n0_size.toInt ≤ 10) (tn0_names : kk_bx (0 ≤ n0_names.toInt ∧ n0_names.toInt ≤ 8)) (tn0_plots : kk_bx (0 ≤ n0_plots.toInt ∧ n0_plots.toInt ≤ 40)) : Met l yX2_isFull wsX2_isFull ({ frames := 0, cells := 0, slots := 0, locals := 0 }) (va_Pc [.ref h0] (fun U => U.heap.size = sz ∧ va_P (dC, dI) vwCl [(h0, kO2 h1 h2 h3 n0_size h4 n0_names n0_plots h5 h6 h7 h8 h9 n0_ways)] U.heap ∧ va_K (dC, dI) vwCl [] U ∧ va_D (fun _ => True) [(h0, kO2 h1 h2 h3 n0_size h4 n0_names n0_plots h5 h6 h7 h8 h9 n0_ways)])) (va_Qi (fun (r : Int32) (_ : Unit) => (n0_size.toInt < 10 ∧ (0 : Int32) = r) ∨ (10 ≤ n0_size.toInt ∧ (1 : Int32) = r)) (fun (_ : Unit) t => va_P (dC, dI) vwCl [(h0, kO2 h1 h2 h3 n0_size h4 n0_names n0_plots h5 h6 h7 h8 h9 n0_ways)] t.heap ∧ va_K (dC, dI) vwCl [] t ∧ va_D (va_A [(h0, kO2 h1 h2 h3 n0_size h4 n0_names n0_plots h5 h6 h7 h8 h9 n0_ways)] sz) [(h0, kO2 h1 h2 h3 n0_size h4 n0_names n0_plots h5 h6 h7 h8 h9 n0_ways)]) (va_A [(h0, kO2 h1 h2 h3 n0_size h4 n0_names n0_plots h5 h6 h7 h8 h9 n0_ways)] sz)) 0 0 (va_A [(h0, kO2 h1 h2 h3 n0_size h4 n0_names n0_plots h5 h6 h7 h8 h9 n0_ways)] sz) := by
  refine Met.ofW (cc := cX2_isFull) (maxL := 1) (ret := (some .boolean)) (by decide) rfl ?_
  intro p e s m args below meth c s₁ B hml hv
  obtain ⟨rfl, hsz, hP, hK, hD0⟩ := hv
  have hx := B.exec
  have hb := B.bytes
  have hr := B.returns
  have hts := atoms_spec (ws := wsX2_isFull) B.pre
  have hown : s.vm.findClass RX2 = some m.cls := findClass_of_methodNamed B.named
  have hlocks := B.notSynchronized
  subst hsz
  have hD := hD0.self (sz := s.heap.size)
  generalize hAe : va_A [(h0, kO2 h1 h2 h3 n0_size h4 n0_names n0_plots h5 h6 h7 h8 h9 n0_ways)] s.heap.size = A at hD ⊢
  have hA : ∀ q : Nat, s.heap.size ≤ q → A q := fun q h => by rw [← hAe]; exact Or.inr h
  have hS : va_S A s.heap s.heap [] := va_S.rf
  have hP : va_P (dC, dI) vwCl [(h0, kO2 h1 h2 h3 n0_size h4 n0_names n0_plots h5 h6 h7 h8 h9 n0_ways)] s.heap := hP
  have hl := lv_entry ([.ref h0]) (n := 1) (Nat.le_of_ble_eq_true rfl)
  rw [lg_entry_eq]
  generalize (lg_sl ([.ref h0]) ++ List.replicate (1 - (lg_sl ([.ref h0])).length) Slot.unset).toArray = ls at hl ⊢
  have hl : lv_has ls 1 [(0, .ref h0)] := hl
  refine lv_aload_n hx hb dX2_isFull_0 rfl (lv_at hl 0 rfl) ?_
  refine va_get (D := (dC, dI)) (ci := 2) (v := .int n0_size) (C := RX2) (T := TX2) (N := 13) hx hb hts (fun _ h => List.mem_cons_of_mem _ (List.mem_append_right _ h)) hown hK hP 0 rfl rfl 3 (by decide) (hts (.fieldLink RX2 41 "KinkStreet$Deeds" "size" "I") (List.mem_of_getElem? (i := 1) rfl)) (fun _ h9 => h9) rfl dX2_isFull_1 ?_
  refine lv_bipush (v := 10) hx hb dX2_isFull_4 kk_bi_10 ?_
  refine lv_icmp_lt (tgt := 13) hx hb dX2_isFull_6 (by decide) (fun c_1 => ?_) (fun c_1 => ?_)
  · have t_1 : n0_size.toInt < 10 := kk_lt c_1
    refine lv_iconst (v := 0) hx hb dX2_isFull_13 kk_ic_0 ?_
    obtain ⟨hP9, hD9⟩ := kk_leafout (wc := [(h0, kO2 h1 h2 h3 n0_size h4 n0_names n0_plots h5 h6 h7 h8 h9 n0_ways)]) hP hD [0] (by decide) rfl
    have hK9 := kk_Ks (tq := []) hK [] rfl
    exact W.zret (v := 0) hx hb hr rfl (fun t ht hW => ⟨⟨0, (), rfl, Or.inl ⟨by first | with_reducible assumption | (omega) | assumption, rfl⟩, by rw [ht]; exact hP9, va_K.moved hW.alike hK9, hD9⟩, hS.F ht⟩) hS.2.2 dX2_isFull_14
  · have t_1 : 10 ≤ n0_size.toInt := kk_nlt c_1
    refine lv_iconst (v := 1) hx hb dX2_isFull_9 kk_ic_1 ?_
    refine lv_goto (tgt := 14) hx hb dX2_isFull_10 (by decide) ?_
    obtain ⟨hP9, hD9⟩ := kk_leafout (wc := [(h0, kO2 h1 h2 h3 n0_size h4 n0_names n0_plots h5 h6 h7 h8 h9 n0_ways)]) hP hD [0] (by decide) rfl
    have hK9 := kk_Ks (tq := []) hK [] rfl
    exact W.zret (v := 1) hx hb hr rfl (fun t ht hW => ⟨⟨1, (), rfl, Or.inr (⟨by first | with_reducible assumption | (omega) | assumption, rfl⟩), by rw [ht]; exact hP9, va_K.moved hW.alike hK9, hD9⟩, hS.F ht⟩) hS.2.2 dX2_isFull_14
set_option maxHeartbeats 4000000 in
set_option maxRecDepth 100000 in
theorem g_X2_write_0 (l : Launch) (dC : Nat → ClassId) (dI : Nat → Nat → Nat) (h0 : Nat) (h1 : Nat) (h2 : Nat) (h3 : Nat) (h4 : Nat) (h5 : Nat) (h6 : Nat) (h7 : Nat) (h8 : Nat) (h9 : Nat) (cint : ClassId) (sz : Nat) (p0 : Int32) (p1 : Int32) (p2 : Int32) (n0_size : Int32) (n0_names : Int32) (n0_plots : Int32) (n0_ways : Int32) (f1 : Nat → Int32) (f2 : Nat → Int32) (f3 : Nat → Int32) (tn0_size : 0 ≤ n0_size.toInt ∧ n0_size.toInt ≤ 10) (tn0_names : kk_bx (0 ≤ n0_names.toInt ∧ n0_names.toInt ≤ 8)) (tn0_plots : kk_bx (0 ≤ n0_plots.toInt ∧ n0_plots.toInt ≤ 40)) : Met l yX2_write wsX2_write ({ frames := 1, cells := 0, slots := 0, locals := 20 }) (va_Pc [.ref h0, .int p0, .int p1, .int p2] (fun U => U.heap.size = sz ∧ va_P (dC, dI) vwCl [(h0, kO2 h1 h2 h3 n0_size h4 n0_names n0_plots h5 h6 h7 h8 h9 n0_ways), (h1, kAi cint 10 f1), (h2, kAi cint 10 f2), (h3, kAi cint 10 f3)] U.heap ∧ va_K (dC, dI) vwCl [(cint, .int)] U ∧ va_D (fun _ => True) [(h0, kO2 h1 h2 h3 n0_size h4 n0_names n0_plots h5 h6 h7 h8 h9 n0_ways), (h1, kAi cint 10 f1), (h2, kAi cint 10 f2), (h3, kAi cint 10 f3)])) (va_Qi (fun (r : Int32) (_ : Unit) => (1 ≤ r.toInt ∧ r.toInt ≤ 10)) (fun (_ : Unit) t => ∃ (m0_size : Int32) (g1 : Nat → Int32) (g2 : Nat → Int32) (g3 : Nat → Int32), (1 ≤ m0_size.toInt ∧ m0_size.toInt ≤ 10) ∧ va_P (dC, dI) vwCl [(h0, kO2 h1 h2 h3 m0_size h4 n0_names n0_plots h5 h6 h7 h8 h9 n0_ways), (h1, kAi cint 10 g1), (h2, kAi cint 10 g2), (h3, kAi cint 10 g3)] t.heap ∧ va_K (dC, dI) vwCl [] t ∧ va_D (va_A [(h0, kO2 h1 h2 h3 n0_size h4 n0_names n0_plots h5 h6 h7 h8 h9 n0_ways), (h1, kAi cint 10 f1), (h2, kAi cint 10 f2), (h3, kAi cint 10 f3)] sz) [(h0, kO2 h1 h2 h3 m0_size h4 n0_names n0_plots h5 h6 h7 h8 h9 n0_ways), (h1, kAi cint 10 g1), (h2, kAi cint 10 g2), (h3, kAi cint 10 g3)]) (va_A [(h0, kO2 h1 h2 h3 n0_size h4 n0_names n0_plots h5 h6 h7 h8 h9 n0_ways), (h1, kAi cint 10 f1), (h2, kAi cint 10 f2), (h3, kAi cint 10 f3)] sz)) 0 0 (va_A [(h0, kO2 h1 h2 h3 n0_size h4 n0_names n0_plots h5 h6 h7 h8 h9 n0_ways), (h1, kAi cint 10 f1), (h2, kAi cint 10 f2), (h3, kAi cint 10 f3)] sz) := by
  refine Met.ofW (cc := cX2_write) (maxL := 4) (ret := (some .int)) (by decide) rfl ?_
  intro p e s m args below meth c s₁ B hml hv
  obtain ⟨rfl, hsz, hP, hK, hD0⟩ := hv
  have hx := B.exec
  have hb := B.bytes
  have hr := B.returns
  have hts := atoms_spec (ws := wsX2_write) B.pre
  have hown : s.vm.findClass RX2 = some m.cls := findClass_of_methodNamed B.named
  have hlocks := B.notSynchronized
  subst hsz
  have hD := hD0.self (sz := s.heap.size)
  generalize hAe : va_A [(h0, kO2 h1 h2 h3 n0_size h4 n0_names n0_plots h5 h6 h7 h8 h9 n0_ways), (h1, kAi cint 10 f1), (h2, kAi cint 10 f2), (h3, kAi cint 10 f3)] s.heap.size = A at hD ⊢
  have hA : ∀ q : Nat, s.heap.size ≤ q → A q := fun q h => by rw [← hAe]; exact Or.inr h
  have hS : va_S A s.heap s.heap [] := va_S.rf
  have hP : va_P (dC, dI) vwCl [(h0, kO2 h1 h2 h3 n0_size h4 n0_names n0_plots h5 h6 h7 h8 h9 n0_ways), (h1, kAi cint 10 f1), (h2, kAi cint 10 f2), (h3, kAi cint 10 f3)] s.heap := hP
  have hl := lv_entry ([.ref h0, .int p0, .int p1, .int p2]) (n := 4) (Nat.le_of_ble_eq_true rfl)
  rw [lg_entry_eq]
  generalize (lg_sl ([.ref h0, .int p0, .int p1, .int p2]) ++ List.replicate (4 - (lg_sl ([.ref h0, .int p0, .int p1, .int p2])).length) Slot.unset).toArray = ls at hl ⊢
  have hl : lv_has ls 4 [(0, .ref h0), (1, .int p0), (2, .int p1), (3, .int p2)] := hl
  refine lv_aload_n hx hb dX2_write_0 rfl (lv_at hl 0 rfl) ?_
  obtain ⟨hPc, hDc, hFc⟩ := kk_cutout (wc := [(h0, kO2 h1 h2 h3 n0_size h4 n0_names n0_plots h5 h6 h7 h8 h9 n0_ways)]) hP hD hS hA [0] (by decide) rfl
  have hKc := kk_Ks (tq := []) hK [] rfl
  refine va_calli (va_runV (As := []) (rest := []) ⟨hx, hb, hml, hown, hts⟩ (g_X2_isFull_0 l dC dI h0 h1 h2 h3 h4 h5 h6 h7 h8 h9 s.heap.size n0_size n0_names n0_plots n0_ways tn0_size tn0_names tn0_plots) (cwV 0 hts gX2_write_X2_isFull rfl rfl rfl ⟨rfl, kh_X2_isFull⟩ ⟨Nat.le_of_ble_eq_true rfl, Nat.le_of_ble_eq_true rfl⟩) ⟨fun a U g mk q => by obtain ⟨q0, q1, qP, qK, qD⟩ := q; exact ⟨q0, q1, qP, va_K.moved (u := U) (U := U.calling g mk a) (Vm.Alike.refl U.vm) qK, qD⟩, va_recv hKc hPc (ci := 2) (q0 := 0) rfl rfl, fun U hU hW => ⟨rfl, by rw [hU], by rw [hU]; exact hPc, va_K.moved hW.alike hKc, hDc.weaken (fun _ _ _ _ => trivial)⟩⟩ rfl rfl hl.1 rfl (lv_room (Nat.le_of_ble_eq_true rfl)) dX2_write_1 ⟨Nat.le_of_ble_eq_true rfl, Nat.le_of_ble_eq_true rfl⟩) hS (fun q _ h => hFc q h) hFc (fun r_1 u t H1 locs ht hvm hw hB hz1 hk1 hS => ?_)
  obtain ⟨hP1, hK1, hD1⟩ := hB
  rw [ht] at hP1
  have hK1 := va_K.moved hvm.symm hK1
  obtain ⟨hP, hD⟩ := va_join (wr := [(h1, kAi cint 10 f1), (h2, kAi cint 10 f2), (h3, kAi cint 10 f3)]) (w1 := [(h0, kO2 h1 h2 h3 n0_size h4 n0_names n0_plots h5 h6 h7 h8 h9 n0_ways)]) hP hD [0] [1, 2, 3] rfl rfl (by decide) (by decide) hk1 hFc hP1 hD1
  generalize H1 = H at hP hS ⊢
  have hP : va_P (dC, dI) vwCl [(h1, kAi cint 10 f1), (h2, kAi cint 10 f2), (h3, kAi cint 10 f3), (h0, kO2 h1 h2 h3 n0_size h4 n0_names n0_plots h5 h6 h7 h8 h9 n0_ways)] H := hP
  have hD : va_D A [(h1, kAi cint 10 f1), (h2, kAi cint 10 f2), (h3, kAi cint 10 f3), (h0, kO2 h1 h2 h3 n0_size h4 n0_names n0_plots h5 h6 h7 h8 h9 n0_ways)] := hD
  rcases hw with ⟨t_1_0, rfl⟩ | ⟨t_1_0, rfl⟩
  · skip
    have t_1_0 : (n0_size.toInt : Int) < 10 := t_1_0
    refine lv_if_ne (tgt := 47) hx hb dX2_write_4 (by decide) (fun c => absurd c (by decide)) (fun _ => ?_)
    refine lv_aload_n hx hb dX2_write_7 rfl (lv_at hl 0 rfl) ?_
    refine va_get (D := (dC, dI)) (ci := 2) (v := .ref h1) (C := RX2) (T := TX2) (N := 13) hx hb hts (fun _ h => List.mem_cons_of_mem _ (List.mem_append_right _ h)) hown hK hP 3 rfl rfl 0 (by decide) (hts (.fieldLink RX2 11 "KinkStreet$Deeds" "ones" "[I") (List.mem_of_getElem? (i := 1) rfl)) (fun _ h9 => h9) rfl dX2_write_8 ?_
    refine lv_aload_n hx hb dX2_write_11 rfl (lv_at hl 0 rfl) ?_
    refine va_get (D := (dC, dI)) (ci := 2) (v := .int n0_size) (C := RX2) (T := TX2) (N := 13) hx hb hts (fun _ h => List.mem_cons_of_mem _ (List.mem_append_right _ h)) hown hK hP 3 rfl rfl 3 (by decide) (hts (.fieldLink RX2 41 "KinkStreet$Deeds" "size" "I") (List.mem_of_getElem? (i := 2) rfl)) (fun _ h9 => h9) rfl dX2_write_12 ?_
    refine lv_iload_n hx hb dX2_write_15 rfl (lv_at hl 1 rfl) ?_
    refine va_iast hx hb hK hP hD hS 0 0 rfl rfl (vp_in_iff.mpr ⟨by omega, by omega⟩) dX2_write_16 (fun H locs hP hD hS => ?_)
    generalize upd f1 (n0_size : Int32).toNatClampNeg p0 = f_2 at hP hD
    have hP : va_P (dC, dI) vwCl [(h1, kAi cint 10 f_2), (h2, kAi cint 10 f2), (h3, kAi cint 10 f3), (h0, kO2 h1 h2 h3 n0_size h4 n0_names n0_plots h5 h6 h7 h8 h9 n0_ways)] H := hP
    have hD : va_D A [(h1, kAi cint 10 f_2), (h2, kAi cint 10 f2), (h3, kAi cint 10 f3), (h0, kO2 h1 h2 h3 n0_size h4 n0_names n0_plots h5 h6 h7 h8 h9 n0_ways)] := hD
    refine lv_aload_n hx hb dX2_write_17 rfl (lv_at hl 0 rfl) ?_
    refine va_get (D := (dC, dI)) (ci := 2) (v := .ref h2) (C := RX2) (T := TX2) (N := 13) hx hb hts (fun _ h => List.mem_cons_of_mem _ (List.mem_append_right _ h)) hown hK hP 3 rfl rfl 1 (by decide) (hts (.fieldLink RX2 15 "KinkStreet$Deeds" "others" "[I") (List.mem_of_getElem? (i := 3) rfl)) (fun _ h9 => h9) rfl dX2_write_18 ?_
    refine lv_aload_n hx hb dX2_write_21 rfl (lv_at hl 0 rfl) ?_
    refine va_get (D := (dC, dI)) (ci := 2) (v := .int n0_size) (C := RX2) (T := TX2) (N := 13) hx hb hts (fun _ h => List.mem_cons_of_mem _ (List.mem_append_right _ h)) hown hK hP 3 rfl rfl 3 (by decide) (hts (.fieldLink RX2 41 "KinkStreet$Deeds" "size" "I") (List.mem_of_getElem? (i := 2) rfl)) (fun _ h9 => h9) rfl dX2_write_22 ?_
    refine lv_iload_n hx hb dX2_write_25 rfl (lv_at hl 2 rfl) ?_
    refine va_iast hx hb hK hP hD hS 1 0 rfl rfl (vp_in_iff.mpr ⟨by omega, by omega⟩) dX2_write_26 (fun H locs hP hD hS => ?_)
    generalize upd f2 (n0_size : Int32).toNatClampNeg p1 = f_3 at hP hD
    have hP : va_P (dC, dI) vwCl [(h1, kAi cint 10 f_2), (h2, kAi cint 10 f_3), (h3, kAi cint 10 f3), (h0, kO2 h1 h2 h3 n0_size h4 n0_names n0_plots h5 h6 h7 h8 h9 n0_ways)] H := hP
    have hD : va_D A [(h1, kAi cint 10 f_2), (h2, kAi cint 10 f_3), (h3, kAi cint 10 f3), (h0, kO2 h1 h2 h3 n0_size h4 n0_names n0_plots h5 h6 h7 h8 h9 n0_ways)] := hD
    refine lv_aload_n hx hb dX2_write_27 rfl (lv_at hl 0 rfl) ?_
    refine va_get (D := (dC, dI)) (ci := 2) (v := .ref h3) (C := RX2) (T := TX2) (N := 13) hx hb hts (fun _ h => List.mem_cons_of_mem _ (List.mem_append_right _ h)) hown hK hP 3 rfl rfl 2 (by decide) (hts (.fieldLink RX2 18 "KinkStreet$Deeds" "tolds" "[I") (List.mem_of_getElem? (i := 4) rfl)) (fun _ h9 => h9) rfl dX2_write_28 ?_
    refine lv_aload_n hx hb dX2_write_31 rfl (lv_at hl 0 rfl) ?_
    refine va_get (D := (dC, dI)) (ci := 2) (v := .int n0_size) (C := RX2) (T := TX2) (N := 13) hx hb hts (fun _ h => List.mem_cons_of_mem _ (List.mem_append_right _ h)) hown hK hP 3 rfl rfl 3 (by decide) (hts (.fieldLink RX2 41 "KinkStreet$Deeds" "size" "I") (List.mem_of_getElem? (i := 2) rfl)) (fun _ h9 => h9) rfl dX2_write_32 ?_
    refine lv_iload_n hx hb dX2_write_35 rfl (lv_at hl 3 rfl) ?_
    refine va_iast hx hb hK hP hD hS 2 0 rfl rfl (vp_in_iff.mpr ⟨by omega, by omega⟩) dX2_write_36 (fun H locs hP hD hS => ?_)
    generalize upd f3 (n0_size : Int32).toNatClampNeg p2 = f_4 at hP hD
    have hP : va_P (dC, dI) vwCl [(h1, kAi cint 10 f_2), (h2, kAi cint 10 f_3), (h3, kAi cint 10 f_4), (h0, kO2 h1 h2 h3 n0_size h4 n0_names n0_plots h5 h6 h7 h8 h9 n0_ways)] H := hP
    have hD : va_D A [(h1, kAi cint 10 f_2), (h2, kAi cint 10 f_3), (h3, kAi cint 10 f_4), (h0, kO2 h1 h2 h3 n0_size h4 n0_names n0_plots h5 h6 h7 h8 h9 n0_ways)] := hD
    refine lv_aload_n hx hb dX2_write_37 rfl (lv_at hl 0 rfl) ?_
    refine lv_dup hx hb dX2_write_38 rfl ?_
    refine va_get (D := (dC, dI)) (ci := 2) (v := .int n0_size) (C := RX2) (T := TX2) (N := 13) hx hb hts (fun _ h => List.mem_cons_of_mem _ (List.mem_append_right _ h)) hown hK hP 3 rfl rfl 3 (by decide) (hts (.fieldLink RX2 41 "KinkStreet$Deeds" "size" "I") (List.mem_of_getElem? (i := 2) rfl)) (fun _ h9 => h9) rfl dX2_write_39 ?_
    refine lv_iconst (v := 1) hx hb dX2_write_42 kk_ic_1 ?_
    refine lv_iadd hx hb dX2_write_43 ?_
    refine va_put (D := (dC, dI)) (ci := 2) (v := .int (n0_size + 1)) (ty := .int) (C := RX2) (T := TX2) (N := 13) hx hb hts (fun _ h => List.mem_cons_of_mem _ (List.mem_append_right _ h)) tyX2 tyX2_ok nmX2 hown hK hP hD hS 3 rfl rfl 3 (by decide) (hts (.fieldLink RX2 41 "KinkStreet$Deeds" "size" "I") (List.mem_of_getElem? (i := 2) rfl)) (fun _ h9 => h9) rfl (by decide +kernel) rfl rfl (Nat.le_of_ble_eq_true rfl) dX2_write_44 (fun H locs hP hD hS => ?_)
    have hP : va_P (dC, dI) vwCl [(h1, kAi cint 10 f_2), (h2, kAi cint 10 f_3), (h3, kAi cint 10 f_4), (h0, kO2 h1 h2 h3 (n0_size + 1) h4 n0_names n0_plots h5 h6 h7 h8 h9 n0_ways)] H := hP
    have hD : va_D A [(h1, kAi cint 10 f_2), (h2, kAi cint 10 f_3), (h3, kAi cint 10 f_4), (h0, kO2 h1 h2 h3 (n0_size + 1) h4 n0_names n0_plots h5 h6 h7 h8 h9 n0_ways)] := hD
    refine lv_aload_n hx hb dX2_write_47 rfl (lv_at hl 0 rfl) ?_
    refine va_get (D := (dC, dI)) (ci := 2) (v := .int (n0_size + 1)) (C := RX2) (T := TX2) (N := 13) hx hb hts (fun _ h => List.mem_cons_of_mem _ (List.mem_append_right _ h)) hown hK hP 3 rfl rfl 3 (by decide) (hts (.fieldLink RX2 41 "KinkStreet$Deeds" "size" "I") (List.mem_of_getElem? (i := 2) rfl)) (fun _ h9 => h9) rfl dX2_write_48 ?_
    obtain ⟨hP9, hD9⟩ := kk_leafout (wc := [(h0, kO2 h1 h2 h3 (n0_size + 1) h4 n0_names n0_plots h5 h6 h7 h8 h9 n0_ways), (h1, kAi cint 10 f_2), (h2, kAi cint 10 f_3), (h3, kAi cint 10 f_4)]) hP hD [3, 0, 1, 2] (by decide) rfl
    have hK9 := kk_Ks (tq := []) hK [] rfl
    try have := kk_add2 (x := n0_size) (y := 1) (a := n0_size.toInt) (b := 1) rfl rfl (by omega) (by omega)
    exact W.iret (v := (n0_size + 1)) hx hb hr (fun t ht hW => ⟨⟨(n0_size + 1), (), rfl, (by show 1 ≤ ((n0_size + 1) : Int32).toInt ∧ ((n0_size + 1) : Int32).toInt ≤ 10; first | decide | ((omega))), (n0_size + 1), f_2, f_3, f_4, (by show 1 ≤ ((n0_size + 1) : Int32).toInt ∧ ((n0_size + 1) : Int32).toInt ≤ 10; first | decide | ((omega))), by rw [ht]; exact hP9, va_K.moved hW.alike hK9, hD9⟩, hS.F ht⟩) hS.2.2 dX2_write_51
  · skip
    have t_1_0 : (10 : Int) ≤ n0_size.toInt := t_1_0
    refine lv_if_ne (tgt := 47) hx hb dX2_write_4 (by decide) (fun _ => ?_) (fun c => absurd c (by decide))
    refine lv_aload_n hx hb dX2_write_47 rfl (lv_at hl 0 rfl) ?_
    refine va_get (D := (dC, dI)) (ci := 2) (v := .int n0_size) (C := RX2) (T := TX2) (N := 13) hx hb hts (fun _ h => List.mem_cons_of_mem _ (List.mem_append_right _ h)) hown hK hP 3 rfl rfl 3 (by decide) (hts (.fieldLink RX2 41 "KinkStreet$Deeds" "size" "I") (List.mem_of_getElem? (i := 2) rfl)) (fun _ h9 => h9) rfl dX2_write_48 ?_
    obtain ⟨hP9, hD9⟩ := kk_leafout (wc := [(h0, kO2 h1 h2 h3 n0_size h4 n0_names n0_plots h5 h6 h7 h8 h9 n0_ways), (h1, kAi cint 10 f1), (h2, kAi cint 10 f2), (h3, kAi cint 10 f3)]) hP hD [3, 0, 1, 2] (by decide) rfl
    have hK9 := kk_Ks (tq := []) hK [] rfl
    exact W.iret (v := n0_size) hx hb hr (fun t ht hW => ⟨⟨n0_size, (), rfl, (by show 1 ≤ (n0_size : Int32).toInt ∧ (n0_size : Int32).toInt ≤ 10; first | decide | ((omega))), n0_size, f1, f2, f3, (by show 1 ≤ (n0_size : Int32).toInt ∧ (n0_size : Int32).toInt ≤ 10; first | decide | ((omega))), by rw [ht]; exact hP9, va_K.moved hW.alike hK9, hD9⟩, hS.F ht⟩) hS.2.2 dX2_write_51
set_option maxHeartbeats 4000000 in
set_option maxRecDepth 100000 in
theorem g_X2_clear_0 (l : Launch) (dC : Nat → ClassId) (dI : Nat → Nat → Nat) (h0 : Nat) (h1 : Nat) (h2 : Nat) (h3 : Nat) (h4 : Nat) (h5 : Nat) (h6 : Nat) (h7 : Nat) (h8 : Nat) (h9 : Nat) (sz : Nat) (n0_size : Int32) (n0_names : Int32) (n0_plots : Int32) (n0_ways : Int32) (tn0_size : 0 ≤ n0_size.toInt ∧ n0_size.toInt ≤ 10) (tn0_names : kk_bx (0 ≤ n0_names.toInt ∧ n0_names.toInt ≤ 8)) (tn0_plots : kk_bx (0 ≤ n0_plots.toInt ∧ n0_plots.toInt ≤ 40)) : Met l yX2_clear wsX2_clear ({ frames := 0, cells := 0, slots := 0, locals := 0 }) (va_Pc [.ref h0] (fun U => U.heap.size = sz ∧ va_P (dC, dI) vwCl [(h0, kO2 h1 h2 h3 n0_size h4 n0_names n0_plots h5 h6 h7 h8 h9 n0_ways)] U.heap ∧ va_K (dC, dI) vwCl [] U ∧ va_D (fun _ => True) [(h0, kO2 h1 h2 h3 n0_size h4 n0_names n0_plots h5 h6 h7 h8 h9 n0_ways)])) (va_Qi (fun (r : Int32) (_ : Unit) => n0_size = r) (fun (_ : Unit) t => ∃ (m0_size : Int32), (0 ≤ m0_size.toInt ∧ m0_size.toInt ≤ 0) ∧ va_P (dC, dI) vwCl [(h0, kO2 h1 h2 h3 m0_size h4 n0_names n0_plots h5 h6 h7 h8 h9 n0_ways)] t.heap ∧ va_K (dC, dI) vwCl [] t ∧ va_D (va_A [(h0, kO2 h1 h2 h3 n0_size h4 n0_names n0_plots h5 h6 h7 h8 h9 n0_ways)] sz) [(h0, kO2 h1 h2 h3 m0_size h4 n0_names n0_plots h5 h6 h7 h8 h9 n0_ways)]) (va_A [(h0, kO2 h1 h2 h3 n0_size h4 n0_names n0_plots h5 h6 h7 h8 h9 n0_ways)] sz)) 0 0 (va_A [(h0, kO2 h1 h2 h3 n0_size h4 n0_names n0_plots h5 h6 h7 h8 h9 n0_ways)] sz) := by
  refine Met.ofW (cc := cX2_clear) (maxL := 2) (ret := (some .int)) (by decide) rfl ?_
  intro p e s m args below meth c s₁ B hml hv
  obtain ⟨rfl, hsz, hP, hK, hD0⟩ := hv
  have hx := B.exec
  have hb := B.bytes
  have hr := B.returns
  have hts := atoms_spec (ws := wsX2_clear) B.pre
  have hown : s.vm.findClass RX2 = some m.cls := findClass_of_methodNamed B.named
  have hlocks := B.notSynchronized
  subst hsz
  have hD := hD0.self (sz := s.heap.size)
  generalize hAe : va_A [(h0, kO2 h1 h2 h3 n0_size h4 n0_names n0_plots h5 h6 h7 h8 h9 n0_ways)] s.heap.size = A at hD ⊢
  have hA : ∀ q : Nat, s.heap.size ≤ q → A q := fun q h => by rw [← hAe]; exact Or.inr h
  have hS : va_S A s.heap s.heap [] := va_S.rf
  have hP : va_P (dC, dI) vwCl [(h0, kO2 h1 h2 h3 n0_size h4 n0_names n0_plots h5 h6 h7 h8 h9 n0_ways)] s.heap := hP
  have hl := lv_entry ([.ref h0]) (n := 2) (Nat.le_of_ble_eq_true rfl)
  rw [lg_entry_eq]
  generalize (lg_sl ([.ref h0]) ++ List.replicate (2 - (lg_sl ([.ref h0])).length) Slot.unset).toArray = ls at hl ⊢
  have hl : lv_has ls 2 [(0, .ref h0)] := hl
  refine lv_aload_n hx hb dX2_clear_0 rfl (lv_at hl 0 rfl) ?_
  refine va_get (D := (dC, dI)) (ci := 2) (v := .int n0_size) (C := RX2) (T := TX2) (N := 13) hx hb hts (fun _ h => List.mem_cons_of_mem _ (List.mem_append_right _ h)) hown hK hP 0 rfl rfl 3 (by decide) (hts (.fieldLink RX2 41 "KinkStreet$Deeds" "size" "I") (List.mem_of_getElem? (i := 1) rfl)) (fun _ h9 => h9) rfl dX2_clear_1 ?_
  refine lv_istore_n hx hb dX2_clear_4 rfl hl (by decide) (rfl : _ = ([(1, .int n0_size), (0, .ref h0)] : List (Nat × Value))) (fun ls hl => ?_)
  refine lv_aload_n hx hb dX2_clear_5 rfl (lv_at hl 1 rfl) ?_
  refine lv_iconst (v := 0) hx hb dX2_clear_6 kk_ic_0 ?_
  refine va_put (D := (dC, dI)) (ci := 2) (v := .int 0) (ty := .int) (C := RX2) (T := TX2) (N := 13) hx hb hts (fun _ h => List.mem_cons_of_mem _ (List.mem_append_right _ h)) tyX2 tyX2_ok nmX2 hown hK hP hD hS 0 rfl rfl 3 (by decide) (hts (.fieldLink RX2 41 "KinkStreet$Deeds" "size" "I") (List.mem_of_getElem? (i := 1) rfl)) (fun _ h9 => h9) rfl (by decide +kernel) rfl rfl (Nat.le_of_ble_eq_true rfl) dX2_clear_7 (fun H locs hP hD hS => ?_)
  have hP : va_P (dC, dI) vwCl [(h0, kO2 h1 h2 h3 0 h4 n0_names n0_plots h5 h6 h7 h8 h9 n0_ways)] H := hP
  have hD : va_D A [(h0, kO2 h1 h2 h3 0 h4 n0_names n0_plots h5 h6 h7 h8 h9 n0_ways)] := hD
  refine lv_iload_n hx hb dX2_clear_10 rfl (lv_at hl 0 rfl) ?_
  obtain ⟨hP9, hD9⟩ := kk_leafout (wc := [(h0, kO2 h1 h2 h3 0 h4 n0_names n0_plots h5 h6 h7 h8 h9 n0_ways)]) hP hD [0] (by decide) rfl
  have hK9 := kk_Ks (tq := []) hK [] rfl
  exact W.iret (v := n0_size) hx hb hr (fun t ht hW => ⟨⟨n0_size, (), rfl, rfl, 0, (by show 0 ≤ (0 : Int32).toInt ∧ (0 : Int32).toInt ≤ 0; first | decide | ((omega))), by rw [ht]; exact hP9, va_K.moved hW.alike hK9, hD9⟩, hS.F ht⟩) hS.2.2 dX2_clear_11
set_option maxHeartbeats 4000000 in
set_option maxRecDepth 100000 in
theorem g_X2_mention_0 (l : Launch) (dC : Nat → ClassId) (dI : Nat → Nat → Nat) (h0 : Nat) (h1 : Nat) (h2 : Nat) (h3 : Nat) (h4 : Nat) (h5 : Nat) (h6 : Nat) (h7 : Nat) (h8 : Nat) (h9 : Nat) (cint : ClassId) (sz : Nat) (p0 : Int32) (n0_size : Int32) (n0_names : Int32) (n0_plots : Int32) (n0_ways : Int32) (f1 : Nat → Int32) (f2 : Nat → Int32) (tn0_size : 0 ≤ n0_size.toInt ∧ n0_size.toInt ≤ 10) (tn0_names : kk_bx (0 ≤ n0_names.toInt ∧ n0_names.toInt ≤ 8)) (tn0_plots : kk_bx (0 ≤ n0_plots.toInt ∧ n0_plots.toInt ≤ 40)) : Met l yX2_mention wsX2_mention ({ frames := 0, cells := 0, slots := 0, locals := 0 }) (va_Pc [.ref h0, .int p0] (fun U => U.heap.size = sz ∧ va_P (dC, dI) vwCl [(h0, kO2 h1 h2 h3 n0_size h4 n0_names n0_plots h5 h6 h7 h8 h9 n0_ways), (h1, kAi cint 10 f1), (h2, kAi cint 10 f2)] U.heap ∧ va_K (dC, dI) vwCl [(cint, .int)] U ∧ va_D (fun _ => True) [(h0, kO2 h1 h2 h3 n0_size h4 n0_names n0_plots h5 h6 h7 h8 h9 n0_ways), (h1, kAi cint 10 f1), (h2, kAi cint 10 f2)])) (va_Qi (fun (r : Int32) (_ : Unit) => ((0 : Int32) = r) ∨ (1 ≤ n0_size.toInt ∧ (1 : Int32) = r)) (fun (_ : Unit) t => va_P (dC, dI) vwCl [(h0, kO2 h1 h2 h3 n0_size h4 n0_names n0_plots h5 h6 h7 h8 h9 n0_ways), (h1, kAi cint 10 f1), (h2, kAi cint 10 f2)] t.heap ∧ va_K (dC, dI) vwCl [] t ∧ va_D (va_A [(h0, kO2 h1 h2 h3 n0_size h4 n0_names n0_plots h5 h6 h7 h8 h9 n0_ways), (h1, kAi cint 10 f1), (h2, kAi cint 10 f2)] sz) [(h0, kO2 h1 h2 h3 n0_size h4 n0_names n0_plots h5 h6 h7 h8 h9 n0_ways), (h1, kAi cint 10 f1), (h2, kAi cint 10 f2)]) (va_A [(h0, kO2 h1 h2 h3 n0_size h4 n0_names n0_plots h5 h6 h7 h8 h9 n0_ways), (h1, kAi cint 10 f1), (h2, kAi cint 10 f2)] sz)) 0 0 (va_A [(h0, kO2 h1 h2 h3 n0_size h4 n0_names n0_plots h5 h6 h7 h8 h9 n0_ways), (h1, kAi cint 10 f1), (h2, kAi cint 10 f2)] sz) := by
  refine Met.ofW (cc := cX2_mention) (maxL := 3) (ret := (some .boolean)) (by decide) rfl ?_
  intro p e s m args below meth c s₁ B hml hv
  obtain ⟨rfl, hsz, hP, hK, hD0⟩ := hv
  have hx := B.exec
  have hb := B.bytes
  have hr := B.returns
  have hts := atoms_spec (ws := wsX2_mention) B.pre
  have hown : s.vm.findClass RX2 = some m.cls := findClass_of_methodNamed B.named
  have hlocks := B.notSynchronized
  subst hsz
  have hD := hD0.self (sz := s.heap.size)
  generalize hAe : va_A [(h0, kO2 h1 h2 h3 n0_size h4 n0_names n0_plots h5 h6 h7 h8 h9 n0_ways), (h1, kAi cint 10 f1), (h2, kAi cint 10 f2)] s.heap.size = A at hD ⊢
  have hA : ∀ q : Nat, s.heap.size ≤ q → A q := fun q h => by rw [← hAe]; exact Or.inr h
  have hS : va_S A s.heap s.heap [] := va_S.rf
  have hP : va_P (dC, dI) vwCl [(h0, kO2 h1 h2 h3 n0_size h4 n0_names n0_plots h5 h6 h7 h8 h9 n0_ways), (h1, kAi cint 10 f1), (h2, kAi cint 10 f2)] s.heap := hP
  have hl := lv_entry ([.ref h0, .int p0]) (n := 3) (Nat.le_of_ble_eq_true rfl)
  rw [lg_entry_eq]
  generalize (lg_sl ([.ref h0, .int p0]) ++ List.replicate (3 - (lg_sl ([.ref h0, .int p0])).length) Slot.unset).toArray = ls at hl ⊢
  have hl : lv_has ls 3 [(0, .ref h0), (1, .int p0)] := hl
  refine lv_iconst (v := 0) hx hb dX2_mention_0 kk_ic_0 ?_
  refine lv_istore_n hx hb dX2_mention_1 rfl hl (by decide) (rfl : _ = ([(2, .int 0), (0, .ref h0), (1, .int p0)] : List (Nat × Value))) (fun ls hl => ?_)
  refine kk_loop (σ := Int32) (fun x H locs ls => (0 ≤ x.toInt ∧ x.toInt ≤ 10) ∧ va_P (dC, dI) vwCl [(h0, kO2 h1 h2 h3 n0_size h4 n0_names n0_plots h5 h6 h7 h8 h9 n0_ways), (h1, kAi cint 10 f1), (h2, kAi cint 10 f2)] H ∧ va_D A [(h0, kO2 h1 h2 h3 n0_size h4 n0_names n0_plots h5 h6 h7 h8 h9 n0_ways), (h1, kAi cint 10 f1), (h2, kAi cint 10 f2)] ∧ va_S A s.heap H locs ∧ lv_has ls 3 [(2, .int x), (0, .ref h0), (1, .int p0)]) (fun x => ((10 : Int) - x.toInt).toNat) ?_ (0) _ _ _ ⟨(by show 0 ≤ (0 : Int32).toInt ∧ (0 : Int32).toInt ≤ 10; first | decide | ((omega))), hP, hD, hS, hl⟩
  rintro i_1_0 H locs ls ⟨t_1_0, hP, hD, hS, hl⟩ ih_1
  have t_1_0 : (0 ≤ i_1_0.toInt ∧ i_1_0.toInt ≤ 10) := t_1_0
  have hl : lv_has ls 3 [(2, .int i_1_0), (0, .ref h0), (1, .int p0)] := hl
  have hP : va_P (dC, dI) vwCl [(h0, kO2 h1 h2 h3 n0_size h4 n0_names n0_plots h5 h6 h7 h8 h9 n0_ways), (h1, kAi cint 10 f1), (h2, kAi cint 10 f2)] H := hP
  have hD : va_D A [(h0, kO2 h1 h2 h3 n0_size h4 n0_names n0_plots h5 h6 h7 h8 h9 n0_ways), (h1, kAi cint 10 f1), (h2, kAi cint 10 f2)] := hD
  refine lv_iload_n hx hb dX2_mention_2 rfl (lv_at hl 0 rfl) ?_
  refine lv_aload_n hx hb dX2_mention_3 rfl (lv_at hl 1 rfl) ?_
  refine va_get (D := (dC, dI)) (ci := 2) (v := .int n0_size) (C := RX2) (T := TX2) (N := 13) hx hb hts (fun _ h => List.mem_cons_of_mem _ (List.mem_append_right _ h)) hown hK hP 0 rfl rfl 3 (by decide) (hts (.fieldLink RX2 41 "KinkStreet$Deeds" "size" "I") (List.mem_of_getElem? (i := 1) rfl)) (fun _ h9 => h9) rfl dX2_mention_4 ?_
  refine lv_icmp_ge (tgt := 38) hx hb dX2_mention_7 (by decide) (fun c_2 => ?_) (fun c_2 => ?_)
  · have t_2 : n0_size.toInt ≤ i_1_0.toInt := kk_le c_2
    refine lv_iconst (v := 0) hx hb dX2_mention_38 kk_ic_0 ?_
    obtain ⟨hP9, hD9⟩ := kk_leafout (wc := [(h0, kO2 h1 h2 h3 n0_size h4 n0_names n0_plots h5 h6 h7 h8 h9 n0_ways), (h1, kAi cint 10 f1), (h2, kAi cint 10 f2)]) hP hD [0, 1, 2] (by decide) rfl
    have hK9 := kk_Ks (tq := []) hK [] rfl
    exact W.zret (v := 0) hx hb hr rfl (fun t ht hW => ⟨⟨0, (), rfl, Or.inl rfl, by rw [ht]; exact hP9, va_K.moved hW.alike hK9, hD9⟩, hS.F ht⟩) hS.2.2 dX2_mention_39
  · have t_2 : i_1_0.toInt < n0_size.toInt := kk_nle c_2
    refine lv_aload_n hx hb dX2_mention_10 rfl (lv_at hl 1 rfl) ?_
    refine va_get (D := (dC, dI)) (ci := 2) (v := .ref h1) (C := RX2) (T := TX2) (N := 13) hx hb hts (fun _ h => List.mem_cons_of_mem _ (List.mem_append_right _ h)) hown hK hP 0 rfl rfl 0 (by decide) (hts (.fieldLink RX2 11 "KinkStreet$Deeds" "ones" "[I") (List.mem_of_getElem? (i := 2) rfl)) (fun _ h9 => h9) rfl dX2_mention_11 ?_
    refine lv_iload_n hx hb dX2_mention_14 rfl (lv_at hl 0 rfl) ?_
    have hi_3 : vp_in i_1_0 10 := (vp_in_iff.mpr ⟨by omega, by omega⟩)
    refine va_iald hx hb hK hP 1 0 rfl rfl hi_3 dX2_mention_15 ?_
    refine lv_topi (fun y_3 e_3 => ?_)
    clear e_3
    refine lv_iload_n hx hb dX2_mention_16 rfl (lv_at hl 2 rfl) ?_
    refine lv_icmp_eq (tgt := 30) hx hb dX2_mention_17 (by decide) (fun c_4 => ?_) (fun c_4 => ?_)
    · have t_4 : y_3.toInt = p0.toInt := kk_eq c_4
      refine lv_iconst (v := 1) hx hb dX2_mention_30 kk_ic_1 ?_
      obtain ⟨hP9, hD9⟩ := kk_leafout (wc := [(h0, kO2 h1 h2 h3 n0_size h4 n0_names n0_plots h5 h6 h7 h8 h9 n0_ways), (h1, kAi cint 10 f1), (h2, kAi cint 10 f2)]) hP hD [0, 1, 2] (by decide) rfl
      have hK9 := kk_Ks (tq := []) hK [] rfl
      try have := kk_rng y_3
      try have := kk_rng p0
      exact W.zret (v := 1) hx hb hr rfl (fun t ht hW => ⟨⟨1, (), rfl, Or.inr (⟨by first | with_reducible assumption | (omega) | assumption, rfl⟩), by rw [ht]; exact hP9, va_K.moved hW.alike hK9, hD9⟩, hS.F ht⟩) hS.2.2 dX2_mention_31
    · have t_4 : y_3.toInt ≠ p0.toInt := kk_ne c_4
      refine lv_aload_n hx hb dX2_mention_20 rfl (lv_at hl 1 rfl) ?_
      refine va_get (D := (dC, dI)) (ci := 2) (v := .ref h2) (C := RX2) (T := TX2) (N := 13) hx hb hts (fun _ h => List.mem_cons_of_mem _ (List.mem_append_right _ h)) hown hK hP 0 rfl rfl 1 (by decide) (hts (.fieldLink RX2 15 "KinkStreet$Deeds" "others" "[I") (List.mem_of_getElem? (i := 3) rfl)) (fun _ h9 => h9) rfl dX2_mention_21 ?_
      refine lv_iload_n hx hb dX2_mention_24 rfl (lv_at hl 0 rfl) ?_
      have hi_5 : vp_in i_1_0 10 := (vp_in_iff.mpr ⟨by omega, by omega⟩)
      refine va_iald hx hb hK hP 2 0 rfl rfl hi_5 dX2_mention_25 ?_
      refine lv_topi (fun y_5 e_5 => ?_)
      clear e_5
      refine lv_iload_n hx hb dX2_mention_26 rfl (lv_at hl 2 rfl) ?_
      refine lv_icmp_ne (tgt := 32) hx hb dX2_mention_27 (by decide) (fun c_6 => ?_) (fun c_6 => ?_)
      · have t_6 : y_5.toInt ≠ p0.toInt := kk_ne c_6
        refine lv_iinc (v := (i_1_0 + 1)) hx hb dX2_mention_32 hl (k := 0) rfl (by first | rfl | decide) (by decide) (rfl : _ = ([(2, .int (i_1_0 + 1)), (0, .ref h0), (1, .int p0)] : List (Nat × Value))) (fun ls hl => ?_)
        refine lv_goto (tgt := 2) hx hb dX2_mention_35 (by decide) ?_
        try have := kk_add2 (x := i_1_0) (y := 1) (a := i_1_0.toInt) (b := 1) rfl rfl (by omega) (by omega)
        exact ih_1 ((i_1_0 + 1)) _ _ _ (by show ((10 : Int) - ((i_1_0 + 1)).toInt).toNat < ((10 : Int) - i_1_0.toInt).toNat; exact kk_mu (by omega) (by omega)) ⟨(by show 0 ≤ ((i_1_0 + 1) : Int32).toInt ∧ ((i_1_0 + 1) : Int32).toInt ≤ 10; first | decide | ((omega))), hP, hD, hS, lv_sub hl [0, 1, 2] rfl⟩
      · have t_6 : y_5.toInt = p0.toInt := kk_eq c_6
        refine lv_iconst (v := 1) hx hb dX2_mention_30 kk_ic_1 ?_
        obtain ⟨hP9, hD9⟩ := kk_leafout (wc := [(h0, kO2 h1 h2 h3 n0_size h4 n0_names n0_plots h5 h6 h7 h8 h9 n0_ways), (h1, kAi cint 10 f1), (h2, kAi cint 10 f2)]) hP hD [0, 1, 2] (by decide) rfl
        have hK9 := kk_Ks (tq := []) hK [] rfl
        try have := kk_rng y_5
        try have := kk_rng p0
        exact W.zret (v := 1) hx hb hr rfl (fun t ht hW => ⟨⟨1, (), rfl, Or.inr (⟨by first | with_reducible assumption | (omega) | assumption, rfl⟩), by rw [ht]; exact hP9, va_K.moved hW.alike hK9, hD9⟩, hS.F ht⟩) hS.2.2 dX2_mention_31
set_option maxHeartbeats 4000000 in
set_option maxRecDepth 100000 in
theorem g_X2_gatherNames_0 (l : Launch) (dC : Nat → ClassId) (dI : Nat → Nat → Nat) (h0 : Nat) (h1 : Nat) (h2 : Nat) (h3 : Nat) (h4 : Nat) (h5 : Nat) (h6 : Nat) (h7 : Nat) (h8 : Nat) (h9 : Nat) (cint : ClassId) (sz : Nat) (n0_size : Int32) (n0_names : Int32) (n0_plots : Int32) (n0_ways : Int32) (f1 : Nat → Int32) (f2 : Nat → Int32) (f3 : Nat → Int32) (tn0_size : 0 ≤ n0_size.toInt ∧ n0_size.toInt ≤ 10) (tn0_names : kk_bx (0 ≤ n0_names.toInt ∧ n0_names.toInt ≤ 8)) (tn0_plots : kk_bx (0 ≤ n0_plots.toInt ∧ n0_plots.toInt ≤ 40)) : Met l yX2_gatherNames wsX2_gatherNames ({ frames := 1, cells := 0, slots := 0, locals := 22 }) (va_Pc [.ref h0] (fun U => U.heap.size = sz ∧ va_P (dC, dI) vwCl [(h0, kO2 h1 h2 h4 n0_size h3 n0_names n0_plots h5 h6 h7 h8 h9 n0_ways), (h1, kAi cint 10 f1), (h2, kAi cint 10 f2), (h3, kAi cint 8 f3)] U.heap ∧ va_K (dC, dI) vwCl [(cint, .int)] U ∧ va_D (fun _ => True) [(h0, kO2 h1 h2 h4 n0_size h3 n0_names n0_plots h5 h6 h7 h8 h9 n0_ways), (h1, kAi cint 10 f1), (h2, kAi cint 10 f2), (h3, kAi cint 8 f3)])) (va_Qi (fun (r : Int32) (_ : Unit) => (0 ≤ r.toInt ∧ r.toInt ≤ 8)) (fun (_ : Unit) t => ∃ (m0_names : Int32) (g3 : Nat → Int32), (0 ≤ m0_names.toInt ∧ m0_names.toInt ≤ 8) ∧ va_P (dC, dI) vwCl [(h0, kO2 h1 h2 h4 n0_size h3 m0_names n0_plots h5 h6 h7 h8 h9 n0_ways), (h1, kAi cint 10 f1), (h2, kAi cint 10 f2), (h3, kAi cint 8 g3)] t.heap ∧ va_K (dC, dI) vwCl [] t ∧ va_D (va_A [(h0, kO2 h1 h2 h4 n0_size h3 n0_names n0_plots h5 h6 h7 h8 h9 n0_ways), (h1, kAi cint 10 f1), (h2, kAi cint 10 f2), (h3, kAi cint 8 f3)] sz) [(h0, kO2 h1 h2 h4 n0_size h3 m0_names n0_plots h5 h6 h7 h8 h9 n0_ways), (h1, kAi cint 10 f1), (h2, kAi cint 10 f2), (h3, kAi cint 8 g3)]) (va_A [(h0, kO2 h1 h2 h4 n0_size h3 n0_names n0_plots h5 h6 h7 h8 h9 n0_ways), (h1, kAi cint 10 f1), (h2, kAi cint 10 f2), (h3, kAi cint 8 f3)] sz)) 0 0 (va_A [(h0, kO2 h1 h2 h4 n0_size h3 n0_names n0_plots h5 h6 h7 h8 h9 n0_ways), (h1, kAi cint 10 f1), (h2, kAi cint 10 f2), (h3, kAi cint 8 f3)] sz) := by
  refine Met.ofW (cc := cX2_gatherNames) (maxL := 2) (ret := (some .int)) (by decide) rfl ?_
  intro p e s m args below meth c s₁ B hml hv
  obtain ⟨rfl, hsz, hP, hK, hD0⟩ := hv
  have hx := B.exec
  have hb := B.bytes
  have hr := B.returns
  have hts := atoms_spec (ws := wsX2_gatherNames) B.pre
  have hown : s.vm.findClass RX2 = some m.cls := findClass_of_methodNamed B.named
  have hlocks := B.notSynchronized
  subst hsz
  have hD := hD0.self (sz := s.heap.size)
  generalize hAe : va_A [(h0, kO2 h1 h2 h4 n0_size h3 n0_names n0_plots h5 h6 h7 h8 h9 n0_ways), (h1, kAi cint 10 f1), (h2, kAi cint 10 f2), (h3, kAi cint 8 f3)] s.heap.size = A at hD ⊢
  have hA : ∀ q : Nat, s.heap.size ≤ q → A q := fun q h => by rw [← hAe]; exact Or.inr h
  have hS : va_S A s.heap s.heap [] := va_S.rf
  have hP : va_P (dC, dI) vwCl [(h0, kO2 h1 h2 h4 n0_size h3 n0_names n0_plots h5 h6 h7 h8 h9 n0_ways), (h1, kAi cint 10 f1), (h2, kAi cint 10 f2), (h3, kAi cint 8 f3)] s.heap := hP
  have hl := lv_entry ([.ref h0]) (n := 2) (Nat.le_of_ble_eq_true rfl)
  rw [lg_entry_eq]
  generalize (lg_sl ([.ref h0]) ++ List.replicate (2 - (lg_sl ([.ref h0])).length) Slot.unset).toArray = ls at hl ⊢
  have hl : lv_has ls 2 [(0, .ref h0)] := hl
  refine lv_aload_n hx hb dX2_gatherNames_0 rfl (lv_at hl 0 rfl) ?_
  refine lv_iconst (v := 0) hx hb dX2_gatherNames_1 kk_ic_0 ?_
  refine va_put (D := (dC, dI)) (ci := 2) (v := .int 0) (ty := .int) (C := RX2) (T := TX2) (N := 13) hx hb hts (fun _ h => List.mem_cons_of_mem _ (List.mem_append_right _ h)) tyX2 tyX2_ok nmX2 hown hK hP hD hS 0 rfl rfl 5 (by decide) (hts (.fieldLink RX2 49 "KinkStreet$Deeds" "names" "I") (List.mem_of_getElem? (i := 1) rfl)) (fun _ h9 => h9) rfl (by decide +kernel) rfl rfl (Nat.le_of_ble_eq_true rfl) dX2_gatherNames_2 (fun H locs hP hD hS => ?_)
  have hP : va_P (dC, dI) vwCl [(h0, kO2 h1 h2 h4 n0_size h3 0 n0_plots h5 h6 h7 h8 h9 n0_ways), (h1, kAi cint 10 f1), (h2, kAi cint 10 f2), (h3, kAi cint 8 f3)] H := hP
  have hD : va_D A [(h0, kO2 h1 h2 h4 n0_size h3 0 n0_plots h5 h6 h7 h8 h9 n0_ways), (h1, kAi cint 10 f1), (h2, kAi cint 10 f2), (h3, kAi cint 8 f3)] := hD
  refine lv_iconst (v := 0) hx hb dX2_gatherNames_5 kk_ic_0 ?_
  refine lv_istore_n hx hb dX2_gatherNames_6 rfl hl (by decide) (rfl : _ = ([(1, .int 0), (0, .ref h0)] : List (Nat × Value))) (fun ls hl => ?_)
  refine kk_loop (σ := Int32 × (Nat → Int32) × Int32) (fun x H locs ls => (0 ≤ x.1.toInt ∧ x.1.toInt ≤ 8) ∧ (0 ≤ x.2.2.toInt ∧ x.2.2.toInt ≤ 8) ∧ x.2.2.toInt ≤ x.1.toInt ∧ va_P (dC, dI) vwCl [(h0, kO2 h1 h2 h4 n0_size h3 x.2.2 n0_plots h5 h6 h7 h8 h9 n0_ways), (h1, kAi cint 10 f1), (h2, kAi cint 10 f2), (h3, kAi cint 8 x.2.1)] H ∧ va_D A [(h0, kO2 h1 h2 h4 n0_size h3 x.2.2 n0_plots h5 h6 h7 h8 h9 n0_ways), (h1, kAi cint 10 f1), (h2, kAi cint 10 f2), (h3, kAi cint 8 x.2.1)] ∧ va_S A s.heap H locs ∧ lv_has ls 2 [(1, .int x.1), (0, .ref h0)]) (fun x => ((8 : Int) - x.1.toInt).toNat) ?_ (0, f3, 0) _ _ _ ⟨(by show 0 ≤ (0 : Int32).toInt ∧ (0 : Int32).toInt ≤ 8; first | decide | ((omega))), (by show 0 ≤ (0 : Int32).toInt ∧ (0 : Int32).toInt ≤ 8; first | decide | ((omega))), (by show (0 : Int32).toInt ≤ (0 : Int32).toInt; first | decide | (omega)), hP, hD, hS, hl⟩
  rintro ⟨i_1_0, f_1_1, i_1_2⟩ H locs ls ⟨t_1_0, t_1_2, z_1_0, hP, hD, hS, hl⟩ ih_1
  have t_1_0 : (0 ≤ i_1_0.toInt ∧ i_1_0.toInt ≤ 8) := t_1_0
  have t_1_2 : (0 ≤ i_1_2.toInt ∧ i_1_2.toInt ≤ 8) := t_1_2
  have z_1_0 : i_1_2.toInt ≤ i_1_0.toInt := z_1_0
  have hl : lv_has ls 2 [(1, .int i_1_0), (0, .ref h0)] := hl
  have hP : va_P (dC, dI) vwCl [(h0, kO2 h1 h2 h4 n0_size h3 i_1_2 n0_plots h5 h6 h7 h8 h9 n0_ways), (h1, kAi cint 10 f1), (h2, kAi cint 10 f2), (h3, kAi cint 8 f_1_1)] H := hP
  have hD : va_D A [(h0, kO2 h1 h2 h4 n0_size h3 i_1_2 n0_plots h5 h6 h7 h8 h9 n0_ways), (h1, kAi cint 10 f1), (h2, kAi cint 10 f2), (h3, kAi cint 8 f_1_1)] := hD
  refine lv_iload_n hx hb dX2_gatherNames_7 rfl (lv_at hl 0 rfl) ?_
  refine lv_bipush (v := 8) hx hb dX2_gatherNames_8 kk_bi_8 ?_
  refine lv_icmp_ge (tgt := 48) hx hb dX2_gatherNames_10 (by decide) (fun c_2 => ?_) (fun c_2 => ?_)
  · have t_2 : 8 ≤ i_1_0.toInt := kk_le c_2
    refine lv_aload_n hx hb dX2_gatherNames_48 rfl (lv_at hl 1 rfl) ?_
    refine va_get (D := (dC, dI)) (ci := 2) (v := .int i_1_2) (C := RX2) (T := TX2) (N := 13) hx hb hts (fun _ h => List.mem_cons_of_mem _ (List.mem_append_right _ h)) hown hK hP 0 rfl rfl 5 (by decide) (hts (.fieldLink RX2 49 "KinkStreet$Deeds" "names" "I") (List.mem_of_getElem? (i := 1) rfl)) (fun _ h9 => h9) rfl dX2_gatherNames_49 ?_
    obtain ⟨hP9, hD9⟩ := kk_leafout (wc := [(h0, kO2 h1 h2 h4 n0_size h3 i_1_2 n0_plots h5 h6 h7 h8 h9 n0_ways), (h1, kAi cint 10 f1), (h2, kAi cint 10 f2), (h3, kAi cint 8 f_1_1)]) hP hD [0, 1, 2, 3] (by decide) rfl
    have hK9 := kk_Ks (tq := []) hK [] rfl
    exact W.iret (v := i_1_2) hx hb hr (fun t ht hW => ⟨⟨i_1_2, (), rfl, (by show 0 ≤ (i_1_2 : Int32).toInt ∧ (i_1_2 : Int32).toInt ≤ 8; first | decide | ((omega))), i_1_2, f_1_1, (by show 0 ≤ (i_1_2 : Int32).toInt ∧ (i_1_2 : Int32).toInt ≤ 8; first | decide | ((omega))), by rw [ht]; exact hP9, va_K.moved hW.alike hK9, hD9⟩, hS.F ht⟩) hS.2.2 dX2_gatherNames_52
  · have t_2 : i_1_0.toInt < 8 := kk_nle c_2
    refine lv_aload_n hx hb dX2_gatherNames_13 rfl (lv_at hl 1 rfl) ?_
    refine va_get (D := (dC, dI)) (ci := 2) (v := .ref h3) (C := RX2) (T := TX2) (N := 13) hx hb hts (fun _ h => List.mem_cons_of_mem _ (List.mem_append_right _ h)) hown hK hP 0 rfl rfl 4 (by decide) (hts (.fieldLink RX2 21 "KinkStreet$Deeds" "seats" "[I") (List.mem_of_getElem? (i := 2) rfl)) (fun _ h9 => h9) rfl dX2_gatherNames_14 ?_
    refine lv_iload_n hx hb dX2_gatherNames_17 rfl (lv_at hl 0 rfl) ?_
    refine lv_aload_n hx hb dX2_gatherNames_18 rfl (lv_at hl 1 rfl) ?_
    refine lv_iload_n hx hb dX2_gatherNames_19 rfl (lv_at hl 0 rfl) ?_
    obtain ⟨hPc, hDc, hFc⟩ := kk_cutout (wc := [(h0, kO2 h1 h2 h4 n0_size h3 i_1_2 n0_plots h5 h6 h7 h8 h9 n0_ways), (h1, kAi cint 10 f1), (h2, kAi cint 10 f2)]) hP hD hS hA [0, 1, 2] (by decide) rfl
    have hKc := kk_Ks (tq := [(cint, .int)]) hK [0] rfl
    refine va_calli (va_runV (As := [.int i_1_0]) (rest := [.int i_1_0, .ref h3]) ⟨hx, hb, hml, hown, hts⟩ (g_X2_mention_0 l dC dI h0 h1 h2 h4 h3 h5 h6 h7 h8 h9 cint H.size i_1_0 n0_size i_1_2 n0_plots n0_ways f1 f2 tn0_size (by show 0 ≤ (i_1_2 : Int32).toInt ∧ (i_1_2 : Int32).toInt ≤ 8; first | decide | ((omega))) tn0_plots) (cwV 1 hts gX2_gatherNames_X2_mention rfl rfl rfl ⟨rfl, kh_X2_mention⟩ ⟨Nat.le_of_ble_eq_true rfl, Nat.le_of_ble_eq_true rfl⟩) ⟨fun a U g mk q => by obtain ⟨q0, q1, qP, qK, qD⟩ := q; exact ⟨q0, q1, qP, va_K.moved (u := U) (U := U.calling g mk a) (Vm.Alike.refl U.vm) qK, qD⟩, va_recv hKc hPc (ci := 2) (q0 := 0) rfl rfl, fun U hU hW => ⟨rfl, by rw [hU], by rw [hU]; exact hPc, va_K.moved hW.alike hKc, hDc.weaken (fun _ _ _ _ => trivial)⟩⟩ rfl rfl hl.1 rfl (lv_room (Nat.le_of_ble_eq_true rfl)) dX2_gatherNames_20 ⟨Nat.le_of_ble_eq_true rfl, Nat.le_of_ble_eq_true rfl⟩) hS (fun q _ h => hFc q h) hFc (fun r_3 u t H1 locs ht hvm hw hB hz1 hk1 hS => ?_)
    obtain ⟨hP1, hK1, hD1⟩ := hB
    rw [ht] at hP1
    have hK1 := va_K.moved hvm.symm hK1
    obtain ⟨hP, hD⟩ := va_join (wr := [(h3, kAi cint 8 f_1_1)]) (w1 := [(h0, kO2 h1 h2 h4 n0_size h3 i_1_2 n0_plots h5 h6 h7 h8 h9 n0_ways), (h1, kAi cint 10 f1), (h2, kAi cint 10 f2)]) hP hD [0, 1, 2] [3] rfl rfl (by decide) (by decide) hk1 hFc hP1 hD1
    generalize H1 = H at hP hS ⊢
    have hP : va_P (dC, dI) vwCl [(h3, kAi cint 8 f_1_1), (h0, kO2 h1 h2 h4 n0_size h3 i_1_2 n0_plots h5 h6 h7 h8 h9 n0_ways), (h1, kAi cint 10 f1), (h2, kAi cint 10 f2)] H := hP
    have hD : va_D A [(h3, kAi cint 8 f_1_1), (h0, kO2 h1 h2 h4 n0_size h3 i_1_2 n0_plots h5 h6 h7 h8 h9 n0_ways), (h1, kAi cint 10 f1), (h2, kAi cint 10 f2)] := hD
    rcases hw with ⟨rfl⟩ | ⟨t_3_0, rfl⟩
    · skip
      refine lv_if_eq (tgt := 40) hx hb dX2_gatherNames_23 (by decide) (fun _ => ?_) (fun c => absurd c (by decide))
      refine lv_iconst (v := (-1)) hx hb dX2_gatherNames_40 kk_ic_m1 ?_
      refine va_iast hx hb hK hP hD hS 0 0 rfl rfl (vp_in_iff.mpr ⟨by omega, by omega⟩) dX2_gatherNames_41 (fun H locs hP hD hS => ?_)
      generalize upd f_1_1 (i_1_0 : Int32).toNatClampNeg (-1) = f_4 at hP hD
      have hP : va_P (dC, dI) vwCl [(h3, kAi cint 8 f_4), (h0, kO2 h1 h2 h4 n0_size h3 i_1_2 n0_plots h5 h6 h7 h8 h9 n0_ways), (h1, kAi cint 10 f1), (h2, kAi cint 10 f2)] H := hP
      have hD : va_D A [(h3, kAi cint 8 f_4), (h0, kO2 h1 h2 h4 n0_size h3 i_1_2 n0_plots h5 h6 h7 h8 h9 n0_ways), (h1, kAi cint 10 f1), (h2, kAi cint 10 f2)] := hD
      refine lv_iinc (v := (i_1_0 + 1)) hx hb dX2_gatherNames_42 hl (k := 0) rfl (by first | rfl | decide) (by decide) (rfl : _ = ([(1, .int (i_1_0 + 1)), (0, .ref h0)] : List (Nat × Value))) (fun ls hl => ?_)
      refine lv_goto (tgt := 7) hx hb dX2_gatherNames_45 (by decide) ?_
      try have := kk_add2 (x := i_1_0) (y := 1) (a := i_1_0.toInt) (b := 1) rfl rfl (by omega) (by omega)
      exact ih_1 ((i_1_0 + 1), f_4, i_1_2) _ _ _ (by show ((8 : Int) - ((i_1_0 + 1)).toInt).toNat < ((8 : Int) - i_1_0.toInt).toNat; exact kk_mu (by omega) (by omega)) ⟨(by show 0 ≤ ((i_1_0 + 1) : Int32).toInt ∧ ((i_1_0 + 1) : Int32).toInt ≤ 8; first | decide | ((omega))), (by show 0 ≤ (i_1_2 : Int32).toInt ∧ (i_1_2 : Int32).toInt ≤ 8; first | decide | ((omega))), (by show (i_1_2 : Int32).toInt ≤ ((i_1_0 + 1) : Int32).toInt; first | decide | (omega)), hP.sub [1, 2, 3, 0] rfl, hD.sub [1, 2, 3, 0] (by decide) rfl, hS, lv_sub hl [0, 1] rfl⟩
    · skip
      have t_3_0 : (1 : Int) ≤ n0_size.toInt := t_3_0
      refine lv_if_eq (tgt := 40) hx hb dX2_gatherNames_23 (by decide) (fun c => absurd c (by decide)) (fun _ => ?_)
      refine lv_aload_n hx hb dX2_gatherNames_26 rfl (lv_at hl 1 rfl) ?_
      refine lv_dup hx hb dX2_gatherNames_27 rfl ?_
      refine va_get (D := (dC, dI)) (ci := 2) (v := .int i_1_2) (C := RX2) (T := TX2) (N := 13) hx hb hts (fun _ h => List.mem_cons_of_mem _ (List.mem_append_right _ h)) hown hK hP 1 rfl rfl 5 (by decide) (hts (.fieldLink RX2 49 "KinkStreet$Deeds" "names" "I") (List.mem_of_getElem? (i := 1) rfl)) (fun _ h9 => h9) rfl dX2_gatherNames_28 ?_
      refine lv_dup_x1 hx hb dX2_gatherNames_31 rfl rfl ?_
      refine lv_iconst (v := 1) hx hb dX2_gatherNames_32 kk_ic_1 ?_
      refine lv_iadd hx hb dX2_gatherNames_33 ?_
      refine va_put (D := (dC, dI)) (ci := 2) (v := .int (i_1_2 + 1)) (ty := .int) (C := RX2) (T := TX2) (N := 13) hx hb hts (fun _ h => List.mem_cons_of_mem _ (List.mem_append_right _ h)) tyX2 tyX2_ok nmX2 hown hK hP hD hS 1 rfl rfl 5 (by decide) (hts (.fieldLink RX2 49 "KinkStreet$Deeds" "names" "I") (List.mem_of_getElem? (i := 1) rfl)) (fun _ h9 => h9) rfl (by decide +kernel) rfl rfl (Nat.le_of_ble_eq_true rfl) dX2_gatherNames_34 (fun H locs hP hD hS => ?_)
      have hP : va_P (dC, dI) vwCl [(h3, kAi cint 8 f_1_1), (h0, kO2 h1 h2 h4 n0_size h3 (i_1_2 + 1) n0_plots h5 h6 h7 h8 h9 n0_ways), (h1, kAi cint 10 f1), (h2, kAi cint 10 f2)] H := hP
      have hD : va_D A [(h3, kAi cint 8 f_1_1), (h0, kO2 h1 h2 h4 n0_size h3 (i_1_2 + 1) n0_plots h5 h6 h7 h8 h9 n0_ways), (h1, kAi cint 10 f1), (h2, kAi cint 10 f2)] := hD
      refine lv_goto (tgt := 41) hx hb dX2_gatherNames_37 (by decide) ?_
      try have := kk_add2 (x := i_1_2) (y := 1) (a := i_1_2.toInt) (b := 1) rfl rfl (by omega) (by omega)
      refine va_iast hx hb hK hP hD hS 0 0 rfl rfl (vp_in_iff.mpr ⟨by omega, by omega⟩) dX2_gatherNames_41 (fun H locs hP hD hS => ?_)
      generalize upd f_1_1 (i_1_0 : Int32).toNatClampNeg i_1_2 = f_5 at hP hD
      have hP : va_P (dC, dI) vwCl [(h3, kAi cint 8 f_5), (h0, kO2 h1 h2 h4 n0_size h3 (i_1_2 + 1) n0_plots h5 h6 h7 h8 h9 n0_ways), (h1, kAi cint 10 f1), (h2, kAi cint 10 f2)] H := hP
      have hD : va_D A [(h3, kAi cint 8 f_5), (h0, kO2 h1 h2 h4 n0_size h3 (i_1_2 + 1) n0_plots h5 h6 h7 h8 h9 n0_ways), (h1, kAi cint 10 f1), (h2, kAi cint 10 f2)] := hD
      refine lv_iinc (v := (i_1_0 + 1)) hx hb dX2_gatherNames_42 hl (k := 0) rfl (by first | rfl | decide) (by decide) (rfl : _ = ([(1, .int (i_1_0 + 1)), (0, .ref h0)] : List (Nat × Value))) (fun ls hl => ?_)
      refine lv_goto (tgt := 7) hx hb dX2_gatherNames_45 (by decide) ?_
      try have := kk_add2 (x := i_1_0) (y := 1) (a := i_1_0.toInt) (b := 1) rfl rfl (by omega) (by omega)
      exact ih_1 ((i_1_0 + 1), f_5, (i_1_2 + 1)) _ _ _ (by show ((8 : Int) - ((i_1_0 + 1)).toInt).toNat < ((8 : Int) - i_1_0.toInt).toNat; exact kk_mu (by omega) (by omega)) ⟨(by show 0 ≤ ((i_1_0 + 1) : Int32).toInt ∧ ((i_1_0 + 1) : Int32).toInt ≤ 8; first | decide | ((omega))), (by show 0 ≤ ((i_1_2 + 1) : Int32).toInt ∧ ((i_1_2 + 1) : Int32).toInt ≤ 8; first | decide | ((omega))), (by show ((i_1_2 + 1) : Int32).toInt ≤ ((i_1_0 + 1) : Int32).toInt; first | decide | (omega)), hP.sub [1, 2, 3, 0] rfl, hD.sub [1, 2, 3, 0] (by decide) rfl, hS, lv_sub hl [0, 1] rfl⟩
set_option maxHeartbeats 4000000 in
set_option maxRecDepth 100000 in
theorem g_X2_openAll_0 (l : Launch) (dC : Nat → ClassId) (dI : Nat → Nat → Nat) (h0 : Nat) (h1 : Nat) (h2 : Nat) (h3 : Nat) (h4 : Nat) (h5 : Nat) (h6 : Nat → Nat) (h7 : Nat → Nat) (h8 : Nat) (h9 : Nat) (h10 : Nat) (h11 : Nat) (h12 : Nat) (h13 : Nat) (h14 : Nat) (h15 : Nat) (cint cAlong clong : ClassId) (sz : Nat) (n0_size : Int32) (n0_names : Int32) (n0_plots : Int32) (n0_ways : Int32) (n1_size : Int32) (f2 : Nat → Int32) (f5 : Nat → Int32) (F6 : Nat → Nat → Int64) (F7 : Nat → Nat → Int64) (tn0_size : kk_bx (0 ≤ n0_size.toInt ∧ n0_size.toInt ≤ 10)) (tn0_names : kk_bx (0 ≤ n0_names.toInt ∧ n0_names.toInt ≤ 8)) (tn0_plots : 0 ≤ n0_plots.toInt ∧ n0_plots.toInt ≤ 40) (tn1_size : kk_bx (0 ≤ n1_size.toInt ∧ n1_size.toInt ≤ 40)) : Met l yX2_openAll wsX2_openAll ({ frames := 1, cells := 0, slots := 0, locals := 23 }) (va_Pc [.ref h0, .ref h1] (fun U => U.heap.size = sz ∧ va_P (dC, dI) vwCl (([(h0, kO2 h8 h9 h10 n0_size h11 n0_names n0_plots h2 h3 h4 h12 h13 n0_ways), (h1, kO9 h5 h14 h15 n1_size), (h2, kAi cint 40 f2), (h3, kAr cAlong 25 (fun j => some (h6 j))), (h4, kAr cAlong 5 (fun j => some (h7 j))), (h5, kAi cint 40 f5)] : va_W) ++ (kk_rowsL h6 clong 40 F6 25 ++ (kk_rowsL h7 clong 5 F7 5))) U.heap ∧ va_K (dC, dI) vwCl [(cint, .int), (cAlong, .array .long), (clong, .long)] U ∧ va_D (fun _ => True) (([(h0, kO2 h8 h9 h10 n0_size h11 n0_names n0_plots h2 h3 h4 h12 h13 n0_ways), (h1, kO9 h5 h14 h15 n1_size), (h2, kAi cint 40 f2), (h3, kAr cAlong 25 (fun j => some (h6 j))), (h4, kAr cAlong 5 (fun j => some (h7 j))), (h5, kAi cint 40 f5)] : va_W) ++ (kk_rowsL h6 clong 40 F6 25 ++ (kk_rowsL h7 clong 5 F7 5))))) (va_Qv (fun (_ : Unit) => True) (fun (_ : Unit) t => ∃ (g2 : Nat → Int32) (g6 : Nat → Nat → Int64) (g7 : Nat → Nat → Int64), va_P (dC, dI) vwCl (([(h0, kO2 h8 h9 h10 n0_size h11 n0_names n0_plots h2 h3 h4 h12 h13 n0_ways), (h1, kO9 h5 h14 h15 n1_size), (h2, kAi cint 40 g2), (h3, kAr cAlong 25 (fun j => some (h6 j))), (h4, kAr cAlong 5 (fun j => some (h7 j))), (h5, kAi cint 40 f5)] : va_W) ++ (kk_rowsL h6 clong 40 g6 25 ++ (kk_rowsL h7 clong 5 g7 5))) t.heap ∧ va_K (dC, dI) vwCl [] t ∧ va_D (va_A (([(h0, kO2 h8 h9 h10 n0_size h11 n0_names n0_plots h2 h3 h4 h12 h13 n0_ways), (h1, kO9 h5 h14 h15 n1_size), (h2, kAi cint 40 f2), (h3, kAr cAlong 25 (fun j => some (h6 j))), (h4, kAr cAlong 5 (fun j => some (h7 j))), (h5, kAi cint 40 f5)] : va_W) ++ (kk_rowsL h6 clong 40 F6 25 ++ (kk_rowsL h7 clong 5 F7 5))) sz) (([(h0, kO2 h8 h9 h10 n0_size h11 n0_names n0_plots h2 h3 h4 h12 h13 n0_ways), (h1, kO9 h5 h14 h15 n1_size), (h2, kAi cint 40 g2), (h3, kAr cAlong 25 (fun j => some (h6 j))), (h4, kAr cAlong 5 (fun j => some (h7 j))), (h5, kAi cint 40 f5)] : va_W) ++ (kk_rowsL h6 clong 40 g6 25 ++ (kk_rowsL h7 clong 5 g7 5)))) (va_A (([(h0, kO2 h8 h9 h10 n0_size h11 n0_names n0_plots h2 h3 h4 h12 h13 n0_ways), (h1, kO9 h5 h14 h15 n1_size), (h2, kAi cint 40 f2), (h3, kAr cAlong 25 (fun j => some (h6 j))), (h4, kAr cAlong 5 (fun j => some (h7 j))), (h5, kAi cint 40 f5)] : va_W) ++ (kk_rowsL h6 clong 40 F6 25 ++ (kk_rowsL h7 clong 5 F7 5))) sz)) 0 0 (va_A (([(h0, kO2 h8 h9 h10 n0_size h11 n0_names n0_plots h2 h3 h4 h12 h13 n0_ways), (h1, kO9 h5 h14 h15 n1_size), (h2, kAi cint 40 f2), (h3, kAr cAlong 25 (fun j => some (h6 j))), (h4, kAr cAlong 5 (fun j => some (h7 j))), (h5, kAi cint 40 f5)] : va_W) ++ (kk_rowsL h6 clong 40 F6 25 ++ (kk_rowsL h7 clong 5 F7 5))) sz) := by
  refine Met.ofW (cc := cX2_openAll) (maxL := 6) (ret := none) (by decide) rfl ?_
  intro p e s m args below meth c s₁ B hml hv
  obtain ⟨rfl, hsz, hP, hK, hD0⟩ := hv
  have hx := B.exec
  have hb := B.bytes
  have hr := B.returns
  have hts := atoms_spec (ws := wsX2_openAll) B.pre
  have hown : s.vm.findClass RX2 = some m.cls := findClass_of_methodNamed B.named
  have hlocks := B.notSynchronized
  subst hsz
  have hD := hD0.self (sz := s.heap.size)
  generalize hAe : va_A (([(h0, kO2 h8 h9 h10 n0_size h11 n0_names n0_plots h2 h3 h4 h12 h13 n0_ways), (h1, kO9 h5 h14 h15 n1_size), (h2, kAi cint 40 f2), (h3, kAr cAlong 25 (fun j => some (h6 j))), (h4, kAr cAlong 5 (fun j => some (h7 j))), (h5, kAi cint 40 f5)] : va_W) ++ (kk_rowsL h6 clong 40 F6 25 ++ (kk_rowsL h7 clong 5 F7 5))) s.heap.size = A at hD ⊢
  have hA : ∀ q : Nat, s.heap.size ≤ q → A q := fun q h => by rw [← hAe]; exact Or.inr h
  have hS : va_S A s.heap s.heap [] := va_S.rf
  have hP : va_P (dC, dI) vwCl (([(h0, kO2 h8 h9 h10 n0_size h11 n0_names n0_plots h2 h3 h4 h12 h13 n0_ways), (h1, kO9 h5 h14 h15 n1_size), (h2, kAi cint 40 f2), (h3, kAr cAlong 25 (fun j => some (h6 j))), (h4, kAr cAlong 5 (fun j => some (h7 j))), (h5, kAi cint 40 f5)] : va_W) ++ (kk_rowsL h6 clong 40 F6 25 ++ (kk_rowsL h7 clong 5 F7 5))) s.heap := hP
  have hl := lv_entry ([.ref h0, .ref h1]) (n := 6) (Nat.le_of_ble_eq_true rfl)
  rw [lg_entry_eq]
  generalize (lg_sl ([.ref h0, .ref h1]) ++ List.replicate (6 - (lg_sl ([.ref h0, .ref h1])).length) Slot.unset).toArray = ls at hl ⊢
  have hl : lv_has ls 6 [(0, .ref h0), (1, .ref h1)] := hl
  refine lv_lconst (v := 1) hx hb dX2_openAll_0 (by decide) ?_
  refine lv_aload_n hx hb dX2_openAll_1 rfl (lv_at hl 0 rfl) ?_
  refine va_get (D := (dC, dI)) (ci := 2) (v := .int n0_plots) (C := RX2) (T := TX2) (N := 13) hx hb hts (fun _ h => List.mem_cons_of_mem _ (List.mem_append_left _ (List.mem_append_right _ h))) hown hK hP 0 rfl rfl 6 (by decide) (hts (.fieldLink RX2 67 "KinkStreet$Deeds" "plots" "I") (List.mem_of_getElem? (i := 1) rfl)) (fun _ h9 => h9) rfl dX2_openAll_2 ?_
  refine lv_lshl hx hb dX2_openAll_5 rfl ?_
  refine lv_topl (fun y_1 e_1 => ?_)
  clear e_1
  refine lv_lconst (v := 1) hx hb dX2_openAll_6 (by decide) ?_
  refine lv_lsub hx hb dX2_openAll_7 ?_
  refine lv_topl (fun y_2 e_2 => ?_)
  clear e_2
  refine lv_lstore_n hx hb dX2_openAll_8 rfl hl (by decide) (rfl : _ = ([(2, .long y_2), (0, .ref h0), (1, .ref h1)] : List (Nat × Value))) (fun ls hl => ?_)
  refine lv_iconst (v := 0) hx hb dX2_openAll_9 kk_ic_0 ?_
  refine lv_istore hx hb dX2_openAll_10 hl (by decide) (rfl : _ = ([(4, .int 0), (2, .long y_2), (0, .ref h0), (1, .ref h1)] : List (Nat × Value))) (fun ls hl => ?_)
  refine kk_loop (σ := Int32 × (Nat → Int32) × (Nat → Nat → Int64)) (fun x H locs ls => (0 ≤ x.1.toInt ∧ x.1.toInt ≤ 40) ∧ va_P (dC, dI) vwCl (([(h0, kO2 h8 h9 h10 n0_size h11 n0_names n0_plots h2 h3 h4 h12 h13 n0_ways), (h1, kO9 h5 h14 h15 n1_size), (h2, kAi cint 40 x.2.1), (h3, kAr cAlong 25 (fun j => some (h6 j))), (h4, kAr cAlong 5 (fun j => some (h7 j))), (h5, kAi cint 40 f5)] : va_W) ++ (kk_rowsL h6 clong 40 x.2.2 25 ++ (kk_rowsL h7 clong 5 F7 5))) H ∧ va_D A (([(h0, kO2 h8 h9 h10 n0_size h11 n0_names n0_plots h2 h3 h4 h12 h13 n0_ways), (h1, kO9 h5 h14 h15 n1_size), (h2, kAi cint 40 x.2.1), (h3, kAr cAlong 25 (fun j => some (h6 j))), (h4, kAr cAlong 5 (fun j => some (h7 j))), (h5, kAi cint 40 f5)] : va_W) ++ (kk_rowsL h6 clong 40 x.2.2 25 ++ (kk_rowsL h7 clong 5 F7 5))) ∧ va_S A s.heap H locs ∧ lv_has ls 6 [(4, .int x.1), (2, .long y_2), (0, .ref h0), (1, .ref h1)]) (fun x => ((40 : Int) - x.1.toInt).toNat) ?_ (0, f2, F6) _ _ _ ⟨(by show 0 ≤ (0 : Int32).toInt ∧ (0 : Int32).toInt ≤ 40; first | decide | ((omega))), hP, hD, hS, hl⟩
  rintro ⟨i_3_0, f_3_1, f_3_2⟩ H locs ls ⟨t_3_0, hP, hD, hS, hl⟩ ih_3
  have t_3_0 : (0 ≤ i_3_0.toInt ∧ i_3_0.toInt ≤ 40) := t_3_0
  have hl : lv_has ls 6 [(4, .int i_3_0), (2, .long y_2), (0, .ref h0), (1, .ref h1)] := hl
  have hP : va_P (dC, dI) vwCl (([(h0, kO2 h8 h9 h10 n0_size h11 n0_names n0_plots h2 h3 h4 h12 h13 n0_ways), (h1, kO9 h5 h14 h15 n1_size), (h2, kAi cint 40 f_3_1), (h3, kAr cAlong 25 (fun j => some (h6 j))), (h4, kAr cAlong 5 (fun j => some (h7 j))), (h5, kAi cint 40 f5)] : va_W) ++ (kk_rowsL h6 clong 40 f_3_2 25 ++ (kk_rowsL h7 clong 5 F7 5))) H := hP
  have hD : va_D A (([(h0, kO2 h8 h9 h10 n0_size h11 n0_names n0_plots h2 h3 h4 h12 h13 n0_ways), (h1, kO9 h5 h14 h15 n1_size), (h2, kAi cint 40 f_3_1), (h3, kAr cAlong 25 (fun j => some (h6 j))), (h4, kAr cAlong 5 (fun j => some (h7 j))), (h5, kAi cint 40 f5)] : va_W) ++ (kk_rowsL h6 clong 40 f_3_2 25 ++ (kk_rowsL h7 clong 5 F7 5))) := hD
  refine lv_iload hx hb dX2_openAll_12 (lv_at hl 0 rfl) ?_
  refine lv_aload_n hx hb dX2_openAll_14 rfl (lv_at hl 2 rfl) ?_
  refine va_get (D := (dC, dI)) (ci := 2) (v := .int n0_plots) (C := RX2) (T := TX2) (N := 13) hx hb hts (fun _ h => List.mem_cons_of_mem _ (List.mem_append_left _ (List.mem_append_right _ h))) hown hK hP 0 rfl rfl 6 (by decide) (hts (.fieldLink RX2 67 "KinkStreet$Deeds" "plots" "I") (List.mem_of_getElem? (i := 1) rfl)) (fun _ h9 => h9) rfl dX2_openAll_15 ?_
  refine lv_icmp_ge (tgt := 79) hx hb dX2_openAll_18 (by decide) (fun c_4 => ?_) (fun c_4 => ?_)
  · have t_4 : n0_plots.toInt ≤ i_3_0.toInt := kk_le c_4
    refine lv_iconst (v := 0) hx hb dX2_openAll_79 kk_ic_0 ?_
    refine lv_istore hx hb dX2_openAll_80 hl (by decide) (rfl : _ = ([(4, .int 0), (2, .long y_2), (0, .ref h0), (1, .ref h1)] : List (Nat × Value))) (fun ls hl => ?_)
    refine kk_loop (σ := Int32 × (Nat → Nat → Int64)) (fun x H locs ls => (0 ≤ x.1.toInt ∧ x.1.toInt ≤ 5) ∧ va_P (dC, dI) vwCl (([(h0, kO2 h8 h9 h10 n0_size h11 n0_names n0_plots h2 h3 h4 h12 h13 n0_ways), (h1, kO9 h5 h14 h15 n1_size), (h2, kAi cint 40 f_3_1), (h3, kAr cAlong 25 (fun j => some (h6 j))), (h4, kAr cAlong 5 (fun j => some (h7 j))), (h5, kAi cint 40 f5)] : va_W) ++ (kk_rowsL h6 clong 40 f_3_2 25 ++ (kk_rowsL h7 clong 5 x.2 5))) H ∧ va_D A (([(h0, kO2 h8 h9 h10 n0_size h11 n0_names n0_plots h2 h3 h4 h12 h13 n0_ways), (h1, kO9 h5 h14 h15 n1_size), (h2, kAi cint 40 f_3_1), (h3, kAr cAlong 25 (fun j => some (h6 j))), (h4, kAr cAlong 5 (fun j => some (h7 j))), (h5, kAi cint 40 f5)] : va_W) ++ (kk_rowsL h6 clong 40 f_3_2 25 ++ (kk_rowsL h7 clong 5 x.2 5))) ∧ va_S A s.heap H locs ∧ lv_has ls 6 [(4, .int x.1), (2, .long y_2), (0, .ref h0), (1, .ref h1)]) (fun x => ((5 : Int) - x.1.toInt).toNat) ?_ (0, F7) _ _ _ ⟨(by show 0 ≤ (0 : Int32).toInt ∧ (0 : Int32).toInt ≤ 5; first | decide | ((omega))), hP, hD, hS, hl⟩
    rintro ⟨i_5_0, f_5_1⟩ H locs ls ⟨t_5_0, hP, hD, hS, hl⟩ ih_5
    have t_5_0 : (0 ≤ i_5_0.toInt ∧ i_5_0.toInt ≤ 5) := t_5_0
    have hl : lv_has ls 6 [(4, .int i_5_0), (2, .long y_2), (0, .ref h0), (1, .ref h1)] := hl
    have hP : va_P (dC, dI) vwCl (([(h0, kO2 h8 h9 h10 n0_size h11 n0_names n0_plots h2 h3 h4 h12 h13 n0_ways), (h1, kO9 h5 h14 h15 n1_size), (h2, kAi cint 40 f_3_1), (h3, kAr cAlong 25 (fun j => some (h6 j))), (h4, kAr cAlong 5 (fun j => some (h7 j))), (h5, kAi cint 40 f5)] : va_W) ++ (kk_rowsL h6 clong 40 f_3_2 25 ++ (kk_rowsL h7 clong 5 f_5_1 5))) H := hP
    have hD : va_D A (([(h0, kO2 h8 h9 h10 n0_size h11 n0_names n0_plots h2 h3 h4 h12 h13 n0_ways), (h1, kO9 h5 h14 h15 n1_size), (h2, kAi cint 40 f_3_1), (h3, kAr cAlong 25 (fun j => some (h6 j))), (h4, kAr cAlong 5 (fun j => some (h7 j))), (h5, kAi cint 40 f5)] : va_W) ++ (kk_rowsL h6 clong 40 f_3_2 25 ++ (kk_rowsL h7 clong 5 f_5_1 5))) := hD
    refine lv_iload hx hb dX2_openAll_82 (lv_at hl 0 rfl) ?_
    refine lv_iconst (v := 5) hx hb dX2_openAll_84 kk_ic_5 ?_
    refine lv_icmp_ge (tgt := 104) hx hb dX2_openAll_85 (by decide) (fun c_6 => ?_) (fun c_6 => ?_)
    · have t_6 : 5 ≤ i_5_0.toInt := kk_le c_6
      have hP9 := hP.part (cx := [(h0, kO2 h8 h9 h10 n0_size h11 n0_names n0_plots h2 h3 h4 h12 h13 n0_ways), (h1, kO9 h5 h14 h15 n1_size), (h2, kAi cint 40 f_3_1), (h3, kAr cAlong 25 (fun j => some (h6 j))), (h4, kAr cAlong 5 (fun j => some (h7 j))), (h5, kAi cint 40 f5)]) [0, 1, 2, 3, 4, 5] rfl
      have hD9 := hD.part (cx := [(h0, kO2 h8 h9 h10 n0_size h11 n0_names n0_plots h2 h3 h4 h12 h13 n0_ways), (h1, kO9 h5 h14 h15 n1_size), (h2, kAi cint 40 f_3_1), (h3, kAr cAlong 25 (fun j => some (h6 j))), (h4, kAr cAlong 5 (fun j => some (h7 j))), (h5, kAi cint 40 f5)]) [0, 1, 2, 3, 4, 5] (by decide) rfl
      have hK9 := kk_Ks (tq := []) hK [] rfl
      exact W.vret hx hb hr (fun t ht hW => ⟨⟨(), rfl, trivial, f_3_1, f_3_2, f_5_1, by rw [ht]; exact hP9, va_K.moved hW.alike hK9, hD9⟩, hS.F ht⟩) hS.2.2 dX2_openAll_104
    · have t_6 : i_5_0.toInt < 5 := kk_nle c_6
      refine lv_aload_n hx hb dX2_openAll_88 rfl (lv_at hl 2 rfl) ?_
      refine va_get (D := (dC, dI)) (ci := 2) (v := .ref h4) (C := RX2) (T := TX2) (N := 13) hx hb hts (fun _ h => List.mem_cons_of_mem _ (List.mem_append_left _ (List.mem_append_right _ h))) hown hK hP 0 rfl rfl 9 (by decide) (hts (.fieldLink RX2 32 "KinkStreet$Deeds" "open" "[[J") (List.mem_of_getElem? (i := 5) rfl)) (fun _ h9 => h9) rfl dX2_openAll_89 ?_
      refine lv_iconst (v := 0) hx hb dX2_openAll_92 kk_ic_0 ?_
      have hi_7 : vp_in (0 : Int32) 5 := (by unfold vp_in; decide)
      have hk_7 : (0 : Int32).toNatClampNeg < 5 := Nat.not_le.mp fun q => hi_7 (Or.inr q)
      refine kk_aald hx hb hK hP 4 1 rfl rfl hi_7 dX2_openAll_93 ?_
      refine W.eq (g2 := F0 m 94 ls [.ref (h7 (0 : Int32).toNatClampNeg)]) rfl ?_
      refine lv_iload hx hb dX2_openAll_94 (lv_at hl 0 rfl) ?_
      refine lv_lload_n hx hb dX2_openAll_96 rfl (lv_at hl 1 rfl) ?_
      refine va_last hx hb hK hP hD hS _ 2 (kk_getr (kk_getr (kk_rowL hk_7))) rfl (vp_in_iff.mpr ⟨by omega, by omega⟩) dX2_openAll_97 (fun H locs hP hD hS => ?_)
      rw [kk_setr, kk_setr, kk_rowsL_set hk_7] at hP hD
      generalize kk_upF f_5_1 (0 : Int32).toNatClampNeg (vp_updL (f_5_1 (0 : Int32).toNatClampNeg) (i_5_0 : Int32).toNatClampNeg y_2) = F_8 at hP hD
      have hP : va_P (dC, dI) vwCl (([(h0, kO2 h8 h9 h10 n0_size h11 n0_names n0_plots h2 h3 h4 h12 h13 n0_ways), (h1, kO9 h5 h14 h15 n1_size), (h2, kAi cint 40 f_3_1), (h3, kAr cAlong 25 (fun j => some (h6 j))), (h4, kAr cAlong 5 (fun j => some (h7 j))), (h5, kAi cint 40 f5)] : va_W) ++ (kk_rowsL h6 clong 40 f_3_2 25 ++ (kk_rowsL h7 clong 5 F_8 5))) H := hP
      have hD : va_D A (([(h0, kO2 h8 h9 h10 n0_size h11 n0_names n0_plots h2 h3 h4 h12 h13 n0_ways), (h1, kO9 h5 h14 h15 n1_size), (h2, kAi cint 40 f_3_1), (h3, kAr cAlong 25 (fun j => some (h6 j))), (h4, kAr cAlong 5 (fun j => some (h7 j))), (h5, kAi cint 40 f5)] : va_W) ++ (kk_rowsL h6 clong 40 f_3_2 25 ++ (kk_rowsL h7 clong 5 F_8 5))) := hD
      refine lv_iinc (v := (i_5_0 + 1)) hx hb dX2_openAll_98 hl (k := 0) rfl (by first | rfl | decide) (by decide) (rfl : _ = ([(4, .int (i_5_0 + 1)), (2, .long y_2), (0, .ref h0), (1, .ref h1)] : List (Nat × Value))) (fun ls hl => ?_)
      refine lv_goto (tgt := 82) hx hb dX2_openAll_101 (by decide) ?_
      try have := kk_add2 (x := i_5_0) (y := 1) (a := i_5_0.toInt) (b := 1) rfl rfl (by omega) (by omega)
      exact ih_5 ((i_5_0 + 1), F_8) _ _ _ (by show ((5 : Int) - ((i_5_0 + 1)).toInt).toNat < ((5 : Int) - i_5_0.toInt).toNat; exact kk_mu (by omega) (by omega)) ⟨(by show 0 ≤ ((i_5_0 + 1) : Int32).toInt ∧ ((i_5_0 + 1) : Int32).toInt ≤ 5; first | decide | ((omega))), hP, hD, hS, lv_sub hl [0, 1, 2, 3] rfl⟩
  · have t_4 : i_3_0.toInt < n0_plots.toInt := kk_nle c_4
    refine lv_aload_n hx hb dX2_openAll_21 rfl (lv_at hl 2 rfl) ?_
    refine va_get (D := (dC, dI)) (ci := 2) (v := .ref h2) (C := RX2) (T := TX2) (N := 13) hx hb hts (fun _ h => List.mem_cons_of_mem _ (List.mem_append_left _ (List.mem_append_right _ h))) hown hK hP 0 rfl rfl 7 (by decide) (hts (.fieldLink RX2 24 "KinkStreet$Deeds" "begins" "[I") (List.mem_of_getElem? (i := 2) rfl)) (fun _ h9 => h9) rfl dX2_openAll_22 ?_
    refine lv_iload hx hb dX2_openAll_25 (lv_at hl 0 rfl) ?_
    refine lv_aload_n hx hb dX2_openAll_27 rfl (lv_at hl 3 rfl) ?_
    refine lv_iload hx hb dX2_openAll_28 (lv_at hl 0 rfl) ?_
    obtain ⟨hPc, hDc, hFc⟩ := kk_cutout (wc := [(h1, kO9 h5 h14 h15 n1_size), (h5, kAi cint 40 f5)]) hP hD hS hA [1, 5] (by decide) rfl
    have hKc := kk_Ks (tq := [(cint, .int)]) hK [0] rfl
    refine va_calli (va_runV (As := [.int i_3_0]) (rest := [.int i_3_0, .ref h2]) ⟨hx, hb, hml, hown, hts⟩ (g_X9_begin_0 l dC dI h1 h5 h14 h15 cint H.size i_3_0 n1_size f5 tn1_size) (cwV 1 hts gX2_openAll_X9_begin rfl rfl rfl ⟨rfl, kh_X9_begin⟩ ⟨Nat.le_of_ble_eq_true rfl, Nat.le_of_ble_eq_true rfl⟩) ⟨fun a U g mk q => by obtain ⟨q0, q1, qP, qK, qD⟩ := q; exact ⟨q0, q1, qP, va_K.moved (u := U) (U := U.calling g mk a) (Vm.Alike.refl U.vm) qK, qD⟩, va_recv hKc hPc (ci := 9) (q0 := 0) rfl rfl, fun U hU hW => ⟨rfl, by rw [hU], by rw [hU]; exact hPc, va_K.moved hW.alike hKc, hDc.weaken (fun _ _ _ _ => trivial)⟩⟩ rfl rfl hl.1 rfl (lv_room (Nat.le_of_ble_eq_true rfl)) dX2_openAll_30 ⟨Nat.le_of_ble_eq_true rfl, Nat.le_of_ble_eq_true rfl⟩) hS (fun q _ h => hFc q h) hFc (fun r_9 u t H1 locs ht hvm hw hB hz1 hk1 hS => ?_)
    obtain ⟨hP1, hK1, hD1⟩ := hB
    rw [ht] at hP1
    have hK1 := va_K.moved hvm.symm hK1
    obtain ⟨hP, hD⟩ := va_joinQ (cx := [(h1, kO9 h5 h14 h15 n1_size), (h5, kAi cint 40 f5)]) (wr := [(h0, kO2 h8 h9 h10 n0_size h11 n0_names n0_plots h2 h3 h4 h12 h13 n0_ways), (h2, kAi cint 40 f_3_1), (h3, kAr cAlong 25 (fun j => some (h6 j))), (h4, kAr cAlong 5 (fun j => some (h7 j)))]) (w1 := [(h1, kO9 h5 h14 h15 n1_size), (h5, kAi cint 40 f5)]) hP hD [1, 5] [0, 2, 3, 4] rfl rfl (by decide) (by decide) hk1 hFc hP1 hD1
    generalize H1 = H at hP hS ⊢
    have hP : va_P (dC, dI) vwCl (([(h0, kO2 h8 h9 h10 n0_size h11 n0_names n0_plots h2 h3 h4 h12 h13 n0_ways), (h2, kAi cint 40 f_3_1), (h3, kAr cAlong 25 (fun j => some (h6 j))), (h4, kAr cAlong 5 (fun j => some (h7 j))), (h1, kO9 h5 h14 h15 n1_size), (h5, kAi cint 40 f5)] : va_W) ++ (kk_rowsL h6 clong 40 f_3_2 25 ++ (kk_rowsL h7 clong 5 F7 5))) H := hP
    have hD : va_D A (([(h0, kO2 h8 h9 h10 n0_size h11 n0_names n0_plots h2 h3 h4 h12 h13 n0_ways), (h2, kAi cint 40 f_3_1), (h3, kAr cAlong 25 (fun j => some (h6 j))), (h4, kAr cAlong 5 (fun j => some (h7 j))), (h1, kO9 h5 h14 h15 n1_size), (h5, kAi cint 40 f5)] : va_W) ++ (kk_rowsL h6 clong 40 f_3_2 25 ++ (kk_rowsL h7 clong 5 F7 5))) := hD
    refine va_iast hx hb hK hP hD hS 1 0 rfl rfl (vp_in_iff.mpr ⟨by omega, by omega⟩) dX2_openAll_33 (fun H locs hP hD hS => ?_)
    generalize upd f_3_1 (i_3_0 : Int32).toNatClampNeg r_9 = f_10 at hP hD
    have hP : va_P (dC, dI) vwCl (([(h0, kO2 h8 h9 h10 n0_size h11 n0_names n0_plots h2 h3 h4 h12 h13 n0_ways), (h2, kAi cint 40 f_10), (h3, kAr cAlong 25 (fun j => some (h6 j))), (h4, kAr cAlong 5 (fun j => some (h7 j))), (h1, kO9 h5 h14 h15 n1_size), (h5, kAi cint 40 f5)] : va_W) ++ (kk_rowsL h6 clong 40 f_3_2 25 ++ (kk_rowsL h7 clong 5 F7 5))) H := hP
    have hD : va_D A (([(h0, kO2 h8 h9 h10 n0_size h11 n0_names n0_plots h2 h3 h4 h12 h13 n0_ways), (h2, kAi cint 40 f_10), (h3, kAr cAlong 25 (fun j => some (h6 j))), (h4, kAr cAlong 5 (fun j => some (h7 j))), (h1, kO9 h5 h14 h15 n1_size), (h5, kAi cint 40 f5)] : va_W) ++ (kk_rowsL h6 clong 40 f_3_2 25 ++ (kk_rowsL h7 clong 5 F7 5))) := hD
    refine lv_iconst (v := 0) hx hb dX2_openAll_34 kk_ic_0 ?_
    refine lv_istore hx hb dX2_openAll_35 hl (by decide) (rfl : _ = ([(5, .int 0), (4, .int i_3_0), (2, .long y_2), (0, .ref h0), (1, .ref h1)] : List (Nat × Value))) (fun ls hl => ?_)
    refine kk_loop (σ := Int32 × (Nat → Nat → Int64)) (fun x H locs ls => (0 ≤ x.1.toInt ∧ x.1.toInt ≤ 25) ∧ va_P (dC, dI) vwCl (([(h0, kO2 h8 h9 h10 n0_size h11 n0_names n0_plots h2 h3 h4 h12 h13 n0_ways), (h2, kAi cint 40 f_10), (h3, kAr cAlong 25 (fun j => some (h6 j))), (h4, kAr cAlong 5 (fun j => some (h7 j))), (h1, kO9 h5 h14 h15 n1_size), (h5, kAi cint 40 f5)] : va_W) ++ (kk_rowsL h6 clong 40 x.2 25 ++ (kk_rowsL h7 clong 5 F7 5))) H ∧ va_D A (([(h0, kO2 h8 h9 h10 n0_size h11 n0_names n0_plots h2 h3 h4 h12 h13 n0_ways), (h2, kAi cint 40 f_10), (h3, kAr cAlong 25 (fun j => some (h6 j))), (h4, kAr cAlong 5 (fun j => some (h7 j))), (h1, kO9 h5 h14 h15 n1_size), (h5, kAi cint 40 f5)] : va_W) ++ (kk_rowsL h6 clong 40 x.2 25 ++ (kk_rowsL h7 clong 5 F7 5))) ∧ va_S A s.heap H locs ∧ lv_has ls 6 [(5, .int x.1), (4, .int i_3_0), (2, .long y_2), (0, .ref h0), (1, .ref h1)]) (fun x => ((25 : Int) - x.1.toInt).toNat) ?_ (0, f_3_2) _ _ _ ⟨(by show 0 ≤ (0 : Int32).toInt ∧ (0 : Int32).toInt ≤ 25; first | decide | ((omega))), hP, hD, hS, hl⟩
    rintro ⟨i_11_0, f_11_1⟩ H locs ls ⟨t_11_0, hP, hD, hS, hl⟩ ih_11
    have t_11_0 : (0 ≤ i_11_0.toInt ∧ i_11_0.toInt ≤ 25) := t_11_0
    have hl : lv_has ls 6 [(5, .int i_11_0), (4, .int i_3_0), (2, .long y_2), (0, .ref h0), (1, .ref h1)] := hl
    have hP : va_P (dC, dI) vwCl (([(h0, kO2 h8 h9 h10 n0_size h11 n0_names n0_plots h2 h3 h4 h12 h13 n0_ways), (h2, kAi cint 40 f_10), (h3, kAr cAlong 25 (fun j => some (h6 j))), (h4, kAr cAlong 5 (fun j => some (h7 j))), (h1, kO9 h5 h14 h15 n1_size), (h5, kAi cint 40 f5)] : va_W) ++ (kk_rowsL h6 clong 40 f_11_1 25 ++ (kk_rowsL h7 clong 5 F7 5))) H := hP
    have hD : va_D A (([(h0, kO2 h8 h9 h10 n0_size h11 n0_names n0_plots h2 h3 h4 h12 h13 n0_ways), (h2, kAi cint 40 f_10), (h3, kAr cAlong 25 (fun j => some (h6 j))), (h4, kAr cAlong 5 (fun j => some (h7 j))), (h1, kO9 h5 h14 h15 n1_size), (h5, kAi cint 40 f5)] : va_W) ++ (kk_rowsL h6 clong 40 f_11_1 25 ++ (kk_rowsL h7 clong 5 F7 5))) := hD
    refine lv_iload hx hb dX2_openAll_37 (lv_at hl 0 rfl) ?_
    refine lv_aload_n hx hb dX2_openAll_39 rfl (lv_at hl 3 rfl) ?_
    refine va_get (D := (dC, dI)) (ci := 2) (v := .ref h3) (C := RX2) (T := TX2) (N := 13) hx hb hts (fun _ h => List.mem_cons_of_mem _ (List.mem_append_left _ (List.mem_append_right _ h))) hown hK hP 0 rfl rfl 8 (by decide) (hts (.fieldLink RX2 29 "KinkStreet$Deeds" "fits" "[[J") (List.mem_of_getElem? (i := 3) rfl)) (fun _ h9 => h9) rfl dX2_openAll_40 ?_
    refine va_alen (v := 25) hx hb hK hP 2 1 rfl rfl rfl dX2_openAll_43 ?_
    refine lv_icmp_ge (tgt := 73) hx hb dX2_openAll_44 (by decide) (fun c_12 => ?_) (fun c_12 => ?_)
    · have t_12 : 25 ≤ i_11_0.toInt := kk_le c_12
      refine lv_iinc (v := (i_3_0 + 1)) hx hb dX2_openAll_73 hl (k := 1) rfl (by first | rfl | decide) (by decide) (rfl : _ = ([(4, .int (i_3_0 + 1)), (5, .int i_11_0), (2, .long y_2), (0, .ref h0), (1, .ref h1)] : List (Nat × Value))) (fun ls hl => ?_)
      refine lv_goto (tgt := 12) hx hb dX2_openAll_76 (by decide) ?_
      try have := kk_add2 (x := i_3_0) (y := 1) (a := i_3_0.toInt) (b := 1) rfl rfl (by omega) (by omega)
      exact ih_3 ((i_3_0 + 1), f_10, f_11_1) _ _ _ (by show ((40 : Int) - ((i_3_0 + 1)).toInt).toNat < ((40 : Int) - i_3_0.toInt).toNat; exact kk_mu (by omega) (by omega)) ⟨(by show 0 ≤ ((i_3_0 + 1) : Int32).toInt ∧ ((i_3_0 + 1) : Int32).toInt ≤ 40; first | decide | ((omega))), hP.part (cx := [(h0, kO2 h8 h9 h10 n0_size h11 n0_names n0_plots h2 h3 h4 h12 h13 n0_ways), (h1, kO9 h5 h14 h15 n1_size), (h2, kAi cint 40 f_10), (h3, kAr cAlong 25 (fun j => some (h6 j))), (h4, kAr cAlong 5 (fun j => some (h7 j))), (h5, kAi cint 40 f5)]) [0, 4, 1, 2, 3, 5] rfl, hD.part (cx := [(h0, kO2 h8 h9 h10 n0_size h11 n0_names n0_plots h2 h3 h4 h12 h13 n0_ways), (h1, kO9 h5 h14 h15 n1_size), (h2, kAi cint 40 f_10), (h3, kAr cAlong 25 (fun j => some (h6 j))), (h4, kAr cAlong 5 (fun j => some (h7 j))), (h5, kAi cint 40 f5)]) [0, 4, 1, 2, 3, 5] (by decide) rfl, hS, lv_sub hl [0, 2, 3, 4] rfl⟩
    · have t_12 : i_11_0.toInt < 25 := kk_nle c_12
      refine lv_aload_n hx hb dX2_openAll_47 rfl (lv_at hl 3 rfl) ?_
      refine va_get (D := (dC, dI)) (ci := 2) (v := .ref h3) (C := RX2) (T := TX2) (N := 13) hx hb hts (fun _ h => List.mem_cons_of_mem _ (List.mem_append_left _ (List.mem_append_right _ h))) hown hK hP 0 rfl rfl 8 (by decide) (hts (.fieldLink RX2 29 "KinkStreet$Deeds" "fits" "[[J") (List.mem_of_getElem? (i := 3) rfl)) (fun _ h9 => h9) rfl dX2_openAll_48 ?_
      refine lv_iload hx hb dX2_openAll_51 (lv_at hl 0 rfl) ?_
      have hi_13 : vp_in (i_11_0 : Int32) 25 := (vp_in_iff.mpr ⟨by omega, by omega⟩)
      have hk_13 : (i_11_0 : Int32).toNatClampNeg < 25 := Nat.not_le.mp fun q => hi_13 (Or.inr q)
      refine kk_aald hx hb hK hP 2 1 rfl rfl hi_13 dX2_openAll_53 ?_
      refine W.eq (g2 := F0 m 54 ls [.ref (h6 (i_11_0 : Int32).toNatClampNeg)]) rfl ?_
      refine lv_iload hx hb dX2_openAll_54 (lv_at hl 1 rfl) ?_
      refine lv_lload_n hx hb dX2_openAll_56 rfl (lv_at hl 2 rfl) ?_
      refine lv_lconst (v := 1) hx hb dX2_openAll_57 (by decide) ?_
      refine lv_iload hx hb dX2_openAll_58 (lv_at hl 1 rfl) ?_
      refine lv_lshl hx hb dX2_openAll_60 rfl ?_
      refine lv_topl (fun y_14 e_14 => ?_)
      clear e_14
      refine lv_ldc2 hx hb hown (hts _ (List.mem_of_getElem? (i := 4) rfl)) dX2_openAll_61 ?_
      refine lv_lxor hx hb dX2_openAll_64 ?_
      refine lv_topl (fun y_15 e_15 => ?_)
      clear e_15
      refine lv_land hx hb dX2_openAll_65 ?_
      refine lv_topl (fun y_16 e_16 => ?_)
      clear e_16
      refine va_last hx hb hK hP hD hS _ 2 (kk_getr (kk_getl (kk_rowL hk_13))) rfl (vp_in_iff.mpr ⟨by omega, by omega⟩) dX2_openAll_66 (fun H locs hP hD hS => ?_)
      rw [kk_setr, kk_setl (kk_rowL hk_13), kk_rowsL_set hk_13] at hP hD
      generalize kk_upF f_11_1 (i_11_0 : Int32).toNatClampNeg (vp_updL (f_11_1 (i_11_0 : Int32).toNatClampNeg) (i_3_0 : Int32).toNatClampNeg y_16) = F_17 at hP hD
      have hP : va_P (dC, dI) vwCl (([(h0, kO2 h8 h9 h10 n0_size h11 n0_names n0_plots h2 h3 h4 h12 h13 n0_ways), (h2, kAi cint 40 f_10), (h3, kAr cAlong 25 (fun j => some (h6 j))), (h4, kAr cAlong 5 (fun j => some (h7 j))), (h1, kO9 h5 h14 h15 n1_size), (h5, kAi cint 40 f5)] : va_W) ++ (kk_rowsL h6 clong 40 F_17 25 ++ (kk_rowsL h7 clong 5 F7 5))) H := hP
      have hD : va_D A (([(h0, kO2 h8 h9 h10 n0_size h11 n0_names n0_plots h2 h3 h4 h12 h13 n0_ways), (h2, kAi cint 40 f_10), (h3, kAr cAlong 25 (fun j => some (h6 j))), (h4, kAr cAlong 5 (fun j => some (h7 j))), (h1, kO9 h5 h14 h15 n1_size), (h5, kAi cint 40 f5)] : va_W) ++ (kk_rowsL h6 clong 40 F_17 25 ++ (kk_rowsL h7 clong 5 F7 5))) := hD
      refine lv_iinc (v := (i_11_0 + 1)) hx hb dX2_openAll_67 hl (k := 0) rfl (by first | rfl | decide) (by decide) (rfl : _ = ([(5, .int (i_11_0 + 1)), (4, .int i_3_0), (2, .long y_2), (0, .ref h0), (1, .ref h1)] : List (Nat × Value))) (fun ls hl => ?_)
      refine lv_goto (tgt := 37) hx hb dX2_openAll_70 (by decide) ?_
      try have := kk_add2 (x := i_11_0) (y := 1) (a := i_11_0.toInt) (b := 1) rfl rfl (by omega) (by omega)
      exact ih_11 ((i_11_0 + 1), F_17) _ _ _ (by show ((25 : Int) - ((i_11_0 + 1)).toInt).toNat < ((25 : Int) - i_11_0.toInt).toNat; exact kk_mu (by omega) (by omega)) ⟨(by show 0 ≤ ((i_11_0 + 1) : Int32).toInt ∧ ((i_11_0 + 1) : Int32).toInt ≤ 25; first | decide | ((omega))), hP, hD, hS, lv_sub hl [0, 1, 2, 3, 4] rfl⟩
set_option maxHeartbeats 4000000 in
set_option maxRecDepth 100000 in
theorem g_X2_seat_0 (l : Launch) (dC : Nat → ClassId) (dI : Nat → Nat → Nat) (h0 : Nat) (h1 : Nat) (h2 : Nat) (h3 : Nat) (h4 : Nat) (h5 : Nat) (h6 : Nat) (h7 : Nat) (h8 : Nat) (h9 : Nat) (cint : ClassId) (sz : Nat) (p0 : Int32) (n0_size : Int32) (n0_names : Int32) (n0_plots : Int32) (n0_ways : Int32) (f1 : Nat → Int32) (tn0_size : kk_bx (0 ≤ n0_size.toInt ∧ n0_size.toInt ≤ 10)) (tn0_names : kk_bx (0 ≤ n0_names.toInt ∧ n0_names.toInt ≤ 8)) (tn0_plots : kk_bx (0 ≤ n0_plots.toInt ∧ n0_plots.toInt ≤ 40)) : Met l yX2_seat wsX2_seat ({ frames := 1, cells := 0, slots := 0, locals := 20 }) (va_Pc [.ref h0, .int p0] (fun U => U.heap.size = sz ∧ va_P (dC, dI) vwCl [(h0, kO2 h2 h3 h4 n0_size h1 n0_names n0_plots h5 h6 h7 h8 h9 n0_ways), (h1, kAi cint 8 f1)] U.heap ∧ va_K (dC, dI) vwCl [(cint, .int)] U ∧ va_D (fun _ => True) [(h0, kO2 h2 h3 h4 n0_size h1 n0_names n0_plots h5 h6 h7 h8 h9 n0_ways), (h1, kAi cint 8 f1)])) (va_Qi (fun (r : Int32) (_ : Unit) => (0 ≤ r.toInt ∧ r.toInt ≤ 4)) (fun (_ : Unit) t => va_P (dC, dI) vwCl [(h0, kO2 h2 h3 h4 n0_size h1 n0_names n0_plots h5 h6 h7 h8 h9 n0_ways), (h1, kAi cint 8 f1)] t.heap ∧ va_K (dC, dI) vwCl [] t ∧ va_D (va_A [(h0, kO2 h2 h3 h4 n0_size h1 n0_names n0_plots h5 h6 h7 h8 h9 n0_ways), (h1, kAi cint 8 f1)] sz) [(h0, kO2 h2 h3 h4 n0_size h1 n0_names n0_plots h5 h6 h7 h8 h9 n0_ways), (h1, kAi cint 8 f1)]) (va_A [(h0, kO2 h2 h3 h4 n0_size h1 n0_names n0_plots h5 h6 h7 h8 h9 n0_ways), (h1, kAi cint 8 f1)] sz)) 0 0 (va_A [(h0, kO2 h2 h3 h4 n0_size h1 n0_names n0_plots h5 h6 h7 h8 h9 n0_ways), (h1, kAi cint 8 f1)] sz) := by
  refine Met.ofW (cc := cX2_seat) (maxL := 3) (ret := (some .int)) (by decide) rfl ?_
  intro p e s m args below meth c s₁ B hml hv
  obtain ⟨rfl, hsz, hP, hK, hD0⟩ := hv
  have hx := B.exec
  have hb := B.bytes
  have hr := B.returns
  have hts := atoms_spec (ws := wsX2_seat) B.pre
  have hown : s.vm.findClass RX2 = some m.cls := findClass_of_methodNamed B.named
  have hlocks := B.notSynchronized
  subst hsz
  have hD := hD0.self (sz := s.heap.size)
  generalize hAe : va_A [(h0, kO2 h2 h3 h4 n0_size h1 n0_names n0_plots h5 h6 h7 h8 h9 n0_ways), (h1, kAi cint 8 f1)] s.heap.size = A at hD ⊢
  have hA : ∀ q : Nat, s.heap.size ≤ q → A q := fun q h => by rw [← hAe]; exact Or.inr h
  have hS : va_S A s.heap s.heap [] := va_S.rf
  have hP : va_P (dC, dI) vwCl [(h0, kO2 h2 h3 h4 n0_size h1 n0_names n0_plots h5 h6 h7 h8 h9 n0_ways), (h1, kAi cint 8 f1)] s.heap := hP
  have hl := lv_entry ([.ref h0, .int p0]) (n := 3) (Nat.le_of_ble_eq_true rfl)
  rw [lg_entry_eq]
  generalize (lg_sl ([.ref h0, .int p0]) ++ List.replicate (3 - (lg_sl ([.ref h0, .int p0])).length) Slot.unset).toArray = ls at hl ⊢
  have hl : lv_has ls 3 [(0, .ref h0), (1, .int p0)] := hl
  refine lv_iload_n hx hb dX2_seat_0 rfl (lv_at hl 1 rfl) ?_
  obtain ⟨hPc, hDc, hFc⟩ := kk_cutout (wc := []) hP hD hS hA [] (by decide) rfl
  have hKc := kk_Ks (tq := []) hK [] rfl
  refine va_calli (va_runS (As := [.int p0]) (rest := []) ⟨hx, hb, hml, hown, hts⟩ (g_X2_isName_0 l dC dI s.heap.size p0) (va_cwS 1 hts gX2_seat_X2_isName rfl rfl rfl kh_X2_isName ⟨Nat.le_of_ble_eq_true rfl, Nat.le_of_ble_eq_true rfl⟩) ⟨fun a U g mk q => by obtain ⟨q0, q1, qP, qK, qD⟩ := q; exact ⟨q0, q1, qP, va_K.moved (u := U) (U := U.calling g mk a) (Vm.Alike.refl U.vm) qK, qD⟩, fun U hU hW => ⟨rfl, by rw [hU], by rw [hU]; exact hPc, va_K.moved hW.alike hKc, hDc.weaken (fun _ _ _ _ => trivial)⟩⟩ rfl rfl hl.1 rfl (lv_room (Nat.le_of_ble_eq_true rfl)) dX2_seat_1 ⟨Nat.le_of_ble_eq_true rfl, Nat.le_of_ble_eq_true rfl⟩) hS (fun q _ h => hFc q h) hFc (fun r_1 u t H1 locs ht hvm hw hB hz1 hk1 hS => ?_)
  obtain ⟨hP1, hK1, hD1⟩ := hB
  rw [ht] at hP1
  have hK1 := va_K.moved hvm.symm hK1
  obtain ⟨hP, hD⟩ := va_join (wr := [(h0, kO2 h2 h3 h4 n0_size h1 n0_names n0_plots h5 h6 h7 h8 h9 n0_ways), (h1, kAi cint 8 f1)]) (w1 := []) hP hD [] [0, 1] rfl rfl (by decide) (by decide) hk1 hFc hP1 hD1
  generalize H1 = H at hP hS ⊢
  have hP : va_P (dC, dI) vwCl [(h0, kO2 h2 h3 h4 n0_size h1 n0_names n0_plots h5 h6 h7 h8 h9 n0_ways), (h1, kAi cint 8 f1)] H := hP
  have hD : va_D A [(h0, kO2 h2 h3 h4 n0_size h1 n0_names n0_plots h5 h6 h7 h8 h9 n0_ways), (h1, kAi cint 8 f1)] := hD
  rcases hw with ⟨rfl⟩ | ⟨t_1_0, t_1_1, rfl⟩
  · skip
    refine lv_if_eq (tgt := 16) hx hb dX2_seat_4 (by decide) (fun _ => ?_) (fun c => absurd c (by decide))
    refine lv_iconst (v := 0) hx hb dX2_seat_16 kk_ic_0 ?_
    refine lv_istore_n hx hb dX2_seat_17 rfl hl (by decide) (rfl : _ = ([(2, .int 0), (0, .ref h0), (1, .int p0)] : List (Nat × Value))) (fun ls hl => ?_)
    refine lv_iload_n hx hb dX2_seat_18 rfl (lv_at hl 0 rfl) ?_
    refine lv_if_lt (tgt := 31) hx hb dX2_seat_19 (by decide) (fun c => absurd c (by decide)) (fun _ => ?_)
    refine lv_iload_n hx hb dX2_seat_22 rfl (lv_at hl 0 rfl) ?_
    refine lv_iconst (v := 5) hx hb dX2_seat_23 kk_ic_5 ?_
    refine lv_icmp_ge (tgt := 31) hx hb dX2_seat_24 (by decide) (fun c => absurd c (by decide)) (fun _ => ?_)
    refine lv_iload_n hx hb dX2_seat_27 rfl (lv_at hl 0 rfl) ?_
    refine lv_goto (tgt := 32) hx hb dX2_seat_28 (by decide) ?_
    obtain ⟨hP9, hD9⟩ := kk_leafout (wc := [(h0, kO2 h2 h3 h4 n0_size h1 n0_names n0_plots h5 h6 h7 h8 h9 n0_ways), (h1, kAi cint 8 f1)]) hP hD [0, 1] (by decide) rfl
    have hK9 := kk_Ks (tq := []) hK [] rfl
    exact W.iret (v := 0) hx hb hr (fun t ht hW => ⟨⟨0, (), rfl, (by show 0 ≤ (0 : Int32).toInt ∧ (0 : Int32).toInt ≤ 4; first | decide | ((omega))), by rw [ht]; exact hP9, va_K.moved hW.alike hK9, hD9⟩, hS.F ht⟩) hS.2.2 dX2_seat_32
  · skip
    have t_1_0 : (0 : Int) ≤ p0.toInt := t_1_0
    have t_1_1 : (p0.toInt : Int) < 8 := t_1_1
    refine lv_if_eq (tgt := 16) hx hb dX2_seat_4 (by decide) (fun c => absurd c (by decide)) (fun _ => ?_)
    refine lv_aload_n hx hb dX2_seat_7 rfl (lv_at hl 0 rfl) ?_
    refine va_get (D := (dC, dI)) (ci := 2) (v := .ref h1) (C := RX2) (T := TX2) (N := 13) hx hb hts (fun _ h => List.mem_cons_of_mem _ (List.mem_append_right _ h)) hown hK hP 0 rfl rfl 4 (by decide) (hts (.fieldLink RX2 21 "KinkStreet$Deeds" "seats" "[I") (List.mem_of_getElem? (i := 1) rfl)) (fun _ h9 => h9) rfl dX2_seat_8 ?_
    refine lv_iload_n hx hb dX2_seat_11 rfl (lv_at hl 1 rfl) ?_
    have hi_2 : vp_in p0 8 := (vp_in_iff.mpr ⟨by omega, by omega⟩)
    refine va_iald hx hb hK hP 1 0 rfl rfl hi_2 dX2_seat_12 ?_
    refine lv_topi (fun y_2 e_2 => ?_)
    clear e_2
    refine lv_goto (tgt := 17) hx hb dX2_seat_13 (by decide) ?_
    refine lv_istore_n hx hb dX2_seat_17 rfl hl (by decide) (rfl : _ = ([(2, .int y_2), (0, .ref h0), (1, .int p0)] : List (Nat × Value))) (fun ls hl => ?_)
    refine lv_iload_n hx hb dX2_seat_18 rfl (lv_at hl 0 rfl) ?_
    refine lv_if_lt (tgt := 31) hx hb dX2_seat_19 (by decide) (fun c_3 => ?_) (fun c_3 => ?_)
    · have t_3 : y_2.toInt < 0 := kk_lt c_3
      refine lv_iconst (v := 0) hx hb dX2_seat_31 kk_ic_0 ?_
      obtain ⟨hP9, hD9⟩ := kk_leafout (wc := [(h0, kO2 h2 h3 h4 n0_size h1 n0_names n0_plots h5 h6 h7 h8 h9 n0_ways), (h1, kAi cint 8 f1)]) hP hD [0, 1] (by decide) rfl
      have hK9 := kk_Ks (tq := []) hK [] rfl
      try have := kk_rng y_2
      exact W.iret (v := 0) hx hb hr (fun t ht hW => ⟨⟨0, (), rfl, (by show 0 ≤ (0 : Int32).toInt ∧ (0 : Int32).toInt ≤ 4; first | decide | ((omega))), by rw [ht]; exact hP9, va_K.moved hW.alike hK9, hD9⟩, hS.F ht⟩) hS.2.2 dX2_seat_32
    · have t_3 : 0 ≤ y_2.toInt := kk_nlt c_3
      refine lv_iload_n hx hb dX2_seat_22 rfl (lv_at hl 0 rfl) ?_
      refine lv_iconst (v := 5) hx hb dX2_seat_23 kk_ic_5 ?_
      refine lv_icmp_ge (tgt := 31) hx hb dX2_seat_24 (by decide) (fun c_4 => ?_) (fun c_4 => ?_)
      · have t_4 : 5 ≤ y_2.toInt := kk_le c_4
        refine lv_iconst (v := 0) hx hb dX2_seat_31 kk_ic_0 ?_
        obtain ⟨hP9, hD9⟩ := kk_leafout (wc := [(h0, kO2 h2 h3 h4 n0_size h1 n0_names n0_plots h5 h6 h7 h8 h9 n0_ways), (h1, kAi cint 8 f1)]) hP hD [0, 1] (by decide) rfl
        have hK9 := kk_Ks (tq := []) hK [] rfl
        try have := kk_rng y_2
        exact W.iret (v := 0) hx hb hr (fun t ht hW => ⟨⟨0, (), rfl, (by show 0 ≤ (0 : Int32).toInt ∧ (0 : Int32).toInt ≤ 4; first | decide | ((omega))), by rw [ht]; exact hP9, va_K.moved hW.alike hK9, hD9⟩, hS.F ht⟩) hS.2.2 dX2_seat_32
      · have t_4 : y_2.toInt < 5 := kk_nle c_4
        refine lv_iload_n hx hb dX2_seat_27 rfl (lv_at hl 0 rfl) ?_
        refine lv_goto (tgt := 32) hx hb dX2_seat_28 (by decide) ?_
        obtain ⟨hP9, hD9⟩ := kk_leafout (wc := [(h0, kO2 h2 h3 h4 n0_size h1 n0_names n0_plots h5 h6 h7 h8 h9 n0_ways), (h1, kAi cint 8 f1)]) hP hD [0, 1] (by decide) rfl
        have hK9 := kk_Ks (tq := []) hK [] rfl
        exact W.iret (v := y_2) hx hb hr (fun t ht hW => ⟨⟨y_2, (), rfl, (by show 0 ≤ (y_2 : Int32).toInt ∧ (y_2 : Int32).toInt ≤ 4; first | decide | ((omega))), by rw [ht]; exact hP9, va_K.moved hW.alike hK9, hD9⟩, hS.F ht⟩) hS.2.2 dX2_seat_32
set_option maxHeartbeats 4000000 in
set_option maxRecDepth 100000 in
theorem g_X2_keepDistance_0 (l : Launch) (dC : Nat → ClassId) (dI : Nat → Nat → Nat) (h0 : Nat) (h1 : Nat) (h2 : Nat) (h3 : Nat) (h4 : Nat → Nat) (h5 : Nat → Nat) (h6 : Nat) (h7 : Nat) (h8 : Nat) (h9 : Nat) (h10 : Nat) (h11 : Nat) (cint cAlong clong : ClassId) (sz : Nat) (p0 : Int32) (p1 : Int32) (p2 : Int32) (p3 : Int32) (tp0 : 0 ≤ p0.toInt ∧ p0.toInt ≤ 4) (tp1 : 0 ≤ p1.toInt ∧ p1.toInt ≤ 4) (n0_size : Int32) (n0_names : Int32) (n0_plots : Int32) (n0_ways : Int32) (f1 : Nat → Int32) (F4 : Nat → Nat → Int64) (F5 : Nat → Nat → Int64) (tn0_size : kk_bx (0 ≤ n0_size.toInt ∧ n0_size.toInt ≤ 10)) (tn0_names : kk_bx (0 ≤ n0_names.toInt ∧ n0_names.toInt ≤ 8)) (tn0_plots : 0 ≤ n0_plots.toInt ∧ n0_plots.toInt ≤ 40) : Met l yX2_keepDistance wsX2_keepDistance ({ frames := 1, cells := 0, slots := 0, locals := 21 }) (va_Pc [.ref h0, .int p0, .int p1, .int p2, .int p3] (fun U => U.heap.size = sz ∧ va_P (dC, dI) vwCl (([(h0, kO2 h6 h7 h8 n0_size h9 n0_names n0_plots h1 h2 h3 h10 h11 n0_ways), (h1, kAi cint 40 f1), (h2, kAr cAlong 25 (fun j => some (h4 j))), (h3, kAr cAlong 5 (fun j => some (h5 j)))] : va_W) ++ (kk_rowsL h4 clong 40 F4 25 ++ (kk_rowsL h5 clong 5 F5 5))) U.heap ∧ va_K (dC, dI) vwCl [(cint, .int), (cAlong, .array .long), (clong, .long)] U ∧ va_D (fun _ => True) (([(h0, kO2 h6 h7 h8 n0_size h9 n0_names n0_plots h1 h2 h3 h10 h11 n0_ways), (h1, kAi cint 40 f1), (h2, kAr cAlong 25 (fun j => some (h4 j))), (h3, kAr cAlong 5 (fun j => some (h5 j)))] : va_W) ++ (kk_rowsL h4 clong 40 F4 25 ++ (kk_rowsL h5 clong 5 F5 5))))) (va_Qv (fun (_ : Unit) => True) (fun (_ : Unit) t => ∃ (g4 : Nat → Nat → Int64), va_P (dC, dI) vwCl (([(h0, kO2 h6 h7 h8 n0_size h9 n0_names n0_plots h1 h2 h3 h10 h11 n0_ways), (h1, kAi cint 40 f1), (h2, kAr cAlong 25 (fun j => some (h4 j))), (h3, kAr cAlong 5 (fun j => some (h5 j)))] : va_W) ++ (kk_rowsL h4 clong 40 g4 25 ++ (kk_rowsL h5 clong 5 F5 5))) t.heap ∧ va_K (dC, dI) vwCl [] t ∧ va_D (va_A (([(h0, kO2 h6 h7 h8 n0_size h9 n0_names n0_plots h1 h2 h3 h10 h11 n0_ways), (h1, kAi cint 40 f1), (h2, kAr cAlong 25 (fun j => some (h4 j))), (h3, kAr cAlong 5 (fun j => some (h5 j)))] : va_W) ++ (kk_rowsL h4 clong 40 F4 25 ++ (kk_rowsL h5 clong 5 F5 5))) sz) (([(h0, kO2 h6 h7 h8 n0_size h9 n0_names n0_plots h1 h2 h3 h10 h11 n0_ways), (h1, kAi cint 40 f1), (h2, kAr cAlong 25 (fun j => some (h4 j))), (h3, kAr cAlong 5 (fun j => some (h5 j)))] : va_W) ++ (kk_rowsL h4 clong 40 g4 25 ++ (kk_rowsL h5 clong 5 F5 5)))) (va_A (([(h0, kO2 h6 h7 h8 n0_size h9 n0_names n0_plots h1 h2 h3 h10 h11 n0_ways), (h1, kAi cint 40 f1), (h2, kAr cAlong 25 (fun j => some (h4 j))), (h3, kAr cAlong 5 (fun j => some (h5 j)))] : va_W) ++ (kk_rowsL h4 clong 40 F4 25 ++ (kk_rowsL h5 clong 5 F5 5))) sz)) 0 0 (va_A (([(h0, kO2 h6 h7 h8 n0_size h9 n0_names n0_plots h1 h2 h3 h10 h11 n0_ways), (h1, kAi cint 40 f1), (h2, kAr cAlong 25 (fun j => some (h4 j))), (h3, kAr cAlong 5 (fun j => some (h5 j)))] : va_W) ++ (kk_rowsL h4 clong 40 F4 25 ++ (kk_rowsL h5 clong 5 F5 5))) sz) := by
  refine Met.ofW (cc := cX2_keepDistance) (maxL := 9) (ret := none) (by decide) rfl ?_
  intro p e s m args below meth c s₁ B hml hv
  obtain ⟨rfl, hsz, hP, hK, hD0⟩ := hv
  have hx := B.exec
  have hb := B.bytes
  have hr := B.returns
  have hts := atoms_spec (ws := wsX2_keepDistance) B.pre
  have hown : s.vm.findClass RX2 = some m.cls := findClass_of_methodNamed B.named
  have hlocks := B.notSynchronized
  subst hsz
  have hD := hD0.self (sz := s.heap.size)
  generalize hAe : va_A (([(h0, kO2 h6 h7 h8 n0_size h9 n0_names n0_plots h1 h2 h3 h10 h11 n0_ways), (h1, kAi cint 40 f1), (h2, kAr cAlong 25 (fun j => some (h4 j))), (h3, kAr cAlong 5 (fun j => some (h5 j)))] : va_W) ++ (kk_rowsL h4 clong 40 F4 25 ++ (kk_rowsL h5 clong 5 F5 5))) s.heap.size = A at hD ⊢
  have hA : ∀ q : Nat, s.heap.size ≤ q → A q := fun q h => by rw [← hAe]; exact Or.inr h
  have hS : va_S A s.heap s.heap [] := va_S.rf
  have hP : va_P (dC, dI) vwCl (([(h0, kO2 h6 h7 h8 n0_size h9 n0_names n0_plots h1 h2 h3 h10 h11 n0_ways), (h1, kAi cint 40 f1), (h2, kAr cAlong 25 (fun j => some (h4 j))), (h3, kAr cAlong 5 (fun j => some (h5 j)))] : va_W) ++ (kk_rowsL h4 clong 40 F4 25 ++ (kk_rowsL h5 clong 5 F5 5))) s.heap := hP
  have hl := lv_entry ([.ref h0, .int p0, .int p1, .int p2, .int p3]) (n := 9) (Nat.le_of_ble_eq_true rfl)
  rw [lg_entry_eq]
  generalize (lg_sl ([.ref h0, .int p0, .int p1, .int p2, .int p3]) ++ List.replicate (9 - (lg_sl ([.ref h0, .int p0, .int p1, .int p2, .int p3])).length) Slot.unset).toArray = ls at hl ⊢
  have hl : lv_has ls 9 [(0, .ref h0), (1, .int p0), (2, .int p1), (3, .int p2), (4, .int p3)] := hl
  refine lv_aload_n hx hb dX2_keepDistance_0 rfl (lv_at hl 0 rfl) ?_
  refine va_get (D := (dC, dI)) (ci := 2) (v := .ref h2) (C := RX2) (T := TX2) (N := 13) hx hb hts (fun _ h => List.mem_cons_of_mem _ (List.mem_append_right _ h)) hown hK hP 0 rfl rfl 8 (by decide) (hts (.fieldLink RX2 29 "KinkStreet$Deeds" "fits" "[[J") (List.mem_of_getElem? (i := 1) rfl)) (fun _ h9 => h9) rfl dX2_keepDistance_1 ?_
  refine lv_iload_n hx hb dX2_keepDistance_4 rfl (lv_at hl 1 rfl) ?_
  refine lv_iconst (v := 5) hx hb dX2_keepDistance_5 kk_ic_5 ?_
  refine lv_imul hx hb dX2_keepDistance_6 ?_
  refine lv_iload_n hx hb dX2_keepDistance_7 rfl (lv_at hl 2 rfl) ?_
  refine lv_iadd hx hb dX2_keepDistance_8 ?_
  try have := kk_mul2 (x := p0) (y := 5) (a := p0.toInt) (b := 5) rfl rfl (by omega) (by omega)
  try have := kk_add2 (x := (p0 * 5)) (y := p1) (a := (p0 * 5).toInt) (b := p1.toInt) rfl rfl (by omega) (by omega)
  have hi_1 : vp_in (((p0 * 5) + p1) : Int32) 25 := (vp_in_iff.mpr ⟨by omega, by omega⟩)
  have hk_1 : (((p0 * 5) + p1) : Int32).toNatClampNeg < 25 := Nat.not_le.mp fun q => hi_1 (Or.inr q)
  refine kk_aald hx hb hK hP 2 1 rfl rfl hi_1 dX2_keepDistance_9 ?_
  refine W.eq (g2 := F0 m 10 ls [.ref (h4 (((p0 * 5) + p1) : Int32).toNatClampNeg)]) rfl ?_
  refine lv_astore hx hb dX2_keepDistance_10 hl (by decide) (rfl : _ = ([(5, .ref (h4 (((p0 * 5) + p1) : Int32).toNatClampNeg)), (0, .ref h0), (1, .int p0), (2, .int p1), (3, .int p2), (4, .int p3)] : List (Nat × Value))) (fun ls hl => ?_)
  refine lv_aload_n hx hb dX2_keepDistance_12 rfl (lv_at hl 1 rfl) ?_
  refine va_get (D := (dC, dI)) (ci := 2) (v := .ref h2) (C := RX2) (T := TX2) (N := 13) hx hb hts (fun _ h => List.mem_cons_of_mem _ (List.mem_append_right _ h)) hown hK hP 0 rfl rfl 8 (by decide) (hts (.fieldLink RX2 29 "KinkStreet$Deeds" "fits" "[[J") (List.mem_of_getElem? (i := 1) rfl)) (fun _ h9 => h9) rfl dX2_keepDistance_13 ?_
  refine lv_iload_n hx hb dX2_keepDistance_16 rfl (lv_at hl 3 rfl) ?_
  refine lv_iconst (v := 5) hx hb dX2_keepDistance_17 kk_ic_5 ?_
  refine lv_imul hx hb dX2_keepDistance_18 ?_
  refine lv_iload_n hx hb dX2_keepDistance_19 rfl (lv_at hl 2 rfl) ?_
  refine lv_iadd hx hb dX2_keepDistance_20 ?_
  try have := kk_mul2 (x := p1) (y := 5) (a := p1.toInt) (b := 5) rfl rfl (by omega) (by omega)
  try have := kk_add2 (x := (p1 * 5)) (y := p0) (a := (p1 * 5).toInt) (b := p0.toInt) rfl rfl (by omega) (by omega)
  have hi_2 : vp_in (((p1 * 5) + p0) : Int32) 25 := (vp_in_iff.mpr ⟨by omega, by omega⟩)
  have hk_2 : (((p1 * 5) + p0) : Int32).toNatClampNeg < 25 := Nat.not_le.mp fun q => hi_2 (Or.inr q)
  refine kk_aald hx hb hK hP 2 1 rfl rfl hi_2 dX2_keepDistance_21 ?_
  refine W.eq (g2 := F0 m 22 ls [.ref (h4 (((p1 * 5) + p0) : Int32).toNatClampNeg)]) rfl ?_
  refine lv_astore hx hb dX2_keepDistance_22 hl (by decide) (rfl : _ = ([(6, .ref (h4 (((p1 * 5) + p0) : Int32).toNatClampNeg)), (5, .ref (h4 (((p0 * 5) + p1) : Int32).toNatClampNeg)), (0, .ref h0), (1, .int p0), (2, .int p1), (3, .int p2), (4, .int p3)] : List (Nat × Value))) (fun ls hl => ?_)
  refine lv_iconst (v := 0) hx hb dX2_keepDistance_24 kk_ic_0 ?_
  refine lv_istore hx hb dX2_keepDistance_25 hl (by decide) (rfl : _ = ([(7, .int 0), (6, .ref (h4 (((p1 * 5) + p0) : Int32).toNatClampNeg)), (5, .ref (h4 (((p0 * 5) + p1) : Int32).toNatClampNeg)), (0, .ref h0), (1, .int p0), (2, .int p1), (3, .int p2), (4, .int p3)] : List (Nat × Value))) (fun ls hl => ?_)
  refine kk_loop (σ := Int32 × (Nat → Nat → Int64)) (fun x H locs ls => (0 ≤ x.1.toInt ∧ x.1.toInt ≤ 40) ∧ va_P (dC, dI) vwCl (([(h0, kO2 h6 h7 h8 n0_size h9 n0_names n0_plots h1 h2 h3 h10 h11 n0_ways), (h1, kAi cint 40 f1), (h2, kAr cAlong 25 (fun j => some (h4 j))), (h3, kAr cAlong 5 (fun j => some (h5 j)))] : va_W) ++ (kk_rowsL h4 clong 40 x.2 25 ++ (kk_rowsL h5 clong 5 F5 5))) H ∧ va_D A (([(h0, kO2 h6 h7 h8 n0_size h9 n0_names n0_plots h1 h2 h3 h10 h11 n0_ways), (h1, kAi cint 40 f1), (h2, kAr cAlong 25 (fun j => some (h4 j))), (h3, kAr cAlong 5 (fun j => some (h5 j)))] : va_W) ++ (kk_rowsL h4 clong 40 x.2 25 ++ (kk_rowsL h5 clong 5 F5 5))) ∧ va_S A s.heap H locs ∧ lv_has ls 9 [(7, .int x.1), (6, .ref (h4 (((p1 * 5) + p0) : Int32).toNatClampNeg)), (5, .ref (h4 (((p0 * 5) + p1) : Int32).toNatClampNeg)), (0, .ref h0), (1, .int p0), (2, .int p1), (3, .int p2), (4, .int p3)]) (fun x => ((40 : Int) - x.1.toInt).toNat) ?_ (0, F4) _ _ _ ⟨(by show 0 ≤ (0 : Int32).toInt ∧ (0 : Int32).toInt ≤ 40; first | decide | ((omega))), hP, hD, hS, hl⟩
  rintro ⟨i_3_0, f_3_1⟩ H locs ls ⟨t_3_0, hP, hD, hS, hl⟩ ih_3
  have t_3_0 : (0 ≤ i_3_0.toInt ∧ i_3_0.toInt ≤ 40) := t_3_0
  have hl : lv_has ls 9 [(7, .int i_3_0), (6, .ref (h4 (((p1 * 5) + p0) : Int32).toNatClampNeg)), (5, .ref (h4 (((p0 * 5) + p1) : Int32).toNatClampNeg)), (0, .ref h0), (1, .int p0), (2, .int p1), (3, .int p2), (4, .int p3)] := hl
  have hP : va_P (dC, dI) vwCl (([(h0, kO2 h6 h7 h8 n0_size h9 n0_names n0_plots h1 h2 h3 h10 h11 n0_ways), (h1, kAi cint 40 f1), (h2, kAr cAlong 25 (fun j => some (h4 j))), (h3, kAr cAlong 5 (fun j => some (h5 j)))] : va_W) ++ (kk_rowsL h4 clong 40 f_3_1 25 ++ (kk_rowsL h5 clong 5 F5 5))) H := hP
  have hD : va_D A (([(h0, kO2 h6 h7 h8 n0_size h9 n0_names n0_plots h1 h2 h3 h10 h11 n0_ways), (h1, kAi cint 40 f1), (h2, kAr cAlong 25 (fun j => some (h4 j))), (h3, kAr cAlong 5 (fun j => some (h5 j)))] : va_W) ++ (kk_rowsL h4 clong 40 f_3_1 25 ++ (kk_rowsL h5 clong 5 F5 5))) := hD
  refine lv_iload hx hb dX2_keepDistance_27 (lv_at hl 0 rfl) ?_
  refine lv_aload_n hx hb dX2_keepDistance_29 rfl (lv_at hl 3 rfl) ?_
  refine va_get (D := (dC, dI)) (ci := 2) (v := .int n0_plots) (C := RX2) (T := TX2) (N := 13) hx hb hts (fun _ h => List.mem_cons_of_mem _ (List.mem_append_right _ h)) hown hK hP 0 rfl rfl 6 (by decide) (hts (.fieldLink RX2 67 "KinkStreet$Deeds" "plots" "I") (List.mem_of_getElem? (i := 2) rfl)) (fun _ h9 => h9) rfl dX2_keepDistance_30 ?_
  refine lv_icmp_ge (tgt := 117) hx hb dX2_keepDistance_33 (by decide) (fun c_4 => ?_) (fun c_4 => ?_)
  · have t_4 : n0_plots.toInt ≤ i_3_0.toInt := kk_le c_4
    have hP9 := hP.part (cx := [(h0, kO2 h6 h7 h8 n0_size h9 n0_names n0_plots h1 h2 h3 h10 h11 n0_ways), (h1, kAi cint 40 f1), (h2, kAr cAlong 25 (fun j => some (h4 j))), (h3, kAr cAlong 5 (fun j => some (h5 j)))]) [0, 1, 2, 3] rfl
    have hD9 := hD.part (cx := [(h0, kO2 h6 h7 h8 n0_size h9 n0_names n0_plots h1 h2 h3 h10 h11 n0_ways), (h1, kAi cint 40 f1), (h2, kAr cAlong 25 (fun j => some (h4 j))), (h3, kAr cAlong 5 (fun j => some (h5 j)))]) [0, 1, 2, 3] (by decide) rfl
    have hK9 := kk_Ks (tq := []) hK [] rfl
    exact W.vret hx hb hr (fun t ht hW => ⟨⟨(), rfl, trivial, f_3_1, by rw [ht]; exact hP9, va_K.moved hW.alike hK9, hD9⟩, hS.F ht⟩) hS.2.2 dX2_keepDistance_117
  · have t_4 : i_3_0.toInt < n0_plots.toInt := kk_nle c_4
    refine lv_iconst (v := 0) hx hb dX2_keepDistance_36 kk_ic_0 ?_
    refine lv_istore hx hb dX2_keepDistance_37 hl (by decide) (rfl : _ = ([(8, .int 0), (7, .int i_3_0), (6, .ref (h4 (((p1 * 5) + p0) : Int32).toNatClampNeg)), (5, .ref (h4 (((p0 * 5) + p1) : Int32).toNatClampNeg)), (0, .ref h0), (1, .int p0), (2, .int p1), (3, .int p2), (4, .int p3)] : List (Nat × Value))) (fun ls hl => ?_)
    refine kk_loop (σ := Int32 × (Nat → Nat → Int64)) (fun x H locs ls => (0 ≤ x.1.toInt ∧ x.1.toInt ≤ 40) ∧ va_P (dC, dI) vwCl (([(h0, kO2 h6 h7 h8 n0_size h9 n0_names n0_plots h1 h2 h3 h10 h11 n0_ways), (h1, kAi cint 40 f1), (h2, kAr cAlong 25 (fun j => some (h4 j))), (h3, kAr cAlong 5 (fun j => some (h5 j)))] : va_W) ++ (kk_rowsL h4 clong 40 x.2 25 ++ (kk_rowsL h5 clong 5 F5 5))) H ∧ va_D A (([(h0, kO2 h6 h7 h8 n0_size h9 n0_names n0_plots h1 h2 h3 h10 h11 n0_ways), (h1, kAi cint 40 f1), (h2, kAr cAlong 25 (fun j => some (h4 j))), (h3, kAr cAlong 5 (fun j => some (h5 j)))] : va_W) ++ (kk_rowsL h4 clong 40 x.2 25 ++ (kk_rowsL h5 clong 5 F5 5))) ∧ va_S A s.heap H locs ∧ lv_has ls 9 [(8, .int x.1), (7, .int i_3_0), (6, .ref (h4 (((p1 * 5) + p0) : Int32).toNatClampNeg)), (5, .ref (h4 (((p0 * 5) + p1) : Int32).toNatClampNeg)), (0, .ref h0), (1, .int p0), (2, .int p1), (3, .int p2), (4, .int p3)]) (fun x => ((40 : Int) - x.1.toInt).toNat) ?_ (0, f_3_1) _ _ _ ⟨(by show 0 ≤ (0 : Int32).toInt ∧ (0 : Int32).toInt ≤ 40; first | decide | ((omega))), hP, hD, hS, hl⟩
    rintro ⟨i_5_0, f_5_1⟩ H locs ls ⟨t_5_0, hP, hD, hS, hl⟩ ih_5
    have t_5_0 : (0 ≤ i_5_0.toInt ∧ i_5_0.toInt ≤ 40) := t_5_0
    have hl : lv_has ls 9 [(8, .int i_5_0), (7, .int i_3_0), (6, .ref (h4 (((p1 * 5) + p0) : Int32).toNatClampNeg)), (5, .ref (h4 (((p0 * 5) + p1) : Int32).toNatClampNeg)), (0, .ref h0), (1, .int p0), (2, .int p1), (3, .int p2), (4, .int p3)] := hl
    have hP : va_P (dC, dI) vwCl (([(h0, kO2 h6 h7 h8 n0_size h9 n0_names n0_plots h1 h2 h3 h10 h11 n0_ways), (h1, kAi cint 40 f1), (h2, kAr cAlong 25 (fun j => some (h4 j))), (h3, kAr cAlong 5 (fun j => some (h5 j)))] : va_W) ++ (kk_rowsL h4 clong 40 f_5_1 25 ++ (kk_rowsL h5 clong 5 F5 5))) H := hP
    have hD : va_D A (([(h0, kO2 h6 h7 h8 n0_size h9 n0_names n0_plots h1 h2 h3 h10 h11 n0_ways), (h1, kAi cint 40 f1), (h2, kAr cAlong 25 (fun j => some (h4 j))), (h3, kAr cAlong 5 (fun j => some (h5 j)))] : va_W) ++ (kk_rowsL h4 clong 40 f_5_1 25 ++ (kk_rowsL h5 clong 5 F5 5))) := hD
    refine lv_iload hx hb dX2_keepDistance_39 (lv_at hl 0 rfl) ?_
    refine lv_aload_n hx hb dX2_keepDistance_41 rfl (lv_at hl 4 rfl) ?_
    refine va_get (D := (dC, dI)) (ci := 2) (v := .int n0_plots) (C := RX2) (T := TX2) (N := 13) hx hb hts (fun _ h => List.mem_cons_of_mem _ (List.mem_append_right _ h)) hown hK hP 0 rfl rfl 6 (by decide) (hts (.fieldLink RX2 67 "KinkStreet$Deeds" "plots" "I") (List.mem_of_getElem? (i := 2) rfl)) (fun _ h9 => h9) rfl dX2_keepDistance_42 ?_
    refine lv_icmp_ge (tgt := 111) hx hb dX2_keepDistance_45 (by decide) (fun c_6 => ?_) (fun c_6 => ?_)
    · have t_6 : n0_plots.toInt ≤ i_5_0.toInt := kk_le c_6
      refine lv_iinc (v := (i_3_0 + 1)) hx hb dX2_keepDistance_111 hl (k := 1) rfl (by first | rfl | decide) (by decide) (rfl : _ = ([(7, .int (i_3_0 + 1)), (8, .int i_5_0), (6, .ref (h4 (((p1 * 5) + p0) : Int32).toNatClampNeg)), (5, .ref (h4 (((p0 * 5) + p1) : Int32).toNatClampNeg)), (0, .ref h0), (1, .int p0), (2, .int p1), (3, .int p2), (4, .int p3)] : List (Nat × Value))) (fun ls hl => ?_)
      refine lv_goto (tgt := 27) hx hb dX2_keepDistance_114 (by decide) ?_
      try have := kk_add2 (x := i_3_0) (y := 1) (a := i_3_0.toInt) (b := 1) rfl rfl (by omega) (by omega)
      exact ih_3 ((i_3_0 + 1), f_5_1) _ _ _ (by show ((40 : Int) - ((i_3_0 + 1)).toInt).toNat < ((40 : Int) - i_3_0.toInt).toNat; exact kk_mu (by omega) (by omega)) ⟨(by show 0 ≤ ((i_3_0 + 1) : Int32).toInt ∧ ((i_3_0 + 1) : Int32).toInt ≤ 40; first | decide | ((omega))), hP, hD, hS, lv_sub hl [0, 2, 3, 4, 5, 6, 7, 8] rfl⟩
    · have t_6 : i_5_0.toInt < n0_plots.toInt := kk_nle c_6
      refine lv_iload_n hx hb dX2_keepDistance_48 rfl (lv_at hl 7 rfl) ?_
      refine lv_aload_n hx hb dX2_keepDistance_49 rfl (lv_at hl 4 rfl) ?_
      refine va_get (D := (dC, dI)) (ci := 2) (v := .ref h1) (C := RX2) (T := TX2) (N := 13) hx hb hts (fun _ h => List.mem_cons_of_mem _ (List.mem_append_right _ h)) hown hK hP 0 rfl rfl 7 (by decide) (hts (.fieldLink RX2 24 "KinkStreet$Deeds" "begins" "[I") (List.mem_of_getElem? (i := 3) rfl)) (fun _ h9 => h9) rfl dX2_keepDistance_50 ?_
      refine lv_iload hx hb dX2_keepDistance_53 (lv_at hl 1 rfl) ?_
      have hi_7 : vp_in i_3_0 40 := (vp_in_iff.mpr ⟨by omega, by omega⟩)
      refine va_iald hx hb hK hP 1 0 rfl rfl hi_7 dX2_keepDistance_55 ?_
      refine lv_topi (fun y_7 e_7 => ?_)
      clear e_7
      refine lv_aload_n hx hb dX2_keepDistance_56 rfl (lv_at hl 4 rfl) ?_
      refine va_get (D := (dC, dI)) (ci := 2) (v := .ref h1) (C := RX2) (T := TX2) (N := 13) hx hb hts (fun _ h => List.mem_cons_of_mem _ (List.mem_append_right _ h)) hown hK hP 0 rfl rfl 7 (by decide) (hts (.fieldLink RX2 24 "KinkStreet$Deeds" "begins" "[I") (List.mem_of_getElem? (i := 3) rfl)) (fun _ h9 => h9) rfl dX2_keepDistance_57 ?_
      refine lv_iload hx hb dX2_keepDistance_60 (lv_at hl 0 rfl) ?_
      have hi_8 : vp_in i_5_0 40 := (vp_in_iff.mpr ⟨by omega, by omega⟩)
      refine va_iald hx hb hK hP 1 0 rfl rfl hi_8 dX2_keepDistance_62 ?_
      refine lv_topi (fun y_8 e_8 => ?_)
      clear e_8
      refine lv_isub hx hb dX2_keepDistance_63 ?_
      refine lv_isub hx hb dX2_keepDistance_64 ?_
      refine va_mabs hx hb (hml.trans hl.1.symm) hown (hts (.methodLink RX2 101 Lib.Math.abs.name) (List.mem_of_getElem? (i := 4) rfl)) (hts (.static Lib.Math.abs.name) (List.mem_of_getElem? (i := 5) rfl)) (hts (.initialized "java/lang/Math") (List.mem_of_getElem? (i := 6) rfl)) (hts (.code Lib.Math.abs.name Lib.Math.abs.code 1 (some .int)) (List.mem_of_getElem? (i := 7) rfl)) (Nat.le_of_ble_eq_true rfl) (Nat.le_of_ble_eq_true rfl) (Nat.le_of_ble_eq_true rfl) (Nat.le_of_ble_eq_true rfl) dX2_keepDistance_65 ?_
      refine lv_topi (fun y_9 e_9 => ?_)
      clear e_9
      refine lv_iload hx hb dX2_keepDistance_68 (lv_at hl 8 rfl) ?_
      refine lv_icmp_le (tgt := 105) hx hb dX2_keepDistance_70 (by decide) (fun c_10 => ?_) (fun c_10 => ?_)
      · have t_10 : y_9.toInt ≤ p3.toInt := kk_le c_10
        refine lv_iinc (v := (i_5_0 + 1)) hx hb dX2_keepDistance_105 hl (k := 0) rfl (by first | rfl | decide) (by decide) (rfl : _ = ([(8, .int (i_5_0 + 1)), (7, .int i_3_0), (6, .ref (h4 (((p1 * 5) + p0) : Int32).toNatClampNeg)), (5, .ref (h4 (((p0 * 5) + p1) : Int32).toNatClampNeg)), (0, .ref h0), (1, .int p0), (2, .int p1), (3, .int p2), (4, .int p3)] : List (Nat × Value))) (fun ls hl => ?_)
        refine lv_goto (tgt := 39) hx hb dX2_keepDistance_108 (by decide) ?_
        try have := kk_rng y_9
        try have := kk_rng p3
        try have := kk_add2 (x := i_5_0) (y := 1) (a := i_5_0.toInt) (b := 1) rfl rfl (by omega) (by omega)
        exact ih_5 ((i_5_0 + 1), f_5_1) _ _ _ (by show ((40 : Int) - ((i_5_0 + 1)).toInt).toNat < ((40 : Int) - i_5_0.toInt).toNat; exact kk_mu (by omega) (by omega)) ⟨(by show 0 ≤ ((i_5_0 + 1) : Int32).toInt ∧ ((i_5_0 + 1) : Int32).toInt ≤ 40; first | decide | ((omega))), hP, hD, hS, lv_sub hl [0, 1, 2, 3, 4, 5, 6, 7, 8] rfl⟩
      · have t_10 : p3.toInt < y_9.toInt := kk_nle c_10
        refine lv_aload hx hb dX2_keepDistance_73 (lv_at hl 3 rfl) ?_
        refine lv_iload hx hb dX2_keepDistance_75 (lv_at hl 1 rfl) ?_
        refine lv_dup2_11 hx hb dX2_keepDistance_77 rfl rfl ?_
        try have := kk_rng p3
        try have := kk_rng y_9
        refine va_lald hx hb hK hP _ 2 (kk_getr (kk_getl (kk_rowL hk_1))) rfl (vp_in_iff.mpr ⟨by omega, by omega⟩) dX2_keepDistance_78 ?_
        refine lv_topl (fun y_11 e_11 => ?_)
        clear e_11
        refine lv_lconst (v := 1) hx hb dX2_keepDistance_79 (by decide) ?_
        refine lv_iload hx hb dX2_keepDistance_80 (lv_at hl 0 rfl) ?_
        refine lv_lshl hx hb dX2_keepDistance_82 rfl ?_
        refine lv_topl (fun y_12 e_12 => ?_)
        clear e_12
        refine lv_ldc2 hx hb hown (hts _ (List.mem_of_getElem? (i := 8) rfl)) dX2_keepDistance_83 ?_
        refine lv_lxor hx hb dX2_keepDistance_86 ?_
        refine lv_topl (fun y_13 e_13 => ?_)
        clear e_13
        refine lv_land hx hb dX2_keepDistance_87 ?_
        refine lv_topl (fun y_14 e_14 => ?_)
        clear e_14
        refine va_last hx hb hK hP hD hS _ 2 (kk_getr (kk_getl (kk_rowL hk_1))) rfl (vp_in_iff.mpr ⟨by omega, by omega⟩) dX2_keepDistance_88 (fun H locs hP hD hS => ?_)
        rw [kk_setr, kk_setl (kk_rowL hk_1), kk_rowsL_set hk_1] at hP hD
        generalize kk_upF f_5_1 (((p0 * 5) + p1) : Int32).toNatClampNeg (vp_updL (f_5_1 (((p0 * 5) + p1) : Int32).toNatClampNeg) (i_3_0 : Int32).toNatClampNeg y_14) = F_15 at hP hD
        have hP : va_P (dC, dI) vwCl (([(h0, kO2 h6 h7 h8 n0_size h9 n0_names n0_plots h1 h2 h3 h10 h11 n0_ways), (h1, kAi cint 40 f1), (h2, kAr cAlong 25 (fun j => some (h4 j))), (h3, kAr cAlong 5 (fun j => some (h5 j)))] : va_W) ++ (kk_rowsL h4 clong 40 F_15 25 ++ (kk_rowsL h5 clong 5 F5 5))) H := hP
        have hD : va_D A (([(h0, kO2 h6 h7 h8 n0_size h9 n0_names n0_plots h1 h2 h3 h10 h11 n0_ways), (h1, kAi cint 40 f1), (h2, kAr cAlong 25 (fun j => some (h4 j))), (h3, kAr cAlong 5 (fun j => some (h5 j)))] : va_W) ++ (kk_rowsL h4 clong 40 F_15 25 ++ (kk_rowsL h5 clong 5 F5 5))) := hD
        refine lv_aload hx hb dX2_keepDistance_89 (lv_at hl 2 rfl) ?_
        refine lv_iload hx hb dX2_keepDistance_91 (lv_at hl 0 rfl) ?_
        refine lv_dup2_11 hx hb dX2_keepDistance_93 rfl rfl ?_
        refine va_lald hx hb hK hP _ 2 (kk_getr (kk_getl (kk_rowL hk_2))) rfl (vp_in_iff.mpr ⟨by omega, by omega⟩) dX2_keepDistance_94 ?_
        refine lv_topl (fun y_16 e_16 => ?_)
        clear e_16
        refine lv_lconst (v := 1) hx hb dX2_keepDistance_95 (by decide) ?_
        refine lv_iload hx hb dX2_keepDistance_96 (lv_at hl 1 rfl) ?_
        refine lv_lshl hx hb dX2_keepDistance_98 rfl ?_
        refine lv_topl (fun y_17 e_17 => ?_)
        clear e_17
        refine lv_ldc2 hx hb hown (hts _ (List.mem_of_getElem? (i := 8) rfl)) dX2_keepDistance_99 ?_
        refine lv_lxor hx hb dX2_keepDistance_102 ?_
        refine lv_topl (fun y_18 e_18 => ?_)
        clear e_18
        refine lv_land hx hb dX2_keepDistance_103 ?_
        refine lv_topl (fun y_19 e_19 => ?_)
        clear e_19
        refine va_last hx hb hK hP hD hS _ 2 (kk_getr (kk_getl (kk_rowL hk_2))) rfl (vp_in_iff.mpr ⟨by omega, by omega⟩) dX2_keepDistance_104 (fun H locs hP hD hS => ?_)
        rw [kk_setr, kk_setl (kk_rowL hk_2), kk_rowsL_set hk_2] at hP hD
        generalize kk_upF F_15 (((p1 * 5) + p0) : Int32).toNatClampNeg (vp_updL (F_15 (((p1 * 5) + p0) : Int32).toNatClampNeg) (i_5_0 : Int32).toNatClampNeg y_19) = F_20 at hP hD
        have hP : va_P (dC, dI) vwCl (([(h0, kO2 h6 h7 h8 n0_size h9 n0_names n0_plots h1 h2 h3 h10 h11 n0_ways), (h1, kAi cint 40 f1), (h2, kAr cAlong 25 (fun j => some (h4 j))), (h3, kAr cAlong 5 (fun j => some (h5 j)))] : va_W) ++ (kk_rowsL h4 clong 40 F_20 25 ++ (kk_rowsL h5 clong 5 F5 5))) H := hP
        have hD : va_D A (([(h0, kO2 h6 h7 h8 n0_size h9 n0_names n0_plots h1 h2 h3 h10 h11 n0_ways), (h1, kAi cint 40 f1), (h2, kAr cAlong 25 (fun j => some (h4 j))), (h3, kAr cAlong 5 (fun j => some (h5 j)))] : va_W) ++ (kk_rowsL h4 clong 40 F_20 25 ++ (kk_rowsL h5 clong 5 F5 5))) := hD
        refine lv_iinc (v := (i_5_0 + 1)) hx hb dX2_keepDistance_105 hl (k := 0) rfl (by first | rfl | decide) (by decide) (rfl : _ = ([(8, .int (i_5_0 + 1)), (7, .int i_3_0), (6, .ref (h4 (((p1 * 5) + p0) : Int32).toNatClampNeg)), (5, .ref (h4 (((p0 * 5) + p1) : Int32).toNatClampNeg)), (0, .ref h0), (1, .int p0), (2, .int p1), (3, .int p2), (4, .int p3)] : List (Nat × Value))) (fun ls hl => ?_)
        refine lv_goto (tgt := 39) hx hb dX2_keepDistance_108 (by decide) ?_
        try have := kk_add2 (x := i_5_0) (y := 1) (a := i_5_0.toInt) (b := 1) rfl rfl (by omega) (by omega)
        exact ih_5 ((i_5_0 + 1), F_20) _ _ _ (by show ((40 : Int) - ((i_5_0 + 1)).toInt).toNat < ((40 : Int) - i_5_0.toInt).toNat; exact kk_mu (by omega) (by omega)) ⟨(by show 0 ≤ ((i_5_0 + 1) : Int32).toInt ∧ ((i_5_0 + 1) : Int32).toInt ≤ 40; first | decide | ((omega))), hP, hD, hS, lv_sub hl [0, 1, 2, 3, 4, 5, 6, 7, 8] rfl⟩
set_option maxHeartbeats 4000000 in
set_option maxRecDepth 100000 in
theorem g_X2_keepPlace_0 (l : Launch) (dC : Nat → ClassId) (dI : Nat → Nat → Nat) (h0 : Nat) (h1 : Nat) (h2 : Nat) (h3 : Nat → Nat) (h4 : Nat → Nat) (h5 : Nat) (h6 : Nat) (h7 : Nat) (h8 : Nat) (h9 : Nat) (h10 : Nat) (h11 : Nat) (cAlong clong : ClassId) (sz : Nat) (p0 : Int32) (p1 : Int32) (tp0 : 0 ≤ p0.toInt ∧ p0.toInt ≤ 4) (n0_size : Int32) (n0_names : Int32) (n0_plots : Int32) (n0_ways : Int32) (F3 : Nat → Nat → Int64) (F4 : Nat → Nat → Int64) (tn0_size : kk_bx (0 ≤ n0_size.toInt ∧ n0_size.toInt ≤ 10)) (tn0_names : kk_bx (0 ≤ n0_names.toInt ∧ n0_names.toInt ≤ 8)) (tn0_plots : kk_bx (0 ≤ n0_plots.toInt ∧ n0_plots.toInt ≤ 40)) : Met l yX2_keepPlace wsX2_keepPlace ({ frames := 0, cells := 0, slots := 0, locals := 0 }) (va_Pc [.ref h0, .int p0, .int p1] (fun U => U.heap.size = sz ∧ va_P (dC, dI) vwCl (([(h0, kO2 h5 h6 h7 n0_size h8 n0_names n0_plots h9 h1 h2 h10 h11 n0_ways), (h1, kAr cAlong 25 (fun j => some (h3 j))), (h2, kAr cAlong 5 (fun j => some (h4 j)))] : va_W) ++ (kk_rowsL h3 clong 40 F3 25 ++ (kk_rowsL h4 clong 5 F4 5))) U.heap ∧ va_K (dC, dI) vwCl [(cAlong, .array .long), (clong, .long)] U ∧ va_D (fun _ => True) (([(h0, kO2 h5 h6 h7 n0_size h8 n0_names n0_plots h9 h1 h2 h10 h11 n0_ways), (h1, kAr cAlong 25 (fun j => some (h3 j))), (h2, kAr cAlong 5 (fun j => some (h4 j)))] : va_W) ++ (kk_rowsL h3 clong 40 F3 25 ++ (kk_rowsL h4 clong 5 F4 5))))) (va_Qv (fun (_ : Unit) => True) (fun (_ : Unit) t => ∃ (g4 : Nat → Nat → Int64), va_P (dC, dI) vwCl (([(h0, kO2 h5 h6 h7 n0_size h8 n0_names n0_plots h9 h1 h2 h10 h11 n0_ways), (h1, kAr cAlong 25 (fun j => some (h3 j))), (h2, kAr cAlong 5 (fun j => some (h4 j)))] : va_W) ++ (kk_rowsL h3 clong 40 F3 25 ++ (kk_rowsL h4 clong 5 g4 5))) t.heap ∧ va_K (dC, dI) vwCl [] t ∧ va_D (va_A (([(h0, kO2 h5 h6 h7 n0_size h8 n0_names n0_plots h9 h1 h2 h10 h11 n0_ways), (h1, kAr cAlong 25 (fun j => some (h3 j))), (h2, kAr cAlong 5 (fun j => some (h4 j)))] : va_W) ++ (kk_rowsL h3 clong 40 F3 25 ++ (kk_rowsL h4 clong 5 F4 5))) sz) (([(h0, kO2 h5 h6 h7 n0_size h8 n0_names n0_plots h9 h1 h2 h10 h11 n0_ways), (h1, kAr cAlong 25 (fun j => some (h3 j))), (h2, kAr cAlong 5 (fun j => some (h4 j)))] : va_W) ++ (kk_rowsL h3 clong 40 F3 25 ++ (kk_rowsL h4 clong 5 g4 5)))) (va_A (([(h0, kO2 h5 h6 h7 n0_size h8 n0_names n0_plots h9 h1 h2 h10 h11 n0_ways), (h1, kAr cAlong 25 (fun j => some (h3 j))), (h2, kAr cAlong 5 (fun j => some (h4 j)))] : va_W) ++ (kk_rowsL h3 clong 40 F3 25 ++ (kk_rowsL h4 clong 5 F4 5))) sz)) 0 0 (va_A (([(h0, kO2 h5 h6 h7 n0_size h8 n0_names n0_plots h9 h1 h2 h10 h11 n0_ways), (h1, kAr cAlong 25 (fun j => some (h3 j))), (h2, kAr cAlong 5 (fun j => some (h4 j)))] : va_W) ++ (kk_rowsL h3 clong 40 F3 25 ++ (kk_rowsL h4 clong 5 F4 5))) sz) := by
  refine Met.ofW (cc := cX2_keepPlace) (maxL := 3) (ret := none) (by decide) rfl ?_
  intro p e s m args below meth c s₁ B hml hv
  obtain ⟨rfl, hsz, hP, hK, hD0⟩ := hv
  have hx := B.exec
  have hb := B.bytes
  have hr := B.returns
  have hts := atoms_spec (ws := wsX2_keepPlace) B.pre
  have hown : s.vm.findClass RX2 = some m.cls := findClass_of_methodNamed B.named
  have hlocks := B.notSynchronized
  subst hsz
  have hD := hD0.self (sz := s.heap.size)
  generalize hAe : va_A (([(h0, kO2 h5 h6 h7 n0_size h8 n0_names n0_plots h9 h1 h2 h10 h11 n0_ways), (h1, kAr cAlong 25 (fun j => some (h3 j))), (h2, kAr cAlong 5 (fun j => some (h4 j)))] : va_W) ++ (kk_rowsL h3 clong 40 F3 25 ++ (kk_rowsL h4 clong 5 F4 5))) s.heap.size = A at hD ⊢
  have hA : ∀ q : Nat, s.heap.size ≤ q → A q := fun q h => by rw [← hAe]; exact Or.inr h
  have hS : va_S A s.heap s.heap [] := va_S.rf
  have hP : va_P (dC, dI) vwCl (([(h0, kO2 h5 h6 h7 n0_size h8 n0_names n0_plots h9 h1 h2 h10 h11 n0_ways), (h1, kAr cAlong 25 (fun j => some (h3 j))), (h2, kAr cAlong 5 (fun j => some (h4 j)))] : va_W) ++ (kk_rowsL h3 clong 40 F3 25 ++ (kk_rowsL h4 clong 5 F4 5))) s.heap := hP
  have hl := lv_entry ([.ref h0, .int p0, .int p1]) (n := 3) (Nat.le_of_ble_eq_true rfl)
  rw [lg_entry_eq]
  generalize (lg_sl ([.ref h0, .int p0, .int p1]) ++ List.replicate (3 - (lg_sl ([.ref h0, .int p0, .int p1])).length) Slot.unset).toArray = ls at hl ⊢
  have hl : lv_has ls 3 [(0, .ref h0), (1, .int p0), (2, .int p1)] := hl
  refine lv_aload_n hx hb dX2_keepPlace_0 rfl (lv_at hl 0 rfl) ?_
  refine va_get (D := (dC, dI)) (ci := 2) (v := .ref h2) (C := RX2) (T := TX2) (N := 13) hx hb hts (fun _ h => List.mem_cons_of_mem _ (List.mem_append_right _ h)) hown hK hP 0 rfl rfl 9 (by decide) (hts (.fieldLink RX2 32 "KinkStreet$Deeds" "open" "[[J") (List.mem_of_getElem? (i := 1) rfl)) (fun _ h9 => h9) rfl dX2_keepPlace_1 ?_
  refine lv_iconst (v := 0) hx hb dX2_keepPlace_4 kk_ic_0 ?_
  have hi_1 : vp_in (0 : Int32) 5 := (by unfold vp_in; decide)
  have hk_1 : (0 : Int32).toNatClampNeg < 5 := Nat.not_le.mp fun q => hi_1 (Or.inr q)
  refine kk_aald hx hb hK hP 2 0 rfl rfl hi_1 dX2_keepPlace_5 ?_
  refine W.eq (g2 := F0 m 6 ls [.ref (h4 (0 : Int32).toNatClampNeg)]) rfl ?_
  refine lv_iload_n hx hb dX2_keepPlace_6 rfl (lv_at hl 1 rfl) ?_
  refine lv_dup2_11 hx hb dX2_keepPlace_7 rfl rfl ?_
  refine va_lald hx hb hK hP _ 1 (kk_getr (kk_getr (kk_rowL hk_1))) rfl (vp_in_iff.mpr ⟨by omega, by omega⟩) dX2_keepPlace_8 ?_
  refine lv_topl (fun y_2 e_2 => ?_)
  clear e_2
  refine lv_lconst (v := 1) hx hb dX2_keepPlace_9 (by decide) ?_
  refine lv_iload_n hx hb dX2_keepPlace_10 rfl (lv_at hl 2 rfl) ?_
  refine lv_lshl hx hb dX2_keepPlace_11 rfl ?_
  refine lv_topl (fun y_3 e_3 => ?_)
  clear e_3
  refine lv_land hx hb dX2_keepPlace_12 ?_
  refine lv_topl (fun y_4 e_4 => ?_)
  clear e_4
  refine va_last hx hb hK hP hD hS _ 1 (kk_getr (kk_getr (kk_rowL hk_1))) rfl (vp_in_iff.mpr ⟨by omega, by omega⟩) dX2_keepPlace_13 (fun H locs hP hD hS => ?_)
  rw [kk_setr, kk_setr, kk_rowsL_set hk_1] at hP hD
  generalize kk_upF F4 (0 : Int32).toNatClampNeg (vp_updL (F4 (0 : Int32).toNatClampNeg) (p0 : Int32).toNatClampNeg y_4) = F_5 at hP hD
  have hP : va_P (dC, dI) vwCl (([(h0, kO2 h5 h6 h7 n0_size h8 n0_names n0_plots h9 h1 h2 h10 h11 n0_ways), (h1, kAr cAlong 25 (fun j => some (h3 j))), (h2, kAr cAlong 5 (fun j => some (h4 j)))] : va_W) ++ (kk_rowsL h3 clong 40 F3 25 ++ (kk_rowsL h4 clong 5 F_5 5))) H := hP
  have hD : va_D A (([(h0, kO2 h5 h6 h7 n0_size h8 n0_names n0_plots h9 h1 h2 h10 h11 n0_ways), (h1, kAr cAlong 25 (fun j => some (h3 j))), (h2, kAr cAlong 5 (fun j => some (h4 j)))] : va_W) ++ (kk_rowsL h3 clong 40 F3 25 ++ (kk_rowsL h4 clong 5 F_5 5))) := hD
  have hP9 := hP.part (cx := [(h0, kO2 h5 h6 h7 n0_size h8 n0_names n0_plots h9 h1 h2 h10 h11 n0_ways), (h1, kAr cAlong 25 (fun j => some (h3 j))), (h2, kAr cAlong 5 (fun j => some (h4 j)))]) [0, 1, 2] rfl
  have hD9 := hD.part (cx := [(h0, kO2 h5 h6 h7 n0_size h8 n0_names n0_plots h9 h1 h2 h10 h11 n0_ways), (h1, kAr cAlong 25 (fun j => some (h3 j))), (h2, kAr cAlong 5 (fun j => some (h4 j)))]) [0, 1, 2] (by decide) rfl
  have hK9 := kk_Ks (tq := []) hK [] rfl
  exact W.vret hx hb hr (fun t ht hW => ⟨⟨(), rfl, trivial, F_5, by rw [ht]; exact hP9, va_K.moved hW.alike hK9, hD9⟩, hS.F ht⟩) hS.2.2 dX2_keepPlace_14
set_option maxHeartbeats 4000000 in
set_option maxRecDepth 100000 in
theorem g_X2_narrow_0 (l : Launch) (dC : Nat → ClassId) (dI : Nat → Nat → Nat) (h0 : Nat) (h1 : Nat) (h2 : Nat) (h3 : Nat → Nat) (h4 : Nat → Nat) (h5 : Nat) (h6 : Nat) (h7 : Nat) (h8 : Nat) (h9 : Nat) (h10 : Nat) (h11 : Nat) (cAlong clong : ClassId) (sz : Nat) (p1 : Int32) (tp1 : 0 ≤ p1.toInt ∧ p1.toInt ≤ 39) (n0_size : Int32) (n0_names : Int32) (n0_plots : Int32) (n0_ways : Int32) (F3 : Nat → Nat → Int64) (F4 : Nat → Nat → Int64) (tn0_size : kk_bx (0 ≤ n0_size.toInt ∧ n0_size.toInt ≤ 10)) (tn0_names : 1 ≤ n0_names.toInt ∧ n0_names.toInt ≤ 5) (tn0_plots : kk_bx (0 ≤ n0_plots.toInt ∧ n0_plots.toInt ≤ 40)) : Met l yX2_narrow wsX2_narrow ({ frames := 0, cells := 0, slots := 0, locals := 0 }) (va_Pc [.ref h0, .int 0, .int p1] (fun U => U.heap.size = sz ∧ va_P (dC, dI) vwCl (([(h0, kO2 h5 h6 h7 n0_size h8 n0_names n0_plots h9 h1 h2 h10 h11 n0_ways), (h1, kAr cAlong 25 (fun j => some (h3 j))), (h2, kAr cAlong 5 (fun j => some (h4 j)))] : va_W) ++ (kk_rowsL h3 clong 40 F3 25 ++ (kk_rowsL h4 clong 5 F4 5))) U.heap ∧ va_K (dC, dI) vwCl [(cAlong, .array .long), (clong, .long)] U ∧ va_D (fun _ => True) (([(h0, kO2 h5 h6 h7 n0_size h8 n0_names n0_plots h9 h1 h2 h10 h11 n0_ways), (h1, kAr cAlong 25 (fun j => some (h3 j))), (h2, kAr cAlong 5 (fun j => some (h4 j)))] : va_W) ++ (kk_rowsL h3 clong 40 F3 25 ++ (kk_rowsL h4 clong 5 F4 5))))) (va_Qi (fun (r : Int32) (_ : Unit) => (2 ≤ n0_names.toInt ∧ (0 : Int32) = r) ∨ ((1 : Int32) = r)) (fun (_ : Unit) t => ∃ (g4 : Nat → Nat → Int64), va_P (dC, dI) vwCl (([(h0, kO2 h5 h6 h7 n0_size h8 n0_names n0_plots h9 h1 h2 h10 h11 n0_ways), (h1, kAr cAlong 25 (fun j => some (h3 j))), (h2, kAr cAlong 5 (fun j => some (h4 j)))] : va_W) ++ (kk_rowsL h3 clong 40 F3 25 ++ (kk_rowsL h4 clong 5 g4 5))) t.heap ∧ va_K (dC, dI) vwCl [] t ∧ va_D (va_A (([(h0, kO2 h5 h6 h7 n0_size h8 n0_names n0_plots h9 h1 h2 h10 h11 n0_ways), (h1, kAr cAlong 25 (fun j => some (h3 j))), (h2, kAr cAlong 5 (fun j => some (h4 j)))] : va_W) ++ (kk_rowsL h3 clong 40 F3 25 ++ (kk_rowsL h4 clong 5 F4 5))) sz) (([(h0, kO2 h5 h6 h7 n0_size h8 n0_names n0_plots h9 h1 h2 h10 h11 n0_ways), (h1, kAr cAlong 25 (fun j => some (h3 j))), (h2, kAr cAlong 5 (fun j => some (h4 j)))] : va_W) ++ (kk_rowsL h3 clong 40 F3 25 ++ (kk_rowsL h4 clong 5 g4 5)))) (va_A (([(h0, kO2 h5 h6 h7 n0_size h8 n0_names n0_plots h9 h1 h2 h10 h11 n0_ways), (h1, kAr cAlong 25 (fun j => some (h3 j))), (h2, kAr cAlong 5 (fun j => some (h4 j)))] : va_W) ++ (kk_rowsL h3 clong 40 F3 25 ++ (kk_rowsL h4 clong 5 F4 5))) sz)) 0 0 (va_A (([(h0, kO2 h5 h6 h7 n0_size h8 n0_names n0_plots h9 h1 h2 h10 h11 n0_ways), (h1, kAr cAlong 25 (fun j => some (h3 j))), (h2, kAr cAlong 5 (fun j => some (h4 j)))] : va_W) ++ (kk_rowsL h3 clong 40 F3 25 ++ (kk_rowsL h4 clong 5 F4 5))) sz) := by
  refine Met.ofW (cc := cX2_narrow) (maxL := 6) (ret := (some .boolean)) (by decide) rfl ?_
  intro p e s m args below meth c s₁ B hml hv
  obtain ⟨rfl, hsz, hP, hK, hD0⟩ := hv
  have hx := B.exec
  have hb := B.bytes
  have hr := B.returns
  have hts := atoms_spec (ws := wsX2_narrow) B.pre
  have hown : s.vm.findClass RX2 = some m.cls := findClass_of_methodNamed B.named
  have hlocks := B.notSynchronized
  subst hsz
  have hD := hD0.self (sz := s.heap.size)
  generalize hAe : va_A (([(h0, kO2 h5 h6 h7 n0_size h8 n0_names n0_plots h9 h1 h2 h10 h11 n0_ways), (h1, kAr cAlong 25 (fun j => some (h3 j))), (h2, kAr cAlong 5 (fun j => some (h4 j)))] : va_W) ++ (kk_rowsL h3 clong 40 F3 25 ++ (kk_rowsL h4 clong 5 F4 5))) s.heap.size = A at hD ⊢
  have hA : ∀ q : Nat, s.heap.size ≤ q → A q := fun q h => by rw [← hAe]; exact Or.inr h
  have hS : va_S A s.heap s.heap [] := va_S.rf
  have hP : va_P (dC, dI) vwCl (([(h0, kO2 h5 h6 h7 n0_size h8 n0_names n0_plots h9 h1 h2 h10 h11 n0_ways), (h1, kAr cAlong 25 (fun j => some (h3 j))), (h2, kAr cAlong 5 (fun j => some (h4 j)))] : va_W) ++ (kk_rowsL h3 clong 40 F3 25 ++ (kk_rowsL h4 clong 5 F4 5))) s.heap := hP
  have hl := lv_entry ([.ref h0, .int 0, .int p1]) (n := 6) (Nat.le_of_ble_eq_true rfl)
  rw [lg_entry_eq]
  generalize (lg_sl ([.ref h0, .int 0, .int p1]) ++ List.replicate (6 - (lg_sl ([.ref h0, .int 0, .int p1])).length) Slot.unset).toArray = ls at hl ⊢
  have hl : lv_has ls 6 [(0, .ref h0), (1, .int 0), (2, .int p1)] := hl
  refine lv_iload_n hx hb dX2_narrow_0 rfl (lv_at hl 1 rfl) ?_
  refine lv_iconst (v := 1) hx hb dX2_narrow_1 kk_ic_1 ?_
  refine lv_iadd hx hb dX2_narrow_2 ?_
  refine lv_topi (fun y_1 e_1 => ?_)
  obtain rfl : y_1 = 1 := e_1.trans (by decide)
  refine lv_istore_n hx hb dX2_narrow_3 rfl hl (by decide) (rfl : _ = ([(3, .int 1), (0, .ref h0), (1, .int 0), (2, .int p1)] : List (Nat × Value))) (fun ls hl => ?_)
  refine kk_loop (σ := Int32 × (Nat → Nat → Int64)) (fun x H locs ls => (1 ≤ x.1.toInt ∧ x.1.toInt ≤ 5) ∧ va_P (dC, dI) vwCl (([(h0, kO2 h5 h6 h7 n0_size h8 n0_names n0_plots h9 h1 h2 h10 h11 n0_ways), (h1, kAr cAlong 25 (fun j => some (h3 j))), (h2, kAr cAlong 5 (fun j => some (h4 j)))] : va_W) ++ (kk_rowsL h3 clong 40 F3 25 ++ (kk_rowsL h4 clong 5 x.2 5))) H ∧ va_D A (([(h0, kO2 h5 h6 h7 n0_size h8 n0_names n0_plots h9 h1 h2 h10 h11 n0_ways), (h1, kAr cAlong 25 (fun j => some (h3 j))), (h2, kAr cAlong 5 (fun j => some (h4 j)))] : va_W) ++ (kk_rowsL h3 clong 40 F3 25 ++ (kk_rowsL h4 clong 5 x.2 5))) ∧ va_S A s.heap H locs ∧ lv_has ls 6 [(3, .int x.1), (0, .ref h0), (1, .int 0), (2, .int p1)]) (fun x => ((5 : Int) - x.1.toInt).toNat) ?_ (1, F4) _ _ _ ⟨(by show 1 ≤ (1 : Int32).toInt ∧ (1 : Int32).toInt ≤ 5; first | decide | ((omega))), hP, hD, hS, hl⟩
  rintro ⟨i_2_0, f_2_1⟩ H locs ls ⟨t_2_0, hP, hD, hS, hl⟩ ih_2
  have t_2_0 : (1 ≤ i_2_0.toInt ∧ i_2_0.toInt ≤ 5) := t_2_0
  have hl : lv_has ls 6 [(3, .int i_2_0), (0, .ref h0), (1, .int 0), (2, .int p1)] := hl
  have hP : va_P (dC, dI) vwCl (([(h0, kO2 h5 h6 h7 n0_size h8 n0_names n0_plots h9 h1 h2 h10 h11 n0_ways), (h1, kAr cAlong 25 (fun j => some (h3 j))), (h2, kAr cAlong 5 (fun j => some (h4 j)))] : va_W) ++ (kk_rowsL h3 clong 40 F3 25 ++ (kk_rowsL h4 clong 5 f_2_1 5))) H := hP
  have hD : va_D A (([(h0, kO2 h5 h6 h7 n0_size h8 n0_names n0_plots h9 h1 h2 h10 h11 n0_ways), (h1, kAr cAlong 25 (fun j => some (h3 j))), (h2, kAr cAlong 5 (fun j => some (h4 j)))] : va_W) ++ (kk_rowsL h3 clong 40 F3 25 ++ (kk_rowsL h4 clong 5 f_2_1 5))) := hD
  refine lv_iload_n hx hb dX2_narrow_4 rfl (lv_at hl 0 rfl) ?_
  refine lv_aload_n hx hb dX2_narrow_5 rfl (lv_at hl 1 rfl) ?_
  refine va_get (D := (dC, dI)) (ci := 2) (v := .int n0_names) (C := RX2) (T := TX2) (N := 13) hx hb hts (fun _ h => List.mem_cons_of_mem _ (List.mem_append_right _ h)) hown hK hP 0 rfl rfl 5 (by decide) (hts (.fieldLink RX2 49 "KinkStreet$Deeds" "names" "I") (List.mem_of_getElem? (i := 1) rfl)) (fun _ h9 => h9) rfl dX2_narrow_6 ?_
  refine lv_icmp_ge (tgt := 62) hx hb dX2_narrow_9 (by decide) (fun c_3 => ?_) (fun c_3 => ?_)
  · have t_3 : n0_names.toInt ≤ i_2_0.toInt := kk_le c_3
    refine lv_iconst (v := 1) hx hb dX2_narrow_62 kk_ic_1 ?_
    have hP9 := hP.part (cx := [(h0, kO2 h5 h6 h7 n0_size h8 n0_names n0_plots h9 h1 h2 h10 h11 n0_ways), (h1, kAr cAlong 25 (fun j => some (h3 j))), (h2, kAr cAlong 5 (fun j => some (h4 j)))]) [0, 1, 2] rfl
    have hD9 := hD.part (cx := [(h0, kO2 h5 h6 h7 n0_size h8 n0_names n0_plots h9 h1 h2 h10 h11 n0_ways), (h1, kAr cAlong 25 (fun j => some (h3 j))), (h2, kAr cAlong 5 (fun j => some (h4 j)))]) [0, 1, 2] (by decide) rfl
    have hK9 := kk_Ks (tq := []) hK [] rfl
    exact W.zret (v := 1) hx hb hr rfl (fun t ht hW => ⟨⟨1, (), rfl, Or.inr (rfl), f_2_1, by rw [ht]; exact hP9, va_K.moved hW.alike hK9, hD9⟩, hS.F ht⟩) hS.2.2 dX2_narrow_63
  · have t_3 : i_2_0.toInt < n0_names.toInt := kk_nle c_3
    refine lv_aload_n hx hb dX2_narrow_12 rfl (lv_at hl 1 rfl) ?_
    refine va_get (D := (dC, dI)) (ci := 2) (v := .ref h2) (C := RX2) (T := TX2) (N := 13) hx hb hts (fun _ h => List.mem_cons_of_mem _ (List.mem_append_right _ h)) hown hK hP 0 rfl rfl 9 (by decide) (hts (.fieldLink RX2 32 "KinkStreet$Deeds" "open" "[[J") (List.mem_of_getElem? (i := 2) rfl)) (fun _ h9 => h9) rfl dX2_narrow_13 ?_
    refine lv_iload_n hx hb dX2_narrow_16 rfl (lv_at hl 2 rfl) ?_
    have hi_4 : vp_in (0 : Int32) 5 := (by unfold vp_in; decide)
    have hk_4 : (0 : Int32).toNatClampNeg < 5 := Nat.not_le.mp fun q => hi_4 (Or.inr q)
    refine kk_aald hx hb hK hP 2 0 rfl rfl hi_4 dX2_narrow_17 ?_
    refine W.eq (g2 := F0 m 18 ls [.ref (h4 (0 : Int32).toNatClampNeg)]) rfl ?_
    refine lv_iload_n hx hb dX2_narrow_18 rfl (lv_at hl 0 rfl) ?_
    refine va_lald hx hb hK hP _ 1 (kk_getr (kk_getr (kk_rowL hk_4))) rfl (vp_in_iff.mpr ⟨by omega, by omega⟩) dX2_narrow_19 ?_
    refine lv_topl (fun y_5 e_5 => ?_)
    clear e_5
    refine lv_aload_n hx hb dX2_narrow_20 rfl (lv_at hl 1 rfl) ?_
    refine va_get (D := (dC, dI)) (ci := 2) (v := .ref h1) (C := RX2) (T := TX2) (N := 13) hx hb hts (fun _ h => List.mem_cons_of_mem _ (List.mem_append_right _ h)) hown hK hP 0 rfl rfl 8 (by decide) (hts (.fieldLink RX2 29 "KinkStreet$Deeds" "fits" "[[J") (List.mem_of_getElem? (i := 3) rfl)) (fun _ h9 => h9) rfl dX2_narrow_21 ?_
    refine lv_iload_n hx hb dX2_narrow_24 rfl (lv_at hl 2 rfl) ?_
    refine lv_iconst (v := 5) hx hb dX2_narrow_25 kk_ic_5 ?_
    refine lv_imul hx hb dX2_narrow_26 ?_
    refine lv_topi (fun y_6 e_6 => ?_)
    obtain rfl : y_6 = 0 := e_6.trans (by decide)
    refine lv_iload_n hx hb dX2_narrow_27 rfl (lv_at hl 0 rfl) ?_
    refine lv_iadd hx hb dX2_narrow_28 ?_
    try have := kk_add2 (x := 0) (y := i_2_0) (a := 0) (b := i_2_0.toInt) rfl rfl (by omega) (by omega)
    have hi_7 : vp_in ((0 + i_2_0) : Int32) 25 := (vp_in_iff.mpr ⟨by omega, by omega⟩)
    have hk_7 : ((0 + i_2_0) : Int32).toNatClampNeg < 25 := Nat.not_le.mp fun q => hi_7 (Or.inr q)
    refine kk_aald hx hb hK hP 1 0 rfl rfl hi_7 dX2_narrow_29 ?_
    refine W.eq (g2 := F0 m 30 ls [.ref (h3 ((0 + i_2_0) : Int32).toNatClampNeg), .long y_5]) rfl ?_
    refine lv_iload_n hx hb dX2_narrow_30 rfl (lv_at hl 3 rfl) ?_
    refine va_lald hx hb hK hP _ 1 (kk_getr (kk_getl (kk_rowL hk_7))) rfl (vp_in_iff.mpr ⟨by omega, by omega⟩) dX2_narrow_31 ?_
    refine lv_topl (fun y_8 e_8 => ?_)
    clear e_8
    refine lv_land hx hb dX2_narrow_32 ?_
    refine lv_topl (fun y_9 e_9 => ?_)
    clear e_9
    refine lv_lstore hx hb dX2_narrow_33 hl (by decide) (rfl : _ = ([(4, .long y_9), (3, .int i_2_0), (0, .ref h0), (1, .int 0), (2, .int p1)] : List (Nat × Value))) (fun ls hl => ?_)
    refine lv_aload_n hx hb dX2_narrow_35 rfl (lv_at hl 2 rfl) ?_
    refine va_get (D := (dC, dI)) (ci := 2) (v := .ref h2) (C := RX2) (T := TX2) (N := 13) hx hb hts (fun _ h => List.mem_cons_of_mem _ (List.mem_append_right _ h)) hown hK hP 0 rfl rfl 9 (by decide) (hts (.fieldLink RX2 32 "KinkStreet$Deeds" "open" "[[J") (List.mem_of_getElem? (i := 2) rfl)) (fun _ h9 => h9) rfl dX2_narrow_36 ?_
    refine lv_iload_n hx hb dX2_narrow_39 rfl (lv_at hl 3 rfl) ?_
    refine lv_iconst (v := 1) hx hb dX2_narrow_40 kk_ic_1 ?_
    refine lv_iadd hx hb dX2_narrow_41 ?_
    refine lv_topi (fun y_10 e_10 => ?_)
    obtain rfl : y_10 = 1 := e_10.trans (by decide)
    have hi_11 : vp_in (1 : Int32) 5 := (by unfold vp_in; decide)
    have hk_11 : (1 : Int32).toNatClampNeg < 5 := Nat.not_le.mp fun q => hi_11 (Or.inr q)
    refine kk_aald hx hb hK hP 2 0 rfl rfl hi_11 dX2_narrow_42 ?_
    refine W.eq (g2 := F0 m 43 ls [.ref (h4 (1 : Int32).toNatClampNeg)]) rfl ?_
    refine lv_iload_n hx hb dX2_narrow_43 rfl (lv_at hl 1 rfl) ?_
    refine lv_lload hx hb dX2_narrow_44 (lv_at hl 0 rfl) ?_
    refine va_last hx hb hK hP hD hS _ 1 (kk_getr (kk_getr (kk_rowL hk_11))) rfl (vp_in_iff.mpr ⟨by omega, by omega⟩) dX2_narrow_46 (fun H locs hP hD hS => ?_)
    rw [kk_setr, kk_setr, kk_rowsL_set hk_11] at hP hD
    generalize kk_upF f_2_1 (1 : Int32).toNatClampNeg (vp_updL (f_2_1 (1 : Int32).toNatClampNeg) (i_2_0 : Int32).toNatClampNeg y_9) = F_12 at hP hD
    have hP : va_P (dC, dI) vwCl (([(h0, kO2 h5 h6 h7 n0_size h8 n0_names n0_plots h9 h1 h2 h10 h11 n0_ways), (h1, kAr cAlong 25 (fun j => some (h3 j))), (h2, kAr cAlong 5 (fun j => some (h4 j)))] : va_W) ++ (kk_rowsL h3 clong 40 F3 25 ++ (kk_rowsL h4 clong 5 F_12 5))) H := hP
    have hD : va_D A (([(h0, kO2 h5 h6 h7 n0_size h8 n0_names n0_plots h9 h1 h2 h10 h11 n0_ways), (h1, kAr cAlong 25 (fun j => some (h3 j))), (h2, kAr cAlong 5 (fun j => some (h4 j)))] : va_W) ++ (kk_rowsL h3 clong 40 F3 25 ++ (kk_rowsL h4 clong 5 F_12 5))) := hD
    refine lv_lload hx hb dX2_narrow_47 (lv_at hl 0 rfl) ?_
    refine lv_lconst (v := 0) hx hb dX2_narrow_49 (by decide) ?_
    refine W.lcmp hx hb dX2_narrow_50 ?_
    refine lv_if_ne (tgt := 56) hx hb dX2_narrow_51 (by decide) (fun _ => ?_) (fun _ => ?_)
    · skip
      refine lv_iinc (v := (i_2_0 + 1)) hx hb dX2_narrow_56 hl (k := 1) rfl (by first | rfl | decide) (by decide) (rfl : _ = ([(3, .int (i_2_0 + 1)), (4, .long y_9), (0, .ref h0), (1, .int 0), (2, .int p1)] : List (Nat × Value))) (fun ls hl => ?_)
      refine lv_goto (tgt := 4) hx hb dX2_narrow_59 (by decide) ?_
      try have := kk_add2 (x := i_2_0) (y := 1) (a := i_2_0.toInt) (b := 1) rfl rfl (by omega) (by omega)
      exact ih_2 ((i_2_0 + 1), F_12) _ _ _ (by show ((5 : Int) - ((i_2_0 + 1)).toInt).toNat < ((5 : Int) - i_2_0.toInt).toNat; exact kk_mu (by omega) (by omega)) ⟨(by show 1 ≤ ((i_2_0 + 1) : Int32).toInt ∧ ((i_2_0 + 1) : Int32).toInt ≤ 5; first | decide | ((omega))), hP, hD, hS, lv_sub hl [0, 2, 3, 4] rfl⟩
    · skip
      refine lv_iconst (v := 0) hx hb dX2_narrow_54 kk_ic_0 ?_
      have hP9 := hP.part (cx := [(h0, kO2 h5 h6 h7 n0_size h8 n0_names n0_plots h9 h1 h2 h10 h11 n0_ways), (h1, kAr cAlong 25 (fun j => some (h3 j))), (h2, kAr cAlong 5 (fun j => some (h4 j)))]) [0, 1, 2] rfl
      have hD9 := hD.part (cx := [(h0, kO2 h5 h6 h7 n0_size h8 n0_names n0_plots h9 h1 h2 h10 h11 n0_ways), (h1, kAr cAlong 25 (fun j => some (h3 j))), (h2, kAr cAlong 5 (fun j => some (h4 j)))]) [0, 1, 2] (by decide) rfl
      have hK9 := kk_Ks (tq := []) hK [] rfl
      exact W.zret (v := 0) hx hb hr rfl (fun t ht hW => ⟨⟨0, (), rfl, Or.inl ⟨by first | with_reducible assumption | (omega) | assumption, rfl⟩, F_12, by rw [ht]; exact hP9, va_K.moved hW.alike hK9, hD9⟩, hS.F ht⟩) hS.2.2 dX2_narrow_55
set_option maxHeartbeats 4000000 in
set_option maxRecDepth 100000 in
theorem g_X2_narrow_1 (l : Launch) (dC : Nat → ClassId) (dI : Nat → Nat → Nat) (h0 : Nat) (h1 : Nat) (h2 : Nat) (h3 : Nat → Nat) (h4 : Nat → Nat) (h5 : Nat) (h6 : Nat) (h7 : Nat) (h8 : Nat) (h9 : Nat) (h10 : Nat) (h11 : Nat) (cAlong clong : ClassId) (sz : Nat) (p1 : Int32) (tp1 : 0 ≤ p1.toInt ∧ p1.toInt ≤ 39) (n0_size : Int32) (n0_names : Int32) (n0_plots : Int32) (n0_ways : Int32) (F3 : Nat → Nat → Int64) (F4 : Nat → Nat → Int64) (tn0_size : kk_bx (0 ≤ n0_size.toInt ∧ n0_size.toInt ≤ 10)) (tn0_names : 1 ≤ n0_names.toInt ∧ n0_names.toInt ≤ 5) (tn0_plots : kk_bx (0 ≤ n0_plots.toInt ∧ n0_plots.toInt ≤ 40)) : Met l yX2_narrow wsX2_narrow ({ frames := 0, cells := 0, slots := 0, locals := 0 }) (va_Pc [.ref h0, .int 1, .int p1] (fun U => U.heap.size = sz ∧ va_P (dC, dI) vwCl (([(h0, kO2 h5 h6 h7 n0_size h8 n0_names n0_plots h9 h1 h2 h10 h11 n0_ways), (h1, kAr cAlong 25 (fun j => some (h3 j))), (h2, kAr cAlong 5 (fun j => some (h4 j)))] : va_W) ++ (kk_rowsL h3 clong 40 F3 25 ++ (kk_rowsL h4 clong 5 F4 5))) U.heap ∧ va_K (dC, dI) vwCl [(cAlong, .array .long), (clong, .long)] U ∧ va_D (fun _ => True) (([(h0, kO2 h5 h6 h7 n0_size h8 n0_names n0_plots h9 h1 h2 h10 h11 n0_ways), (h1, kAr cAlong 25 (fun j => some (h3 j))), (h2, kAr cAlong 5 (fun j => some (h4 j)))] : va_W) ++ (kk_rowsL h3 clong 40 F3 25 ++ (kk_rowsL h4 clong 5 F4 5))))) (va_Qi (fun (r : Int32) (_ : Unit) => (3 ≤ n0_names.toInt ∧ (0 : Int32) = r) ∨ ((1 : Int32) = r)) (fun (_ : Unit) t => ∃ (g4 : Nat → Nat → Int64), va_P (dC, dI) vwCl (([(h0, kO2 h5 h6 h7 n0_size h8 n0_names n0_plots h9 h1 h2 h10 h11 n0_ways), (h1, kAr cAlong 25 (fun j => some (h3 j))), (h2, kAr cAlong 5 (fun j => some (h4 j)))] : va_W) ++ (kk_rowsL h3 clong 40 F3 25 ++ (kk_rowsL h4 clong 5 g4 5))) t.heap ∧ va_K (dC, dI) vwCl [] t ∧ va_D (va_A (([(h0, kO2 h5 h6 h7 n0_size h8 n0_names n0_plots h9 h1 h2 h10 h11 n0_ways), (h1, kAr cAlong 25 (fun j => some (h3 j))), (h2, kAr cAlong 5 (fun j => some (h4 j)))] : va_W) ++ (kk_rowsL h3 clong 40 F3 25 ++ (kk_rowsL h4 clong 5 F4 5))) sz) (([(h0, kO2 h5 h6 h7 n0_size h8 n0_names n0_plots h9 h1 h2 h10 h11 n0_ways), (h1, kAr cAlong 25 (fun j => some (h3 j))), (h2, kAr cAlong 5 (fun j => some (h4 j)))] : va_W) ++ (kk_rowsL h3 clong 40 F3 25 ++ (kk_rowsL h4 clong 5 g4 5)))) (va_A (([(h0, kO2 h5 h6 h7 n0_size h8 n0_names n0_plots h9 h1 h2 h10 h11 n0_ways), (h1, kAr cAlong 25 (fun j => some (h3 j))), (h2, kAr cAlong 5 (fun j => some (h4 j)))] : va_W) ++ (kk_rowsL h3 clong 40 F3 25 ++ (kk_rowsL h4 clong 5 F4 5))) sz)) 0 0 (va_A (([(h0, kO2 h5 h6 h7 n0_size h8 n0_names n0_plots h9 h1 h2 h10 h11 n0_ways), (h1, kAr cAlong 25 (fun j => some (h3 j))), (h2, kAr cAlong 5 (fun j => some (h4 j)))] : va_W) ++ (kk_rowsL h3 clong 40 F3 25 ++ (kk_rowsL h4 clong 5 F4 5))) sz) := by
  refine Met.ofW (cc := cX2_narrow) (maxL := 6) (ret := (some .boolean)) (by decide) rfl ?_
  intro p e s m args below meth c s₁ B hml hv
  obtain ⟨rfl, hsz, hP, hK, hD0⟩ := hv
  have hx := B.exec
  have hb := B.bytes
  have hr := B.returns
  have hts := atoms_spec (ws := wsX2_narrow) B.pre
  have hown : s.vm.findClass RX2 = some m.cls := findClass_of_methodNamed B.named
  have hlocks := B.notSynchronized
  subst hsz
  have hD := hD0.self (sz := s.heap.size)
  generalize hAe : va_A (([(h0, kO2 h5 h6 h7 n0_size h8 n0_names n0_plots h9 h1 h2 h10 h11 n0_ways), (h1, kAr cAlong 25 (fun j => some (h3 j))), (h2, kAr cAlong 5 (fun j => some (h4 j)))] : va_W) ++ (kk_rowsL h3 clong 40 F3 25 ++ (kk_rowsL h4 clong 5 F4 5))) s.heap.size = A at hD ⊢
  have hA : ∀ q : Nat, s.heap.size ≤ q → A q := fun q h => by rw [← hAe]; exact Or.inr h
  have hS : va_S A s.heap s.heap [] := va_S.rf
  have hP : va_P (dC, dI) vwCl (([(h0, kO2 h5 h6 h7 n0_size h8 n0_names n0_plots h9 h1 h2 h10 h11 n0_ways), (h1, kAr cAlong 25 (fun j => some (h3 j))), (h2, kAr cAlong 5 (fun j => some (h4 j)))] : va_W) ++ (kk_rowsL h3 clong 40 F3 25 ++ (kk_rowsL h4 clong 5 F4 5))) s.heap := hP
  have hl := lv_entry ([.ref h0, .int 1, .int p1]) (n := 6) (Nat.le_of_ble_eq_true rfl)
  rw [lg_entry_eq]
  generalize (lg_sl ([.ref h0, .int 1, .int p1]) ++ List.replicate (6 - (lg_sl ([.ref h0, .int 1, .int p1])).length) Slot.unset).toArray = ls at hl ⊢
  have hl : lv_has ls 6 [(0, .ref h0), (1, .int 1), (2, .int p1)] := hl
  refine lv_iload_n hx hb dX2_narrow_0 rfl (lv_at hl 1 rfl) ?_
  refine lv_iconst (v := 1) hx hb dX2_narrow_1 kk_ic_1 ?_
  refine lv_iadd hx hb dX2_narrow_2 ?_
  refine lv_topi (fun y_1 e_1 => ?_)
  obtain rfl : y_1 = 2 := e_1.trans (by decide)
  refine lv_istore_n hx hb dX2_narrow_3 rfl hl (by decide) (rfl : _ = ([(3, .int 2), (0, .ref h0), (1, .int 1), (2, .int p1)] : List (Nat × Value))) (fun ls hl => ?_)
  refine kk_loop (σ := Int32 × (Nat → Nat → Int64)) (fun x H locs ls => (2 ≤ x.1.toInt ∧ x.1.toInt ≤ 5) ∧ va_P (dC, dI) vwCl (([(h0, kO2 h5 h6 h7 n0_size h8 n0_names n0_plots h9 h1 h2 h10 h11 n0_ways), (h1, kAr cAlong 25 (fun j => some (h3 j))), (h2, kAr cAlong 5 (fun j => some (h4 j)))] : va_W) ++ (kk_rowsL h3 clong 40 F3 25 ++ (kk_rowsL h4 clong 5 x.2 5))) H ∧ va_D A (([(h0, kO2 h5 h6 h7 n0_size h8 n0_names n0_plots h9 h1 h2 h10 h11 n0_ways), (h1, kAr cAlong 25 (fun j => some (h3 j))), (h2, kAr cAlong 5 (fun j => some (h4 j)))] : va_W) ++ (kk_rowsL h3 clong 40 F3 25 ++ (kk_rowsL h4 clong 5 x.2 5))) ∧ va_S A s.heap H locs ∧ lv_has ls 6 [(3, .int x.1), (0, .ref h0), (1, .int 1), (2, .int p1)]) (fun x => ((5 : Int) - x.1.toInt).toNat) ?_ (2, F4) _ _ _ ⟨(by show 2 ≤ (2 : Int32).toInt ∧ (2 : Int32).toInt ≤ 5; first | decide | ((omega))), hP, hD, hS, hl⟩
  rintro ⟨i_2_0, f_2_1⟩ H locs ls ⟨t_2_0, hP, hD, hS, hl⟩ ih_2
  have t_2_0 : (2 ≤ i_2_0.toInt ∧ i_2_0.toInt ≤ 5) := t_2_0
  have hl : lv_has ls 6 [(3, .int i_2_0), (0, .ref h0), (1, .int 1), (2, .int p1)] := hl
  have hP : va_P (dC, dI) vwCl (([(h0, kO2 h5 h6 h7 n0_size h8 n0_names n0_plots h9 h1 h2 h10 h11 n0_ways), (h1, kAr cAlong 25 (fun j => some (h3 j))), (h2, kAr cAlong 5 (fun j => some (h4 j)))] : va_W) ++ (kk_rowsL h3 clong 40 F3 25 ++ (kk_rowsL h4 clong 5 f_2_1 5))) H := hP
  have hD : va_D A (([(h0, kO2 h5 h6 h7 n0_size h8 n0_names n0_plots h9 h1 h2 h10 h11 n0_ways), (h1, kAr cAlong 25 (fun j => some (h3 j))), (h2, kAr cAlong 5 (fun j => some (h4 j)))] : va_W) ++ (kk_rowsL h3 clong 40 F3 25 ++ (kk_rowsL h4 clong 5 f_2_1 5))) := hD
  refine lv_iload_n hx hb dX2_narrow_4 rfl (lv_at hl 0 rfl) ?_
  refine lv_aload_n hx hb dX2_narrow_5 rfl (lv_at hl 1 rfl) ?_
  refine va_get (D := (dC, dI)) (ci := 2) (v := .int n0_names) (C := RX2) (T := TX2) (N := 13) hx hb hts (fun _ h => List.mem_cons_of_mem _ (List.mem_append_right _ h)) hown hK hP 0 rfl rfl 5 (by decide) (hts (.fieldLink RX2 49 "KinkStreet$Deeds" "names" "I") (List.mem_of_getElem? (i := 1) rfl)) (fun _ h9 => h9) rfl dX2_narrow_6 ?_
  refine lv_icmp_ge (tgt := 62) hx hb dX2_narrow_9 (by decide) (fun c_3 => ?_) (fun c_3 => ?_)
  · have t_3 : n0_names.toInt ≤ i_2_0.toInt := kk_le c_3
    refine lv_iconst (v := 1) hx hb dX2_narrow_62 kk_ic_1 ?_
    have hP9 := hP.part (cx := [(h0, kO2 h5 h6 h7 n0_size h8 n0_names n0_plots h9 h1 h2 h10 h11 n0_ways), (h1, kAr cAlong 25 (fun j => some (h3 j))), (h2, kAr cAlong 5 (fun j => some (h4 j)))]) [0, 1, 2] rfl
    have hD9 := hD.part (cx := [(h0, kO2 h5 h6 h7 n0_size h8 n0_names n0_plots h9 h1 h2 h10 h11 n0_ways), (h1, kAr cAlong 25 (fun j => some (h3 j))), (h2, kAr cAlong 5 (fun j => some (h4 j)))]) [0, 1, 2] (by decide) rfl
    have hK9 := kk_Ks (tq := []) hK [] rfl
    exact W.zret (v := 1) hx hb hr rfl (fun t ht hW => ⟨⟨1, (), rfl, Or.inr (rfl), f_2_1, by rw [ht]; exact hP9, va_K.moved hW.alike hK9, hD9⟩, hS.F ht⟩) hS.2.2 dX2_narrow_63
  · have t_3 : i_2_0.toInt < n0_names.toInt := kk_nle c_3
    refine lv_aload_n hx hb dX2_narrow_12 rfl (lv_at hl 1 rfl) ?_
    refine va_get (D := (dC, dI)) (ci := 2) (v := .ref h2) (C := RX2) (T := TX2) (N := 13) hx hb hts (fun _ h => List.mem_cons_of_mem _ (List.mem_append_right _ h)) hown hK hP 0 rfl rfl 9 (by decide) (hts (.fieldLink RX2 32 "KinkStreet$Deeds" "open" "[[J") (List.mem_of_getElem? (i := 2) rfl)) (fun _ h9 => h9) rfl dX2_narrow_13 ?_
    refine lv_iload_n hx hb dX2_narrow_16 rfl (lv_at hl 2 rfl) ?_
    have hi_4 : vp_in (1 : Int32) 5 := (by unfold vp_in; decide)
    have hk_4 : (1 : Int32).toNatClampNeg < 5 := Nat.not_le.mp fun q => hi_4 (Or.inr q)
    refine kk_aald hx hb hK hP 2 0 rfl rfl hi_4 dX2_narrow_17 ?_
    refine W.eq (g2 := F0 m 18 ls [.ref (h4 (1 : Int32).toNatClampNeg)]) rfl ?_
    refine lv_iload_n hx hb dX2_narrow_18 rfl (lv_at hl 0 rfl) ?_
    refine va_lald hx hb hK hP _ 1 (kk_getr (kk_getr (kk_rowL hk_4))) rfl (vp_in_iff.mpr ⟨by omega, by omega⟩) dX2_narrow_19 ?_
    refine lv_topl (fun y_5 e_5 => ?_)
    clear e_5
    refine lv_aload_n hx hb dX2_narrow_20 rfl (lv_at hl 1 rfl) ?_
    refine va_get (D := (dC, dI)) (ci := 2) (v := .ref h1) (C := RX2) (T := TX2) (N := 13) hx hb hts (fun _ h => List.mem_cons_of_mem _ (List.mem_append_right _ h)) hown hK hP 0 rfl rfl 8 (by decide) (hts (.fieldLink RX2 29 "KinkStreet$Deeds" "fits" "[[J") (List.mem_of_getElem? (i := 3) rfl)) (fun _ h9 => h9) rfl dX2_narrow_21 ?_
    refine lv_iload_n hx hb dX2_narrow_24 rfl (lv_at hl 2 rfl) ?_
    refine lv_iconst (v := 5) hx hb dX2_narrow_25 kk_ic_5 ?_
    refine lv_imul hx hb dX2_narrow_26 ?_
    refine lv_topi (fun y_6 e_6 => ?_)
    obtain rfl : y_6 = 5 := e_6.trans (by decide)
    refine lv_iload_n hx hb dX2_narrow_27 rfl (lv_at hl 0 rfl) ?_
    refine lv_iadd hx hb dX2_narrow_28 ?_
    try have := kk_add2 (x := 5) (y := i_2_0) (a := 5) (b := i_2_0.toInt) rfl rfl (by omega) (by omega)
    have hi_7 : vp_in ((5 + i_2_0) : Int32) 25 := (vp_in_iff.mpr ⟨by omega, by omega⟩)
    have hk_7 : ((5 + i_2_0) : Int32).toNatClampNeg < 25 := Nat.not_le.mp fun q => hi_7 (Or.inr q)
    refine kk_aald hx hb hK hP 1 0 rfl rfl hi_7 dX2_narrow_29 ?_
    refine W.eq (g2 := F0 m 30 ls [.ref (h3 ((5 + i_2_0) : Int32).toNatClampNeg), .long y_5]) rfl ?_
    refine lv_iload_n hx hb dX2_narrow_30 rfl (lv_at hl 3 rfl) ?_
    refine va_lald hx hb hK hP _ 1 (kk_getr (kk_getl (kk_rowL hk_7))) rfl (vp_in_iff.mpr ⟨by omega, by omega⟩) dX2_narrow_31 ?_
    refine lv_topl (fun y_8 e_8 => ?_)
    clear e_8
    refine lv_land hx hb dX2_narrow_32 ?_
    refine lv_topl (fun y_9 e_9 => ?_)
    clear e_9
    refine lv_lstore hx hb dX2_narrow_33 hl (by decide) (rfl : _ = ([(4, .long y_9), (3, .int i_2_0), (0, .ref h0), (1, .int 1), (2, .int p1)] : List (Nat × Value))) (fun ls hl => ?_)
    refine lv_aload_n hx hb dX2_narrow_35 rfl (lv_at hl 2 rfl) ?_
    refine va_get (D := (dC, dI)) (ci := 2) (v := .ref h2) (C := RX2) (T := TX2) (N := 13) hx hb hts (fun _ h => List.mem_cons_of_mem _ (List.mem_append_right _ h)) hown hK hP 0 rfl rfl 9 (by decide) (hts (.fieldLink RX2 32 "KinkStreet$Deeds" "open" "[[J") (List.mem_of_getElem? (i := 2) rfl)) (fun _ h9 => h9) rfl dX2_narrow_36 ?_
    refine lv_iload_n hx hb dX2_narrow_39 rfl (lv_at hl 3 rfl) ?_
    refine lv_iconst (v := 1) hx hb dX2_narrow_40 kk_ic_1 ?_
    refine lv_iadd hx hb dX2_narrow_41 ?_
    refine lv_topi (fun y_10 e_10 => ?_)
    obtain rfl : y_10 = 2 := e_10.trans (by decide)
    have hi_11 : vp_in (2 : Int32) 5 := (by unfold vp_in; decide)
    have hk_11 : (2 : Int32).toNatClampNeg < 5 := Nat.not_le.mp fun q => hi_11 (Or.inr q)
    refine kk_aald hx hb hK hP 2 0 rfl rfl hi_11 dX2_narrow_42 ?_
    refine W.eq (g2 := F0 m 43 ls [.ref (h4 (2 : Int32).toNatClampNeg)]) rfl ?_
    refine lv_iload_n hx hb dX2_narrow_43 rfl (lv_at hl 1 rfl) ?_
    refine lv_lload hx hb dX2_narrow_44 (lv_at hl 0 rfl) ?_
    refine va_last hx hb hK hP hD hS _ 1 (kk_getr (kk_getr (kk_rowL hk_11))) rfl (vp_in_iff.mpr ⟨by omega, by omega⟩) dX2_narrow_46 (fun H locs hP hD hS => ?_)
    rw [kk_setr, kk_setr, kk_rowsL_set hk_11] at hP hD
    generalize kk_upF f_2_1 (2 : Int32).toNatClampNeg (vp_updL (f_2_1 (2 : Int32).toNatClampNeg) (i_2_0 : Int32).toNatClampNeg y_9) = F_12 at hP hD
    have hP : va_P (dC, dI) vwCl (([(h0, kO2 h5 h6 h7 n0_size h8 n0_names n0_plots h9 h1 h2 h10 h11 n0_ways), (h1, kAr cAlong 25 (fun j => some (h3 j))), (h2, kAr cAlong 5 (fun j => some (h4 j)))] : va_W) ++ (kk_rowsL h3 clong 40 F3 25 ++ (kk_rowsL h4 clong 5 F_12 5))) H := hP
    have hD : va_D A (([(h0, kO2 h5 h6 h7 n0_size h8 n0_names n0_plots h9 h1 h2 h10 h11 n0_ways), (h1, kAr cAlong 25 (fun j => some (h3 j))), (h2, kAr cAlong 5 (fun j => some (h4 j)))] : va_W) ++ (kk_rowsL h3 clong 40 F3 25 ++ (kk_rowsL h4 clong 5 F_12 5))) := hD
    refine lv_lload hx hb dX2_narrow_47 (lv_at hl 0 rfl) ?_
    refine lv_lconst (v := 0) hx hb dX2_narrow_49 (by decide) ?_
    refine W.lcmp hx hb dX2_narrow_50 ?_
    refine lv_if_ne (tgt := 56) hx hb dX2_narrow_51 (by decide) (fun _ => ?_) (fun _ => ?_)
    · skip
      refine lv_iinc (v := (i_2_0 + 1)) hx hb dX2_narrow_56 hl (k := 1) rfl (by first | rfl | decide) (by decide) (rfl : _ = ([(3, .int (i_2_0 + 1)), (4, .long y_9), (0, .ref h0), (1, .int 1), (2, .int p1)] : List (Nat × Value))) (fun ls hl => ?_)
      refine lv_goto (tgt := 4) hx hb dX2_narrow_59 (by decide) ?_
      try have := kk_add2 (x := i_2_0) (y := 1) (a := i_2_0.toInt) (b := 1) rfl rfl (by omega) (by omega)
      exact ih_2 ((i_2_0 + 1), F_12) _ _ _ (by show ((5 : Int) - ((i_2_0 + 1)).toInt).toNat < ((5 : Int) - i_2_0.toInt).toNat; exact kk_mu (by omega) (by omega)) ⟨(by show 2 ≤ ((i_2_0 + 1) : Int32).toInt ∧ ((i_2_0 + 1) : Int32).toInt ≤ 5; first | decide | ((omega))), hP, hD, hS, lv_sub hl [0, 2, 3, 4] rfl⟩
    · skip
      refine lv_iconst (v := 0) hx hb dX2_narrow_54 kk_ic_0 ?_
      have hP9 := hP.part (cx := [(h0, kO2 h5 h6 h7 n0_size h8 n0_names n0_plots h9 h1 h2 h10 h11 n0_ways), (h1, kAr cAlong 25 (fun j => some (h3 j))), (h2, kAr cAlong 5 (fun j => some (h4 j)))]) [0, 1, 2] rfl
      have hD9 := hD.part (cx := [(h0, kO2 h5 h6 h7 n0_size h8 n0_names n0_plots h9 h1 h2 h10 h11 n0_ways), (h1, kAr cAlong 25 (fun j => some (h3 j))), (h2, kAr cAlong 5 (fun j => some (h4 j)))]) [0, 1, 2] (by decide) rfl
      have hK9 := kk_Ks (tq := []) hK [] rfl
      exact W.zret (v := 0) hx hb hr rfl (fun t ht hW => ⟨⟨0, (), rfl, Or.inl ⟨by first | with_reducible assumption | (omega) | assumption, rfl⟩, F_12, by rw [ht]; exact hP9, va_K.moved hW.alike hK9, hD9⟩, hS.F ht⟩) hS.2.2 dX2_narrow_55
set_option maxHeartbeats 4000000 in
set_option maxRecDepth 100000 in
theorem g_X2_narrow_2 (l : Launch) (dC : Nat → ClassId) (dI : Nat → Nat → Nat) (h0 : Nat) (h1 : Nat) (h2 : Nat) (h3 : Nat → Nat) (h4 : Nat → Nat) (h5 : Nat) (h6 : Nat) (h7 : Nat) (h8 : Nat) (h9 : Nat) (h10 : Nat) (h11 : Nat) (cAlong clong : ClassId) (sz : Nat) (p1 : Int32) (tp1 : 0 ≤ p1.toInt ∧ p1.toInt ≤ 39) (n0_size : Int32) (n0_names : Int32) (n0_plots : Int32) (n0_ways : Int32) (F3 : Nat → Nat → Int64) (F4 : Nat → Nat → Int64) (tn0_size : kk_bx (0 ≤ n0_size.toInt ∧ n0_size.toInt ≤ 10)) (tn0_names : 1 ≤ n0_names.toInt ∧ n0_names.toInt ≤ 5) (tn0_plots : kk_bx (0 ≤ n0_plots.toInt ∧ n0_plots.toInt ≤ 40)) : Met l yX2_narrow wsX2_narrow ({ frames := 0, cells := 0, slots := 0, locals := 0 }) (va_Pc [.ref h0, .int 2, .int p1] (fun U => U.heap.size = sz ∧ va_P (dC, dI) vwCl (([(h0, kO2 h5 h6 h7 n0_size h8 n0_names n0_plots h9 h1 h2 h10 h11 n0_ways), (h1, kAr cAlong 25 (fun j => some (h3 j))), (h2, kAr cAlong 5 (fun j => some (h4 j)))] : va_W) ++ (kk_rowsL h3 clong 40 F3 25 ++ (kk_rowsL h4 clong 5 F4 5))) U.heap ∧ va_K (dC, dI) vwCl [(cAlong, .array .long), (clong, .long)] U ∧ va_D (fun _ => True) (([(h0, kO2 h5 h6 h7 n0_size h8 n0_names n0_plots h9 h1 h2 h10 h11 n0_ways), (h1, kAr cAlong 25 (fun j => some (h3 j))), (h2, kAr cAlong 5 (fun j => some (h4 j)))] : va_W) ++ (kk_rowsL h3 clong 40 F3 25 ++ (kk_rowsL h4 clong 5 F4 5))))) (va_Qi (fun (r : Int32) (_ : Unit) => (4 ≤ n0_names.toInt ∧ (0 : Int32) = r) ∨ ((1 : Int32) = r)) (fun (_ : Unit) t => ∃ (g4 : Nat → Nat → Int64), va_P (dC, dI) vwCl (([(h0, kO2 h5 h6 h7 n0_size h8 n0_names n0_plots h9 h1 h2 h10 h11 n0_ways), (h1, kAr cAlong 25 (fun j => some (h3 j))), (h2, kAr cAlong 5 (fun j => some (h4 j)))] : va_W) ++ (kk_rowsL h3 clong 40 F3 25 ++ (kk_rowsL h4 clong 5 g4 5))) t.heap ∧ va_K (dC, dI) vwCl [] t ∧ va_D (va_A (([(h0, kO2 h5 h6 h7 n0_size h8 n0_names n0_plots h9 h1 h2 h10 h11 n0_ways), (h1, kAr cAlong 25 (fun j => some (h3 j))), (h2, kAr cAlong 5 (fun j => some (h4 j)))] : va_W) ++ (kk_rowsL h3 clong 40 F3 25 ++ (kk_rowsL h4 clong 5 F4 5))) sz) (([(h0, kO2 h5 h6 h7 n0_size h8 n0_names n0_plots h9 h1 h2 h10 h11 n0_ways), (h1, kAr cAlong 25 (fun j => some (h3 j))), (h2, kAr cAlong 5 (fun j => some (h4 j)))] : va_W) ++ (kk_rowsL h3 clong 40 F3 25 ++ (kk_rowsL h4 clong 5 g4 5)))) (va_A (([(h0, kO2 h5 h6 h7 n0_size h8 n0_names n0_plots h9 h1 h2 h10 h11 n0_ways), (h1, kAr cAlong 25 (fun j => some (h3 j))), (h2, kAr cAlong 5 (fun j => some (h4 j)))] : va_W) ++ (kk_rowsL h3 clong 40 F3 25 ++ (kk_rowsL h4 clong 5 F4 5))) sz)) 0 0 (va_A (([(h0, kO2 h5 h6 h7 n0_size h8 n0_names n0_plots h9 h1 h2 h10 h11 n0_ways), (h1, kAr cAlong 25 (fun j => some (h3 j))), (h2, kAr cAlong 5 (fun j => some (h4 j)))] : va_W) ++ (kk_rowsL h3 clong 40 F3 25 ++ (kk_rowsL h4 clong 5 F4 5))) sz) := by
  refine Met.ofW (cc := cX2_narrow) (maxL := 6) (ret := (some .boolean)) (by decide) rfl ?_
  intro p e s m args below meth c s₁ B hml hv
  obtain ⟨rfl, hsz, hP, hK, hD0⟩ := hv
  have hx := B.exec
  have hb := B.bytes
  have hr := B.returns
  have hts := atoms_spec (ws := wsX2_narrow) B.pre
  have hown : s.vm.findClass RX2 = some m.cls := findClass_of_methodNamed B.named
  have hlocks := B.notSynchronized
  subst hsz
  have hD := hD0.self (sz := s.heap.size)
  generalize hAe : va_A (([(h0, kO2 h5 h6 h7 n0_size h8 n0_names n0_plots h9 h1 h2 h10 h11 n0_ways), (h1, kAr cAlong 25 (fun j => some (h3 j))), (h2, kAr cAlong 5 (fun j => some (h4 j)))] : va_W) ++ (kk_rowsL h3 clong 40 F3 25 ++ (kk_rowsL h4 clong 5 F4 5))) s.heap.size = A at hD ⊢
  have hA : ∀ q : Nat, s.heap.size ≤ q → A q := fun q h => by rw [← hAe]; exact Or.inr h
  have hS : va_S A s.heap s.heap [] := va_S.rf
  have hP : va_P (dC, dI) vwCl (([(h0, kO2 h5 h6 h7 n0_size h8 n0_names n0_plots h9 h1 h2 h10 h11 n0_ways), (h1, kAr cAlong 25 (fun j => some (h3 j))), (h2, kAr cAlong 5 (fun j => some (h4 j)))] : va_W) ++ (kk_rowsL h3 clong 40 F3 25 ++ (kk_rowsL h4 clong 5 F4 5))) s.heap := hP
  have hl := lv_entry ([.ref h0, .int 2, .int p1]) (n := 6) (Nat.le_of_ble_eq_true rfl)
  rw [lg_entry_eq]
  generalize (lg_sl ([.ref h0, .int 2, .int p1]) ++ List.replicate (6 - (lg_sl ([.ref h0, .int 2, .int p1])).length) Slot.unset).toArray = ls at hl ⊢
  have hl : lv_has ls 6 [(0, .ref h0), (1, .int 2), (2, .int p1)] := hl
  refine lv_iload_n hx hb dX2_narrow_0 rfl (lv_at hl 1 rfl) ?_
  refine lv_iconst (v := 1) hx hb dX2_narrow_1 kk_ic_1 ?_
  refine lv_iadd hx hb dX2_narrow_2 ?_
  refine lv_topi (fun y_1 e_1 => ?_)
  obtain rfl : y_1 = 3 := e_1.trans (by decide)
  refine lv_istore_n hx hb dX2_narrow_3 rfl hl (by decide) (rfl : _ = ([(3, .int 3), (0, .ref h0), (1, .int 2), (2, .int p1)] : List (Nat × Value))) (fun ls hl => ?_)
  refine kk_loop (σ := Int32 × (Nat → Nat → Int64)) (fun x H locs ls => (3 ≤ x.1.toInt ∧ x.1.toInt ≤ 5) ∧ va_P (dC, dI) vwCl (([(h0, kO2 h5 h6 h7 n0_size h8 n0_names n0_plots h9 h1 h2 h10 h11 n0_ways), (h1, kAr cAlong 25 (fun j => some (h3 j))), (h2, kAr cAlong 5 (fun j => some (h4 j)))] : va_W) ++ (kk_rowsL h3 clong 40 F3 25 ++ (kk_rowsL h4 clong 5 x.2 5))) H ∧ va_D A (([(h0, kO2 h5 h6 h7 n0_size h8 n0_names n0_plots h9 h1 h2 h10 h11 n0_ways), (h1, kAr cAlong 25 (fun j => some (h3 j))), (h2, kAr cAlong 5 (fun j => some (h4 j)))] : va_W) ++ (kk_rowsL h3 clong 40 F3 25 ++ (kk_rowsL h4 clong 5 x.2 5))) ∧ va_S A s.heap H locs ∧ lv_has ls 6 [(3, .int x.1), (0, .ref h0), (1, .int 2), (2, .int p1)]) (fun x => ((5 : Int) - x.1.toInt).toNat) ?_ (3, F4) _ _ _ ⟨(by show 3 ≤ (3 : Int32).toInt ∧ (3 : Int32).toInt ≤ 5; first | decide | ((omega))), hP, hD, hS, hl⟩
  rintro ⟨i_2_0, f_2_1⟩ H locs ls ⟨t_2_0, hP, hD, hS, hl⟩ ih_2
  have t_2_0 : (3 ≤ i_2_0.toInt ∧ i_2_0.toInt ≤ 5) := t_2_0
  have hl : lv_has ls 6 [(3, .int i_2_0), (0, .ref h0), (1, .int 2), (2, .int p1)] := hl
  have hP : va_P (dC, dI) vwCl (([(h0, kO2 h5 h6 h7 n0_size h8 n0_names n0_plots h9 h1 h2 h10 h11 n0_ways), (h1, kAr cAlong 25 (fun j => some (h3 j))), (h2, kAr cAlong 5 (fun j => some (h4 j)))] : va_W) ++ (kk_rowsL h3 clong 40 F3 25 ++ (kk_rowsL h4 clong 5 f_2_1 5))) H := hP
  have hD : va_D A (([(h0, kO2 h5 h6 h7 n0_size h8 n0_names n0_plots h9 h1 h2 h10 h11 n0_ways), (h1, kAr cAlong 25 (fun j => some (h3 j))), (h2, kAr cAlong 5 (fun j => some (h4 j)))] : va_W) ++ (kk_rowsL h3 clong 40 F3 25 ++ (kk_rowsL h4 clong 5 f_2_1 5))) := hD
  refine lv_iload_n hx hb dX2_narrow_4 rfl (lv_at hl 0 rfl) ?_
  refine lv_aload_n hx hb dX2_narrow_5 rfl (lv_at hl 1 rfl) ?_
  refine va_get (D := (dC, dI)) (ci := 2) (v := .int n0_names) (C := RX2) (T := TX2) (N := 13) hx hb hts (fun _ h => List.mem_cons_of_mem _ (List.mem_append_right _ h)) hown hK hP 0 rfl rfl 5 (by decide) (hts (.fieldLink RX2 49 "KinkStreet$Deeds" "names" "I") (List.mem_of_getElem? (i := 1) rfl)) (fun _ h9 => h9) rfl dX2_narrow_6 ?_
  refine lv_icmp_ge (tgt := 62) hx hb dX2_narrow_9 (by decide) (fun c_3 => ?_) (fun c_3 => ?_)
  · have t_3 : n0_names.toInt ≤ i_2_0.toInt := kk_le c_3
    refine lv_iconst (v := 1) hx hb dX2_narrow_62 kk_ic_1 ?_
    have hP9 := hP.part (cx := [(h0, kO2 h5 h6 h7 n0_size h8 n0_names n0_plots h9 h1 h2 h10 h11 n0_ways), (h1, kAr cAlong 25 (fun j => some (h3 j))), (h2, kAr cAlong 5 (fun j => some (h4 j)))]) [0, 1, 2] rfl
    have hD9 := hD.part (cx := [(h0, kO2 h5 h6 h7 n0_size h8 n0_names n0_plots h9 h1 h2 h10 h11 n0_ways), (h1, kAr cAlong 25 (fun j => some (h3 j))), (h2, kAr cAlong 5 (fun j => some (h4 j)))]) [0, 1, 2] (by decide) rfl
    have hK9 := kk_Ks (tq := []) hK [] rfl
    exact W.zret (v := 1) hx hb hr rfl (fun t ht hW => ⟨⟨1, (), rfl, Or.inr (rfl), f_2_1, by rw [ht]; exact hP9, va_K.moved hW.alike hK9, hD9⟩, hS.F ht⟩) hS.2.2 dX2_narrow_63
  · have t_3 : i_2_0.toInt < n0_names.toInt := kk_nle c_3
    refine lv_aload_n hx hb dX2_narrow_12 rfl (lv_at hl 1 rfl) ?_
    refine va_get (D := (dC, dI)) (ci := 2) (v := .ref h2) (C := RX2) (T := TX2) (N := 13) hx hb hts (fun _ h => List.mem_cons_of_mem _ (List.mem_append_right _ h)) hown hK hP 0 rfl rfl 9 (by decide) (hts (.fieldLink RX2 32 "KinkStreet$Deeds" "open" "[[J") (List.mem_of_getElem? (i := 2) rfl)) (fun _ h9 => h9) rfl dX2_narrow_13 ?_
    refine lv_iload_n hx hb dX2_narrow_16 rfl (lv_at hl 2 rfl) ?_
    have hi_4 : vp_in (2 : Int32) 5 := (by unfold vp_in; decide)
    have hk_4 : (2 : Int32).toNatClampNeg < 5 := Nat.not_le.mp fun q => hi_4 (Or.inr q)
    refine kk_aald hx hb hK hP 2 0 rfl rfl hi_4 dX2_narrow_17 ?_
    refine W.eq (g2 := F0 m 18 ls [.ref (h4 (2 : Int32).toNatClampNeg)]) rfl ?_
    refine lv_iload_n hx hb dX2_narrow_18 rfl (lv_at hl 0 rfl) ?_
    refine va_lald hx hb hK hP _ 1 (kk_getr (kk_getr (kk_rowL hk_4))) rfl (vp_in_iff.mpr ⟨by omega, by omega⟩) dX2_narrow_19 ?_
    refine lv_topl (fun y_5 e_5 => ?_)
    clear e_5
    refine lv_aload_n hx hb dX2_narrow_20 rfl (lv_at hl 1 rfl) ?_
    refine va_get (D := (dC, dI)) (ci := 2) (v := .ref h1) (C := RX2) (T := TX2) (N := 13) hx hb hts (fun _ h => List.mem_cons_of_mem _ (List.mem_append_right _ h)) hown hK hP 0 rfl rfl 8 (by decide) (hts (.fieldLink RX2 29 "KinkStreet$Deeds" "fits" "[[J") (List.mem_of_getElem? (i := 3) rfl)) (fun _ h9 => h9) rfl dX2_narrow_21 ?_
    refine lv_iload_n hx hb dX2_narrow_24 rfl (lv_at hl 2 rfl) ?_
    refine lv_iconst (v := 5) hx hb dX2_narrow_25 kk_ic_5 ?_
    refine lv_imul hx hb dX2_narrow_26 ?_
    refine lv_topi (fun y_6 e_6 => ?_)
    obtain rfl : y_6 = 10 := e_6.trans (by decide)
    refine lv_iload_n hx hb dX2_narrow_27 rfl (lv_at hl 0 rfl) ?_
    refine lv_iadd hx hb dX2_narrow_28 ?_
    try have := kk_add2 (x := 10) (y := i_2_0) (a := 10) (b := i_2_0.toInt) rfl rfl (by omega) (by omega)
    have hi_7 : vp_in ((10 + i_2_0) : Int32) 25 := (vp_in_iff.mpr ⟨by omega, by omega⟩)
    have hk_7 : ((10 + i_2_0) : Int32).toNatClampNeg < 25 := Nat.not_le.mp fun q => hi_7 (Or.inr q)
    refine kk_aald hx hb hK hP 1 0 rfl rfl hi_7 dX2_narrow_29 ?_
    refine W.eq (g2 := F0 m 30 ls [.ref (h3 ((10 + i_2_0) : Int32).toNatClampNeg), .long y_5]) rfl ?_
    refine lv_iload_n hx hb dX2_narrow_30 rfl (lv_at hl 3 rfl) ?_
    refine va_lald hx hb hK hP _ 1 (kk_getr (kk_getl (kk_rowL hk_7))) rfl (vp_in_iff.mpr ⟨by omega, by omega⟩) dX2_narrow_31 ?_
    refine lv_topl (fun y_8 e_8 => ?_)
    clear e_8
    refine lv_land hx hb dX2_narrow_32 ?_
    refine lv_topl (fun y_9 e_9 => ?_)
    clear e_9
    refine lv_lstore hx hb dX2_narrow_33 hl (by decide) (rfl : _ = ([(4, .long y_9), (3, .int i_2_0), (0, .ref h0), (1, .int 2), (2, .int p1)] : List (Nat × Value))) (fun ls hl => ?_)
    refine lv_aload_n hx hb dX2_narrow_35 rfl (lv_at hl 2 rfl) ?_
    refine va_get (D := (dC, dI)) (ci := 2) (v := .ref h2) (C := RX2) (T := TX2) (N := 13) hx hb hts (fun _ h => List.mem_cons_of_mem _ (List.mem_append_right _ h)) hown hK hP 0 rfl rfl 9 (by decide) (hts (.fieldLink RX2 32 "KinkStreet$Deeds" "open" "[[J") (List.mem_of_getElem? (i := 2) rfl)) (fun _ h9 => h9) rfl dX2_narrow_36 ?_
    refine lv_iload_n hx hb dX2_narrow_39 rfl (lv_at hl 3 rfl) ?_
    refine lv_iconst (v := 1) hx hb dX2_narrow_40 kk_ic_1 ?_
    refine lv_iadd hx hb dX2_narrow_41 ?_
    refine lv_topi (fun y_10 e_10 => ?_)
    obtain rfl : y_10 = 3 := e_10.trans (by decide)
    have hi_11 : vp_in (3 : Int32) 5 := (by unfold vp_in; decide)
    have hk_11 : (3 : Int32).toNatClampNeg < 5 := Nat.not_le.mp fun q => hi_11 (Or.inr q)
    refine kk_aald hx hb hK hP 2 0 rfl rfl hi_11 dX2_narrow_42 ?_
    refine W.eq (g2 := F0 m 43 ls [.ref (h4 (3 : Int32).toNatClampNeg)]) rfl ?_
    refine lv_iload_n hx hb dX2_narrow_43 rfl (lv_at hl 1 rfl) ?_
    refine lv_lload hx hb dX2_narrow_44 (lv_at hl 0 rfl) ?_
    refine va_last hx hb hK hP hD hS _ 1 (kk_getr (kk_getr (kk_rowL hk_11))) rfl (vp_in_iff.mpr ⟨by omega, by omega⟩) dX2_narrow_46 (fun H locs hP hD hS => ?_)
    rw [kk_setr, kk_setr, kk_rowsL_set hk_11] at hP hD
    generalize kk_upF f_2_1 (3 : Int32).toNatClampNeg (vp_updL (f_2_1 (3 : Int32).toNatClampNeg) (i_2_0 : Int32).toNatClampNeg y_9) = F_12 at hP hD
    have hP : va_P (dC, dI) vwCl (([(h0, kO2 h5 h6 h7 n0_size h8 n0_names n0_plots h9 h1 h2 h10 h11 n0_ways), (h1, kAr cAlong 25 (fun j => some (h3 j))), (h2, kAr cAlong 5 (fun j => some (h4 j)))] : va_W) ++ (kk_rowsL h3 clong 40 F3 25 ++ (kk_rowsL h4 clong 5 F_12 5))) H := hP
    have hD : va_D A (([(h0, kO2 h5 h6 h7 n0_size h8 n0_names n0_plots h9 h1 h2 h10 h11 n0_ways), (h1, kAr cAlong 25 (fun j => some (h3 j))), (h2, kAr cAlong 5 (fun j => some (h4 j)))] : va_W) ++ (kk_rowsL h3 clong 40 F3 25 ++ (kk_rowsL h4 clong 5 F_12 5))) := hD
    refine lv_lload hx hb dX2_narrow_47 (lv_at hl 0 rfl) ?_
    refine lv_lconst (v := 0) hx hb dX2_narrow_49 (by decide) ?_
    refine W.lcmp hx hb dX2_narrow_50 ?_
    refine lv_if_ne (tgt := 56) hx hb dX2_narrow_51 (by decide) (fun _ => ?_) (fun _ => ?_)
    · skip
      refine lv_iinc (v := (i_2_0 + 1)) hx hb dX2_narrow_56 hl (k := 1) rfl (by first | rfl | decide) (by decide) (rfl : _ = ([(3, .int (i_2_0 + 1)), (4, .long y_9), (0, .ref h0), (1, .int 2), (2, .int p1)] : List (Nat × Value))) (fun ls hl => ?_)
      refine lv_goto (tgt := 4) hx hb dX2_narrow_59 (by decide) ?_
      try have := kk_add2 (x := i_2_0) (y := 1) (a := i_2_0.toInt) (b := 1) rfl rfl (by omega) (by omega)
      exact ih_2 ((i_2_0 + 1), F_12) _ _ _ (by show ((5 : Int) - ((i_2_0 + 1)).toInt).toNat < ((5 : Int) - i_2_0.toInt).toNat; exact kk_mu (by omega) (by omega)) ⟨(by show 3 ≤ ((i_2_0 + 1) : Int32).toInt ∧ ((i_2_0 + 1) : Int32).toInt ≤ 5; first | decide | ((omega))), hP, hD, hS, lv_sub hl [0, 2, 3, 4] rfl⟩
    · skip
      refine lv_iconst (v := 0) hx hb dX2_narrow_54 kk_ic_0 ?_
      have hP9 := hP.part (cx := [(h0, kO2 h5 h6 h7 n0_size h8 n0_names n0_plots h9 h1 h2 h10 h11 n0_ways), (h1, kAr cAlong 25 (fun j => some (h3 j))), (h2, kAr cAlong 5 (fun j => some (h4 j)))]) [0, 1, 2] rfl
      have hD9 := hD.part (cx := [(h0, kO2 h5 h6 h7 n0_size h8 n0_names n0_plots h9 h1 h2 h10 h11 n0_ways), (h1, kAr cAlong 25 (fun j => some (h3 j))), (h2, kAr cAlong 5 (fun j => some (h4 j)))]) [0, 1, 2] (by decide) rfl
      have hK9 := kk_Ks (tq := []) hK [] rfl
      exact W.zret (v := 0) hx hb hr rfl (fun t ht hW => ⟨⟨0, (), rfl, Or.inl ⟨by first | with_reducible assumption | (omega) | assumption, rfl⟩, F_12, by rw [ht]; exact hP9, va_K.moved hW.alike hK9, hD9⟩, hS.F ht⟩) hS.2.2 dX2_narrow_55
set_option maxHeartbeats 4000000 in
set_option maxRecDepth 100000 in
theorem g_X2_narrow_3 (l : Launch) (dC : Nat → ClassId) (dI : Nat → Nat → Nat) (h0 : Nat) (h1 : Nat) (h2 : Nat) (h3 : Nat → Nat) (h4 : Nat → Nat) (h5 : Nat) (h6 : Nat) (h7 : Nat) (h8 : Nat) (h9 : Nat) (h10 : Nat) (h11 : Nat) (cAlong clong : ClassId) (sz : Nat) (p1 : Int32) (tp1 : 0 ≤ p1.toInt ∧ p1.toInt ≤ 39) (n0_size : Int32) (n0_names : Int32) (n0_plots : Int32) (n0_ways : Int32) (F3 : Nat → Nat → Int64) (F4 : Nat → Nat → Int64) (tn0_size : kk_bx (0 ≤ n0_size.toInt ∧ n0_size.toInt ≤ 10)) (tn0_names : 1 ≤ n0_names.toInt ∧ n0_names.toInt ≤ 5) (tn0_plots : kk_bx (0 ≤ n0_plots.toInt ∧ n0_plots.toInt ≤ 40)) : Met l yX2_narrow wsX2_narrow ({ frames := 0, cells := 0, slots := 0, locals := 0 }) (va_Pc [.ref h0, .int 3, .int p1] (fun U => U.heap.size = sz ∧ va_P (dC, dI) vwCl (([(h0, kO2 h5 h6 h7 n0_size h8 n0_names n0_plots h9 h1 h2 h10 h11 n0_ways), (h1, kAr cAlong 25 (fun j => some (h3 j))), (h2, kAr cAlong 5 (fun j => some (h4 j)))] : va_W) ++ (kk_rowsL h3 clong 40 F3 25 ++ (kk_rowsL h4 clong 5 F4 5))) U.heap ∧ va_K (dC, dI) vwCl [(cAlong, .array .long), (clong, .long)] U ∧ va_D (fun _ => True) (([(h0, kO2 h5 h6 h7 n0_size h8 n0_names n0_plots h9 h1 h2 h10 h11 n0_ways), (h1, kAr cAlong 25 (fun j => some (h3 j))), (h2, kAr cAlong 5 (fun j => some (h4 j)))] : va_W) ++ (kk_rowsL h3 clong 40 F3 25 ++ (kk_rowsL h4 clong 5 F4 5))))) (va_Qi (fun (r : Int32) (_ : Unit) => (5 ≤ n0_names.toInt ∧ (0 : Int32) = r) ∨ ((1 : Int32) = r)) (fun (_ : Unit) t => ∃ (g4 : Nat → Nat → Int64), va_P (dC, dI) vwCl (([(h0, kO2 h5 h6 h7 n0_size h8 n0_names n0_plots h9 h1 h2 h10 h11 n0_ways), (h1, kAr cAlong 25 (fun j => some (h3 j))), (h2, kAr cAlong 5 (fun j => some (h4 j)))] : va_W) ++ (kk_rowsL h3 clong 40 F3 25 ++ (kk_rowsL h4 clong 5 g4 5))) t.heap ∧ va_K (dC, dI) vwCl [] t ∧ va_D (va_A (([(h0, kO2 h5 h6 h7 n0_size h8 n0_names n0_plots h9 h1 h2 h10 h11 n0_ways), (h1, kAr cAlong 25 (fun j => some (h3 j))), (h2, kAr cAlong 5 (fun j => some (h4 j)))] : va_W) ++ (kk_rowsL h3 clong 40 F3 25 ++ (kk_rowsL h4 clong 5 F4 5))) sz) (([(h0, kO2 h5 h6 h7 n0_size h8 n0_names n0_plots h9 h1 h2 h10 h11 n0_ways), (h1, kAr cAlong 25 (fun j => some (h3 j))), (h2, kAr cAlong 5 (fun j => some (h4 j)))] : va_W) ++ (kk_rowsL h3 clong 40 F3 25 ++ (kk_rowsL h4 clong 5 g4 5)))) (va_A (([(h0, kO2 h5 h6 h7 n0_size h8 n0_names n0_plots h9 h1 h2 h10 h11 n0_ways), (h1, kAr cAlong 25 (fun j => some (h3 j))), (h2, kAr cAlong 5 (fun j => some (h4 j)))] : va_W) ++ (kk_rowsL h3 clong 40 F3 25 ++ (kk_rowsL h4 clong 5 F4 5))) sz)) 0 0 (va_A (([(h0, kO2 h5 h6 h7 n0_size h8 n0_names n0_plots h9 h1 h2 h10 h11 n0_ways), (h1, kAr cAlong 25 (fun j => some (h3 j))), (h2, kAr cAlong 5 (fun j => some (h4 j)))] : va_W) ++ (kk_rowsL h3 clong 40 F3 25 ++ (kk_rowsL h4 clong 5 F4 5))) sz) := by
  refine Met.ofW (cc := cX2_narrow) (maxL := 6) (ret := (some .boolean)) (by decide) rfl ?_
  intro p e s m args below meth c s₁ B hml hv
  obtain ⟨rfl, hsz, hP, hK, hD0⟩ := hv
  have hx := B.exec
  have hb := B.bytes
  have hr := B.returns
  have hts := atoms_spec (ws := wsX2_narrow) B.pre
  have hown : s.vm.findClass RX2 = some m.cls := findClass_of_methodNamed B.named
  have hlocks := B.notSynchronized
  subst hsz
  have hD := hD0.self (sz := s.heap.size)
  generalize hAe : va_A (([(h0, kO2 h5 h6 h7 n0_size h8 n0_names n0_plots h9 h1 h2 h10 h11 n0_ways), (h1, kAr cAlong 25 (fun j => some (h3 j))), (h2, kAr cAlong 5 (fun j => some (h4 j)))] : va_W) ++ (kk_rowsL h3 clong 40 F3 25 ++ (kk_rowsL h4 clong 5 F4 5))) s.heap.size = A at hD ⊢
  have hA : ∀ q : Nat, s.heap.size ≤ q → A q := fun q h => by rw [← hAe]; exact Or.inr h
  have hS : va_S A s.heap s.heap [] := va_S.rf
  have hP : va_P (dC, dI) vwCl (([(h0, kO2 h5 h6 h7 n0_size h8 n0_names n0_plots h9 h1 h2 h10 h11 n0_ways), (h1, kAr cAlong 25 (fun j => some (h3 j))), (h2, kAr cAlong 5 (fun j => some (h4 j)))] : va_W) ++ (kk_rowsL h3 clong 40 F3 25 ++ (kk_rowsL h4 clong 5 F4 5))) s.heap := hP
  have hl := lv_entry ([.ref h0, .int 3, .int p1]) (n := 6) (Nat.le_of_ble_eq_true rfl)
  rw [lg_entry_eq]
  generalize (lg_sl ([.ref h0, .int 3, .int p1]) ++ List.replicate (6 - (lg_sl ([.ref h0, .int 3, .int p1])).length) Slot.unset).toArray = ls at hl ⊢
  have hl : lv_has ls 6 [(0, .ref h0), (1, .int 3), (2, .int p1)] := hl
  refine lv_iload_n hx hb dX2_narrow_0 rfl (lv_at hl 1 rfl) ?_
  refine lv_iconst (v := 1) hx hb dX2_narrow_1 kk_ic_1 ?_
  refine lv_iadd hx hb dX2_narrow_2 ?_
  refine lv_topi (fun y_1 e_1 => ?_)
  obtain rfl : y_1 = 4 := e_1.trans (by decide)
  refine lv_istore_n hx hb dX2_narrow_3 rfl hl (by decide) (rfl : _ = ([(3, .int 4), (0, .ref h0), (1, .int 3), (2, .int p1)] : List (Nat × Value))) (fun ls hl => ?_)
  refine kk_loop (σ := Int32 × (Nat → Nat → Int64)) (fun x H locs ls => (4 ≤ x.1.toInt ∧ x.1.toInt ≤ 5) ∧ va_P (dC, dI) vwCl (([(h0, kO2 h5 h6 h7 n0_size h8 n0_names n0_plots h9 h1 h2 h10 h11 n0_ways), (h1, kAr cAlong 25 (fun j => some (h3 j))), (h2, kAr cAlong 5 (fun j => some (h4 j)))] : va_W) ++ (kk_rowsL h3 clong 40 F3 25 ++ (kk_rowsL h4 clong 5 x.2 5))) H ∧ va_D A (([(h0, kO2 h5 h6 h7 n0_size h8 n0_names n0_plots h9 h1 h2 h10 h11 n0_ways), (h1, kAr cAlong 25 (fun j => some (h3 j))), (h2, kAr cAlong 5 (fun j => some (h4 j)))] : va_W) ++ (kk_rowsL h3 clong 40 F3 25 ++ (kk_rowsL h4 clong 5 x.2 5))) ∧ va_S A s.heap H locs ∧ lv_has ls 6 [(3, .int x.1), (0, .ref h0), (1, .int 3), (2, .int p1)]) (fun x => ((5 : Int) - x.1.toInt).toNat) ?_ (4, F4) _ _ _ ⟨(by show 4 ≤ (4 : Int32).toInt ∧ (4 : Int32).toInt ≤ 5; first | decide | ((omega))), hP, hD, hS, hl⟩
  rintro ⟨i_2_0, f_2_1⟩ H locs ls ⟨t_2_0, hP, hD, hS, hl⟩ ih_2
  have t_2_0 : (4 ≤ i_2_0.toInt ∧ i_2_0.toInt ≤ 5) := t_2_0
  have hl : lv_has ls 6 [(3, .int i_2_0), (0, .ref h0), (1, .int 3), (2, .int p1)] := hl
  have hP : va_P (dC, dI) vwCl (([(h0, kO2 h5 h6 h7 n0_size h8 n0_names n0_plots h9 h1 h2 h10 h11 n0_ways), (h1, kAr cAlong 25 (fun j => some (h3 j))), (h2, kAr cAlong 5 (fun j => some (h4 j)))] : va_W) ++ (kk_rowsL h3 clong 40 F3 25 ++ (kk_rowsL h4 clong 5 f_2_1 5))) H := hP
  have hD : va_D A (([(h0, kO2 h5 h6 h7 n0_size h8 n0_names n0_plots h9 h1 h2 h10 h11 n0_ways), (h1, kAr cAlong 25 (fun j => some (h3 j))), (h2, kAr cAlong 5 (fun j => some (h4 j)))] : va_W) ++ (kk_rowsL h3 clong 40 F3 25 ++ (kk_rowsL h4 clong 5 f_2_1 5))) := hD
  refine lv_iload_n hx hb dX2_narrow_4 rfl (lv_at hl 0 rfl) ?_
  refine lv_aload_n hx hb dX2_narrow_5 rfl (lv_at hl 1 rfl) ?_
  refine va_get (D := (dC, dI)) (ci := 2) (v := .int n0_names) (C := RX2) (T := TX2) (N := 13) hx hb hts (fun _ h => List.mem_cons_of_mem _ (List.mem_append_right _ h)) hown hK hP 0 rfl rfl 5 (by decide) (hts (.fieldLink RX2 49 "KinkStreet$Deeds" "names" "I") (List.mem_of_getElem? (i := 1) rfl)) (fun _ h9 => h9) rfl dX2_narrow_6 ?_
  refine lv_icmp_ge (tgt := 62) hx hb dX2_narrow_9 (by decide) (fun c_3 => ?_) (fun c_3 => ?_)
  · have t_3 : n0_names.toInt ≤ i_2_0.toInt := kk_le c_3
    refine lv_iconst (v := 1) hx hb dX2_narrow_62 kk_ic_1 ?_
    have hP9 := hP.part (cx := [(h0, kO2 h5 h6 h7 n0_size h8 n0_names n0_plots h9 h1 h2 h10 h11 n0_ways), (h1, kAr cAlong 25 (fun j => some (h3 j))), (h2, kAr cAlong 5 (fun j => some (h4 j)))]) [0, 1, 2] rfl
    have hD9 := hD.part (cx := [(h0, kO2 h5 h6 h7 n0_size h8 n0_names n0_plots h9 h1 h2 h10 h11 n0_ways), (h1, kAr cAlong 25 (fun j => some (h3 j))), (h2, kAr cAlong 5 (fun j => some (h4 j)))]) [0, 1, 2] (by decide) rfl
    have hK9 := kk_Ks (tq := []) hK [] rfl
    exact W.zret (v := 1) hx hb hr rfl (fun t ht hW => ⟨⟨1, (), rfl, Or.inr (rfl), f_2_1, by rw [ht]; exact hP9, va_K.moved hW.alike hK9, hD9⟩, hS.F ht⟩) hS.2.2 dX2_narrow_63
  · have t_3 : i_2_0.toInt < n0_names.toInt := kk_nle c_3
    refine lv_aload_n hx hb dX2_narrow_12 rfl (lv_at hl 1 rfl) ?_
    refine va_get (D := (dC, dI)) (ci := 2) (v := .ref h2) (C := RX2) (T := TX2) (N := 13) hx hb hts (fun _ h => List.mem_cons_of_mem _ (List.mem_append_right _ h)) hown hK hP 0 rfl rfl 9 (by decide) (hts (.fieldLink RX2 32 "KinkStreet$Deeds" "open" "[[J") (List.mem_of_getElem? (i := 2) rfl)) (fun _ h9 => h9) rfl dX2_narrow_13 ?_
    refine lv_iload_n hx hb dX2_narrow_16 rfl (lv_at hl 2 rfl) ?_
    have hi_4 : vp_in (3 : Int32) 5 := (by unfold vp_in; decide)
    have hk_4 : (3 : Int32).toNatClampNeg < 5 := Nat.not_le.mp fun q => hi_4 (Or.inr q)
    refine kk_aald hx hb hK hP 2 0 rfl rfl hi_4 dX2_narrow_17 ?_
    refine W.eq (g2 := F0 m 18 ls [.ref (h4 (3 : Int32).toNatClampNeg)]) rfl ?_
    refine lv_iload_n hx hb dX2_narrow_18 rfl (lv_at hl 0 rfl) ?_
    refine va_lald hx hb hK hP _ 1 (kk_getr (kk_getr (kk_rowL hk_4))) rfl (vp_in_iff.mpr ⟨by omega, by omega⟩) dX2_narrow_19 ?_
    refine lv_topl (fun y_5 e_5 => ?_)
    clear e_5
    refine lv_aload_n hx hb dX2_narrow_20 rfl (lv_at hl 1 rfl) ?_
    refine va_get (D := (dC, dI)) (ci := 2) (v := .ref h1) (C := RX2) (T := TX2) (N := 13) hx hb hts (fun _ h => List.mem_cons_of_mem _ (List.mem_append_right _ h)) hown hK hP 0 rfl rfl 8 (by decide) (hts (.fieldLink RX2 29 "KinkStreet$Deeds" "fits" "[[J") (List.mem_of_getElem? (i := 3) rfl)) (fun _ h9 => h9) rfl dX2_narrow_21 ?_
    refine lv_iload_n hx hb dX2_narrow_24 rfl (lv_at hl 2 rfl) ?_
    refine lv_iconst (v := 5) hx hb dX2_narrow_25 kk_ic_5 ?_
    refine lv_imul hx hb dX2_narrow_26 ?_
    refine lv_topi (fun y_6 e_6 => ?_)
    obtain rfl : y_6 = 15 := e_6.trans (by decide)
    refine lv_iload_n hx hb dX2_narrow_27 rfl (lv_at hl 0 rfl) ?_
    refine lv_iadd hx hb dX2_narrow_28 ?_
    try have := kk_add2 (x := 15) (y := i_2_0) (a := 15) (b := i_2_0.toInt) rfl rfl (by omega) (by omega)
    have hi_7 : vp_in ((15 + i_2_0) : Int32) 25 := (vp_in_iff.mpr ⟨by omega, by omega⟩)
    have hk_7 : ((15 + i_2_0) : Int32).toNatClampNeg < 25 := Nat.not_le.mp fun q => hi_7 (Or.inr q)
    refine kk_aald hx hb hK hP 1 0 rfl rfl hi_7 dX2_narrow_29 ?_
    refine W.eq (g2 := F0 m 30 ls [.ref (h3 ((15 + i_2_0) : Int32).toNatClampNeg), .long y_5]) rfl ?_
    refine lv_iload_n hx hb dX2_narrow_30 rfl (lv_at hl 3 rfl) ?_
    refine va_lald hx hb hK hP _ 1 (kk_getr (kk_getl (kk_rowL hk_7))) rfl (vp_in_iff.mpr ⟨by omega, by omega⟩) dX2_narrow_31 ?_
    refine lv_topl (fun y_8 e_8 => ?_)
    clear e_8
    refine lv_land hx hb dX2_narrow_32 ?_
    refine lv_topl (fun y_9 e_9 => ?_)
    clear e_9
    refine lv_lstore hx hb dX2_narrow_33 hl (by decide) (rfl : _ = ([(4, .long y_9), (3, .int i_2_0), (0, .ref h0), (1, .int 3), (2, .int p1)] : List (Nat × Value))) (fun ls hl => ?_)
    refine lv_aload_n hx hb dX2_narrow_35 rfl (lv_at hl 2 rfl) ?_
    refine va_get (D := (dC, dI)) (ci := 2) (v := .ref h2) (C := RX2) (T := TX2) (N := 13) hx hb hts (fun _ h => List.mem_cons_of_mem _ (List.mem_append_right _ h)) hown hK hP 0 rfl rfl 9 (by decide) (hts (.fieldLink RX2 32 "KinkStreet$Deeds" "open" "[[J") (List.mem_of_getElem? (i := 2) rfl)) (fun _ h9 => h9) rfl dX2_narrow_36 ?_
    refine lv_iload_n hx hb dX2_narrow_39 rfl (lv_at hl 3 rfl) ?_
    refine lv_iconst (v := 1) hx hb dX2_narrow_40 kk_ic_1 ?_
    refine lv_iadd hx hb dX2_narrow_41 ?_
    refine lv_topi (fun y_10 e_10 => ?_)
    obtain rfl : y_10 = 4 := e_10.trans (by decide)
    have hi_11 : vp_in (4 : Int32) 5 := (by unfold vp_in; decide)
    have hk_11 : (4 : Int32).toNatClampNeg < 5 := Nat.not_le.mp fun q => hi_11 (Or.inr q)
    refine kk_aald hx hb hK hP 2 0 rfl rfl hi_11 dX2_narrow_42 ?_
    refine W.eq (g2 := F0 m 43 ls [.ref (h4 (4 : Int32).toNatClampNeg)]) rfl ?_
    refine lv_iload_n hx hb dX2_narrow_43 rfl (lv_at hl 1 rfl) ?_
    refine lv_lload hx hb dX2_narrow_44 (lv_at hl 0 rfl) ?_
    refine va_last hx hb hK hP hD hS _ 1 (kk_getr (kk_getr (kk_rowL hk_11))) rfl (vp_in_iff.mpr ⟨by omega, by omega⟩) dX2_narrow_46 (fun H locs hP hD hS => ?_)
    rw [kk_setr, kk_setr, kk_rowsL_set hk_11] at hP hD
    generalize kk_upF f_2_1 (4 : Int32).toNatClampNeg (vp_updL (f_2_1 (4 : Int32).toNatClampNeg) (i_2_0 : Int32).toNatClampNeg y_9) = F_12 at hP hD
    have hP : va_P (dC, dI) vwCl (([(h0, kO2 h5 h6 h7 n0_size h8 n0_names n0_plots h9 h1 h2 h10 h11 n0_ways), (h1, kAr cAlong 25 (fun j => some (h3 j))), (h2, kAr cAlong 5 (fun j => some (h4 j)))] : va_W) ++ (kk_rowsL h3 clong 40 F3 25 ++ (kk_rowsL h4 clong 5 F_12 5))) H := hP
    have hD : va_D A (([(h0, kO2 h5 h6 h7 n0_size h8 n0_names n0_plots h9 h1 h2 h10 h11 n0_ways), (h1, kAr cAlong 25 (fun j => some (h3 j))), (h2, kAr cAlong 5 (fun j => some (h4 j)))] : va_W) ++ (kk_rowsL h3 clong 40 F3 25 ++ (kk_rowsL h4 clong 5 F_12 5))) := hD
    refine lv_lload hx hb dX2_narrow_47 (lv_at hl 0 rfl) ?_
    refine lv_lconst (v := 0) hx hb dX2_narrow_49 (by decide) ?_
    refine W.lcmp hx hb dX2_narrow_50 ?_
    refine lv_if_ne (tgt := 56) hx hb dX2_narrow_51 (by decide) (fun _ => ?_) (fun _ => ?_)
    · skip
      refine lv_iinc (v := (i_2_0 + 1)) hx hb dX2_narrow_56 hl (k := 1) rfl (by first | rfl | decide) (by decide) (rfl : _ = ([(3, .int (i_2_0 + 1)), (4, .long y_9), (0, .ref h0), (1, .int 3), (2, .int p1)] : List (Nat × Value))) (fun ls hl => ?_)
      refine lv_goto (tgt := 4) hx hb dX2_narrow_59 (by decide) ?_
      try have := kk_add2 (x := i_2_0) (y := 1) (a := i_2_0.toInt) (b := 1) rfl rfl (by omega) (by omega)
      exact ih_2 ((i_2_0 + 1), F_12) _ _ _ (by show ((5 : Int) - ((i_2_0 + 1)).toInt).toNat < ((5 : Int) - i_2_0.toInt).toNat; exact kk_mu (by omega) (by omega)) ⟨(by show 4 ≤ ((i_2_0 + 1) : Int32).toInt ∧ ((i_2_0 + 1) : Int32).toInt ≤ 5; first | decide | ((omega))), hP, hD, hS, lv_sub hl [0, 2, 3, 4] rfl⟩
    · skip
      refine lv_iconst (v := 0) hx hb dX2_narrow_54 kk_ic_0 ?_
      have hP9 := hP.part (cx := [(h0, kO2 h5 h6 h7 n0_size h8 n0_names n0_plots h9 h1 h2 h10 h11 n0_ways), (h1, kAr cAlong 25 (fun j => some (h3 j))), (h2, kAr cAlong 5 (fun j => some (h4 j)))]) [0, 1, 2] rfl
      have hD9 := hD.part (cx := [(h0, kO2 h5 h6 h7 n0_size h8 n0_names n0_plots h9 h1 h2 h10 h11 n0_ways), (h1, kAr cAlong 25 (fun j => some (h3 j))), (h2, kAr cAlong 5 (fun j => some (h4 j)))]) [0, 1, 2] (by decide) rfl
      have hK9 := kk_Ks (tq := []) hK [] rfl
      exact W.zret (v := 0) hx hb hr rfl (fun t ht hW => ⟨⟨0, (), rfl, Or.inl ⟨by first | with_reducible assumption | (omega) | assumption, rfl⟩, F_12, by rw [ht]; exact hP9, va_K.moved hW.alike hK9, hD9⟩, hS.F ht⟩) hS.2.2 dX2_narrow_55
set_option maxHeartbeats 4000000 in
set_option maxRecDepth 100000 in
theorem g_J13_bitCount_95d88_0 (l : Launch) (dC : Nat → ClassId) (dI : Nat → Nat → Nat) (sz : Nat) (v0 : Int64) (xv0 : Int) (exv0 : v0.toInt = xv0) : Met l yJ13_bitCount_95d88 wsJ13_bitCount_95d88 ({ frames := 0, cells := 0, slots := 0, locals := 0 }) (va_Pc [.long v0] (fun U => U.heap.size = sz ∧ va_P (dC, dI) vwCl [] U.heap ∧ va_K (dC, dI) vwCl [] U ∧ va_D (fun _ => True) [])) (va_Qi (fun (r : Int32) (_ : Unit) => True) (fun (_ : Unit) t => va_P (dC, dI) vwCl [] t.heap ∧ va_K (dC, dI) vwCl [] t ∧ va_D (va_A [] sz) []) (va_A [] sz)) 0 0 (va_A [] sz) := by
  refine Met.ofW (cc := cJ13_bitCount_95d88) (maxL := 2) (ret := (some .int)) (by decide) rfl ?_
  intro p e s m args below meth c s₁ B hml hv
  obtain ⟨rfl, hsz, hP, hK, hD0⟩ := hv
  have hx := B.exec
  have hb := B.bytes
  have hr := B.returns
  have hts := atoms_spec (ws := wsJ13_bitCount_95d88) B.pre
  have hown : s.vm.findClass RJ13 = some m.cls := findClass_of_methodNamed B.named
  have hlocks := B.notSynchronized
  subst hsz
  have hD := hD0.self (sz := s.heap.size)
  generalize hAe : va_A [] s.heap.size = A at hD ⊢
  have hA : ∀ q : Nat, s.heap.size ≤ q → A q := fun q h => by rw [← hAe]; exact Or.inr h
  have hS : va_S A s.heap s.heap [] := va_S.rf
  have hP : va_P (dC, dI) vwCl [] s.heap := hP
  have hl := lv_entry ([.long v0]) (n := 2) (Nat.le_of_ble_eq_true rfl)
  rw [lg_entry_eq]
  generalize (lg_sl ([.long v0]) ++ List.replicate (2 - (lg_sl ([.long v0])).length) Slot.unset).toArray = ls at hl ⊢
  have hl : lv_has ls 2 [(0, .long v0)] := hl
  refine lv_lload_n hx hb dJ13_bitCount_95d88_0 rfl (lv_at hl 0 rfl) ?_
  refine lv_lload_n hx hb dJ13_bitCount_95d88_1 rfl (lv_at hl 0 rfl) ?_
  refine lv_iconst (v := 1) hx hb dJ13_bitCount_95d88_2 kk_ic_1 ?_
  refine lv_lushr hx hb dJ13_bitCount_95d88_3 rfl ?_
  refine lv_topl (fun y_1 e_1 => ?_)
  clear e_1
  refine lv_ldc2 hx hb hown (hts _ (List.mem_of_getElem? (i := 1) rfl)) dJ13_bitCount_95d88_4 ?_
  refine lv_land hx hb dJ13_bitCount_95d88_7 ?_
  refine lv_topl (fun y_2 e_2 => ?_)
  clear e_2
  refine lv_lsub hx hb dJ13_bitCount_95d88_8 ?_
  refine lv_topl (fun y_3 e_3 => ?_)
  clear e_3
  refine lv_lstore_n hx hb dJ13_bitCount_95d88_9 rfl hl (by decide) (rfl : _ = ([(0, .long y_3)] : List (Nat × Value))) (fun ls hl => ?_)
  refine lv_lload_n hx hb dJ13_bitCount_95d88_10 rfl (lv_at hl 0 rfl) ?_
  refine lv_ldc2 hx hb hown (hts _ (List.mem_of_getElem? (i := 2) rfl)) dJ13_bitCount_95d88_11 ?_
  refine lv_land hx hb dJ13_bitCount_95d88_14 ?_
  refine lv_topl (fun y_4 e_4 => ?_)
  clear e_4
  refine lv_lload_n hx hb dJ13_bitCount_95d88_15 rfl (lv_at hl 0 rfl) ?_
  refine lv_iconst (v := 2) hx hb dJ13_bitCount_95d88_16 kk_ic_2 ?_
  refine lv_lushr hx hb dJ13_bitCount_95d88_17 rfl ?_
  refine lv_topl (fun y_5 e_5 => ?_)
  clear e_5
  refine lv_ldc2 hx hb hown (hts _ (List.mem_of_getElem? (i := 2) rfl)) dJ13_bitCount_95d88_18 ?_
  refine lv_land hx hb dJ13_bitCount_95d88_21 ?_
  refine lv_topl (fun y_6 e_6 => ?_)
  clear e_6
  refine lv_ladd hx hb dJ13_bitCount_95d88_22 ?_
  refine lv_topl (fun y_7 e_7 => ?_)
  clear e_7
  refine lv_lstore_n hx hb dJ13_bitCount_95d88_23 rfl hl (by decide) (rfl : _ = ([(0, .long y_7)] : List (Nat × Value))) (fun ls hl => ?_)
  refine lv_lload_n hx hb dJ13_bitCount_95d88_24 rfl (lv_at hl 0 rfl) ?_
  refine lv_lload_n hx hb dJ13_bitCount_95d88_25 rfl (lv_at hl 0 rfl) ?_
  refine lv_iconst (v := 4) hx hb dJ13_bitCount_95d88_26 kk_ic_4 ?_
  refine lv_lushr hx hb dJ13_bitCount_95d88_27 rfl ?_
  refine lv_topl (fun y_8 e_8 => ?_)
  clear e_8
  refine lv_ladd hx hb dJ13_bitCount_95d88_28 ?_
  refine lv_topl (fun y_9 e_9 => ?_)
  clear e_9
  refine lv_ldc2 hx hb hown (hts _ (List.mem_of_getElem? (i := 3) rfl)) dJ13_bitCount_95d88_29 ?_
  refine lv_land hx hb dJ13_bitCount_95d88_32 ?_
  refine lv_topl (fun y_10 e_10 => ?_)
  clear e_10
  refine lv_lstore_n hx hb dJ13_bitCount_95d88_33 rfl hl (by decide) (rfl : _ = ([(0, .long y_10)] : List (Nat × Value))) (fun ls hl => ?_)
  refine lv_lload_n hx hb dJ13_bitCount_95d88_34 rfl (lv_at hl 0 rfl) ?_
  refine lv_lload_n hx hb dJ13_bitCount_95d88_35 rfl (lv_at hl 0 rfl) ?_
  refine lv_bipush (v := 8) hx hb dJ13_bitCount_95d88_36 kk_bi_8 ?_
  refine lv_lushr hx hb dJ13_bitCount_95d88_38 rfl ?_
  refine lv_topl (fun y_11 e_11 => ?_)
  clear e_11
  refine lv_ladd hx hb dJ13_bitCount_95d88_39 ?_
  refine lv_topl (fun y_12 e_12 => ?_)
  clear e_12
  refine lv_lstore_n hx hb dJ13_bitCount_95d88_40 rfl hl (by decide) (rfl : _ = ([(0, .long y_12)] : List (Nat × Value))) (fun ls hl => ?_)
  refine lv_lload_n hx hb dJ13_bitCount_95d88_41 rfl (lv_at hl 0 rfl) ?_
  refine lv_lload_n hx hb dJ13_bitCount_95d88_42 rfl (lv_at hl 0 rfl) ?_
  refine lv_bipush (v := 16) hx hb dJ13_bitCount_95d88_43 kk_bi_16 ?_
  refine lv_lushr hx hb dJ13_bitCount_95d88_45 rfl ?_
  refine lv_topl (fun y_13 e_13 => ?_)
  clear e_13
  refine lv_ladd hx hb dJ13_bitCount_95d88_46 ?_
  refine lv_topl (fun y_14 e_14 => ?_)
  clear e_14
  refine lv_lstore_n hx hb dJ13_bitCount_95d88_47 rfl hl (by decide) (rfl : _ = ([(0, .long y_14)] : List (Nat × Value))) (fun ls hl => ?_)
  refine lv_lload_n hx hb dJ13_bitCount_95d88_48 rfl (lv_at hl 0 rfl) ?_
  refine lv_lload_n hx hb dJ13_bitCount_95d88_49 rfl (lv_at hl 0 rfl) ?_
  refine lv_bipush (v := 32) hx hb dJ13_bitCount_95d88_50 kk_bi_32 ?_
  refine lv_lushr hx hb dJ13_bitCount_95d88_52 rfl ?_
  refine lv_topl (fun y_15 e_15 => ?_)
  clear e_15
  refine lv_ladd hx hb dJ13_bitCount_95d88_53 ?_
  refine lv_topl (fun y_16 e_16 => ?_)
  clear e_16
  refine lv_lstore_n hx hb dJ13_bitCount_95d88_54 rfl hl (by decide) (rfl : _ = ([(0, .long y_16)] : List (Nat × Value))) (fun ls hl => ?_)
  refine lv_lload_n hx hb dJ13_bitCount_95d88_55 rfl (lv_at hl 0 rfl) ?_
  refine lv_l2i hx hb dJ13_bitCount_95d88_56 rfl ?_
  refine lv_topi (fun y_17 e_17 => ?_)
  clear e_17
  refine lv_bipush (v := 127) hx hb dJ13_bitCount_95d88_57 kk_bi_127 ?_
  refine lv_iand hx hb dJ13_bitCount_95d88_59 ?_
  refine lv_topi (fun y_18 e_18 => ?_)
  clear e_18
  obtain ⟨hP9, hD9⟩ := kk_leafout (wc := []) hP hD [] (by decide) rfl
  have hK9 := kk_Ks (tq := []) hK [] rfl
  exact W.iret (v := y_18) hx hb hr (fun t ht hW => ⟨⟨y_18, (), rfl, trivial, by rw [ht]; exact hP9, va_K.moved hW.alike hK9, hD9⟩, hS.F ht⟩) hS.2.2 dJ13_bitCount_95d88_60
set_option maxHeartbeats 4000000 in
set_option maxRecDepth 100000 in
theorem g_J6_numberOfTrailingZeros_0f7a4_0 (l : Launch) (dC : Nat → ClassId) (dI : Nat → Nat → Nat) (sz : Nat) (p0 : Int32) : Met l yJ6_numberOfTrailingZeros_0f7a4 wsJ6_numberOfTrailingZeros_0f7a4 ({ frames := 0, cells := 0, slots := 0, locals := 0 }) (va_Pc [.int p0] (fun U => U.heap.size = sz ∧ va_P (dC, dI) vwCl [] U.heap ∧ va_K (dC, dI) vwCl [] U ∧ va_D (fun _ => True) [])) (va_Qi (fun (r : Int32) (_ : Unit) => True) (fun (_ : Unit) t => va_P (dC, dI) vwCl [] t.heap ∧ va_K (dC, dI) vwCl [] t ∧ va_D (va_A [] sz) []) (va_A [] sz)) 0 0 (va_A [] sz) := by
  refine Met.ofW (cc := cJ6_numberOfTrailingZeros_0f7a4) (maxL := 2) (ret := (some .int)) (by decide) rfl ?_
  intro p e s m args below meth c s₁ B hml hv
  obtain ⟨rfl, hsz, hP, hK, hD0⟩ := hv
  have hx := B.exec
  have hb := B.bytes
  have hr := B.returns
  have hts := atoms_spec (ws := wsJ6_numberOfTrailingZeros_0f7a4) B.pre
  have hown : s.vm.findClass RJ6 = some m.cls := findClass_of_methodNamed B.named
  have hlocks := B.notSynchronized
  subst hsz
  have hD := hD0.self (sz := s.heap.size)
  generalize hAe : va_A [] s.heap.size = A at hD ⊢
  have hA : ∀ q : Nat, s.heap.size ≤ q → A q := fun q h => by rw [← hAe]; exact Or.inr h
  have hS : va_S A s.heap s.heap [] := va_S.rf
  have hP : va_P (dC, dI) vwCl [] s.heap := hP
  have hl := lv_entry ([.int p0]) (n := 2) (Nat.le_of_ble_eq_true rfl)
  rw [lg_entry_eq]
  generalize (lg_sl ([.int p0]) ++ List.replicate (2 - (lg_sl ([.int p0])).length) Slot.unset).toArray = ls at hl ⊢
  have hl : lv_has ls 2 [(0, .int p0)] := hl
  refine lv_iload_n hx hb dJ6_numberOfTrailingZeros_0f7a4_0 rfl (lv_at hl 0 rfl) ?_
  refine lv_iconst (v := (-1)) hx hb dJ6_numberOfTrailingZeros_0f7a4_1 kk_ic_m1 ?_
  refine lv_ixor hx hb dJ6_numberOfTrailingZeros_0f7a4_2 ?_
  refine lv_topi (fun y_1 e_1 => ?_)
  clear e_1
  refine lv_iload_n hx hb dJ6_numberOfTrailingZeros_0f7a4_3 rfl (lv_at hl 0 rfl) ?_
  refine lv_iconst (v := 1) hx hb dJ6_numberOfTrailingZeros_0f7a4_4 kk_ic_1 ?_
  refine lv_isub hx hb dJ6_numberOfTrailingZeros_0f7a4_5 ?_
  refine lv_iand hx hb dJ6_numberOfTrailingZeros_0f7a4_6 ?_
  refine lv_topi (fun y_2 e_2 => ?_)
  clear e_2
  refine lv_istore_n hx hb dJ6_numberOfTrailingZeros_0f7a4_7 rfl hl (by decide) (rfl : _ = ([(0, .int y_2)] : List (Nat × Value))) (fun ls hl => ?_)
  refine lv_iload_n hx hb dJ6_numberOfTrailingZeros_0f7a4_8 rfl (lv_at hl 0 rfl) ?_
  refine lv_if_gt (tgt := 17) hx hb dJ6_numberOfTrailingZeros_0f7a4_9 (by decide) (fun c_3 => ?_) (fun c_3 => ?_)
  · have t_3 : 0 < y_2.toInt := kk_lt c_3
    refine lv_iconst (v := 1) hx hb dJ6_numberOfTrailingZeros_0f7a4_17 kk_ic_1 ?_
    refine lv_istore_n hx hb dJ6_numberOfTrailingZeros_0f7a4_18 rfl hl (by decide) (rfl : _ = ([(1, .int 1), (0, .int y_2)] : List (Nat × Value))) (fun ls hl => ?_)
    refine lv_iload_n hx hb dJ6_numberOfTrailingZeros_0f7a4_19 rfl (lv_at hl 1 rfl) ?_
    refine lv_ldcw hx hb hown (hts _ (List.mem_of_getElem? (i := 1) rfl)) dJ6_numberOfTrailingZeros_0f7a4_20 ?_
    refine lv_icmp_le (tgt := 34) hx hb dJ6_numberOfTrailingZeros_0f7a4_23 (by decide) (fun c_4 => ?_) (fun c_4 => ?_)
    · have t_4 : y_2.toInt ≤ 65536 := kk_le c_4
      refine lv_iload_n hx hb dJ6_numberOfTrailingZeros_0f7a4_34 rfl (lv_at hl 1 rfl) ?_
      refine lv_sipush (v := 256) hx hb dJ6_numberOfTrailingZeros_0f7a4_35 kk_si_256 ?_
      refine lv_icmp_le (tgt := 49) hx hb dJ6_numberOfTrailingZeros_0f7a4_38 (by decide) (fun c_5 => ?_) (fun c_5 => ?_)
      · have t_5 : y_2.toInt ≤ 256 := kk_le c_5
        refine lv_iload_n hx hb dJ6_numberOfTrailingZeros_0f7a4_49 rfl (lv_at hl 1 rfl) ?_
        refine lv_bipush (v := 16) hx hb dJ6_numberOfTrailingZeros_0f7a4_50 kk_bi_16 ?_
        refine lv_icmp_le (tgt := 62) hx hb dJ6_numberOfTrailingZeros_0f7a4_52 (by decide) (fun c_6 => ?_) (fun c_6 => ?_)
        · have t_6 : y_2.toInt ≤ 16 := kk_le c_6
          refine lv_iload_n hx hb dJ6_numberOfTrailingZeros_0f7a4_62 rfl (lv_at hl 1 rfl) ?_
          refine lv_iconst (v := 4) hx hb dJ6_numberOfTrailingZeros_0f7a4_63 kk_ic_4 ?_
          refine lv_icmp_le (tgt := 74) hx hb dJ6_numberOfTrailingZeros_0f7a4_64 (by decide) (fun c_7 => ?_) (fun c_7 => ?_)
          · have t_7 : y_2.toInt ≤ 4 := kk_le c_7
            refine lv_iload_n hx hb dJ6_numberOfTrailingZeros_0f7a4_74 rfl (lv_at hl 0 rfl) ?_
            refine lv_iload_n hx hb dJ6_numberOfTrailingZeros_0f7a4_75 rfl (lv_at hl 1 rfl) ?_
            refine lv_iconst (v := 1) hx hb dJ6_numberOfTrailingZeros_0f7a4_76 kk_ic_1 ?_
            refine lv_iushr hx hb dJ6_numberOfTrailingZeros_0f7a4_77 rfl ?_
            refine lv_topi (fun y_8 e_8 => ?_)
            clear e_8
            refine lv_iadd hx hb dJ6_numberOfTrailingZeros_0f7a4_78 ?_
            obtain ⟨hP9, hD9⟩ := kk_leafout (wc := []) hP hD [] (by decide) rfl
            have hK9 := kk_Ks (tq := []) hK [] rfl
            exact W.iret (v := (1 + y_8)) hx hb hr (fun t ht hW => ⟨⟨(1 + y_8), (), rfl, trivial, by rw [ht]; exact hP9, va_K.moved hW.alike hK9, hD9⟩, hS.F ht⟩) hS.2.2 dJ6_numberOfTrailingZeros_0f7a4_79
          · have t_7 : 4 < y_2.toInt := kk_nle c_7
            refine lv_iinc (v := 3) hx hb dJ6_numberOfTrailingZeros_0f7a4_67 hl (k := 0) rfl (by first | rfl | decide) (by decide) (rfl : _ = ([(1, .int 3), (0, .int y_2)] : List (Nat × Value))) (fun ls hl => ?_)
            refine lv_iload_n hx hb dJ6_numberOfTrailingZeros_0f7a4_70 rfl (lv_at hl 1 rfl) ?_
            refine lv_iconst (v := 2) hx hb dJ6_numberOfTrailingZeros_0f7a4_71 kk_ic_2 ?_
            refine lv_iushr hx hb dJ6_numberOfTrailingZeros_0f7a4_72 rfl ?_
            refine lv_topi (fun y_9 e_9 => ?_)
            clear e_9
            refine lv_istore_n hx hb dJ6_numberOfTrailingZeros_0f7a4_73 rfl hl (by decide) (rfl : _ = ([(0, .int y_9), (1, .int 3)] : List (Nat × Value))) (fun ls hl => ?_)
            refine lv_iload_n hx hb dJ6_numberOfTrailingZeros_0f7a4_74 rfl (lv_at hl 1 rfl) ?_
            refine lv_iload_n hx hb dJ6_numberOfTrailingZeros_0f7a4_75 rfl (lv_at hl 0 rfl) ?_
            refine lv_iconst (v := 1) hx hb dJ6_numberOfTrailingZeros_0f7a4_76 kk_ic_1 ?_
            refine lv_iushr hx hb dJ6_numberOfTrailingZeros_0f7a4_77 rfl ?_
            refine lv_topi (fun y_10 e_10 => ?_)
            clear e_10
            refine lv_iadd hx hb dJ6_numberOfTrailingZeros_0f7a4_78 ?_
            obtain ⟨hP9, hD9⟩ := kk_leafout (wc := []) hP hD [] (by decide) rfl
            have hK9 := kk_Ks (tq := []) hK [] rfl
            exact W.iret (v := (3 + y_10)) hx hb hr (fun t ht hW => ⟨⟨(3 + y_10), (), rfl, trivial, by rw [ht]; exact hP9, va_K.moved hW.alike hK9, hD9⟩, hS.F ht⟩) hS.2.2 dJ6_numberOfTrailingZeros_0f7a4_79
        · have t_6 : 16 < y_2.toInt := kk_nle c_6
          refine lv_iinc (v := 5) hx hb dJ6_numberOfTrailingZeros_0f7a4_55 hl (k := 0) rfl (by first | rfl | decide) (by decide) (rfl : _ = ([(1, .int 5), (0, .int y_2)] : List (Nat × Value))) (fun ls hl => ?_)
          refine lv_iload_n hx hb dJ6_numberOfTrailingZeros_0f7a4_58 rfl (lv_at hl 1 rfl) ?_
          refine lv_iconst (v := 4) hx hb dJ6_numberOfTrailingZeros_0f7a4_59 kk_ic_4 ?_
          refine lv_iushr hx hb dJ6_numberOfTrailingZeros_0f7a4_60 rfl ?_
          refine lv_topi (fun y_11 e_11 => ?_)
          clear e_11
          refine lv_istore_n hx hb dJ6_numberOfTrailingZeros_0f7a4_61 rfl hl (by decide) (rfl : _ = ([(0, .int y_11), (1, .int 5)] : List (Nat × Value))) (fun ls hl => ?_)
          refine lv_iload_n hx hb dJ6_numberOfTrailingZeros_0f7a4_62 rfl (lv_at hl 0 rfl) ?_
          refine lv_iconst (v := 4) hx hb dJ6_numberOfTrailingZeros_0f7a4_63 kk_ic_4 ?_
          refine lv_icmp_le (tgt := 74) hx hb dJ6_numberOfTrailingZeros_0f7a4_64 (by decide) (fun c_12 => ?_) (fun c_12 => ?_)
          · have t_12 : y_11.toInt ≤ 4 := kk_le c_12
            refine lv_iload_n hx hb dJ6_numberOfTrailingZeros_0f7a4_74 rfl (lv_at hl 1 rfl) ?_
            refine lv_iload_n hx hb dJ6_numberOfTrailingZeros_0f7a4_75 rfl (lv_at hl 0 rfl) ?_
            refine lv_iconst (v := 1) hx hb dJ6_numberOfTrailingZeros_0f7a4_76 kk_ic_1 ?_
            refine lv_iushr hx hb dJ6_numberOfTrailingZeros_0f7a4_77 rfl ?_
            refine lv_topi (fun y_13 e_13 => ?_)
            clear e_13
            refine lv_iadd hx hb dJ6_numberOfTrailingZeros_0f7a4_78 ?_
            obtain ⟨hP9, hD9⟩ := kk_leafout (wc := []) hP hD [] (by decide) rfl
            have hK9 := kk_Ks (tq := []) hK [] rfl
            exact W.iret (v := (5 + y_13)) hx hb hr (fun t ht hW => ⟨⟨(5 + y_13), (), rfl, trivial, by rw [ht]; exact hP9, va_K.moved hW.alike hK9, hD9⟩, hS.F ht⟩) hS.2.2 dJ6_numberOfTrailingZeros_0f7a4_79
          · have t_12 : 4 < y_11.toInt := kk_nle c_12
            refine lv_iinc (v := 7) hx hb dJ6_numberOfTrailingZeros_0f7a4_67 hl (k := 1) rfl (by first | rfl | decide) (by decide) (rfl : _ = ([(1, .int 7), (0, .int y_11)] : List (Nat × Value))) (fun ls hl => ?_)
            refine lv_iload_n hx hb dJ6_numberOfTrailingZeros_0f7a4_70 rfl (lv_at hl 1 rfl) ?_
            refine lv_iconst (v := 2) hx hb dJ6_numberOfTrailingZeros_0f7a4_71 kk_ic_2 ?_
            refine lv_iushr hx hb dJ6_numberOfTrailingZeros_0f7a4_72 rfl ?_
            refine lv_topi (fun y_14 e_14 => ?_)
            clear e_14
            refine lv_istore_n hx hb dJ6_numberOfTrailingZeros_0f7a4_73 rfl hl (by decide) (rfl : _ = ([(0, .int y_14), (1, .int 7)] : List (Nat × Value))) (fun ls hl => ?_)
            refine lv_iload_n hx hb dJ6_numberOfTrailingZeros_0f7a4_74 rfl (lv_at hl 1 rfl) ?_
            refine lv_iload_n hx hb dJ6_numberOfTrailingZeros_0f7a4_75 rfl (lv_at hl 0 rfl) ?_
            refine lv_iconst (v := 1) hx hb dJ6_numberOfTrailingZeros_0f7a4_76 kk_ic_1 ?_
            refine lv_iushr hx hb dJ6_numberOfTrailingZeros_0f7a4_77 rfl ?_
            refine lv_topi (fun y_15 e_15 => ?_)
            clear e_15
            refine lv_iadd hx hb dJ6_numberOfTrailingZeros_0f7a4_78 ?_
            obtain ⟨hP9, hD9⟩ := kk_leafout (wc := []) hP hD [] (by decide) rfl
            have hK9 := kk_Ks (tq := []) hK [] rfl
            exact W.iret (v := (7 + y_15)) hx hb hr (fun t ht hW => ⟨⟨(7 + y_15), (), rfl, trivial, by rw [ht]; exact hP9, va_K.moved hW.alike hK9, hD9⟩, hS.F ht⟩) hS.2.2 dJ6_numberOfTrailingZeros_0f7a4_79
      · have t_5 : 256 < y_2.toInt := kk_nle c_5
        refine lv_iinc (v := 9) hx hb dJ6_numberOfTrailingZeros_0f7a4_41 hl (k := 0) rfl (by first | rfl | decide) (by decide) (rfl : _ = ([(1, .int 9), (0, .int y_2)] : List (Nat × Value))) (fun ls hl => ?_)
        refine lv_iload_n hx hb dJ6_numberOfTrailingZeros_0f7a4_44 rfl (lv_at hl 1 rfl) ?_
        refine lv_bipush (v := 8) hx hb dJ6_numberOfTrailingZeros_0f7a4_45 kk_bi_8 ?_
        refine lv_iushr hx hb dJ6_numberOfTrailingZeros_0f7a4_47 rfl ?_
        refine lv_topi (fun y_16 e_16 => ?_)
        clear e_16
        refine lv_istore_n hx hb dJ6_numberOfTrailingZeros_0f7a4_48 rfl hl (by decide) (rfl : _ = ([(0, .int y_16), (1, .int 9)] : List (Nat × Value))) (fun ls hl => ?_)
        refine lv_iload_n hx hb dJ6_numberOfTrailingZeros_0f7a4_49 rfl (lv_at hl 0 rfl) ?_
        refine lv_bipush (v := 16) hx hb dJ6_numberOfTrailingZeros_0f7a4_50 kk_bi_16 ?_
        refine lv_icmp_le (tgt := 62) hx hb dJ6_numberOfTrailingZeros_0f7a4_52 (by decide) (fun c_17 => ?_) (fun c_17 => ?_)
        · have t_17 : y_16.toInt ≤ 16 := kk_le c_17
          refine lv_iload_n hx hb dJ6_numberOfTrailingZeros_0f7a4_62 rfl (lv_at hl 0 rfl) ?_
          refine lv_iconst (v := 4) hx hb dJ6_numberOfTrailingZeros_0f7a4_63 kk_ic_4 ?_
          refine lv_icmp_le (tgt := 74) hx hb dJ6_numberOfTrailingZeros_0f7a4_64 (by decide) (fun c_18 => ?_) (fun c_18 => ?_)
          · have t_18 : y_16.toInt ≤ 4 := kk_le c_18
            refine lv_iload_n hx hb dJ6_numberOfTrailingZeros_0f7a4_74 rfl (lv_at hl 1 rfl) ?_
            refine lv_iload_n hx hb dJ6_numberOfTrailingZeros_0f7a4_75 rfl (lv_at hl 0 rfl) ?_
            refine lv_iconst (v := 1) hx hb dJ6_numberOfTrailingZeros_0f7a4_76 kk_ic_1 ?_
            refine lv_iushr hx hb dJ6_numberOfTrailingZeros_0f7a4_77 rfl ?_
            refine lv_topi (fun y_19 e_19 => ?_)
            clear e_19
            refine lv_iadd hx hb dJ6_numberOfTrailingZeros_0f7a4_78 ?_
            obtain ⟨hP9, hD9⟩ := kk_leafout (wc := []) hP hD [] (by decide) rfl
            have hK9 := kk_Ks (tq := []) hK [] rfl
            exact W.iret (v := (9 + y_19)) hx hb hr (fun t ht hW => ⟨⟨(9 + y_19), (), rfl, trivial, by rw [ht]; exact hP9, va_K.moved hW.alike hK9, hD9⟩, hS.F ht⟩) hS.2.2 dJ6_numberOfTrailingZeros_0f7a4_79
          · have t_18 : 4 < y_16.toInt := kk_nle c_18
            refine lv_iinc (v := 11) hx hb dJ6_numberOfTrailingZeros_0f7a4_67 hl (k := 1) rfl (by first | rfl | decide) (by decide) (rfl : _ = ([(1, .int 11), (0, .int y_16)] : List (Nat × Value))) (fun ls hl => ?_)
            refine lv_iload_n hx hb dJ6_numberOfTrailingZeros_0f7a4_70 rfl (lv_at hl 1 rfl) ?_
            refine lv_iconst (v := 2) hx hb dJ6_numberOfTrailingZeros_0f7a4_71 kk_ic_2 ?_
            refine lv_iushr hx hb dJ6_numberOfTrailingZeros_0f7a4_72 rfl ?_
            refine lv_topi (fun y_20 e_20 => ?_)
            clear e_20
            refine lv_istore_n hx hb dJ6_numberOfTrailingZeros_0f7a4_73 rfl hl (by decide) (rfl : _ = ([(0, .int y_20), (1, .int 11)] : List (Nat × Value))) (fun ls hl => ?_)
            refine lv_iload_n hx hb dJ6_numberOfTrailingZeros_0f7a4_74 rfl (lv_at hl 1 rfl) ?_
            refine lv_iload_n hx hb dJ6_numberOfTrailingZeros_0f7a4_75 rfl (lv_at hl 0 rfl) ?_
            refine lv_iconst (v := 1) hx hb dJ6_numberOfTrailingZeros_0f7a4_76 kk_ic_1 ?_
            refine lv_iushr hx hb dJ6_numberOfTrailingZeros_0f7a4_77 rfl ?_
            refine lv_topi (fun y_21 e_21 => ?_)
            clear e_21
            refine lv_iadd hx hb dJ6_numberOfTrailingZeros_0f7a4_78 ?_
            obtain ⟨hP9, hD9⟩ := kk_leafout (wc := []) hP hD [] (by decide) rfl
            have hK9 := kk_Ks (tq := []) hK [] rfl
            exact W.iret (v := (11 + y_21)) hx hb hr (fun t ht hW => ⟨⟨(11 + y_21), (), rfl, trivial, by rw [ht]; exact hP9, va_K.moved hW.alike hK9, hD9⟩, hS.F ht⟩) hS.2.2 dJ6_numberOfTrailingZeros_0f7a4_79
        · have t_17 : 16 < y_16.toInt := kk_nle c_17
          refine lv_iinc (v := 13) hx hb dJ6_numberOfTrailingZeros_0f7a4_55 hl (k := 1) rfl (by first | rfl | decide) (by decide) (rfl : _ = ([(1, .int 13), (0, .int y_16)] : List (Nat × Value))) (fun ls hl => ?_)
          refine lv_iload_n hx hb dJ6_numberOfTrailingZeros_0f7a4_58 rfl (lv_at hl 1 rfl) ?_
          refine lv_iconst (v := 4) hx hb dJ6_numberOfTrailingZeros_0f7a4_59 kk_ic_4 ?_
          refine lv_iushr hx hb dJ6_numberOfTrailingZeros_0f7a4_60 rfl ?_
          refine lv_topi (fun y_22 e_22 => ?_)
          clear e_22
          refine lv_istore_n hx hb dJ6_numberOfTrailingZeros_0f7a4_61 rfl hl (by decide) (rfl : _ = ([(0, .int y_22), (1, .int 13)] : List (Nat × Value))) (fun ls hl => ?_)
          refine lv_iload_n hx hb dJ6_numberOfTrailingZeros_0f7a4_62 rfl (lv_at hl 0 rfl) ?_
          refine lv_iconst (v := 4) hx hb dJ6_numberOfTrailingZeros_0f7a4_63 kk_ic_4 ?_
          refine lv_icmp_le (tgt := 74) hx hb dJ6_numberOfTrailingZeros_0f7a4_64 (by decide) (fun c_23 => ?_) (fun c_23 => ?_)
          · have t_23 : y_22.toInt ≤ 4 := kk_le c_23
            refine lv_iload_n hx hb dJ6_numberOfTrailingZeros_0f7a4_74 rfl (lv_at hl 1 rfl) ?_
            refine lv_iload_n hx hb dJ6_numberOfTrailingZeros_0f7a4_75 rfl (lv_at hl 0 rfl) ?_
            refine lv_iconst (v := 1) hx hb dJ6_numberOfTrailingZeros_0f7a4_76 kk_ic_1 ?_
            refine lv_iushr hx hb dJ6_numberOfTrailingZeros_0f7a4_77 rfl ?_
            refine lv_topi (fun y_24 e_24 => ?_)
            clear e_24
            refine lv_iadd hx hb dJ6_numberOfTrailingZeros_0f7a4_78 ?_
            obtain ⟨hP9, hD9⟩ := kk_leafout (wc := []) hP hD [] (by decide) rfl
            have hK9 := kk_Ks (tq := []) hK [] rfl
            exact W.iret (v := (13 + y_24)) hx hb hr (fun t ht hW => ⟨⟨(13 + y_24), (), rfl, trivial, by rw [ht]; exact hP9, va_K.moved hW.alike hK9, hD9⟩, hS.F ht⟩) hS.2.2 dJ6_numberOfTrailingZeros_0f7a4_79
          · have t_23 : 4 < y_22.toInt := kk_nle c_23
            refine lv_iinc (v := 15) hx hb dJ6_numberOfTrailingZeros_0f7a4_67 hl (k := 1) rfl (by first | rfl | decide) (by decide) (rfl : _ = ([(1, .int 15), (0, .int y_22)] : List (Nat × Value))) (fun ls hl => ?_)
            refine lv_iload_n hx hb dJ6_numberOfTrailingZeros_0f7a4_70 rfl (lv_at hl 1 rfl) ?_
            refine lv_iconst (v := 2) hx hb dJ6_numberOfTrailingZeros_0f7a4_71 kk_ic_2 ?_
            refine lv_iushr hx hb dJ6_numberOfTrailingZeros_0f7a4_72 rfl ?_
            refine lv_topi (fun y_25 e_25 => ?_)
            clear e_25
            refine lv_istore_n hx hb dJ6_numberOfTrailingZeros_0f7a4_73 rfl hl (by decide) (rfl : _ = ([(0, .int y_25), (1, .int 15)] : List (Nat × Value))) (fun ls hl => ?_)
            refine lv_iload_n hx hb dJ6_numberOfTrailingZeros_0f7a4_74 rfl (lv_at hl 1 rfl) ?_
            refine lv_iload_n hx hb dJ6_numberOfTrailingZeros_0f7a4_75 rfl (lv_at hl 0 rfl) ?_
            refine lv_iconst (v := 1) hx hb dJ6_numberOfTrailingZeros_0f7a4_76 kk_ic_1 ?_
            refine lv_iushr hx hb dJ6_numberOfTrailingZeros_0f7a4_77 rfl ?_
            refine lv_topi (fun y_26 e_26 => ?_)
            clear e_26
            refine lv_iadd hx hb dJ6_numberOfTrailingZeros_0f7a4_78 ?_
            obtain ⟨hP9, hD9⟩ := kk_leafout (wc := []) hP hD [] (by decide) rfl
            have hK9 := kk_Ks (tq := []) hK [] rfl
            exact W.iret (v := (15 + y_26)) hx hb hr (fun t ht hW => ⟨⟨(15 + y_26), (), rfl, trivial, by rw [ht]; exact hP9, va_K.moved hW.alike hK9, hD9⟩, hS.F ht⟩) hS.2.2 dJ6_numberOfTrailingZeros_0f7a4_79
    · have t_4 : 65536 < y_2.toInt := kk_nle c_4
      refine lv_iinc (v := 17) hx hb dJ6_numberOfTrailingZeros_0f7a4_26 hl (k := 0) rfl (by first | rfl | decide) (by decide) (rfl : _ = ([(1, .int 17), (0, .int y_2)] : List (Nat × Value))) (fun ls hl => ?_)
      refine lv_iload_n hx hb dJ6_numberOfTrailingZeros_0f7a4_29 rfl (lv_at hl 1 rfl) ?_
      refine lv_bipush (v := 16) hx hb dJ6_numberOfTrailingZeros_0f7a4_30 kk_bi_16 ?_
      refine lv_iushr hx hb dJ6_numberOfTrailingZeros_0f7a4_32 rfl ?_
      refine lv_topi (fun y_27 e_27 => ?_)
      clear e_27
      refine lv_istore_n hx hb dJ6_numberOfTrailingZeros_0f7a4_33 rfl hl (by decide) (rfl : _ = ([(0, .int y_27), (1, .int 17)] : List (Nat × Value))) (fun ls hl => ?_)
      refine lv_iload_n hx hb dJ6_numberOfTrailingZeros_0f7a4_34 rfl (lv_at hl 0 rfl) ?_
      refine lv_sipush (v := 256) hx hb dJ6_numberOfTrailingZeros_0f7a4_35 kk_si_256 ?_
      refine lv_icmp_le (tgt := 49) hx hb dJ6_numberOfTrailingZeros_0f7a4_38 (by decide) (fun c_28 => ?_) (fun c_28 => ?_)
      · have t_28 : y_27.toInt ≤ 256 := kk_le c_28
        refine lv_iload_n hx hb dJ6_numberOfTrailingZeros_0f7a4_49 rfl (lv_at hl 0 rfl) ?_
        refine lv_bipush (v := 16) hx hb dJ6_numberOfTrailingZeros_0f7a4_50 kk_bi_16 ?_
        refine lv_icmp_le (tgt := 62) hx hb dJ6_numberOfTrailingZeros_0f7a4_52 (by decide) (fun c_29 => ?_) (fun c_29 => ?_)
        · have t_29 : y_27.toInt ≤ 16 := kk_le c_29
          refine lv_iload_n hx hb dJ6_numberOfTrailingZeros_0f7a4_62 rfl (lv_at hl 0 rfl) ?_
          refine lv_iconst (v := 4) hx hb dJ6_numberOfTrailingZeros_0f7a4_63 kk_ic_4 ?_
          refine lv_icmp_le (tgt := 74) hx hb dJ6_numberOfTrailingZeros_0f7a4_64 (by decide) (fun c_30 => ?_) (fun c_30 => ?_)
          · have t_30 : y_27.toInt ≤ 4 := kk_le c_30
            refine lv_iload_n hx hb dJ6_numberOfTrailingZeros_0f7a4_74 rfl (lv_at hl 1 rfl) ?_
            refine lv_iload_n hx hb dJ6_numberOfTrailingZeros_0f7a4_75 rfl (lv_at hl 0 rfl) ?_
            refine lv_iconst (v := 1) hx hb dJ6_numberOfTrailingZeros_0f7a4_76 kk_ic_1 ?_
            refine lv_iushr hx hb dJ6_numberOfTrailingZeros_0f7a4_77 rfl ?_
            refine lv_topi (fun y_31 e_31 => ?_)
            clear e_31
            refine lv_iadd hx hb dJ6_numberOfTrailingZeros_0f7a4_78 ?_
            obtain ⟨hP9, hD9⟩ := kk_leafout (wc := []) hP hD [] (by decide) rfl
            have hK9 := kk_Ks (tq := []) hK [] rfl
            exact W.iret (v := (17 + y_31)) hx hb hr (fun t ht hW => ⟨⟨(17 + y_31), (), rfl, trivial, by rw [ht]; exact hP9, va_K.moved hW.alike hK9, hD9⟩, hS.F ht⟩) hS.2.2 dJ6_numberOfTrailingZeros_0f7a4_79
          · have t_30 : 4 < y_27.toInt := kk_nle c_30
            refine lv_iinc (v := 19) hx hb dJ6_numberOfTrailingZeros_0f7a4_67 hl (k := 1) rfl (by first | rfl | decide) (by decide) (rfl : _ = ([(1, .int 19), (0, .int y_27)] : List (Nat × Value))) (fun ls hl => ?_)
            refine lv_iload_n hx hb dJ6_numberOfTrailingZeros_0f7a4_70 rfl (lv_at hl 1 rfl) ?_
            refine lv_iconst (v := 2) hx hb dJ6_numberOfTrailingZeros_0f7a4_71 kk_ic_2 ?_
            refine lv_iushr hx hb dJ6_numberOfTrailingZeros_0f7a4_72 rfl ?_
            refine lv_topi (fun y_32 e_32 => ?_)
            clear e_32
            refine lv_istore_n hx hb dJ6_numberOfTrailingZeros_0f7a4_73 rfl hl (by decide) (rfl : _ = ([(0, .int y_32), (1, .int 19)] : List (Nat × Value))) (fun ls hl => ?_)
            refine lv_iload_n hx hb dJ6_numberOfTrailingZeros_0f7a4_74 rfl (lv_at hl 1 rfl) ?_
            refine lv_iload_n hx hb dJ6_numberOfTrailingZeros_0f7a4_75 rfl (lv_at hl 0 rfl) ?_
            refine lv_iconst (v := 1) hx hb dJ6_numberOfTrailingZeros_0f7a4_76 kk_ic_1 ?_
            refine lv_iushr hx hb dJ6_numberOfTrailingZeros_0f7a4_77 rfl ?_
            refine lv_topi (fun y_33 e_33 => ?_)
            clear e_33
            refine lv_iadd hx hb dJ6_numberOfTrailingZeros_0f7a4_78 ?_
            obtain ⟨hP9, hD9⟩ := kk_leafout (wc := []) hP hD [] (by decide) rfl
            have hK9 := kk_Ks (tq := []) hK [] rfl
            exact W.iret (v := (19 + y_33)) hx hb hr (fun t ht hW => ⟨⟨(19 + y_33), (), rfl, trivial, by rw [ht]; exact hP9, va_K.moved hW.alike hK9, hD9⟩, hS.F ht⟩) hS.2.2 dJ6_numberOfTrailingZeros_0f7a4_79
        · have t_29 : 16 < y_27.toInt := kk_nle c_29
          refine lv_iinc (v := 21) hx hb dJ6_numberOfTrailingZeros_0f7a4_55 hl (k := 1) rfl (by first | rfl | decide) (by decide) (rfl : _ = ([(1, .int 21), (0, .int y_27)] : List (Nat × Value))) (fun ls hl => ?_)
          refine lv_iload_n hx hb dJ6_numberOfTrailingZeros_0f7a4_58 rfl (lv_at hl 1 rfl) ?_
          refine lv_iconst (v := 4) hx hb dJ6_numberOfTrailingZeros_0f7a4_59 kk_ic_4 ?_
          refine lv_iushr hx hb dJ6_numberOfTrailingZeros_0f7a4_60 rfl ?_
          refine lv_topi (fun y_34 e_34 => ?_)
          clear e_34
          refine lv_istore_n hx hb dJ6_numberOfTrailingZeros_0f7a4_61 rfl hl (by decide) (rfl : _ = ([(0, .int y_34), (1, .int 21)] : List (Nat × Value))) (fun ls hl => ?_)
          refine lv_iload_n hx hb dJ6_numberOfTrailingZeros_0f7a4_62 rfl (lv_at hl 0 rfl) ?_
          refine lv_iconst (v := 4) hx hb dJ6_numberOfTrailingZeros_0f7a4_63 kk_ic_4 ?_
          refine lv_icmp_le (tgt := 74) hx hb dJ6_numberOfTrailingZeros_0f7a4_64 (by decide) (fun c_35 => ?_) (fun c_35 => ?_)
          · have t_35 : y_34.toInt ≤ 4 := kk_le c_35
            refine lv_iload_n hx hb dJ6_numberOfTrailingZeros_0f7a4_74 rfl (lv_at hl 1 rfl) ?_
            refine lv_iload_n hx hb dJ6_numberOfTrailingZeros_0f7a4_75 rfl (lv_at hl 0 rfl) ?_
            refine lv_iconst (v := 1) hx hb dJ6_numberOfTrailingZeros_0f7a4_76 kk_ic_1 ?_
            refine lv_iushr hx hb dJ6_numberOfTrailingZeros_0f7a4_77 rfl ?_
            refine lv_topi (fun y_36 e_36 => ?_)
            clear e_36
            refine lv_iadd hx hb dJ6_numberOfTrailingZeros_0f7a4_78 ?_
            obtain ⟨hP9, hD9⟩ := kk_leafout (wc := []) hP hD [] (by decide) rfl
            have hK9 := kk_Ks (tq := []) hK [] rfl
            exact W.iret (v := (21 + y_36)) hx hb hr (fun t ht hW => ⟨⟨(21 + y_36), (), rfl, trivial, by rw [ht]; exact hP9, va_K.moved hW.alike hK9, hD9⟩, hS.F ht⟩) hS.2.2 dJ6_numberOfTrailingZeros_0f7a4_79
          · have t_35 : 4 < y_34.toInt := kk_nle c_35
            refine lv_iinc (v := 23) hx hb dJ6_numberOfTrailingZeros_0f7a4_67 hl (k := 1) rfl (by first | rfl | decide) (by decide) (rfl : _ = ([(1, .int 23), (0, .int y_34)] : List (Nat × Value))) (fun ls hl => ?_)
            refine lv_iload_n hx hb dJ6_numberOfTrailingZeros_0f7a4_70 rfl (lv_at hl 1 rfl) ?_
            refine lv_iconst (v := 2) hx hb dJ6_numberOfTrailingZeros_0f7a4_71 kk_ic_2 ?_
            refine lv_iushr hx hb dJ6_numberOfTrailingZeros_0f7a4_72 rfl ?_
            refine lv_topi (fun y_37 e_37 => ?_)
            clear e_37
            refine lv_istore_n hx hb dJ6_numberOfTrailingZeros_0f7a4_73 rfl hl (by decide) (rfl : _ = ([(0, .int y_37), (1, .int 23)] : List (Nat × Value))) (fun ls hl => ?_)
            refine lv_iload_n hx hb dJ6_numberOfTrailingZeros_0f7a4_74 rfl (lv_at hl 1 rfl) ?_
            refine lv_iload_n hx hb dJ6_numberOfTrailingZeros_0f7a4_75 rfl (lv_at hl 0 rfl) ?_
            refine lv_iconst (v := 1) hx hb dJ6_numberOfTrailingZeros_0f7a4_76 kk_ic_1 ?_
            refine lv_iushr hx hb dJ6_numberOfTrailingZeros_0f7a4_77 rfl ?_
            refine lv_topi (fun y_38 e_38 => ?_)
            clear e_38
            refine lv_iadd hx hb dJ6_numberOfTrailingZeros_0f7a4_78 ?_
            obtain ⟨hP9, hD9⟩ := kk_leafout (wc := []) hP hD [] (by decide) rfl
            have hK9 := kk_Ks (tq := []) hK [] rfl
            exact W.iret (v := (23 + y_38)) hx hb hr (fun t ht hW => ⟨⟨(23 + y_38), (), rfl, trivial, by rw [ht]; exact hP9, va_K.moved hW.alike hK9, hD9⟩, hS.F ht⟩) hS.2.2 dJ6_numberOfTrailingZeros_0f7a4_79
      · have t_28 : 256 < y_27.toInt := kk_nle c_28
        refine lv_iinc (v := 25) hx hb dJ6_numberOfTrailingZeros_0f7a4_41 hl (k := 1) rfl (by first | rfl | decide) (by decide) (rfl : _ = ([(1, .int 25), (0, .int y_27)] : List (Nat × Value))) (fun ls hl => ?_)
        refine lv_iload_n hx hb dJ6_numberOfTrailingZeros_0f7a4_44 rfl (lv_at hl 1 rfl) ?_
        refine lv_bipush (v := 8) hx hb dJ6_numberOfTrailingZeros_0f7a4_45 kk_bi_8 ?_
        refine lv_iushr hx hb dJ6_numberOfTrailingZeros_0f7a4_47 rfl ?_
        refine lv_topi (fun y_39 e_39 => ?_)
        clear e_39
        refine lv_istore_n hx hb dJ6_numberOfTrailingZeros_0f7a4_48 rfl hl (by decide) (rfl : _ = ([(0, .int y_39), (1, .int 25)] : List (Nat × Value))) (fun ls hl => ?_)
        refine lv_iload_n hx hb dJ6_numberOfTrailingZeros_0f7a4_49 rfl (lv_at hl 0 rfl) ?_
        refine lv_bipush (v := 16) hx hb dJ6_numberOfTrailingZeros_0f7a4_50 kk_bi_16 ?_
        refine lv_icmp_le (tgt := 62) hx hb dJ6_numberOfTrailingZeros_0f7a4_52 (by decide) (fun c_40 => ?_) (fun c_40 => ?_)
        · have t_40 : y_39.toInt ≤ 16 := kk_le c_40
          refine lv_iload_n hx hb dJ6_numberOfTrailingZeros_0f7a4_62 rfl (lv_at hl 0 rfl) ?_
          refine lv_iconst (v := 4) hx hb dJ6_numberOfTrailingZeros_0f7a4_63 kk_ic_4 ?_
          refine lv_icmp_le (tgt := 74) hx hb dJ6_numberOfTrailingZeros_0f7a4_64 (by decide) (fun c_41 => ?_) (fun c_41 => ?_)
          · have t_41 : y_39.toInt ≤ 4 := kk_le c_41
            refine lv_iload_n hx hb dJ6_numberOfTrailingZeros_0f7a4_74 rfl (lv_at hl 1 rfl) ?_
            refine lv_iload_n hx hb dJ6_numberOfTrailingZeros_0f7a4_75 rfl (lv_at hl 0 rfl) ?_
            refine lv_iconst (v := 1) hx hb dJ6_numberOfTrailingZeros_0f7a4_76 kk_ic_1 ?_
            refine lv_iushr hx hb dJ6_numberOfTrailingZeros_0f7a4_77 rfl ?_
            refine lv_topi (fun y_42 e_42 => ?_)
            clear e_42
            refine lv_iadd hx hb dJ6_numberOfTrailingZeros_0f7a4_78 ?_
            obtain ⟨hP9, hD9⟩ := kk_leafout (wc := []) hP hD [] (by decide) rfl
            have hK9 := kk_Ks (tq := []) hK [] rfl
            exact W.iret (v := (25 + y_42)) hx hb hr (fun t ht hW => ⟨⟨(25 + y_42), (), rfl, trivial, by rw [ht]; exact hP9, va_K.moved hW.alike hK9, hD9⟩, hS.F ht⟩) hS.2.2 dJ6_numberOfTrailingZeros_0f7a4_79
          · have t_41 : 4 < y_39.toInt := kk_nle c_41
            refine lv_iinc (v := 27) hx hb dJ6_numberOfTrailingZeros_0f7a4_67 hl (k := 1) rfl (by first | rfl | decide) (by decide) (rfl : _ = ([(1, .int 27), (0, .int y_39)] : List (Nat × Value))) (fun ls hl => ?_)
            refine lv_iload_n hx hb dJ6_numberOfTrailingZeros_0f7a4_70 rfl (lv_at hl 1 rfl) ?_
            refine lv_iconst (v := 2) hx hb dJ6_numberOfTrailingZeros_0f7a4_71 kk_ic_2 ?_
            refine lv_iushr hx hb dJ6_numberOfTrailingZeros_0f7a4_72 rfl ?_
            refine lv_topi (fun y_43 e_43 => ?_)
            clear e_43
            refine lv_istore_n hx hb dJ6_numberOfTrailingZeros_0f7a4_73 rfl hl (by decide) (rfl : _ = ([(0, .int y_43), (1, .int 27)] : List (Nat × Value))) (fun ls hl => ?_)
            refine lv_iload_n hx hb dJ6_numberOfTrailingZeros_0f7a4_74 rfl (lv_at hl 1 rfl) ?_
            refine lv_iload_n hx hb dJ6_numberOfTrailingZeros_0f7a4_75 rfl (lv_at hl 0 rfl) ?_
            refine lv_iconst (v := 1) hx hb dJ6_numberOfTrailingZeros_0f7a4_76 kk_ic_1 ?_
            refine lv_iushr hx hb dJ6_numberOfTrailingZeros_0f7a4_77 rfl ?_
            refine lv_topi (fun y_44 e_44 => ?_)
            clear e_44
            refine lv_iadd hx hb dJ6_numberOfTrailingZeros_0f7a4_78 ?_
            obtain ⟨hP9, hD9⟩ := kk_leafout (wc := []) hP hD [] (by decide) rfl
            have hK9 := kk_Ks (tq := []) hK [] rfl
            exact W.iret (v := (27 + y_44)) hx hb hr (fun t ht hW => ⟨⟨(27 + y_44), (), rfl, trivial, by rw [ht]; exact hP9, va_K.moved hW.alike hK9, hD9⟩, hS.F ht⟩) hS.2.2 dJ6_numberOfTrailingZeros_0f7a4_79
        · have t_40 : 16 < y_39.toInt := kk_nle c_40
          refine lv_iinc (v := 29) hx hb dJ6_numberOfTrailingZeros_0f7a4_55 hl (k := 1) rfl (by first | rfl | decide) (by decide) (rfl : _ = ([(1, .int 29), (0, .int y_39)] : List (Nat × Value))) (fun ls hl => ?_)
          refine lv_iload_n hx hb dJ6_numberOfTrailingZeros_0f7a4_58 rfl (lv_at hl 1 rfl) ?_
          refine lv_iconst (v := 4) hx hb dJ6_numberOfTrailingZeros_0f7a4_59 kk_ic_4 ?_
          refine lv_iushr hx hb dJ6_numberOfTrailingZeros_0f7a4_60 rfl ?_
          refine lv_topi (fun y_45 e_45 => ?_)
          clear e_45
          refine lv_istore_n hx hb dJ6_numberOfTrailingZeros_0f7a4_61 rfl hl (by decide) (rfl : _ = ([(0, .int y_45), (1, .int 29)] : List (Nat × Value))) (fun ls hl => ?_)
          refine lv_iload_n hx hb dJ6_numberOfTrailingZeros_0f7a4_62 rfl (lv_at hl 0 rfl) ?_
          refine lv_iconst (v := 4) hx hb dJ6_numberOfTrailingZeros_0f7a4_63 kk_ic_4 ?_
          refine lv_icmp_le (tgt := 74) hx hb dJ6_numberOfTrailingZeros_0f7a4_64 (by decide) (fun c_46 => ?_) (fun c_46 => ?_)
          · have t_46 : y_45.toInt ≤ 4 := kk_le c_46
            refine lv_iload_n hx hb dJ6_numberOfTrailingZeros_0f7a4_74 rfl (lv_at hl 1 rfl) ?_
            refine lv_iload_n hx hb dJ6_numberOfTrailingZeros_0f7a4_75 rfl (lv_at hl 0 rfl) ?_
            refine lv_iconst (v := 1) hx hb dJ6_numberOfTrailingZeros_0f7a4_76 kk_ic_1 ?_
            refine lv_iushr hx hb dJ6_numberOfTrailingZeros_0f7a4_77 rfl ?_
            refine lv_topi (fun y_47 e_47 => ?_)
            clear e_47
            refine lv_iadd hx hb dJ6_numberOfTrailingZeros_0f7a4_78 ?_
            obtain ⟨hP9, hD9⟩ := kk_leafout (wc := []) hP hD [] (by decide) rfl
            have hK9 := kk_Ks (tq := []) hK [] rfl
            exact W.iret (v := (29 + y_47)) hx hb hr (fun t ht hW => ⟨⟨(29 + y_47), (), rfl, trivial, by rw [ht]; exact hP9, va_K.moved hW.alike hK9, hD9⟩, hS.F ht⟩) hS.2.2 dJ6_numberOfTrailingZeros_0f7a4_79
          · have t_46 : 4 < y_45.toInt := kk_nle c_46
            refine lv_iinc (v := 31) hx hb dJ6_numberOfTrailingZeros_0f7a4_67 hl (k := 1) rfl (by first | rfl | decide) (by decide) (rfl : _ = ([(1, .int 31), (0, .int y_45)] : List (Nat × Value))) (fun ls hl => ?_)
            refine lv_iload_n hx hb dJ6_numberOfTrailingZeros_0f7a4_70 rfl (lv_at hl 1 rfl) ?_
            refine lv_iconst (v := 2) hx hb dJ6_numberOfTrailingZeros_0f7a4_71 kk_ic_2 ?_
            refine lv_iushr hx hb dJ6_numberOfTrailingZeros_0f7a4_72 rfl ?_
            refine lv_topi (fun y_48 e_48 => ?_)
            clear e_48
            refine lv_istore_n hx hb dJ6_numberOfTrailingZeros_0f7a4_73 rfl hl (by decide) (rfl : _ = ([(0, .int y_48), (1, .int 31)] : List (Nat × Value))) (fun ls hl => ?_)
            refine lv_iload_n hx hb dJ6_numberOfTrailingZeros_0f7a4_74 rfl (lv_at hl 1 rfl) ?_
            refine lv_iload_n hx hb dJ6_numberOfTrailingZeros_0f7a4_75 rfl (lv_at hl 0 rfl) ?_
            refine lv_iconst (v := 1) hx hb dJ6_numberOfTrailingZeros_0f7a4_76 kk_ic_1 ?_
            refine lv_iushr hx hb dJ6_numberOfTrailingZeros_0f7a4_77 rfl ?_
            refine lv_topi (fun y_49 e_49 => ?_)
            clear e_49
            refine lv_iadd hx hb dJ6_numberOfTrailingZeros_0f7a4_78 ?_
            obtain ⟨hP9, hD9⟩ := kk_leafout (wc := []) hP hD [] (by decide) rfl
            have hK9 := kk_Ks (tq := []) hK [] rfl
            exact W.iret (v := (31 + y_49)) hx hb hr (fun t ht hW => ⟨⟨(31 + y_49), (), rfl, trivial, by rw [ht]; exact hP9, va_K.moved hW.alike hK9, hD9⟩, hS.F ht⟩) hS.2.2 dJ6_numberOfTrailingZeros_0f7a4_79
  · have t_3 : y_2.toInt ≤ 0 := kk_nlt c_3
    refine lv_iload_n hx hb dJ6_numberOfTrailingZeros_0f7a4_12 rfl (lv_at hl 0 rfl) ?_
    refine lv_bipush (v := 32) hx hb dJ6_numberOfTrailingZeros_0f7a4_13 kk_bi_32 ?_
    refine lv_iand hx hb dJ6_numberOfTrailingZeros_0f7a4_15 ?_
    refine lv_topi (fun y_50 e_50 => ?_)
    clear e_50
    obtain ⟨hP9, hD9⟩ := kk_leafout (wc := []) hP hD [] (by decide) rfl
    have hK9 := kk_Ks (tq := []) hK [] rfl
    exact W.iret (v := y_50) hx hb hr (fun t ht hW => ⟨⟨y_50, (), rfl, trivial, by rw [ht]; exact hP9, va_K.moved hW.alike hK9, hD9⟩, hS.F ht⟩) hS.2.2 dJ6_numberOfTrailingZeros_0f7a4_16
set_option maxHeartbeats 4000000 in
set_option maxRecDepth 100000 in
theorem g_J13_numberOfTrailingZeros_95d88_0 (l : Launch) (dC : Nat → ClassId) (dI : Nat → Nat → Nat) (sz : Nat) (v0 : Int64) (xv0 : Int) (exv0 : v0.toInt = xv0) : Met l yJ13_numberOfTrailingZeros_95d88 wsJ13_numberOfTrailingZeros_95d88 ({ frames := 1, cells := 0, slots := 0, locals := 21 }) (va_Pc [.long v0] (fun U => U.heap.size = sz ∧ va_P (dC, dI) vwCl [] U.heap ∧ va_K (dC, dI) vwCl [] U ∧ va_D (fun _ => True) [])) (va_Qi (fun (r : Int32) (_ : Unit) => True) (fun (_ : Unit) t => va_P (dC, dI) vwCl [] t.heap ∧ va_K (dC, dI) vwCl [] t ∧ va_D (va_A [] sz) []) (va_A [] sz)) 0 0 (va_A [] sz) := by
  refine Met.ofW (cc := cJ13_numberOfTrailingZeros_95d88) (maxL := 3) (ret := (some .int)) (by decide) rfl ?_
  intro p e s m args below meth c s₁ B hml hv
  obtain ⟨rfl, hsz, hP, hK, hD0⟩ := hv
  have hx := B.exec
  have hb := B.bytes
  have hr := B.returns
  have hts := atoms_spec (ws := wsJ13_numberOfTrailingZeros_95d88) B.pre
  have hown : s.vm.findClass RJ13 = some m.cls := findClass_of_methodNamed B.named
  have hlocks := B.notSynchronized
  subst hsz
  have hD := hD0.self (sz := s.heap.size)
  generalize hAe : va_A [] s.heap.size = A at hD ⊢
  have hA : ∀ q : Nat, s.heap.size ≤ q → A q := fun q h => by rw [← hAe]; exact Or.inr h
  have hS : va_S A s.heap s.heap [] := va_S.rf
  have hP : va_P (dC, dI) vwCl [] s.heap := hP
  have hl := lv_entry ([.long v0]) (n := 3) (Nat.le_of_ble_eq_true rfl)
  rw [lg_entry_eq]
  generalize (lg_sl ([.long v0]) ++ List.replicate (3 - (lg_sl ([.long v0])).length) Slot.unset).toArray = ls at hl ⊢
  have hl : lv_has ls 3 [(0, .long v0)] := hl
  refine lv_lload_n hx hb dJ13_numberOfTrailingZeros_95d88_0 rfl (lv_at hl 0 rfl) ?_
  refine lv_l2i hx hb dJ13_numberOfTrailingZeros_95d88_1 rfl ?_
  refine lv_topi (fun y_1 e_1 => ?_)
  clear e_1
  refine lv_istore_n hx hb dJ13_numberOfTrailingZeros_95d88_2 rfl hl (by decide) (rfl : _ = ([(2, .int y_1), (0, .long v0)] : List (Nat × Value))) (fun ls hl => ?_)
  refine lv_iload_n hx hb dJ13_numberOfTrailingZeros_95d88_3 rfl (lv_at hl 0 rfl) ?_
  refine lv_if_ne (tgt := 21) hx hb dJ13_numberOfTrailingZeros_95d88_4 (by decide) (fun c_2 => ?_) (fun c_2 => ?_)
  · have t_2 : y_1.toInt ≠ 0 := kk_ne c_2
    refine lv_iload_n hx hb dJ13_numberOfTrailingZeros_95d88_21 rfl (lv_at hl 0 rfl) ?_
    obtain ⟨hPc, hDc, hFc⟩ := kk_cutout (wc := []) hP hD hS hA [] (by decide) rfl
    have hKc := kk_Ks (tq := []) hK [] rfl
    refine va_calli (va_runS (As := [.int y_1]) (rest := []) ⟨hx, hb, hml, hown, hts⟩ (g_J6_numberOfTrailingZeros_0f7a4_0 l dC dI s.heap.size y_1) (va_cwS 1 hts gJ13_numberOfTrailingZeros_95d88_J6_numberOfTrailingZeros_0f7a4 rfl rfl rfl kh_J6_numberOfTrailingZeros_0f7a4 ⟨Nat.le_of_ble_eq_true rfl, Nat.le_of_ble_eq_true rfl⟩) ⟨fun a U g mk q => by obtain ⟨q0, q1, qP, qK, qD⟩ := q; exact ⟨q0, q1, qP, va_K.moved (u := U) (U := U.calling g mk a) (Vm.Alike.refl U.vm) qK, qD⟩, fun U hU hW => ⟨rfl, by rw [hU], by rw [hU]; exact hPc, va_K.moved hW.alike hKc, hDc.weaken (fun _ _ _ _ => trivial)⟩⟩ rfl rfl hl.1 rfl (lv_room (Nat.le_of_ble_eq_true rfl)) dJ13_numberOfTrailingZeros_95d88_22 ⟨Nat.le_of_ble_eq_true rfl, Nat.le_of_ble_eq_true rfl⟩) hS (fun q _ h => hFc q h) hFc (fun r_3 u t H1 locs ht hvm hw hB hz1 hk1 hS => ?_)
    obtain ⟨hP1, hK1, hD1⟩ := hB
    rw [ht] at hP1
    have hK1 := va_K.moved hvm.symm hK1
    obtain ⟨hP, hD⟩ := va_join (wr := []) (w1 := []) hP hD [] [] rfl rfl (by decide) (by decide) hk1 hFc hP1 hD1
    generalize H1 = H at hP hS ⊢
    have hP : va_P (dC, dI) vwCl [] H := hP
    have hD : va_D A [] := hD
    obtain ⟨hP9, hD9⟩ := kk_leafout (wc := []) hP hD [] (by decide) rfl
    have hK9 := kk_Ks (tq := []) hK [] rfl
    exact W.iret (v := r_3) hx hb hr (fun t ht hW => ⟨⟨r_3, (), rfl, trivial, by rw [ht]; exact hP9, va_K.moved hW.alike hK9, hD9⟩, hS.F ht⟩) hS.2.2 dJ13_numberOfTrailingZeros_95d88_25
  · have t_2 : y_1.toInt = 0 := kk_eq c_2
    refine lv_bipush (v := 32) hx hb dJ13_numberOfTrailingZeros_95d88_7 kk_bi_32 ?_
    refine lv_lload_n hx hb dJ13_numberOfTrailingZeros_95d88_9 rfl (lv_at hl 1 rfl) ?_
    refine lv_bipush (v := 32) hx hb dJ13_numberOfTrailingZeros_95d88_10 kk_bi_32 ?_
    refine lv_lushr hx hb dJ13_numberOfTrailingZeros_95d88_12 rfl ?_
    refine lv_topl (fun y_4 e_4 => ?_)
    clear e_4
    refine lv_l2i hx hb dJ13_numberOfTrailingZeros_95d88_13 rfl ?_
    refine lv_topi (fun y_5 e_5 => ?_)
    clear e_5
    obtain ⟨hPc, hDc, hFc⟩ := kk_cutout (wc := []) hP hD hS hA [] (by decide) rfl
    have hKc := kk_Ks (tq := []) hK [] rfl
    refine va_calli (va_runS (As := [.int y_5]) (rest := [.int 32]) ⟨hx, hb, hml, hown, hts⟩ (g_J6_numberOfTrailingZeros_0f7a4_0 l dC dI s.heap.size y_5) (va_cwS 1 hts gJ13_numberOfTrailingZeros_95d88_J6_numberOfTrailingZeros_0f7a4 rfl rfl rfl kh_J6_numberOfTrailingZeros_0f7a4 ⟨Nat.le_of_ble_eq_true rfl, Nat.le_of_ble_eq_true rfl⟩) ⟨fun a U g mk q => by obtain ⟨q0, q1, qP, qK, qD⟩ := q; exact ⟨q0, q1, qP, va_K.moved (u := U) (U := U.calling g mk a) (Vm.Alike.refl U.vm) qK, qD⟩, fun U hU hW => ⟨rfl, by rw [hU], by rw [hU]; exact hPc, va_K.moved hW.alike hKc, hDc.weaken (fun _ _ _ _ => trivial)⟩⟩ rfl rfl hl.1 rfl (lv_room (Nat.le_of_ble_eq_true rfl)) dJ13_numberOfTrailingZeros_95d88_14 ⟨Nat.le_of_ble_eq_true rfl, Nat.le_of_ble_eq_true rfl⟩) hS (fun q _ h => hFc q h) hFc (fun r_6 u t H1 locs ht hvm hw hB hz1 hk1 hS => ?_)
    obtain ⟨hP1, hK1, hD1⟩ := hB
    rw [ht] at hP1
    have hK1 := va_K.moved hvm.symm hK1
    obtain ⟨hP, hD⟩ := va_join (wr := []) (w1 := []) hP hD [] [] rfl rfl (by decide) (by decide) hk1 hFc hP1 hD1
    generalize H1 = H at hP hS ⊢
    have hP : va_P (dC, dI) vwCl [] H := hP
    have hD : va_D A [] := hD
    refine lv_iadd hx hb dJ13_numberOfTrailingZeros_95d88_17 ?_
    refine lv_goto (tgt := 25) hx hb dJ13_numberOfTrailingZeros_95d88_18 (by decide) ?_
    obtain ⟨hP9, hD9⟩ := kk_leafout (wc := []) hP hD [] (by decide) rfl
    have hK9 := kk_Ks (tq := []) hK [] rfl
    exact W.iret (v := (32 + r_6)) hx hb hr (fun t ht hW => ⟨⟨(32 + r_6), (), rfl, trivial, by rw [ht]; exact hP9, va_K.moved hW.alike hK9, hD9⟩, hS.F ht⟩) hS.2.2 dJ13_numberOfTrailingZeros_95d88_25
set_option maxHeartbeats 4000000 in
set_option maxRecDepth 100000 in
theorem g_X2_countWays_0 (l : Launch) (dC : Nat → ClassId) (dI : Nat → Nat → Nat) (h0 : Nat) (h1 : Nat) (h2 : Nat) (h3 : Nat) (h4 : Nat) (h5 : Nat → Nat) (h6 : Nat → Nat) (h7 : Nat) (h8 : Nat) (h9 : Nat) (h10 : Nat) (h11 : Nat) (cAlong cint clong : ClassId) (sz : Nat) (n0_size : Int32) (n0_names : Int32) (n0_plots : Int32) (n0_ways : Int32) (f3 : Nat → Int32) (f4 : Nat → Int32) (F5 : Nat → Nat → Int64) (F6 : Nat → Nat → Int64) (tn0_size : kk_bx (0 ≤ n0_size.toInt ∧ n0_size.toInt ≤ 10)) (tn0_names : kk_bx (1 ≤ n0_names.toInt ∧ n0_names.toInt ≤ 5)) (tn0_plots : kk_bx (0 ≤ n0_plots.toInt ∧ n0_plots.toInt ≤ 40)) : Met l yX2_countWays wsX2_countWays ({ frames := 2, cells := 0, slots := 0, locals := 48 }) (va_Pc [.ref h0, .int 4] (fun U => U.heap.size = sz ∧ va_P (dC, dI) vwCl (([(h0, kO2 h7 h8 h9 n0_size h10 n0_names n0_plots h11 h1 h2 h3 h4 n0_ways), (h1, kAr cAlong 25 (fun j => some (h5 j))), (h2, kAr cAlong 5 (fun j => some (h6 j))), (h3, kAi cint 5 f3), (h4, kAi cint 5 f4)] : va_W) ++ (kk_rowsL h5 clong 40 F5 25 ++ (kk_rowsL h6 clong 5 F6 5))) U.heap ∧ va_K (dC, dI) vwCl [(cAlong, .array .long), (cint, .int), (clong, .long)] U ∧ va_D (fun _ => True) (([(h0, kO2 h7 h8 h9 n0_size h10 n0_names n0_plots h11 h1 h2 h3 h4 n0_ways), (h1, kAr cAlong 25 (fun j => some (h5 j))), (h2, kAr cAlong 5 (fun j => some (h6 j))), (h3, kAi cint 5 f3), (h4, kAi cint 5 f4)] : va_W) ++ (kk_rowsL h5 clong 40 F5 25 ++ (kk_rowsL h6 clong 5 F6 5))))) (va_Qv (fun (_ : Unit) => True) (fun (_ : Unit) t => ∃ (m0_ways : Int32) (g3 : Nat → Int32) (g4 : Nat → Int32), va_P (dC, dI) vwCl (([(h0, kO2 h7 h8 h9 n0_size h10 n0_names n0_plots h11 h1 h2 h3 h4 m0_ways), (h1, kAr cAlong 25 (fun j => some (h5 j))), (h2, kAr cAlong 5 (fun j => some (h6 j))), (h3, kAi cint 5 g3), (h4, kAi cint 5 g4)] : va_W) ++ (kk_rowsL h5 clong 40 F5 25 ++ (kk_rowsL h6 clong 5 F6 5))) t.heap ∧ va_K (dC, dI) vwCl [] t ∧ va_D (va_A (([(h0, kO2 h7 h8 h9 n0_size h10 n0_names n0_plots h11 h1 h2 h3 h4 n0_ways), (h1, kAr cAlong 25 (fun j => some (h5 j))), (h2, kAr cAlong 5 (fun j => some (h6 j))), (h3, kAi cint 5 f3), (h4, kAi cint 5 f4)] : va_W) ++ (kk_rowsL h5 clong 40 F5 25 ++ (kk_rowsL h6 clong 5 F6 5))) sz) (([(h0, kO2 h7 h8 h9 n0_size h10 n0_names n0_plots h11 h1 h2 h3 h4 m0_ways), (h1, kAr cAlong 25 (fun j => some (h5 j))), (h2, kAr cAlong 5 (fun j => some (h6 j))), (h3, kAi cint 5 g3), (h4, kAi cint 5 g4)] : va_W) ++ (kk_rowsL h5 clong 40 F5 25 ++ (kk_rowsL h6 clong 5 F6 5)))) (va_A (([(h0, kO2 h7 h8 h9 n0_size h10 n0_names n0_plots h11 h1 h2 h3 h4 n0_ways), (h1, kAr cAlong 25 (fun j => some (h5 j))), (h2, kAr cAlong 5 (fun j => some (h6 j))), (h3, kAi cint 5 f3), (h4, kAi cint 5 f4)] : va_W) ++ (kk_rowsL h5 clong 40 F5 25 ++ (kk_rowsL h6 clong 5 F6 5))) sz)) 0 0 (va_A (([(h0, kO2 h7 h8 h9 n0_size h10 n0_names n0_plots h11 h1 h2 h3 h4 n0_ways), (h1, kAr cAlong 25 (fun j => some (h5 j))), (h2, kAr cAlong 5 (fun j => some (h6 j))), (h3, kAi cint 5 f3), (h4, kAi cint 5 f4)] : va_W) ++ (kk_rowsL h5 clong 40 F5 25 ++ (kk_rowsL h6 clong 5 F6 5))) sz) := by
  refine Met.ofW (cc := cX2_countWays) (maxL := 4) (ret := none) (by decide) rfl ?_
  intro p e s m args below meth c s₁ B hml hv
  obtain ⟨rfl, hsz, hP, hK, hD0⟩ := hv
  have hx := B.exec
  have hb := B.bytes
  have hr := B.returns
  have hts := atoms_spec (ws := wsX2_countWays) B.pre
  have hown : s.vm.findClass RX2 = some m.cls := findClass_of_methodNamed B.named
  have hlocks := B.notSynchronized
  subst hsz
  have hD := hD0.self (sz := s.heap.size)
  generalize hAe : va_A (([(h0, kO2 h7 h8 h9 n0_size h10 n0_names n0_plots h11 h1 h2 h3 h4 n0_ways), (h1, kAr cAlong 25 (fun j => some (h5 j))), (h2, kAr cAlong 5 (fun j => some (h6 j))), (h3, kAi cint 5 f3), (h4, kAi cint 5 f4)] : va_W) ++ (kk_rowsL h5 clong 40 F5 25 ++ (kk_rowsL h6 clong 5 F6 5))) s.heap.size = A at hD ⊢
  have hA : ∀ q : Nat, s.heap.size ≤ q → A q := fun q h => by rw [← hAe]; exact Or.inr h
  have hS : va_S A s.heap s.heap [] := va_S.rf
  have hP : va_P (dC, dI) vwCl (([(h0, kO2 h7 h8 h9 n0_size h10 n0_names n0_plots h11 h1 h2 h3 h4 n0_ways), (h1, kAr cAlong 25 (fun j => some (h5 j))), (h2, kAr cAlong 5 (fun j => some (h6 j))), (h3, kAi cint 5 f3), (h4, kAi cint 5 f4)] : va_W) ++ (kk_rowsL h5 clong 40 F5 25 ++ (kk_rowsL h6 clong 5 F6 5))) s.heap := hP
  have hl := lv_entry ([.ref h0, .int 4]) (n := 4) (Nat.le_of_ble_eq_true rfl)
  rw [lg_entry_eq]
  generalize (lg_sl ([.ref h0, .int 4]) ++ List.replicate (4 - (lg_sl ([.ref h0, .int 4])).length) Slot.unset).toArray = ls at hl ⊢
  have hl : lv_has ls 4 [(0, .ref h0), (1, .int 4)] := hl
  refine lv_aload_n hx hb dX2_countWays_0 rfl (lv_at hl 0 rfl) ?_
  refine va_get (D := (dC, dI)) (ci := 2) (v := .ref h2) (C := RX2) (T := TX2) (N := 13) hx hb hts (fun _ h => List.mem_cons_of_mem _ (List.mem_append_right _ h)) hown hK hP 0 rfl rfl 9 (by decide) (hts (.fieldLink RX2 32 "KinkStreet$Deeds" "open" "[[J") (List.mem_of_getElem? (i := 1) rfl)) (fun _ h9 => h9) rfl dX2_countWays_1 ?_
  refine lv_iload_n hx hb dX2_countWays_4 rfl (lv_at hl 1 rfl) ?_
  have hi_1 : vp_in (4 : Int32) 5 := (by unfold vp_in; decide)
  have hk_1 : (4 : Int32).toNatClampNeg < 5 := Nat.not_le.mp fun q => hi_1 (Or.inr q)
  refine kk_aald hx hb hK hP 2 0 rfl rfl hi_1 dX2_countWays_5 ?_
  refine W.eq (g2 := F0 m 6 ls [.ref (h6 (4 : Int32).toNatClampNeg)]) rfl ?_
  refine lv_iload_n hx hb dX2_countWays_6 rfl (lv_at hl 1 rfl) ?_
  refine va_lald hx hb hK hP _ 2 (kk_getr (kk_getr (kk_rowL hk_1))) rfl (by unfold vp_in; decide) dX2_countWays_7 ?_
  refine lv_topl (fun y_2 e_2 => ?_)
  clear e_2
  refine lv_lstore_n hx hb dX2_countWays_8 rfl hl (by decide) (rfl : _ = ([(2, .long y_2), (0, .ref h0), (1, .int 4)] : List (Nat × Value))) (fun ls hl => ?_)
  refine lv_lload_n hx hb dX2_countWays_9 rfl (lv_at hl 0 rfl) ?_
  refine lv_lconst (v := 0) hx hb dX2_countWays_10 (by decide) ?_
  refine W.lcmp hx hb dX2_countWays_11 ?_
  refine lv_if_ne (tgt := 16) hx hb dX2_countWays_12 (by decide) (fun _ => ?_) (fun _ => ?_)
  · skip
    refine lv_aload_n hx hb dX2_countWays_16 rfl (lv_at hl 1 rfl) ?_
    refine va_get (D := (dC, dI)) (ci := 2) (v := .int n0_ways) (C := RX2) (T := TX2) (N := 13) hx hb hts (fun _ h => List.mem_cons_of_mem _ (List.mem_append_right _ h)) hown hK hP 0 rfl rfl 12 (by decide) (hts (.fieldLink RX2 70 "KinkStreet$Deeds" "ways" "I") (List.mem_of_getElem? (i := 2) rfl)) (fun _ h9 => h9) rfl dX2_countWays_17 ?_
    refine lv_if_ne (tgt := 47) hx hb dX2_countWays_20 (by decide) (fun c_3 => ?_) (fun c_3 => ?_)
    · have t_3 : n0_ways.toInt ≠ 0 := kk_ne c_3
      refine lv_aload_n hx hb dX2_countWays_47 rfl (lv_at hl 1 rfl) ?_
      refine lv_ldc hx hb hown (hts _ (List.mem_of_getElem? (i := 9) rfl)) dX2_countWays_48 ?_
      refine lv_aload_n hx hb dX2_countWays_50 rfl (lv_at hl 1 rfl) ?_
      refine va_get (D := (dC, dI)) (ci := 2) (v := .int n0_ways) (C := RX2) (T := TX2) (N := 13) hx hb hts (fun _ h => List.mem_cons_of_mem _ (List.mem_append_right _ h)) hown hK hP 0 rfl rfl 12 (by decide) (hts (.fieldLink RX2 70 "KinkStreet$Deeds" "ways" "I") (List.mem_of_getElem? (i := 2) rfl)) (fun _ h9 => h9) rfl dX2_countWays_51 ?_
      refine lv_lload_n hx hb dX2_countWays_54 rfl (lv_at hl 0 rfl) ?_
      obtain ⟨hPc, hDc, hFc⟩ := kk_cutout (wc := []) hP hD hS hA [] (by decide) rfl
      have hKc := kk_Ks (tq := []) hK [] rfl
      refine va_calli (va_runS (As := [.long y_2]) (rest := [.int n0_ways, .int 1000000, .ref h0]) ⟨hx, hb, hml, hown, hts⟩ (g_J13_bitCount_95d88_0 l dC dI s.heap.size y_2 (y_2.toInt) rfl) (va_cwS 1 hts gX2_countWays_J13_bitCount_95d88 rfl rfl rfl kh_J13_bitCount_95d88 ⟨Nat.le_of_ble_eq_true rfl, Nat.le_of_ble_eq_true rfl⟩) ⟨fun a U g mk q => by obtain ⟨q0, q1, qP, qK, qD⟩ := q; exact ⟨q0, q1, qP, va_K.moved (u := U) (U := U.calling g mk a) (Vm.Alike.refl U.vm) qK, qD⟩, fun U hU hW => ⟨rfl, by rw [hU], by rw [hU]; exact hPc, va_K.moved hW.alike hKc, hDc.weaken (fun _ _ _ _ => trivial)⟩⟩ rfl rfl hl.1 rfl (lv_room (Nat.le_of_ble_eq_true rfl)) dX2_countWays_55 ⟨Nat.le_of_ble_eq_true rfl, Nat.le_of_ble_eq_true rfl⟩) hS (fun q _ h => hFc q h) hFc (fun r_4 u t H1 locs ht hvm hw hB hz1 hk1 hS => ?_)
      obtain ⟨hP1, hK1, hD1⟩ := hB
      rw [ht] at hP1
      have hK1 := va_K.moved hvm.symm hK1
      obtain ⟨hP, hD⟩ := va_joinQ (cx := []) (wr := [(h0, kO2 h7 h8 h9 n0_size h10 n0_names n0_plots h11 h1 h2 h3 h4 n0_ways), (h1, kAr cAlong 25 (fun j => some (h5 j))), (h2, kAr cAlong 5 (fun j => some (h6 j))), (h3, kAi cint 5 f3), (h4, kAi cint 5 f4)]) (w1 := []) hP hD [] [0, 1, 2, 3, 4] rfl rfl (by decide) (by decide) hk1 hFc hP1 hD1
      generalize H1 = H at hP hS ⊢
      have hP : va_P (dC, dI) vwCl (([(h0, kO2 h7 h8 h9 n0_size h10 n0_names n0_plots h11 h1 h2 h3 h4 n0_ways), (h1, kAr cAlong 25 (fun j => some (h5 j))), (h2, kAr cAlong 5 (fun j => some (h6 j))), (h3, kAi cint 5 f3), (h4, kAi cint 5 f4)] : va_W) ++ (kk_rowsL h5 clong 40 F5 25 ++ (kk_rowsL h6 clong 5 F6 5))) H := hP
      have hD : va_D A (([(h0, kO2 h7 h8 h9 n0_size h10 n0_names n0_plots h11 h1 h2 h3 h4 n0_ways), (h1, kAr cAlong 25 (fun j => some (h5 j))), (h2, kAr cAlong 5 (fun j => some (h6 j))), (h3, kAi cint 5 f3), (h4, kAi cint 5 f4)] : va_W) ++ (kk_rowsL h5 clong 40 F5 25 ++ (kk_rowsL h6 clong 5 F6 5))) := hD
      refine lv_iadd hx hb dX2_countWays_58 ?_
      refine va_mmin hx hb (hml.trans hl.1.symm) hown (hts (.methodLink RX2 61 Lib.Math.min.name) (List.mem_of_getElem? (i := 10) rfl)) (hts (.static Lib.Math.min.name) (List.mem_of_getElem? (i := 11) rfl)) (hts (.initialized "java/lang/Math") (List.mem_of_getElem? (i := 12) rfl)) (hts (.code Lib.Math.min.name Lib.Math.min.code 2 (some .int)) (List.mem_of_getElem? (i := 13) rfl)) (Nat.le_of_ble_eq_true rfl) (Nat.le_of_ble_eq_true rfl) (Nat.le_of_ble_eq_true rfl) (Nat.le_of_ble_eq_true rfl) dX2_countWays_59 ?_
      refine lv_topi (fun y_5 e_5 => ?_)
      have t_5 : y_5.toInt ≤ 1000000 ∧ y_5.toInt ≤ (n0_ways + r_4).toInt ∧ (y_5.toInt = 1000000 ∨ y_5.toInt = (n0_ways + r_4).toInt) := by rw [e_5]; exact kk_min _ _
      clear e_5
      refine va_put (D := (dC, dI)) (ci := 2) (v := .int y_5) (ty := .int) (C := RX2) (T := TX2) (N := 13) hx hb hts (fun _ h => List.mem_cons_of_mem _ (List.mem_append_right _ h)) tyX2 tyX2_ok nmX2 hown hK hP hD hS 0 rfl rfl 12 (by decide) (hts (.fieldLink RX2 70 "KinkStreet$Deeds" "ways" "I") (List.mem_of_getElem? (i := 2) rfl)) (fun _ h9 => h9) rfl (by decide +kernel) rfl rfl (Nat.le_of_ble_eq_true rfl) dX2_countWays_62 (fun H locs hP hD hS => ?_)
      have hP : va_P (dC, dI) vwCl (([(h0, kO2 h7 h8 h9 n0_size h10 n0_names n0_plots h11 h1 h2 h3 h4 y_5), (h1, kAr cAlong 25 (fun j => some (h5 j))), (h2, kAr cAlong 5 (fun j => some (h6 j))), (h3, kAi cint 5 f3), (h4, kAi cint 5 f4)] : va_W) ++ (kk_rowsL h5 clong 40 F5 25 ++ (kk_rowsL h6 clong 5 F6 5))) H := hP
      have hD : va_D A (([(h0, kO2 h7 h8 h9 n0_size h10 n0_names n0_plots h11 h1 h2 h3 h4 y_5), (h1, kAr cAlong 25 (fun j => some (h5 j))), (h2, kAr cAlong 5 (fun j => some (h6 j))), (h3, kAi cint 5 f3), (h4, kAi cint 5 f4)] : va_W) ++ (kk_rowsL h5 clong 40 F5 25 ++ (kk_rowsL h6 clong 5 F6 5))) := hD
      have hP9 := hP.part (cx := [(h0, kO2 h7 h8 h9 n0_size h10 n0_names n0_plots h11 h1 h2 h3 h4 y_5), (h1, kAr cAlong 25 (fun j => some (h5 j))), (h2, kAr cAlong 5 (fun j => some (h6 j))), (h3, kAi cint 5 f3), (h4, kAi cint 5 f4)]) [0, 1, 2, 3, 4] rfl
      have hD9 := hD.part (cx := [(h0, kO2 h7 h8 h9 n0_size h10 n0_names n0_plots h11 h1 h2 h3 h4 y_5), (h1, kAr cAlong 25 (fun j => some (h5 j))), (h2, kAr cAlong 5 (fun j => some (h6 j))), (h3, kAi cint 5 f3), (h4, kAi cint 5 f4)]) [0, 1, 2, 3, 4] (by decide) rfl
      have hK9 := kk_Ks (tq := []) hK [] rfl
      exact W.vret hx hb hr (fun t ht hW => ⟨⟨(), rfl, trivial, y_5, f3, f4, by rw [ht]; exact hP9, va_K.moved hW.alike hK9, hD9⟩, hS.F ht⟩) hS.2.2 dX2_countWays_65
    · have t_3 : n0_ways.toInt = 0 := kk_eq c_3
      refine lv_aload_n hx hb dX2_countWays_23 rfl (lv_at hl 1 rfl) ?_
      refine va_get (D := (dC, dI)) (ci := 2) (v := .ref h3) (C := RX2) (T := TX2) (N := 13) hx hb hts (fun _ h => List.mem_cons_of_mem _ (List.mem_append_right _ h)) hown hK hP 0 rfl rfl 10 (by decide) (hts (.fieldLink RX2 35 "KinkStreet$Deeds" "tried" "[I") (List.mem_of_getElem? (i := 3) rfl)) (fun _ h9 => h9) rfl dX2_countWays_24 ?_
      refine lv_iload_n hx hb dX2_countWays_27 rfl (lv_at hl 2 rfl) ?_
      refine lv_lload_n hx hb dX2_countWays_28 rfl (lv_at hl 0 rfl) ?_
      obtain ⟨hPc, hDc, hFc⟩ := kk_cutout (wc := []) hP hD hS hA [] (by decide) rfl
      have hKc := kk_Ks (tq := []) hK [] rfl
      refine va_calli (va_runS (As := [.long y_2]) (rest := [.int 4, .ref h3]) ⟨hx, hb, hml, hown, hts⟩ (g_J13_numberOfTrailingZeros_95d88_0 l dC dI s.heap.size y_2 (y_2.toInt) rfl) (va_cwS 1 hts gX2_countWays_J13_numberOfTrailingZeros_95d88 rfl rfl rfl kh_J13_numberOfTrailingZeros_95d88 ⟨Nat.le_of_ble_eq_true rfl, Nat.le_of_ble_eq_true rfl⟩) ⟨fun a U g mk q => by obtain ⟨q0, q1, qP, qK, qD⟩ := q; exact ⟨q0, q1, qP, va_K.moved (u := U) (U := U.calling g mk a) (Vm.Alike.refl U.vm) qK, qD⟩, fun U hU hW => ⟨rfl, by rw [hU], by rw [hU]; exact hPc, va_K.moved hW.alike hKc, hDc.weaken (fun _ _ _ _ => trivial)⟩⟩ rfl rfl hl.1 rfl (lv_room (Nat.le_of_ble_eq_true rfl)) dX2_countWays_29 ⟨Nat.le_of_ble_eq_true rfl, Nat.le_of_ble_eq_true rfl⟩) hS (fun q _ h => hFc q h) hFc (fun r_6 u t H1 locs ht hvm hw hB hz1 hk1 hS => ?_)
      obtain ⟨hP1, hK1, hD1⟩ := hB
      rw [ht] at hP1
      have hK1 := va_K.moved hvm.symm hK1
      obtain ⟨hP, hD⟩ := va_joinQ (cx := []) (wr := [(h0, kO2 h7 h8 h9 n0_size h10 n0_names n0_plots h11 h1 h2 h3 h4 n0_ways), (h1, kAr cAlong 25 (fun j => some (h5 j))), (h2, kAr cAlong 5 (fun j => some (h6 j))), (h3, kAi cint 5 f3), (h4, kAi cint 5 f4)]) (w1 := []) hP hD [] [0, 1, 2, 3, 4] rfl rfl (by decide) (by decide) hk1 hFc hP1 hD1
      generalize H1 = H at hP hS ⊢
      have hP : va_P (dC, dI) vwCl (([(h0, kO2 h7 h8 h9 n0_size h10 n0_names n0_plots h11 h1 h2 h3 h4 n0_ways), (h1, kAr cAlong 25 (fun j => some (h5 j))), (h2, kAr cAlong 5 (fun j => some (h6 j))), (h3, kAi cint 5 f3), (h4, kAi cint 5 f4)] : va_W) ++ (kk_rowsL h5 clong 40 F5 25 ++ (kk_rowsL h6 clong 5 F6 5))) H := hP
      have hD : va_D A (([(h0, kO2 h7 h8 h9 n0_size h10 n0_names n0_plots h11 h1 h2 h3 h4 n0_ways), (h1, kAr cAlong 25 (fun j => some (h5 j))), (h2, kAr cAlong 5 (fun j => some (h6 j))), (h3, kAi cint 5 f3), (h4, kAi cint 5 f4)] : va_W) ++ (kk_rowsL h5 clong 40 F5 25 ++ (kk_rowsL h6 clong 5 F6 5))) := hD
      refine va_iast hx hb hK hP hD hS 3 1 rfl rfl (by unfold vp_in; decide) dX2_countWays_32 (fun H locs hP hD hS => ?_)
      generalize upd f3 (4 : Int32).toNatClampNeg r_6 = f_7 at hP hD
      have hP : va_P (dC, dI) vwCl (([(h0, kO2 h7 h8 h9 n0_size h10 n0_names n0_plots h11 h1 h2 h3 h4 n0_ways), (h1, kAr cAlong 25 (fun j => some (h5 j))), (h2, kAr cAlong 5 (fun j => some (h6 j))), (h3, kAi cint 5 f_7), (h4, kAi cint 5 f4)] : va_W) ++ (kk_rowsL h5 clong 40 F5 25 ++ (kk_rowsL h6 clong 5 F6 5))) H := hP
      have hD : va_D A (([(h0, kO2 h7 h8 h9 n0_size h10 n0_names n0_plots h11 h1 h2 h3 h4 n0_ways), (h1, kAr cAlong 25 (fun j => some (h5 j))), (h2, kAr cAlong 5 (fun j => some (h6 j))), (h3, kAi cint 5 f_7), (h4, kAi cint 5 f4)] : va_W) ++ (kk_rowsL h5 clong 40 F5 25 ++ (kk_rowsL h6 clong 5 F6 5))) := hD
      refine lv_aload_n hx hb dX2_countWays_33 rfl (lv_at hl 1 rfl) ?_
      refine va_get (D := (dC, dI)) (ci := 2) (v := .ref h3) (C := RX2) (T := TX2) (N := 13) hx hb hts (fun _ h => List.mem_cons_of_mem _ (List.mem_append_right _ h)) hown hK hP 0 rfl rfl 10 (by decide) (hts (.fieldLink RX2 35 "KinkStreet$Deeds" "tried" "[I") (List.mem_of_getElem? (i := 3) rfl)) (fun _ h9 => h9) rfl dX2_countWays_34 ?_
      refine lv_iconst (v := 0) hx hb dX2_countWays_37 kk_ic_0 ?_
      refine lv_aload_n hx hb dX2_countWays_38 rfl (lv_at hl 1 rfl) ?_
      refine va_get (D := (dC, dI)) (ci := 2) (v := .ref h4) (C := RX2) (T := TX2) (N := 13) hx hb hts (fun _ h => List.mem_cons_of_mem _ (List.mem_append_right _ h)) hown hK hP 0 rfl rfl 11 (by decide) (hts (.fieldLink RX2 38 "KinkStreet$Deeds" "found" "[I") (List.mem_of_getElem? (i := 4) rfl)) (fun _ h9 => h9) rfl dX2_countWays_39 ?_
      refine lv_iconst (v := 0) hx hb dX2_countWays_42 kk_ic_0 ?_
      refine lv_iconst (v := 5) hx hb dX2_countWays_43 kk_ic_5 ?_
      refine va_copyi (sp := 0) (dp := 0) (n := 5) hx hb (hml.trans hl.1.symm) hown (hts (.methodLink RX2 118 arraycopyName) (List.mem_of_getElem? (i := 5) rfl)) (hts (.native arraycopyName) (List.mem_of_getElem? (i := 6) rfl)) (hts (.static arraycopyName) (List.mem_of_getElem? (i := 7) rfl)) (hts (.initialized "java/lang/System") (List.mem_of_getElem? (i := 8) rfl)) hK hP hD hS 3 4 1 1 rfl rfl rfl rfl rfl (by decide) (by decide) (by decide) (by decide) (by decide) (fun _ _ => rfl) (Nat.le_of_ble_eq_true rfl) (Nat.le_of_ble_eq_true rfl) dX2_countWays_44 (fun H locs hP hD hS => ?_)
      generalize va_cpy f_7 f4 (0 : Int32).toNatClampNeg (0 : Int32).toNatClampNeg (5 : Int32).toNatClampNeg = f_8 at hP hD
      have hP : va_P (dC, dI) vwCl (([(h0, kO2 h7 h8 h9 n0_size h10 n0_names n0_plots h11 h1 h2 h3 h4 n0_ways), (h1, kAr cAlong 25 (fun j => some (h5 j))), (h2, kAr cAlong 5 (fun j => some (h6 j))), (h3, kAi cint 5 f_7), (h4, kAi cint 5 f_8)] : va_W) ++ (kk_rowsL h5 clong 40 F5 25 ++ (kk_rowsL h6 clong 5 F6 5))) H := hP
      have hD : va_D A (([(h0, kO2 h7 h8 h9 n0_size h10 n0_names n0_plots h11 h1 h2 h3 h4 n0_ways), (h1, kAr cAlong 25 (fun j => some (h5 j))), (h2, kAr cAlong 5 (fun j => some (h6 j))), (h3, kAi cint 5 f_7), (h4, kAi cint 5 f_8)] : va_W) ++ (kk_rowsL h5 clong 40 F5 25 ++ (kk_rowsL h6 clong 5 F6 5))) := hD
      refine lv_aload_n hx hb dX2_countWays_47 rfl (lv_at hl 1 rfl) ?_
      refine lv_ldc hx hb hown (hts _ (List.mem_of_getElem? (i := 9) rfl)) dX2_countWays_48 ?_
      refine lv_aload_n hx hb dX2_countWays_50 rfl (lv_at hl 1 rfl) ?_
      refine va_get (D := (dC, dI)) (ci := 2) (v := .int n0_ways) (C := RX2) (T := TX2) (N := 13) hx hb hts (fun _ h => List.mem_cons_of_mem _ (List.mem_append_right _ h)) hown hK hP 0 rfl rfl 12 (by decide) (hts (.fieldLink RX2 70 "KinkStreet$Deeds" "ways" "I") (List.mem_of_getElem? (i := 2) rfl)) (fun _ h9 => h9) rfl dX2_countWays_51 ?_
      refine lv_lload_n hx hb dX2_countWays_54 rfl (lv_at hl 0 rfl) ?_
      obtain ⟨hPc, hDc, hFc⟩ := kk_cutout (wc := []) hP hD hS hA [] (by decide) rfl
      have hKc := kk_Ks (tq := []) hK [] rfl
      refine va_calli (va_runS (As := [.long y_2]) (rest := [.int n0_ways, .int 1000000, .ref h0]) ⟨hx, hb, hml, hown, hts⟩ (g_J13_bitCount_95d88_0 l dC dI H.size y_2 (y_2.toInt) rfl) (va_cwS 1 hts gX2_countWays_J13_bitCount_95d88 rfl rfl rfl kh_J13_bitCount_95d88 ⟨Nat.le_of_ble_eq_true rfl, Nat.le_of_ble_eq_true rfl⟩) ⟨fun a U g mk q => by obtain ⟨q0, q1, qP, qK, qD⟩ := q; exact ⟨q0, q1, qP, va_K.moved (u := U) (U := U.calling g mk a) (Vm.Alike.refl U.vm) qK, qD⟩, fun U hU hW => ⟨rfl, by rw [hU], by rw [hU]; exact hPc, va_K.moved hW.alike hKc, hDc.weaken (fun _ _ _ _ => trivial)⟩⟩ rfl rfl hl.1 rfl (lv_room (Nat.le_of_ble_eq_true rfl)) dX2_countWays_55 ⟨Nat.le_of_ble_eq_true rfl, Nat.le_of_ble_eq_true rfl⟩) hS (fun q _ h => hFc q h) hFc (fun r_9 u t H1 locs ht hvm hw hB hz1 hk1 hS => ?_)
      obtain ⟨hP1, hK1, hD1⟩ := hB
      rw [ht] at hP1
      have hK1 := va_K.moved hvm.symm hK1
      obtain ⟨hP, hD⟩ := va_joinQ (cx := []) (wr := [(h0, kO2 h7 h8 h9 n0_size h10 n0_names n0_plots h11 h1 h2 h3 h4 n0_ways), (h1, kAr cAlong 25 (fun j => some (h5 j))), (h2, kAr cAlong 5 (fun j => some (h6 j))), (h3, kAi cint 5 f_7), (h4, kAi cint 5 f_8)]) (w1 := []) hP hD [] [0, 1, 2, 3, 4] rfl rfl (by decide) (by decide) hk1 hFc hP1 hD1
      generalize H1 = H at hP hS ⊢
      have hP : va_P (dC, dI) vwCl (([(h0, kO2 h7 h8 h9 n0_size h10 n0_names n0_plots h11 h1 h2 h3 h4 n0_ways), (h1, kAr cAlong 25 (fun j => some (h5 j))), (h2, kAr cAlong 5 (fun j => some (h6 j))), (h3, kAi cint 5 f_7), (h4, kAi cint 5 f_8)] : va_W) ++ (kk_rowsL h5 clong 40 F5 25 ++ (kk_rowsL h6 clong 5 F6 5))) H := hP
      have hD : va_D A (([(h0, kO2 h7 h8 h9 n0_size h10 n0_names n0_plots h11 h1 h2 h3 h4 n0_ways), (h1, kAr cAlong 25 (fun j => some (h5 j))), (h2, kAr cAlong 5 (fun j => some (h6 j))), (h3, kAi cint 5 f_7), (h4, kAi cint 5 f_8)] : va_W) ++ (kk_rowsL h5 clong 40 F5 25 ++ (kk_rowsL h6 clong 5 F6 5))) := hD
      refine lv_iadd hx hb dX2_countWays_58 ?_
      refine va_mmin hx hb (hml.trans hl.1.symm) hown (hts (.methodLink RX2 61 Lib.Math.min.name) (List.mem_of_getElem? (i := 10) rfl)) (hts (.static Lib.Math.min.name) (List.mem_of_getElem? (i := 11) rfl)) (hts (.initialized "java/lang/Math") (List.mem_of_getElem? (i := 12) rfl)) (hts (.code Lib.Math.min.name Lib.Math.min.code 2 (some .int)) (List.mem_of_getElem? (i := 13) rfl)) (Nat.le_of_ble_eq_true rfl) (Nat.le_of_ble_eq_true rfl) (Nat.le_of_ble_eq_true rfl) (Nat.le_of_ble_eq_true rfl) dX2_countWays_59 ?_
      refine lv_topi (fun y_10 e_10 => ?_)
      have t_10 : y_10.toInt ≤ 1000000 ∧ y_10.toInt ≤ (n0_ways + r_9).toInt ∧ (y_10.toInt = 1000000 ∨ y_10.toInt = (n0_ways + r_9).toInt) := by rw [e_10]; exact kk_min _ _
      clear e_10
      refine va_put (D := (dC, dI)) (ci := 2) (v := .int y_10) (ty := .int) (C := RX2) (T := TX2) (N := 13) hx hb hts (fun _ h => List.mem_cons_of_mem _ (List.mem_append_right _ h)) tyX2 tyX2_ok nmX2 hown hK hP hD hS 0 rfl rfl 12 (by decide) (hts (.fieldLink RX2 70 "KinkStreet$Deeds" "ways" "I") (List.mem_of_getElem? (i := 2) rfl)) (fun _ h9 => h9) rfl (by decide +kernel) rfl rfl (Nat.le_of_ble_eq_true rfl) dX2_countWays_62 (fun H locs hP hD hS => ?_)
      have hP : va_P (dC, dI) vwCl (([(h0, kO2 h7 h8 h9 n0_size h10 n0_names n0_plots h11 h1 h2 h3 h4 y_10), (h1, kAr cAlong 25 (fun j => some (h5 j))), (h2, kAr cAlong 5 (fun j => some (h6 j))), (h3, kAi cint 5 f_7), (h4, kAi cint 5 f_8)] : va_W) ++ (kk_rowsL h5 clong 40 F5 25 ++ (kk_rowsL h6 clong 5 F6 5))) H := hP
      have hD : va_D A (([(h0, kO2 h7 h8 h9 n0_size h10 n0_names n0_plots h11 h1 h2 h3 h4 y_10), (h1, kAr cAlong 25 (fun j => some (h5 j))), (h2, kAr cAlong 5 (fun j => some (h6 j))), (h3, kAi cint 5 f_7), (h4, kAi cint 5 f_8)] : va_W) ++ (kk_rowsL h5 clong 40 F5 25 ++ (kk_rowsL h6 clong 5 F6 5))) := hD
      have hP9 := hP.part (cx := [(h0, kO2 h7 h8 h9 n0_size h10 n0_names n0_plots h11 h1 h2 h3 h4 y_10), (h1, kAr cAlong 25 (fun j => some (h5 j))), (h2, kAr cAlong 5 (fun j => some (h6 j))), (h3, kAi cint 5 f_7), (h4, kAi cint 5 f_8)]) [0, 1, 2, 3, 4] rfl
      have hD9 := hD.part (cx := [(h0, kO2 h7 h8 h9 n0_size h10 n0_names n0_plots h11 h1 h2 h3 h4 y_10), (h1, kAr cAlong 25 (fun j => some (h5 j))), (h2, kAr cAlong 5 (fun j => some (h6 j))), (h3, kAi cint 5 f_7), (h4, kAi cint 5 f_8)]) [0, 1, 2, 3, 4] (by decide) rfl
      have hK9 := kk_Ks (tq := []) hK [] rfl
      exact W.vret hx hb hr (fun t ht hW => ⟨⟨(), rfl, trivial, y_10, f_7, f_8, by rw [ht]; exact hP9, va_K.moved hW.alike hK9, hD9⟩, hS.F ht⟩) hS.2.2 dX2_countWays_65
  · skip
    have hP9 := hP.part (cx := [(h0, kO2 h7 h8 h9 n0_size h10 n0_names n0_plots h11 h1 h2 h3 h4 n0_ways), (h1, kAr cAlong 25 (fun j => some (h5 j))), (h2, kAr cAlong 5 (fun j => some (h6 j))), (h3, kAi cint 5 f3), (h4, kAi cint 5 f4)]) [0, 1, 2, 3, 4] rfl
    have hD9 := hD.part (cx := [(h0, kO2 h7 h8 h9 n0_size h10 n0_names n0_plots h11 h1 h2 h3 h4 n0_ways), (h1, kAr cAlong 25 (fun j => some (h5 j))), (h2, kAr cAlong 5 (fun j => some (h6 j))), (h3, kAi cint 5 f3), (h4, kAi cint 5 f4)]) [0, 1, 2, 3, 4] (by decide) rfl
    have hK9 := kk_Ks (tq := []) hK [] rfl
    exact W.vret hx hb hr (fun t ht hW => ⟨⟨(), rfl, trivial, n0_ways, f3, f4, by rw [ht]; exact hP9, va_K.moved hW.alike hK9, hD9⟩, hS.F ht⟩) hS.2.2 dX2_countWays_15
set_option maxHeartbeats 4000000 in
set_option maxRecDepth 100000 in
theorem g_X2_search_0 (l : Launch) (dC : Nat → ClassId) (dI : Nat → Nat → Nat) (h0 : Nat) (h1 : Nat) (h2 : Nat) (h3 : Nat) (h4 : Nat) (h5 : Nat → Nat) (h6 : Nat → Nat) (h7 : Nat) (h8 : Nat) (h9 : Nat) (h10 : Nat) (h11 : Nat) (cAlong cint clong : ClassId) (sz : Nat) (n0_size : Int32) (n0_names : Int32) (n0_plots : Int32) (n0_ways : Int32) (f3 : Nat → Int32) (f4 : Nat → Int32) (F5 : Nat → Nat → Int64) (F6 : Nat → Nat → Int64) (tn0_size : kk_bx (0 ≤ n0_size.toInt ∧ n0_size.toInt ≤ 10)) (tn0_names : 1 ≤ n0_names.toInt ∧ n0_names.toInt ≤ 5) (tn0_plots : kk_bx (0 ≤ n0_plots.toInt ∧ n0_plots.toInt ≤ 40)) : Met l yX2_search wsX2_search ({ frames := 3, cells := 0, slots := 0, locals := 71 }) (va_Pc [.ref h0, .int 4] (fun U => U.heap.size = sz ∧ va_P (dC, dI) vwCl (([(h0, kO2 h7 h8 h9 n0_size h10 n0_names n0_plots h11 h1 h2 h3 h4 n0_ways), (h1, kAr cAlong 25 (fun j => some (h5 j))), (h2, kAr cAlong 5 (fun j => some (h6 j))), (h3, kAi cint 5 f3), (h4, kAi cint 5 f4)] : va_W) ++ (kk_rowsL h5 clong 40 F5 25 ++ (kk_rowsL h6 clong 5 F6 5))) U.heap ∧ va_K (dC, dI) vwCl [(cAlong, .array .long), (cint, .int), (clong, .long)] U ∧ va_D (fun _ => True) (([(h0, kO2 h7 h8 h9 n0_size h10 n0_names n0_plots h11 h1 h2 h3 h4 n0_ways), (h1, kAr cAlong 25 (fun j => some (h5 j))), (h2, kAr cAlong 5 (fun j => some (h6 j))), (h3, kAi cint 5 f3), (h4, kAi cint 5 f4)] : va_W) ++ (kk_rowsL h5 clong 40 F5 25 ++ (kk_rowsL h6 clong 5 F6 5))))) (va_Qv (fun (_ : Unit) => True) (fun (_ : Unit) t => ∃ (m0_ways : Int32) (g3 : Nat → Int32) (g4 : Nat → Int32), va_P (dC, dI) vwCl (([(h0, kO2 h7 h8 h9 n0_size h10 n0_names n0_plots h11 h1 h2 h3 h4 m0_ways), (h1, kAr cAlong 25 (fun j => some (h5 j))), (h2, kAr cAlong 5 (fun j => some (h6 j))), (h3, kAi cint 5 g3), (h4, kAi cint 5 g4)] : va_W) ++ (kk_rowsL h5 clong 40 F5 25 ++ (kk_rowsL h6 clong 5 F6 5))) t.heap ∧ va_K (dC, dI) vwCl [] t ∧ va_D (va_A (([(h0, kO2 h7 h8 h9 n0_size h10 n0_names n0_plots h11 h1 h2 h3 h4 n0_ways), (h1, kAr cAlong 25 (fun j => some (h5 j))), (h2, kAr cAlong 5 (fun j => some (h6 j))), (h3, kAi cint 5 f3), (h4, kAi cint 5 f4)] : va_W) ++ (kk_rowsL h5 clong 40 F5 25 ++ (kk_rowsL h6 clong 5 F6 5))) sz) (([(h0, kO2 h7 h8 h9 n0_size h10 n0_names n0_plots h11 h1 h2 h3 h4 m0_ways), (h1, kAr cAlong 25 (fun j => some (h5 j))), (h2, kAr cAlong 5 (fun j => some (h6 j))), (h3, kAi cint 5 g3), (h4, kAi cint 5 g4)] : va_W) ++ (kk_rowsL h5 clong 40 F5 25 ++ (kk_rowsL h6 clong 5 F6 5)))) (va_A (([(h0, kO2 h7 h8 h9 n0_size h10 n0_names n0_plots h11 h1 h2 h3 h4 n0_ways), (h1, kAr cAlong 25 (fun j => some (h5 j))), (h2, kAr cAlong 5 (fun j => some (h6 j))), (h3, kAi cint 5 f3), (h4, kAi cint 5 f4)] : va_W) ++ (kk_rowsL h5 clong 40 F5 25 ++ (kk_rowsL h6 clong 5 F6 5))) sz)) 0 0 (va_A (([(h0, kO2 h7 h8 h9 n0_size h10 n0_names n0_plots h11 h1 h2 h3 h4 n0_ways), (h1, kAr cAlong 25 (fun j => some (h5 j))), (h2, kAr cAlong 5 (fun j => some (h6 j))), (h3, kAi cint 5 f3), (h4, kAi cint 5 f4)] : va_W) ++ (kk_rowsL h5 clong 40 F5 25 ++ (kk_rowsL h6 clong 5 F6 5))) sz) := by
  refine Met.ofW (cc := cX2_search) (maxL := 3) (ret := none) (by decide) rfl ?_
  intro p e s m args below meth c s₁ B hml hv
  obtain ⟨rfl, hsz, hP, hK, hD0⟩ := hv
  have hx := B.exec
  have hb := B.bytes
  have hr := B.returns
  have hts := atoms_spec (ws := wsX2_search) B.pre
  have hown : s.vm.findClass RX2 = some m.cls := findClass_of_methodNamed B.named
  have hlocks := B.notSynchronized
  subst hsz
  have hD := hD0.self (sz := s.heap.size)
  generalize hAe : va_A (([(h0, kO2 h7 h8 h9 n0_size h10 n0_names n0_plots h11 h1 h2 h3 h4 n0_ways), (h1, kAr cAlong 25 (fun j => some (h5 j))), (h2, kAr cAlong 5 (fun j => some (h6 j))), (h3, kAi cint 5 f3), (h4, kAi cint 5 f4)] : va_W) ++ (kk_rowsL h5 clong 40 F5 25 ++ (kk_rowsL h6 clong 5 F6 5))) s.heap.size = A at hD ⊢
  have hA : ∀ q : Nat, s.heap.size ≤ q → A q := fun q h => by rw [← hAe]; exact Or.inr h
  have hS : va_S A s.heap s.heap [] := va_S.rf
  have hP : va_P (dC, dI) vwCl (([(h0, kO2 h7 h8 h9 n0_size h10 n0_names n0_plots h11 h1 h2 h3 h4 n0_ways), (h1, kAr cAlong 25 (fun j => some (h5 j))), (h2, kAr cAlong 5 (fun j => some (h6 j))), (h3, kAi cint 5 f3), (h4, kAi cint 5 f4)] : va_W) ++ (kk_rowsL h5 clong 40 F5 25 ++ (kk_rowsL h6 clong 5 F6 5))) s.heap := hP
  have hl := lv_entry ([.ref h0, .int 4]) (n := 3) (Nat.le_of_ble_eq_true rfl)
  rw [lg_entry_eq]
  generalize (lg_sl ([.ref h0, .int 4]) ++ List.replicate (3 - (lg_sl ([.ref h0, .int 4])).length) Slot.unset).toArray = ls at hl ⊢
  have hl : lv_has ls 3 [(0, .ref h0), (1, .int 4)] := hl
  refine lv_iload_n hx hb dX2_search_0 rfl (lv_at hl 1 rfl) ?_
  refine lv_aload_n hx hb dX2_search_1 rfl (lv_at hl 0 rfl) ?_
  refine va_get (D := (dC, dI)) (ci := 2) (v := .int n0_names) (C := RX2) (T := TX2) (N := 13) hx hb hts (fun _ h => List.mem_cons_of_mem _ (List.mem_append_right _ h)) hown hK hP 0 rfl rfl 5 (by decide) (hts (.fieldLink RX2 49 "KinkStreet$Deeds" "names" "I") (List.mem_of_getElem? (i := 1) rfl)) (fun _ h9 => h9) rfl dX2_search_2 ?_
  refine lv_iconst (v := 1) hx hb dX2_search_5 kk_ic_1 ?_
  refine lv_isub hx hb dX2_search_6 ?_
  refine lv_icmp_lt (tgt := 16) hx hb dX2_search_7 (by decide) (fun c_1 => ?_) (fun c_1 => ?_)
  · have t_1 : 4 < (n0_names - 1).toInt := kk_lt c_1
    try have := kk_sub2 (x := n0_names) (y := 1) (a := n0_names.toInt) (b := 1) rfl rfl (by omega) (by omega)
    exfalso; omega
  · have t_1 : (n0_names - 1).toInt ≤ 4 := kk_nlt c_1
    refine lv_aload_n hx hb dX2_search_10 rfl (lv_at hl 0 rfl) ?_
    refine lv_iload_n hx hb dX2_search_11 rfl (lv_at hl 1 rfl) ?_
    have hPc := hP.part (cx := [(h0, kO2 h7 h8 h9 n0_size h10 n0_names n0_plots h11 h1 h2 h3 h4 n0_ways), (h1, kAr cAlong 25 (fun j => some (h5 j))), (h2, kAr cAlong 5 (fun j => some (h6 j))), (h3, kAi cint 5 f3), (h4, kAi cint 5 f4)]) [0, 1, 2, 3, 4] rfl
    have hDc := hD.part (cx := [(h0, kO2 h7 h8 h9 n0_size h10 n0_names n0_plots h11 h1 h2 h3 h4 n0_ways), (h1, kAr cAlong 25 (fun j => some (h5 j))), (h2, kAr cAlong 5 (fun j => some (h6 j))), (h3, kAi cint 5 f3), (h4, kAi cint 5 f4)]) [0, 1, 2, 3, 4] (by decide) rfl
    have hFc := va_freeP (cx := [(h0, kO2 h7 h8 h9 n0_size h10 n0_names n0_plots h11 h1 h2 h3 h4 n0_ways), (h1, kAr cAlong 25 (fun j => some (h5 j))), (h2, kAr cAlong 5 (fun j => some (h6 j))), (h3, kAi cint 5 f3), (h4, kAi cint 5 f4)]) hD hS hA [0, 1, 2, 3, 4] rfl
    have hKc := kk_Ks (tq := [(cAlong, .array .long), (cint, .int), (clong, .long)]) hK [0, 1, 2] rfl
    refine va_callv (va_runV (As := [.int 4]) (rest := []) ⟨hx, hb, hml, hown, hts⟩ (g_X2_countWays_0 l dC dI h0 h1 h2 h3 h4 h5 h6 h7 h8 h9 h10 h11 cAlong cint clong s.heap.size n0_size n0_names n0_plots n0_ways f3 f4 F5 F6 tn0_size tn0_names tn0_plots) (cwV 1 hts gX2_search_X2_countWays rfl rfl rfl ⟨rfl, kh_X2_countWays⟩ ⟨Nat.le_of_ble_eq_true rfl, Nat.le_of_ble_eq_true rfl⟩) ⟨fun a U g mk q => by obtain ⟨q0, q1, qP, qK, qD⟩ := q; exact ⟨q0, q1, qP, va_K.moved (u := U) (U := U.calling g mk a) (Vm.Alike.refl U.vm) qK, qD⟩, va_recv hKc hPc (ci := 2) (q0 := 0) rfl rfl, fun U hU hW => ⟨rfl, by rw [hU], by rw [hU]; exact hPc, va_K.moved hW.alike hKc, hDc.weaken (fun _ _ _ _ => trivial)⟩⟩ rfl rfl hl.1 rfl (lv_room (Nat.le_of_ble_eq_true rfl)) dX2_search_12 ⟨Nat.le_of_ble_eq_true rfl, Nat.le_of_ble_eq_true rfl⟩) hS (fun q _ h => hFc q h) hFc (fun u t H1 locs ht hvm hw hB hz1 hk1 hS => ?_)
    refine hB.elim (fun y_3 hB => ?_)
    refine hB.elim (fun f_4 hB => ?_)
    refine hB.elim (fun f_5 hB => ?_)
    have hP1 := hB.1
    have hK1 := hB.2.1
    have hD1 := hB.2.2
    rw [ht] at hP1
    have hK1 := va_K.moved hvm.symm hK1
    obtain ⟨hP, hD⟩ := va_joinP (cx := [(h0, kO2 h7 h8 h9 n0_size h10 n0_names n0_plots h11 h1 h2 h3 h4 n0_ways), (h1, kAr cAlong 25 (fun j => some (h5 j))), (h2, kAr cAlong 5 (fun j => some (h6 j))), (h3, kAi cint 5 f3), (h4, kAi cint 5 f4)]) (wr := []) (rx := [(h0, kO2 h7 h8 h9 n0_size h10 n0_names n0_plots h11 h1 h2 h3 h4 y_3), (h1, kAr cAlong 25 (fun j => some (h5 j))), (h2, kAr cAlong 5 (fun j => some (h6 j))), (h3, kAi cint 5 f_4), (h4, kAi cint 5 f_5)]) hP hD [0, 1, 2, 3, 4] [] rfl rfl (by decide) (by decide) hk1 hFc hP1 hD1
    generalize H1 = H at hP hS ⊢
    have hP : va_P (dC, dI) vwCl (([(h0, kO2 h7 h8 h9 n0_size h10 n0_names n0_plots h11 h1 h2 h3 h4 y_3), (h1, kAr cAlong 25 (fun j => some (h5 j))), (h2, kAr cAlong 5 (fun j => some (h6 j))), (h3, kAi cint 5 f_4), (h4, kAi cint 5 f_5)] : va_W) ++ (kk_rowsL h5 clong 40 F5 25 ++ (kk_rowsL h6 clong 5 F6 5))) H := hP
    have hD : va_D A (([(h0, kO2 h7 h8 h9 n0_size h10 n0_names n0_plots h11 h1 h2 h3 h4 y_3), (h1, kAr cAlong 25 (fun j => some (h5 j))), (h2, kAr cAlong 5 (fun j => some (h6 j))), (h3, kAi cint 5 f_4), (h4, kAi cint 5 f_5)] : va_W) ++ (kk_rowsL h5 clong 40 F5 25 ++ (kk_rowsL h6 clong 5 F6 5))) := hD
    have hP9 := hP.part (cx := [(h0, kO2 h7 h8 h9 n0_size h10 n0_names n0_plots h11 h1 h2 h3 h4 y_3), (h1, kAr cAlong 25 (fun j => some (h5 j))), (h2, kAr cAlong 5 (fun j => some (h6 j))), (h3, kAi cint 5 f_4), (h4, kAi cint 5 f_5)]) [0, 1, 2, 3, 4] rfl
    have hD9 := hD.part (cx := [(h0, kO2 h7 h8 h9 n0_size h10 n0_names n0_plots h11 h1 h2 h3 h4 y_3), (h1, kAr cAlong 25 (fun j => some (h5 j))), (h2, kAr cAlong 5 (fun j => some (h6 j))), (h3, kAi cint 5 f_4), (h4, kAi cint 5 f_5)]) [0, 1, 2, 3, 4] (by decide) rfl
    have hK9 := kk_Ks (tq := []) hK [] rfl
    exact W.vret hx hb hr (fun t ht hW => ⟨⟨(), rfl, trivial, y_3, f_4, f_5, by rw [ht]; exact hP9, va_K.moved hW.alike hK9, hD9⟩, hS.F ht⟩) hS.2.2 dX2_search_15
set_option maxHeartbeats 4000000 in
set_option maxRecDepth 100000 in
theorem g_X2_countWays_1 (l : Launch) (dC : Nat → ClassId) (dI : Nat → Nat → Nat) (h0 : Nat) (h1 : Nat) (h2 : Nat) (h3 : Nat) (h4 : Nat) (h5 : Nat → Nat) (h6 : Nat → Nat) (h7 : Nat) (h8 : Nat) (h9 : Nat) (h10 : Nat) (h11 : Nat) (cAlong cint clong : ClassId) (sz : Nat) (n0_size : Int32) (n0_names : Int32) (n0_plots : Int32) (n0_ways : Int32) (f3 : Nat → Int32) (f4 : Nat → Int32) (F5 : Nat → Nat → Int64) (F6 : Nat → Nat → Int64) (tn0_size : kk_bx (0 ≤ n0_size.toInt ∧ n0_size.toInt ≤ 10)) (tn0_names : kk_bx (1 ≤ n0_names.toInt ∧ n0_names.toInt ≤ 5)) (tn0_plots : kk_bx (0 ≤ n0_plots.toInt ∧ n0_plots.toInt ≤ 40)) : Met l yX2_countWays wsX2_countWays ({ frames := 2, cells := 0, slots := 0, locals := 48 }) (va_Pc [.ref h0, .int 3] (fun U => U.heap.size = sz ∧ va_P (dC, dI) vwCl (([(h0, kO2 h7 h8 h9 n0_size h10 n0_names n0_plots h11 h1 h2 h3 h4 n0_ways), (h1, kAr cAlong 25 (fun j => some (h5 j))), (h2, kAr cAlong 5 (fun j => some (h6 j))), (h3, kAi cint 5 f3), (h4, kAi cint 5 f4)] : va_W) ++ (kk_rowsL h5 clong 40 F5 25 ++ (kk_rowsL h6 clong 5 F6 5))) U.heap ∧ va_K (dC, dI) vwCl [(cAlong, .array .long), (cint, .int), (clong, .long)] U ∧ va_D (fun _ => True) (([(h0, kO2 h7 h8 h9 n0_size h10 n0_names n0_plots h11 h1 h2 h3 h4 n0_ways), (h1, kAr cAlong 25 (fun j => some (h5 j))), (h2, kAr cAlong 5 (fun j => some (h6 j))), (h3, kAi cint 5 f3), (h4, kAi cint 5 f4)] : va_W) ++ (kk_rowsL h5 clong 40 F5 25 ++ (kk_rowsL h6 clong 5 F6 5))))) (va_Qv (fun (_ : Unit) => True) (fun (_ : Unit) t => ∃ (m0_ways : Int32) (g3 : Nat → Int32) (g4 : Nat → Int32), va_P (dC, dI) vwCl (([(h0, kO2 h7 h8 h9 n0_size h10 n0_names n0_plots h11 h1 h2 h3 h4 m0_ways), (h1, kAr cAlong 25 (fun j => some (h5 j))), (h2, kAr cAlong 5 (fun j => some (h6 j))), (h3, kAi cint 5 g3), (h4, kAi cint 5 g4)] : va_W) ++ (kk_rowsL h5 clong 40 F5 25 ++ (kk_rowsL h6 clong 5 F6 5))) t.heap ∧ va_K (dC, dI) vwCl [] t ∧ va_D (va_A (([(h0, kO2 h7 h8 h9 n0_size h10 n0_names n0_plots h11 h1 h2 h3 h4 n0_ways), (h1, kAr cAlong 25 (fun j => some (h5 j))), (h2, kAr cAlong 5 (fun j => some (h6 j))), (h3, kAi cint 5 f3), (h4, kAi cint 5 f4)] : va_W) ++ (kk_rowsL h5 clong 40 F5 25 ++ (kk_rowsL h6 clong 5 F6 5))) sz) (([(h0, kO2 h7 h8 h9 n0_size h10 n0_names n0_plots h11 h1 h2 h3 h4 m0_ways), (h1, kAr cAlong 25 (fun j => some (h5 j))), (h2, kAr cAlong 5 (fun j => some (h6 j))), (h3, kAi cint 5 g3), (h4, kAi cint 5 g4)] : va_W) ++ (kk_rowsL h5 clong 40 F5 25 ++ (kk_rowsL h6 clong 5 F6 5)))) (va_A (([(h0, kO2 h7 h8 h9 n0_size h10 n0_names n0_plots h11 h1 h2 h3 h4 n0_ways), (h1, kAr cAlong 25 (fun j => some (h5 j))), (h2, kAr cAlong 5 (fun j => some (h6 j))), (h3, kAi cint 5 f3), (h4, kAi cint 5 f4)] : va_W) ++ (kk_rowsL h5 clong 40 F5 25 ++ (kk_rowsL h6 clong 5 F6 5))) sz)) 0 0 (va_A (([(h0, kO2 h7 h8 h9 n0_size h10 n0_names n0_plots h11 h1 h2 h3 h4 n0_ways), (h1, kAr cAlong 25 (fun j => some (h5 j))), (h2, kAr cAlong 5 (fun j => some (h6 j))), (h3, kAi cint 5 f3), (h4, kAi cint 5 f4)] : va_W) ++ (kk_rowsL h5 clong 40 F5 25 ++ (kk_rowsL h6 clong 5 F6 5))) sz) := by
  refine Met.ofW (cc := cX2_countWays) (maxL := 4) (ret := none) (by decide) rfl ?_
  intro p e s m args below meth c s₁ B hml hv
  obtain ⟨rfl, hsz, hP, hK, hD0⟩ := hv
  have hx := B.exec
  have hb := B.bytes
  have hr := B.returns
  have hts := atoms_spec (ws := wsX2_countWays) B.pre
  have hown : s.vm.findClass RX2 = some m.cls := findClass_of_methodNamed B.named
  have hlocks := B.notSynchronized
  subst hsz
  have hD := hD0.self (sz := s.heap.size)
  generalize hAe : va_A (([(h0, kO2 h7 h8 h9 n0_size h10 n0_names n0_plots h11 h1 h2 h3 h4 n0_ways), (h1, kAr cAlong 25 (fun j => some (h5 j))), (h2, kAr cAlong 5 (fun j => some (h6 j))), (h3, kAi cint 5 f3), (h4, kAi cint 5 f4)] : va_W) ++ (kk_rowsL h5 clong 40 F5 25 ++ (kk_rowsL h6 clong 5 F6 5))) s.heap.size = A at hD ⊢
  have hA : ∀ q : Nat, s.heap.size ≤ q → A q := fun q h => by rw [← hAe]; exact Or.inr h
  have hS : va_S A s.heap s.heap [] := va_S.rf
  have hP : va_P (dC, dI) vwCl (([(h0, kO2 h7 h8 h9 n0_size h10 n0_names n0_plots h11 h1 h2 h3 h4 n0_ways), (h1, kAr cAlong 25 (fun j => some (h5 j))), (h2, kAr cAlong 5 (fun j => some (h6 j))), (h3, kAi cint 5 f3), (h4, kAi cint 5 f4)] : va_W) ++ (kk_rowsL h5 clong 40 F5 25 ++ (kk_rowsL h6 clong 5 F6 5))) s.heap := hP
  have hl := lv_entry ([.ref h0, .int 3]) (n := 4) (Nat.le_of_ble_eq_true rfl)
  rw [lg_entry_eq]
  generalize (lg_sl ([.ref h0, .int 3]) ++ List.replicate (4 - (lg_sl ([.ref h0, .int 3])).length) Slot.unset).toArray = ls at hl ⊢
  have hl : lv_has ls 4 [(0, .ref h0), (1, .int 3)] := hl
  refine lv_aload_n hx hb dX2_countWays_0 rfl (lv_at hl 0 rfl) ?_
  refine va_get (D := (dC, dI)) (ci := 2) (v := .ref h2) (C := RX2) (T := TX2) (N := 13) hx hb hts (fun _ h => List.mem_cons_of_mem _ (List.mem_append_right _ h)) hown hK hP 0 rfl rfl 9 (by decide) (hts (.fieldLink RX2 32 "KinkStreet$Deeds" "open" "[[J") (List.mem_of_getElem? (i := 1) rfl)) (fun _ h9 => h9) rfl dX2_countWays_1 ?_
  refine lv_iload_n hx hb dX2_countWays_4 rfl (lv_at hl 1 rfl) ?_
  have hi_1 : vp_in (3 : Int32) 5 := (by unfold vp_in; decide)
  have hk_1 : (3 : Int32).toNatClampNeg < 5 := Nat.not_le.mp fun q => hi_1 (Or.inr q)
  refine kk_aald hx hb hK hP 2 0 rfl rfl hi_1 dX2_countWays_5 ?_
  refine W.eq (g2 := F0 m 6 ls [.ref (h6 (3 : Int32).toNatClampNeg)]) rfl ?_
  refine lv_iload_n hx hb dX2_countWays_6 rfl (lv_at hl 1 rfl) ?_
  refine va_lald hx hb hK hP _ 2 (kk_getr (kk_getr (kk_rowL hk_1))) rfl (by unfold vp_in; decide) dX2_countWays_7 ?_
  refine lv_topl (fun y_2 e_2 => ?_)
  clear e_2
  refine lv_lstore_n hx hb dX2_countWays_8 rfl hl (by decide) (rfl : _ = ([(2, .long y_2), (0, .ref h0), (1, .int 3)] : List (Nat × Value))) (fun ls hl => ?_)
  refine lv_lload_n hx hb dX2_countWays_9 rfl (lv_at hl 0 rfl) ?_
  refine lv_lconst (v := 0) hx hb dX2_countWays_10 (by decide) ?_
  refine W.lcmp hx hb dX2_countWays_11 ?_
  refine lv_if_ne (tgt := 16) hx hb dX2_countWays_12 (by decide) (fun _ => ?_) (fun _ => ?_)
  · skip
    refine lv_aload_n hx hb dX2_countWays_16 rfl (lv_at hl 1 rfl) ?_
    refine va_get (D := (dC, dI)) (ci := 2) (v := .int n0_ways) (C := RX2) (T := TX2) (N := 13) hx hb hts (fun _ h => List.mem_cons_of_mem _ (List.mem_append_right _ h)) hown hK hP 0 rfl rfl 12 (by decide) (hts (.fieldLink RX2 70 "KinkStreet$Deeds" "ways" "I") (List.mem_of_getElem? (i := 2) rfl)) (fun _ h9 => h9) rfl dX2_countWays_17 ?_
    refine lv_if_ne (tgt := 47) hx hb dX2_countWays_20 (by decide) (fun c_3 => ?_) (fun c_3 => ?_)
    · have t_3 : n0_ways.toInt ≠ 0 := kk_ne c_3
      refine lv_aload_n hx hb dX2_countWays_47 rfl (lv_at hl 1 rfl) ?_
      refine lv_ldc hx hb hown (hts _ (List.mem_of_getElem? (i := 9) rfl)) dX2_countWays_48 ?_
      refine lv_aload_n hx hb dX2_countWays_50 rfl (lv_at hl 1 rfl) ?_
      refine va_get (D := (dC, dI)) (ci := 2) (v := .int n0_ways) (C := RX2) (T := TX2) (N := 13) hx hb hts (fun _ h => List.mem_cons_of_mem _ (List.mem_append_right _ h)) hown hK hP 0 rfl rfl 12 (by decide) (hts (.fieldLink RX2 70 "KinkStreet$Deeds" "ways" "I") (List.mem_of_getElem? (i := 2) rfl)) (fun _ h9 => h9) rfl dX2_countWays_51 ?_
      refine lv_lload_n hx hb dX2_countWays_54 rfl (lv_at hl 0 rfl) ?_
      obtain ⟨hPc, hDc, hFc⟩ := kk_cutout (wc := []) hP hD hS hA [] (by decide) rfl
      have hKc := kk_Ks (tq := []) hK [] rfl
      refine va_calli (va_runS (As := [.long y_2]) (rest := [.int n0_ways, .int 1000000, .ref h0]) ⟨hx, hb, hml, hown, hts⟩ (g_J13_bitCount_95d88_0 l dC dI s.heap.size y_2 (y_2.toInt) rfl) (va_cwS 1 hts gX2_countWays_J13_bitCount_95d88 rfl rfl rfl kh_J13_bitCount_95d88 ⟨Nat.le_of_ble_eq_true rfl, Nat.le_of_ble_eq_true rfl⟩) ⟨fun a U g mk q => by obtain ⟨q0, q1, qP, qK, qD⟩ := q; exact ⟨q0, q1, qP, va_K.moved (u := U) (U := U.calling g mk a) (Vm.Alike.refl U.vm) qK, qD⟩, fun U hU hW => ⟨rfl, by rw [hU], by rw [hU]; exact hPc, va_K.moved hW.alike hKc, hDc.weaken (fun _ _ _ _ => trivial)⟩⟩ rfl rfl hl.1 rfl (lv_room (Nat.le_of_ble_eq_true rfl)) dX2_countWays_55 ⟨Nat.le_of_ble_eq_true rfl, Nat.le_of_ble_eq_true rfl⟩) hS (fun q _ h => hFc q h) hFc (fun r_4 u t H1 locs ht hvm hw hB hz1 hk1 hS => ?_)
      obtain ⟨hP1, hK1, hD1⟩ := hB
      rw [ht] at hP1
      have hK1 := va_K.moved hvm.symm hK1
      obtain ⟨hP, hD⟩ := va_joinQ (cx := []) (wr := [(h0, kO2 h7 h8 h9 n0_size h10 n0_names n0_plots h11 h1 h2 h3 h4 n0_ways), (h1, kAr cAlong 25 (fun j => some (h5 j))), (h2, kAr cAlong 5 (fun j => some (h6 j))), (h3, kAi cint 5 f3), (h4, kAi cint 5 f4)]) (w1 := []) hP hD [] [0, 1, 2, 3, 4] rfl rfl (by decide) (by decide) hk1 hFc hP1 hD1
      generalize H1 = H at hP hS ⊢
      have hP : va_P (dC, dI) vwCl (([(h0, kO2 h7 h8 h9 n0_size h10 n0_names n0_plots h11 h1 h2 h3 h4 n0_ways), (h1, kAr cAlong 25 (fun j => some (h5 j))), (h2, kAr cAlong 5 (fun j => some (h6 j))), (h3, kAi cint 5 f3), (h4, kAi cint 5 f4)] : va_W) ++ (kk_rowsL h5 clong 40 F5 25 ++ (kk_rowsL h6 clong 5 F6 5))) H := hP
      have hD : va_D A (([(h0, kO2 h7 h8 h9 n0_size h10 n0_names n0_plots h11 h1 h2 h3 h4 n0_ways), (h1, kAr cAlong 25 (fun j => some (h5 j))), (h2, kAr cAlong 5 (fun j => some (h6 j))), (h3, kAi cint 5 f3), (h4, kAi cint 5 f4)] : va_W) ++ (kk_rowsL h5 clong 40 F5 25 ++ (kk_rowsL h6 clong 5 F6 5))) := hD
      refine lv_iadd hx hb dX2_countWays_58 ?_
      refine va_mmin hx hb (hml.trans hl.1.symm) hown (hts (.methodLink RX2 61 Lib.Math.min.name) (List.mem_of_getElem? (i := 10) rfl)) (hts (.static Lib.Math.min.name) (List.mem_of_getElem? (i := 11) rfl)) (hts (.initialized "java/lang/Math") (List.mem_of_getElem? (i := 12) rfl)) (hts (.code Lib.Math.min.name Lib.Math.min.code 2 (some .int)) (List.mem_of_getElem? (i := 13) rfl)) (Nat.le_of_ble_eq_true rfl) (Nat.le_of_ble_eq_true rfl) (Nat.le_of_ble_eq_true rfl) (Nat.le_of_ble_eq_true rfl) dX2_countWays_59 ?_
      refine lv_topi (fun y_5 e_5 => ?_)
      have t_5 : y_5.toInt ≤ 1000000 ∧ y_5.toInt ≤ (n0_ways + r_4).toInt ∧ (y_5.toInt = 1000000 ∨ y_5.toInt = (n0_ways + r_4).toInt) := by rw [e_5]; exact kk_min _ _
      clear e_5
      refine va_put (D := (dC, dI)) (ci := 2) (v := .int y_5) (ty := .int) (C := RX2) (T := TX2) (N := 13) hx hb hts (fun _ h => List.mem_cons_of_mem _ (List.mem_append_right _ h)) tyX2 tyX2_ok nmX2 hown hK hP hD hS 0 rfl rfl 12 (by decide) (hts (.fieldLink RX2 70 "KinkStreet$Deeds" "ways" "I") (List.mem_of_getElem? (i := 2) rfl)) (fun _ h9 => h9) rfl (by decide +kernel) rfl rfl (Nat.le_of_ble_eq_true rfl) dX2_countWays_62 (fun H locs hP hD hS => ?_)
      have hP : va_P (dC, dI) vwCl (([(h0, kO2 h7 h8 h9 n0_size h10 n0_names n0_plots h11 h1 h2 h3 h4 y_5), (h1, kAr cAlong 25 (fun j => some (h5 j))), (h2, kAr cAlong 5 (fun j => some (h6 j))), (h3, kAi cint 5 f3), (h4, kAi cint 5 f4)] : va_W) ++ (kk_rowsL h5 clong 40 F5 25 ++ (kk_rowsL h6 clong 5 F6 5))) H := hP
      have hD : va_D A (([(h0, kO2 h7 h8 h9 n0_size h10 n0_names n0_plots h11 h1 h2 h3 h4 y_5), (h1, kAr cAlong 25 (fun j => some (h5 j))), (h2, kAr cAlong 5 (fun j => some (h6 j))), (h3, kAi cint 5 f3), (h4, kAi cint 5 f4)] : va_W) ++ (kk_rowsL h5 clong 40 F5 25 ++ (kk_rowsL h6 clong 5 F6 5))) := hD
      have hP9 := hP.part (cx := [(h0, kO2 h7 h8 h9 n0_size h10 n0_names n0_plots h11 h1 h2 h3 h4 y_5), (h1, kAr cAlong 25 (fun j => some (h5 j))), (h2, kAr cAlong 5 (fun j => some (h6 j))), (h3, kAi cint 5 f3), (h4, kAi cint 5 f4)]) [0, 1, 2, 3, 4] rfl
      have hD9 := hD.part (cx := [(h0, kO2 h7 h8 h9 n0_size h10 n0_names n0_plots h11 h1 h2 h3 h4 y_5), (h1, kAr cAlong 25 (fun j => some (h5 j))), (h2, kAr cAlong 5 (fun j => some (h6 j))), (h3, kAi cint 5 f3), (h4, kAi cint 5 f4)]) [0, 1, 2, 3, 4] (by decide) rfl
      have hK9 := kk_Ks (tq := []) hK [] rfl
      exact W.vret hx hb hr (fun t ht hW => ⟨⟨(), rfl, trivial, y_5, f3, f4, by rw [ht]; exact hP9, va_K.moved hW.alike hK9, hD9⟩, hS.F ht⟩) hS.2.2 dX2_countWays_65
    · have t_3 : n0_ways.toInt = 0 := kk_eq c_3
      refine lv_aload_n hx hb dX2_countWays_23 rfl (lv_at hl 1 rfl) ?_
      refine va_get (D := (dC, dI)) (ci := 2) (v := .ref h3) (C := RX2) (T := TX2) (N := 13) hx hb hts (fun _ h => List.mem_cons_of_mem _ (List.mem_append_right _ h)) hown hK hP 0 rfl rfl 10 (by decide) (hts (.fieldLink RX2 35 "KinkStreet$Deeds" "tried" "[I") (List.mem_of_getElem? (i := 3) rfl)) (fun _ h9 => h9) rfl dX2_countWays_24 ?_
      refine lv_iload_n hx hb dX2_countWays_27 rfl (lv_at hl 2 rfl) ?_
      refine lv_lload_n hx hb dX2_countWays_28 rfl (lv_at hl 0 rfl) ?_
      obtain ⟨hPc, hDc, hFc⟩ := kk_cutout (wc := []) hP hD hS hA [] (by decide) rfl
      have hKc := kk_Ks (tq := []) hK [] rfl
      refine va_calli (va_runS (As := [.long y_2]) (rest := [.int 3, .ref h3]) ⟨hx, hb, hml, hown, hts⟩ (g_J13_numberOfTrailingZeros_95d88_0 l dC dI s.heap.size y_2 (y_2.toInt) rfl) (va_cwS 1 hts gX2_countWays_J13_numberOfTrailingZeros_95d88 rfl rfl rfl kh_J13_numberOfTrailingZeros_95d88 ⟨Nat.le_of_ble_eq_true rfl, Nat.le_of_ble_eq_true rfl⟩) ⟨fun a U g mk q => by obtain ⟨q0, q1, qP, qK, qD⟩ := q; exact ⟨q0, q1, qP, va_K.moved (u := U) (U := U.calling g mk a) (Vm.Alike.refl U.vm) qK, qD⟩, fun U hU hW => ⟨rfl, by rw [hU], by rw [hU]; exact hPc, va_K.moved hW.alike hKc, hDc.weaken (fun _ _ _ _ => trivial)⟩⟩ rfl rfl hl.1 rfl (lv_room (Nat.le_of_ble_eq_true rfl)) dX2_countWays_29 ⟨Nat.le_of_ble_eq_true rfl, Nat.le_of_ble_eq_true rfl⟩) hS (fun q _ h => hFc q h) hFc (fun r_6 u t H1 locs ht hvm hw hB hz1 hk1 hS => ?_)
      obtain ⟨hP1, hK1, hD1⟩ := hB
      rw [ht] at hP1
      have hK1 := va_K.moved hvm.symm hK1
      obtain ⟨hP, hD⟩ := va_joinQ (cx := []) (wr := [(h0, kO2 h7 h8 h9 n0_size h10 n0_names n0_plots h11 h1 h2 h3 h4 n0_ways), (h1, kAr cAlong 25 (fun j => some (h5 j))), (h2, kAr cAlong 5 (fun j => some (h6 j))), (h3, kAi cint 5 f3), (h4, kAi cint 5 f4)]) (w1 := []) hP hD [] [0, 1, 2, 3, 4] rfl rfl (by decide) (by decide) hk1 hFc hP1 hD1
      generalize H1 = H at hP hS ⊢
      have hP : va_P (dC, dI) vwCl (([(h0, kO2 h7 h8 h9 n0_size h10 n0_names n0_plots h11 h1 h2 h3 h4 n0_ways), (h1, kAr cAlong 25 (fun j => some (h5 j))), (h2, kAr cAlong 5 (fun j => some (h6 j))), (h3, kAi cint 5 f3), (h4, kAi cint 5 f4)] : va_W) ++ (kk_rowsL h5 clong 40 F5 25 ++ (kk_rowsL h6 clong 5 F6 5))) H := hP
      have hD : va_D A (([(h0, kO2 h7 h8 h9 n0_size h10 n0_names n0_plots h11 h1 h2 h3 h4 n0_ways), (h1, kAr cAlong 25 (fun j => some (h5 j))), (h2, kAr cAlong 5 (fun j => some (h6 j))), (h3, kAi cint 5 f3), (h4, kAi cint 5 f4)] : va_W) ++ (kk_rowsL h5 clong 40 F5 25 ++ (kk_rowsL h6 clong 5 F6 5))) := hD
      refine va_iast hx hb hK hP hD hS 3 1 rfl rfl (by unfold vp_in; decide) dX2_countWays_32 (fun H locs hP hD hS => ?_)
      generalize upd f3 (3 : Int32).toNatClampNeg r_6 = f_7 at hP hD
      have hP : va_P (dC, dI) vwCl (([(h0, kO2 h7 h8 h9 n0_size h10 n0_names n0_plots h11 h1 h2 h3 h4 n0_ways), (h1, kAr cAlong 25 (fun j => some (h5 j))), (h2, kAr cAlong 5 (fun j => some (h6 j))), (h3, kAi cint 5 f_7), (h4, kAi cint 5 f4)] : va_W) ++ (kk_rowsL h5 clong 40 F5 25 ++ (kk_rowsL h6 clong 5 F6 5))) H := hP
      have hD : va_D A (([(h0, kO2 h7 h8 h9 n0_size h10 n0_names n0_plots h11 h1 h2 h3 h4 n0_ways), (h1, kAr cAlong 25 (fun j => some (h5 j))), (h2, kAr cAlong 5 (fun j => some (h6 j))), (h3, kAi cint 5 f_7), (h4, kAi cint 5 f4)] : va_W) ++ (kk_rowsL h5 clong 40 F5 25 ++ (kk_rowsL h6 clong 5 F6 5))) := hD
      refine lv_aload_n hx hb dX2_countWays_33 rfl (lv_at hl 1 rfl) ?_
      refine va_get (D := (dC, dI)) (ci := 2) (v := .ref h3) (C := RX2) (T := TX2) (N := 13) hx hb hts (fun _ h => List.mem_cons_of_mem _ (List.mem_append_right _ h)) hown hK hP 0 rfl rfl 10 (by decide) (hts (.fieldLink RX2 35 "KinkStreet$Deeds" "tried" "[I") (List.mem_of_getElem? (i := 3) rfl)) (fun _ h9 => h9) rfl dX2_countWays_34 ?_
      refine lv_iconst (v := 0) hx hb dX2_countWays_37 kk_ic_0 ?_
      refine lv_aload_n hx hb dX2_countWays_38 rfl (lv_at hl 1 rfl) ?_
      refine va_get (D := (dC, dI)) (ci := 2) (v := .ref h4) (C := RX2) (T := TX2) (N := 13) hx hb hts (fun _ h => List.mem_cons_of_mem _ (List.mem_append_right _ h)) hown hK hP 0 rfl rfl 11 (by decide) (hts (.fieldLink RX2 38 "KinkStreet$Deeds" "found" "[I") (List.mem_of_getElem? (i := 4) rfl)) (fun _ h9 => h9) rfl dX2_countWays_39 ?_
      refine lv_iconst (v := 0) hx hb dX2_countWays_42 kk_ic_0 ?_
      refine lv_iconst (v := 5) hx hb dX2_countWays_43 kk_ic_5 ?_
      refine va_copyi (sp := 0) (dp := 0) (n := 5) hx hb (hml.trans hl.1.symm) hown (hts (.methodLink RX2 118 arraycopyName) (List.mem_of_getElem? (i := 5) rfl)) (hts (.native arraycopyName) (List.mem_of_getElem? (i := 6) rfl)) (hts (.static arraycopyName) (List.mem_of_getElem? (i := 7) rfl)) (hts (.initialized "java/lang/System") (List.mem_of_getElem? (i := 8) rfl)) hK hP hD hS 3 4 1 1 rfl rfl rfl rfl rfl (by decide) (by decide) (by decide) (by decide) (by decide) (fun _ _ => rfl) (Nat.le_of_ble_eq_true rfl) (Nat.le_of_ble_eq_true rfl) dX2_countWays_44 (fun H locs hP hD hS => ?_)
      generalize va_cpy f_7 f4 (0 : Int32).toNatClampNeg (0 : Int32).toNatClampNeg (5 : Int32).toNatClampNeg = f_8 at hP hD
      have hP : va_P (dC, dI) vwCl (([(h0, kO2 h7 h8 h9 n0_size h10 n0_names n0_plots h11 h1 h2 h3 h4 n0_ways), (h1, kAr cAlong 25 (fun j => some (h5 j))), (h2, kAr cAlong 5 (fun j => some (h6 j))), (h3, kAi cint 5 f_7), (h4, kAi cint 5 f_8)] : va_W) ++ (kk_rowsL h5 clong 40 F5 25 ++ (kk_rowsL h6 clong 5 F6 5))) H := hP
      have hD : va_D A (([(h0, kO2 h7 h8 h9 n0_size h10 n0_names n0_plots h11 h1 h2 h3 h4 n0_ways), (h1, kAr cAlong 25 (fun j => some (h5 j))), (h2, kAr cAlong 5 (fun j => some (h6 j))), (h3, kAi cint 5 f_7), (h4, kAi cint 5 f_8)] : va_W) ++ (kk_rowsL h5 clong 40 F5 25 ++ (kk_rowsL h6 clong 5 F6 5))) := hD
      refine lv_aload_n hx hb dX2_countWays_47 rfl (lv_at hl 1 rfl) ?_
      refine lv_ldc hx hb hown (hts _ (List.mem_of_getElem? (i := 9) rfl)) dX2_countWays_48 ?_
      refine lv_aload_n hx hb dX2_countWays_50 rfl (lv_at hl 1 rfl) ?_
      refine va_get (D := (dC, dI)) (ci := 2) (v := .int n0_ways) (C := RX2) (T := TX2) (N := 13) hx hb hts (fun _ h => List.mem_cons_of_mem _ (List.mem_append_right _ h)) hown hK hP 0 rfl rfl 12 (by decide) (hts (.fieldLink RX2 70 "KinkStreet$Deeds" "ways" "I") (List.mem_of_getElem? (i := 2) rfl)) (fun _ h9 => h9) rfl dX2_countWays_51 ?_
      refine lv_lload_n hx hb dX2_countWays_54 rfl (lv_at hl 0 rfl) ?_
      obtain ⟨hPc, hDc, hFc⟩ := kk_cutout (wc := []) hP hD hS hA [] (by decide) rfl
      have hKc := kk_Ks (tq := []) hK [] rfl
      refine va_calli (va_runS (As := [.long y_2]) (rest := [.int n0_ways, .int 1000000, .ref h0]) ⟨hx, hb, hml, hown, hts⟩ (g_J13_bitCount_95d88_0 l dC dI H.size y_2 (y_2.toInt) rfl) (va_cwS 1 hts gX2_countWays_J13_bitCount_95d88 rfl rfl rfl kh_J13_bitCount_95d88 ⟨Nat.le_of_ble_eq_true rfl, Nat.le_of_ble_eq_true rfl⟩) ⟨fun a U g mk q => by obtain ⟨q0, q1, qP, qK, qD⟩ := q; exact ⟨q0, q1, qP, va_K.moved (u := U) (U := U.calling g mk a) (Vm.Alike.refl U.vm) qK, qD⟩, fun U hU hW => ⟨rfl, by rw [hU], by rw [hU]; exact hPc, va_K.moved hW.alike hKc, hDc.weaken (fun _ _ _ _ => trivial)⟩⟩ rfl rfl hl.1 rfl (lv_room (Nat.le_of_ble_eq_true rfl)) dX2_countWays_55 ⟨Nat.le_of_ble_eq_true rfl, Nat.le_of_ble_eq_true rfl⟩) hS (fun q _ h => hFc q h) hFc (fun r_9 u t H1 locs ht hvm hw hB hz1 hk1 hS => ?_)
      obtain ⟨hP1, hK1, hD1⟩ := hB
      rw [ht] at hP1
      have hK1 := va_K.moved hvm.symm hK1
      obtain ⟨hP, hD⟩ := va_joinQ (cx := []) (wr := [(h0, kO2 h7 h8 h9 n0_size h10 n0_names n0_plots h11 h1 h2 h3 h4 n0_ways), (h1, kAr cAlong 25 (fun j => some (h5 j))), (h2, kAr cAlong 5 (fun j => some (h6 j))), (h3, kAi cint 5 f_7), (h4, kAi cint 5 f_8)]) (w1 := []) hP hD [] [0, 1, 2, 3, 4] rfl rfl (by decide) (by decide) hk1 hFc hP1 hD1
      generalize H1 = H at hP hS ⊢
      have hP : va_P (dC, dI) vwCl (([(h0, kO2 h7 h8 h9 n0_size h10 n0_names n0_plots h11 h1 h2 h3 h4 n0_ways), (h1, kAr cAlong 25 (fun j => some (h5 j))), (h2, kAr cAlong 5 (fun j => some (h6 j))), (h3, kAi cint 5 f_7), (h4, kAi cint 5 f_8)] : va_W) ++ (kk_rowsL h5 clong 40 F5 25 ++ (kk_rowsL h6 clong 5 F6 5))) H := hP
      have hD : va_D A (([(h0, kO2 h7 h8 h9 n0_size h10 n0_names n0_plots h11 h1 h2 h3 h4 n0_ways), (h1, kAr cAlong 25 (fun j => some (h5 j))), (h2, kAr cAlong 5 (fun j => some (h6 j))), (h3, kAi cint 5 f_7), (h4, kAi cint 5 f_8)] : va_W) ++ (kk_rowsL h5 clong 40 F5 25 ++ (kk_rowsL h6 clong 5 F6 5))) := hD
      refine lv_iadd hx hb dX2_countWays_58 ?_
      refine va_mmin hx hb (hml.trans hl.1.symm) hown (hts (.methodLink RX2 61 Lib.Math.min.name) (List.mem_of_getElem? (i := 10) rfl)) (hts (.static Lib.Math.min.name) (List.mem_of_getElem? (i := 11) rfl)) (hts (.initialized "java/lang/Math") (List.mem_of_getElem? (i := 12) rfl)) (hts (.code Lib.Math.min.name Lib.Math.min.code 2 (some .int)) (List.mem_of_getElem? (i := 13) rfl)) (Nat.le_of_ble_eq_true rfl) (Nat.le_of_ble_eq_true rfl) (Nat.le_of_ble_eq_true rfl) (Nat.le_of_ble_eq_true rfl) dX2_countWays_59 ?_
      refine lv_topi (fun y_10 e_10 => ?_)
      have t_10 : y_10.toInt ≤ 1000000 ∧ y_10.toInt ≤ (n0_ways + r_9).toInt ∧ (y_10.toInt = 1000000 ∨ y_10.toInt = (n0_ways + r_9).toInt) := by rw [e_10]; exact kk_min _ _
      clear e_10
      refine va_put (D := (dC, dI)) (ci := 2) (v := .int y_10) (ty := .int) (C := RX2) (T := TX2) (N := 13) hx hb hts (fun _ h => List.mem_cons_of_mem _ (List.mem_append_right _ h)) tyX2 tyX2_ok nmX2 hown hK hP hD hS 0 rfl rfl 12 (by decide) (hts (.fieldLink RX2 70 "KinkStreet$Deeds" "ways" "I") (List.mem_of_getElem? (i := 2) rfl)) (fun _ h9 => h9) rfl (by decide +kernel) rfl rfl (Nat.le_of_ble_eq_true rfl) dX2_countWays_62 (fun H locs hP hD hS => ?_)
      have hP : va_P (dC, dI) vwCl (([(h0, kO2 h7 h8 h9 n0_size h10 n0_names n0_plots h11 h1 h2 h3 h4 y_10), (h1, kAr cAlong 25 (fun j => some (h5 j))), (h2, kAr cAlong 5 (fun j => some (h6 j))), (h3, kAi cint 5 f_7), (h4, kAi cint 5 f_8)] : va_W) ++ (kk_rowsL h5 clong 40 F5 25 ++ (kk_rowsL h6 clong 5 F6 5))) H := hP
      have hD : va_D A (([(h0, kO2 h7 h8 h9 n0_size h10 n0_names n0_plots h11 h1 h2 h3 h4 y_10), (h1, kAr cAlong 25 (fun j => some (h5 j))), (h2, kAr cAlong 5 (fun j => some (h6 j))), (h3, kAi cint 5 f_7), (h4, kAi cint 5 f_8)] : va_W) ++ (kk_rowsL h5 clong 40 F5 25 ++ (kk_rowsL h6 clong 5 F6 5))) := hD
      have hP9 := hP.part (cx := [(h0, kO2 h7 h8 h9 n0_size h10 n0_names n0_plots h11 h1 h2 h3 h4 y_10), (h1, kAr cAlong 25 (fun j => some (h5 j))), (h2, kAr cAlong 5 (fun j => some (h6 j))), (h3, kAi cint 5 f_7), (h4, kAi cint 5 f_8)]) [0, 1, 2, 3, 4] rfl
      have hD9 := hD.part (cx := [(h0, kO2 h7 h8 h9 n0_size h10 n0_names n0_plots h11 h1 h2 h3 h4 y_10), (h1, kAr cAlong 25 (fun j => some (h5 j))), (h2, kAr cAlong 5 (fun j => some (h6 j))), (h3, kAi cint 5 f_7), (h4, kAi cint 5 f_8)]) [0, 1, 2, 3, 4] (by decide) rfl
      have hK9 := kk_Ks (tq := []) hK [] rfl
      exact W.vret hx hb hr (fun t ht hW => ⟨⟨(), rfl, trivial, y_10, f_7, f_8, by rw [ht]; exact hP9, va_K.moved hW.alike hK9, hD9⟩, hS.F ht⟩) hS.2.2 dX2_countWays_65
  · skip
    have hP9 := hP.part (cx := [(h0, kO2 h7 h8 h9 n0_size h10 n0_names n0_plots h11 h1 h2 h3 h4 n0_ways), (h1, kAr cAlong 25 (fun j => some (h5 j))), (h2, kAr cAlong 5 (fun j => some (h6 j))), (h3, kAi cint 5 f3), (h4, kAi cint 5 f4)]) [0, 1, 2, 3, 4] rfl
    have hD9 := hD.part (cx := [(h0, kO2 h7 h8 h9 n0_size h10 n0_names n0_plots h11 h1 h2 h3 h4 n0_ways), (h1, kAr cAlong 25 (fun j => some (h5 j))), (h2, kAr cAlong 5 (fun j => some (h6 j))), (h3, kAi cint 5 f3), (h4, kAi cint 5 f4)]) [0, 1, 2, 3, 4] (by decide) rfl
    have hK9 := kk_Ks (tq := []) hK [] rfl
    exact W.vret hx hb hr (fun t ht hW => ⟨⟨(), rfl, trivial, n0_ways, f3, f4, by rw [ht]; exact hP9, va_K.moved hW.alike hK9, hD9⟩, hS.F ht⟩) hS.2.2 dX2_countWays_15
