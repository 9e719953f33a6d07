set_option maxHeartbeats 4000000 in
set_option maxRecDepth 100000 in
theorem g_X6_sum_0 (l : Launch) (dC : Nat → ClassId) (dI : Nat → Nat → Nat) (h0 : Nat) (h1 : Nat) (h2 : Nat) (h3 : Nat → Nat) (h4 : Nat → Nat) (h5 : Nat) (h6 : Nat) (cAint cint : ClassId) (sz : Nat) (n0_pieceCount : Int32) (F3 : Nat → Nat → Int32) (F4 : Nat → Nat → Int32) (tn0_pieceCount : 0 ≤ n0_pieceCount.toInt ∧ n0_pieceCount.toInt ≤ 5) : Met l yX6_sum wsX6_sum ({ frames := 0, cells := 0, slots := 0, locals := 0 }) (va_Pc [.ref h0] (fun U => U.heap.size = sz ∧ va_P (dC, dI) vwCl ([(h0, .inr (6, [.ref h1, .ref h2, .ref h5, .ref h6, .int n0_pieceCount])), (h1, .inl (cAint, 40, .inr (.inr (.inr (.inr (fun j => some (h3 j))))))), (h2, .inl (cAint, 6, .inr (.inr (.inr (.inr (fun j => some (h4 j)))))))] ++ (kk_rowsI h3 cint 41 F3 40 ++ (kk_rowsI h4 cint 41 F4 6))) U.heap ∧ va_K (dC, dI) vwCl [(cAint, .array .int), (cint, .int)] U ∧ va_D (fun _ => True) ([(h0, .inr (6, [.ref h1, .ref h2, .ref h5, .ref h6, .int n0_pieceCount])), (h1, .inl (cAint, 40, .inr (.inr (.inr (.inr (fun j => some (h3 j))))))), (h2, .inl (cAint, 6, .inr (.inr (.inr (.inr (fun j => some (h4 j)))))))] ++ (kk_rowsI h3 cint 41 F3 40 ++ (kk_rowsI h4 cint 41 F4 6))))) (va_Qi (fun (r : Int32) (_ : Unit) => True) (fun (_ : Unit) t => va_P (dC, dI) vwCl ([(h0, .inr (6, [.ref h1, .ref h2, .ref h5, .ref h6, .int n0_pieceCount])), (h1, .inl (cAint, 40, .inr (.inr (.inr (.inr (fun j => some (h3 j))))))), (h2, .inl (cAint, 6, .inr (.inr (.inr (.inr (fun j => some (h4 j)))))))] ++ (kk_rowsI h3 cint 41 F3 40 ++ (kk_rowsI h4 cint 41 F4 6))) t.heap ∧ va_K (dC, dI) vwCl [] t ∧ va_D (va_A ([(h0, .inr (6, [.ref h1, .ref h2, .ref h5, .ref h6, .int n0_pieceCount])), (h1, .inl (cAint, 40, .inr (.inr (.inr (.inr (fun j => some (h3 j))))))), (h2, .inl (cAint, 6, .inr (.inr (.inr (.inr (fun j => some (h4 j)))))))] ++ (kk_rowsI h3 cint 41 F3 40 ++ (kk_rowsI h4 cint 41 F4 6))) sz) ([(h0, .inr (6, [.ref h1, .ref h2, .ref h5, .ref h6, .int n0_pieceCount])), (h1, .inl (cAint, 40, .inr (.inr (.inr (.inr (fun j => some (h3 j))))))), (h2, .inl (cAint, 6, .inr (.inr (.inr (.inr (fun j => some (h4 j)))))))] ++ (kk_rowsI h3 cint 41 F3 40 ++ (kk_rowsI h4 cint 41 F4 6)))) (va_A ([(h0, .inr (6, [.ref h1, .ref h2, .ref h5, .ref h6, .int n0_pieceCount])), (h1, .inl (cAint, 40, .inr (.inr (.inr (.inr (fun j => some (h3 j))))))), (h2, .inl (cAint, 6, .inr (.inr (.inr (.inr (fun j => some (h4 j)))))))] ++ (kk_rowsI h3 cint 41 F3 40 ++ (kk_rowsI h4 cint 41 F4 6))) sz)) 0 0 (va_A ([(h0, .inr (6, [.ref h1, .ref h2, .ref h5, .ref h6, .int n0_pieceCount])), (h1, .inl (cAint, 40, .inr (.inr (.inr (.inr (fun j => some (h3 j))))))), (h2, .inl (cAint, 6, .inr (.inr (.inr (.inr (fun j => some (h4 j)))))))] ++ (kk_rowsI h3 cint 41 F3 40 ++ (kk_rowsI h4 cint 41 F4 6))) sz) := by
  refine Met.ofW (cc := cX6_sum) (maxL := 1) (ret := (some .int)) (by decide) rfl ?_
  intro p e s m args below meth c s₁ B hml hv
  obtain ⟨rfl, hsz, hP, hK, hD0⟩ := hv
  have hx := B.exec
  have hb := B.bytes
  have hr := B.returns
  have hts := atoms_spec (ws := wsX6_sum) B.pre
  have hown : s.vm.findClass RX6 = some m.cls := findClass_of_methodNamed B.named
  have hlocks := B.notSynchronized
  subst hsz
  have hD := hD0.self (sz := s.heap.size)
  generalize hAe : va_A ([(h0, .inr (6, [.ref h1, .ref h2, .ref h5, .ref h6, .int n0_pieceCount])), (h1, .inl (cAint, 40, .inr (.inr (.inr (.inr (fun j => some (h3 j))))))), (h2, .inl (cAint, 6, .inr (.inr (.inr (.inr (fun j => some (h4 j)))))))] ++ (kk_rowsI h3 cint 41 F3 40 ++ (kk_rowsI h4 cint 41 F4 6))) s.heap.size = A at hD ⊢
  have hA : ∀ q : Nat, s.heap.size ≤ q → A q := fun q h => by rw [← hAe]; exact Or.inr h
  have hS : va_S A s.heap s.heap [] := va_S.rf
  have hP : va_P (dC, dI) vwCl ([(h0, .inr (6, [.ref h1, .ref h2, .ref h5, .ref h6, .int n0_pieceCount])), (h1, .inl (cAint, 40, .inr (.inr (.inr (.inr (fun j => some (h3 j))))))), (h2, .inl (cAint, 6, .inr (.inr (.inr (.inr (fun j => some (h4 j)))))))] ++ (kk_rowsI h3 cint 41 F3 40 ++ (kk_rowsI h4 cint 41 F4 6))) s.heap := hP
  have hl := lv_entry ([.ref h0]) (n := 1) (Nat.le_of_ble_eq_true rfl)
  rw [lg_entry_eq]
  generalize (lg_sl ([.ref h0]) ++ List.replicate (1 - (lg_sl ([.ref h0])).length) Slot.unset).toArray = ls at hl ⊢
  have hl : lv_has ls 1 [(0, .ref h0)] := hl
  refine lv_aload_n hx hb dX6_sum_0 rfl (lv_at hl 0 rfl) ?_
  refine va_get (D := (dC, dI)) (ci := 6) (v := .ref h2) (C := RX6) (T := TX6) (N := 5) hx hb hts (fun _ h => List.mem_cons_of_mem _ (List.mem_append_right _ h)) hown hK hP 0 rfl rfl 1 (by decide) (hts (.fieldLink RX6 16 "KinkStreet$Pieces" "sums" "[[I") (List.mem_of_getElem? (i := 1) rfl)) (fun _ h9 => h9) rfl dX6_sum_1 ?_
  refine lv_aload_n hx hb dX6_sum_4 rfl (lv_at hl 0 rfl) ?_
  refine va_get (D := (dC, dI)) (ci := 6) (v := .int n0_pieceCount) (C := RX6) (T := TX6) (N := 5) hx hb hts (fun _ h => List.mem_cons_of_mem _ (List.mem_append_right _ h)) hown hK hP 0 rfl rfl 4 (by decide) (hts (.fieldLink RX6 40 "KinkStreet$Pieces" "pieceCount" "I") (List.mem_of_getElem? (i := 2) rfl)) (fun _ h9 => h9) rfl dX6_sum_5 ?_
  have hi_1 : vp_in (n0_pieceCount : Int32) 6 := (vp_in_iff.mpr ⟨by omega, by omega⟩)
  have hk_1 : (n0_pieceCount : Int32).toNatClampNeg < 6 := Nat.not_le.mp fun q => hi_1 (Or.inr q)
  refine kk_aald hx hb hK hP 2 0 rfl rfl hi_1 dX6_sum_8 ?_
  refine W.eq (g2 := F0 m 9 ls [.ref (h4 (n0_pieceCount : Int32).toNatClampNeg)]) rfl ?_
  refine lv_iconst (v := 0) hx hb dX6_sum_9 (by decide) ?_
  refine va_iald hx hb hK hP _ 1 (kk_getr (kk_getr (kk_rowI hk_1))) rfl (by unfold vp_in; decide) dX6_sum_10 ?_
  refine lv_topi (fun y_2 e_2 => ?_)
  clear e_2
  have hP9 := hP.part (cx := [(h0, .inr (6, [.ref h1, .ref h2, .ref h5, .ref h6, .int n0_pieceCount])), (h1, .inl (cAint, 40, .inr (.inr (.inr (.inr (fun j => some (h3 j))))))), (h2, .inl (cAint, 6, .inr (.inr (.inr (.inr (fun j => some (h4 j)))))))]) [0, 1, 2] rfl
  have hD9 := hD.part (cx := [(h0, .inr (6, [.ref h1, .ref h2, .ref h5, .ref h6, .int n0_pieceCount])), (h1, .inl (cAint, 40, .inr (.inr (.inr (.inr (fun j => some (h3 j))))))), (h2, .inl (cAint, 6, .inr (.inr (.inr (.inr (fun j => some (h4 j)))))))]) [0, 1, 2] (by decide) rfl
  have hK9 := hK.sub (tys' := []) [] rfl
  exact W.iret (v := y_2) hx hb hr (fun t ht hW => ⟨⟨y_2, (), rfl, trivial, by rw [ht]; exact hP9, va_K.moved hW.alike hK9, hD9⟩, hS.F ht⟩) hS.2.2 dX6_sum_11
set_option maxHeartbeats 4000000 in
set_option maxRecDepth 100000 in
theorem g_X6_howMany_0 (l : Launch) (dC : Nat → ClassId) (dI : Nat → Nat → Nat) (h0 : Nat) (h1 : Nat) (h2 : Nat) (h3 : Nat) (h4 : Nat) (sz : Nat) (n0_pieceCount : Int32) (tn0_pieceCount : 0 ≤ n0_pieceCount.toInt ∧ n0_pieceCount.toInt ≤ 5) : Met l yX6_howMany wsX6_howMany ({ frames := 0, cells := 0, slots := 0, locals := 0 }) (va_Pc [.ref h0] (fun U => U.heap.size = sz ∧ va_P (dC, dI) vwCl [(h0, .inr (6, [.ref h1, .ref h2, .ref h3, .ref h4, .int n0_pieceCount]))] U.heap ∧ va_K (dC, dI) vwCl [] U ∧ va_D (fun _ => True) [(h0, .inr (6, [.ref h1, .ref h2, .ref h3, .ref h4, .int n0_pieceCount]))])) (va_Qi (fun (r : Int32) (_ : Unit) => n0_pieceCount = r) (fun (_ : Unit) t => va_P (dC, dI) vwCl [(h0, .inr (6, [.ref h1, .ref h2, .ref h3, .ref h4, .int n0_pieceCount]))] t.heap ∧ va_K (dC, dI) vwCl [] t ∧ va_D (va_A [(h0, .inr (6, [.ref h1, .ref h2, .ref h3, .ref h4, .int n0_pieceCount]))] sz) [(h0, .inr (6, [.ref h1, .ref h2, .ref h3, .ref h4, .int n0_pieceCount]))]) (va_A [(h0, .inr (6, [.ref h1, .ref h2, .ref h3, .ref h4, .int n0_pieceCount]))] sz)) 0 0 (va_A [(h0, .inr (6, [.ref h1, .ref h2, .ref h3, .ref h4, .int n0_pieceCount]))] sz) := by
  refine Met.ofW (cc := cX6_howMany) (maxL := 1) (ret := (some .int)) (by decide) rfl ?_
  intro p e s m args below meth c s₁ B hml hv
  obtain ⟨rfl, hsz, hP, hK, hD0⟩ := hv
  have hx := B.exec
  have hb := B.bytes
  have hr := B.returns
  have hts := atoms_spec (ws := wsX6_howMany) B.pre
  have hown : s.vm.findClass RX6 = some m.cls := findClass_of_methodNamed B.named
  have hlocks := B.notSynchronized
  subst hsz
  have hD := hD0.self (sz := s.heap.size)
  generalize hAe : va_A [(h0, .inr (6, [.ref h1, .ref h2, .ref h3, .ref h4, .int n0_pieceCount]))] s.heap.size = A at hD ⊢
  have hA : ∀ q : Nat, s.heap.size ≤ q → A q := fun q h => by rw [← hAe]; exact Or.inr h
  have hS : va_S A s.heap s.heap [] := va_S.rf
  have hP : va_P (dC, dI) vwCl [(h0, .inr (6, [.ref h1, .ref h2, .ref h3, .ref h4, .int n0_pieceCount]))] s.heap := hP
  have hl := lv_entry ([.ref h0]) (n := 1) (Nat.le_of_ble_eq_true rfl)
  rw [lg_entry_eq]
  generalize (lg_sl ([.ref h0]) ++ List.replicate (1 - (lg_sl ([.ref h0])).length) Slot.unset).toArray = ls at hl ⊢
  have hl : lv_has ls 1 [(0, .ref h0)] := hl
  refine lv_aload_n hx hb dX6_howMany_0 rfl (lv_at hl 0 rfl) ?_
  refine va_get (D := (dC, dI)) (ci := 6) (v := .int n0_pieceCount) (C := RX6) (T := TX6) (N := 5) hx hb hts (fun _ h => List.mem_cons_of_mem _ (List.mem_append_right _ h)) hown hK hP 0 rfl rfl 4 (by decide) (hts (.fieldLink RX6 40 "KinkStreet$Pieces" "pieceCount" "I") (List.mem_of_getElem? (i := 1) rfl)) (fun _ h9 => h9) rfl dX6_howMany_1 ?_
  obtain ⟨hP9, hD9⟩ := kk_leafout (wc := [(h0, .inr (6, [.ref h1, .ref h2, .ref h3, .ref h4, .int n0_pieceCount]))]) hP hD [0] (by decide) rfl
  have hK9 := hK.sub (tys' := []) [] rfl
  exact W.iret (v := n0_pieceCount) hx hb hr (fun t ht hW => ⟨⟨n0_pieceCount, (), rfl, rfl, by rw [ht]; exact hP9, va_K.moved hW.alike hK9, hD9⟩, hS.F ht⟩) hS.2.2 dX6_howMany_4
set_option maxHeartbeats 4000000 in
set_option maxRecDepth 100000 in
theorem g_X6_begin_0 (l : Launch) (dC : Nat → ClassId) (dI : Nat → Nat → Nat) (h0 : Nat) (h1 : Nat) (h2 : Nat) (h3 : Nat) (h4 : Nat) (cint : ClassId) (sz : Nat) (p0 : Int32) (n0_pieceCount : Int32) (f1 : Nat → Int32) (tn0_pieceCount : 0 ≤ n0_pieceCount.toInt ∧ n0_pieceCount.toInt ≤ 5) (bf1 : ∀ j : Nat, j < 5 → 0 ≤ (f1 j).toInt ∧ (f1 j).toInt ≤ 40 + 2 * (j : Int)) : Met l yX6_begin wsX6_begin ({ frames := 0, cells := 0, slots := 0, locals := 0 }) (va_Pc [.ref h0, .int p0] (fun U => U.heap.size = sz ∧ va_P (dC, dI) vwCl [(h0, .inr (6, [.ref h2, .ref h3, .ref h4, .ref h1, .int n0_pieceCount])), (h1, .inl (cint, 5, .inl f1))] U.heap ∧ va_K (dC, dI) vwCl [(cint, .int)] U ∧ va_D (fun _ => True) [(h0, .inr (6, [.ref h2, .ref h3, .ref h4, .ref h1, .int n0_pieceCount])), (h1, .inl (cint, 5, .inl f1))])) (va_Qi (fun (r : Int32) (_ : Unit) => ((-1) ≤ r.toInt ∧ r.toInt ≤ 48)) (fun (_ : Unit) t => va_P (dC, dI) vwCl [(h0, .inr (6, [.ref h2, .ref h3, .ref h4, .ref h1, .int n0_pieceCount])), (h1, .inl (cint, 5, .inl f1))] t.heap ∧ va_K (dC, dI) vwCl [] t ∧ va_D (va_A [(h0, .inr (6, [.ref h2, .ref h3, .ref h4, .ref h1, .int n0_pieceCount])), (h1, .inl (cint, 5, .inl f1))] sz) [(h0, .inr (6, [.ref h2, .ref h3, .ref h4, .ref h1, .int n0_pieceCount])), (h1, .inl (cint, 5, .inl f1))]) (va_A [(h0, .inr (6, [.ref h2, .ref h3, .ref h4, .ref h1, .int n0_pieceCount])), (h1, .inl (cint, 5, .inl f1))] sz)) 0 0 (va_A [(h0, .inr (6, [.ref h2, .ref h3, .ref h4, .ref h1, .int n0_pieceCount])), (h1, .inl (cint, 5, .inl f1))] sz) := by
  refine Met.ofW (cc := cX6_begin) (maxL := 2) (ret := (some .int)) (by decide) rfl ?_
  intro p e s m args below meth c s₁ B hml hv
  obtain ⟨rfl, hsz, hP, hK, hD0⟩ := hv
  have hx := B.exec
  have hb := B.bytes
  have hr := B.returns
  have hts := atoms_spec (ws := wsX6_begin) B.pre
  have hown : s.vm.findClass RX6 = some m.cls := findClass_of_methodNamed B.named
  have hlocks := B.notSynchronized
  subst hsz
  have hD := hD0.self (sz := s.heap.size)
  generalize hAe : va_A [(h0, .inr (6, [.ref h2, .ref h3, .ref h4, .ref h1, .int n0_pieceCount])), (h1, .inl (cint, 5, .inl f1))] s.heap.size = A at hD ⊢
  have hA : ∀ q : Nat, s.heap.size ≤ q → A q := fun q h => by rw [← hAe]; exact Or.inr h
  have hS : va_S A s.heap s.heap [] := va_S.rf
  have hP : va_P (dC, dI) vwCl [(h0, .inr (6, [.ref h2, .ref h3, .ref h4, .ref h1, .int n0_pieceCount])), (h1, .inl (cint, 5, .inl f1))] s.heap := hP
  have hl := lv_entry ([.ref h0, .int p0]) (n := 2) (Nat.le_of_ble_eq_true rfl)
  rw [lg_entry_eq]
  generalize (lg_sl ([.ref h0, .int p0]) ++ List.replicate (2 - (lg_sl ([.ref h0, .int p0])).length) Slot.unset).toArray = ls at hl ⊢
  have hl : lv_has ls 2 [(0, .ref h0), (1, .int p0)] := hl
  refine lv_iload_n hx hb dX6_begin_0 rfl (lv_at hl 1 rfl) ?_
  refine lv_if_lt (tgt := 22) hx hb dX6_begin_1 (by decide) (fun c_1 => ?_) (fun c_1 => ?_)
  · have t_1 : p0.toInt < 0 := kk_lt c_1
    refine lv_iconst (v := (-1)) hx hb dX6_begin_22 (by decide) ?_
    obtain ⟨hP9, hD9⟩ := kk_leafout (wc := [(h0, .inr (6, [.ref h2, .ref h3, .ref h4, .ref h1, .int n0_pieceCount])), (h1, .inl (cint, 5, .inl f1))]) hP hD [0, 1] (by decide) rfl
    have hK9 := hK.sub (tys' := []) [] rfl
    exact W.iret (v := (-1)) hx hb hr (fun t ht hW => ⟨⟨(-1), (), rfl, (by show (-1) ≤ ((-1) : Int32).toInt ∧ ((-1) : Int32).toInt ≤ 48; first | decide | (constructor <;> (have := kk_rng p0; omega))), by rw [ht]; exact hP9, va_K.moved hW.alike hK9, hD9⟩, hS.F ht⟩) hS.2.2 dX6_begin_23
  · have t_1 : 0 ≤ p0.toInt := kk_nlt c_1
    refine lv_iload_n hx hb dX6_begin_4 rfl (lv_at hl 1 rfl) ?_
    refine lv_aload_n hx hb dX6_begin_5 rfl (lv_at hl 0 rfl) ?_
    refine va_get (D := (dC, dI)) (ci := 6) (v := .ref h1) (C := RX6) (T := TX6) (N := 5) hx hb hts (fun _ h => List.mem_cons_of_mem _ (List.mem_append_right _ h)) hown hK hP 0 rfl rfl 3 (by decide) (hts (.fieldLink RX6 23 "KinkStreet$Pieces" "begins" "[I") (List.mem_of_getElem? (i := 1) rfl)) (fun _ h9 => h9) rfl dX6_begin_6 ?_
    refine va_alen (v := 5) hx hb hK hP 1 0 rfl rfl rfl dX6_begin_9 ?_
    refine lv_icmp_ge (tgt := 22) hx hb dX6_begin_10 (by decide) (fun c_2 => ?_) (fun c_2 => ?_)
    · have t_2 : 5 ≤ p0.toInt := kk_le c_2
      refine lv_iconst (v := (-1)) hx hb dX6_begin_22 (by decide) ?_
      obtain ⟨hP9, hD9⟩ := kk_leafout (wc := [(h0, .inr (6, [.ref h2, .ref h3, .ref h4, .ref h1, .int n0_pieceCount])), (h1, .inl (cint, 5, .inl f1))]) hP hD [0, 1] (by decide) rfl
      have hK9 := hK.sub (tys' := []) [] rfl
      exact W.iret (v := (-1)) hx hb hr (fun t ht hW => ⟨⟨(-1), (), rfl, (by show (-1) ≤ ((-1) : Int32).toInt ∧ ((-1) : Int32).toInt ≤ 48; first | decide | (constructor <;> (have := kk_rng p0; omega))), by rw [ht]; exact hP9, va_K.moved hW.alike hK9, hD9⟩, hS.F ht⟩) hS.2.2 dX6_begin_23
    · have t_2 : p0.toInt < 5 := kk_nle c_2
      refine lv_aload_n hx hb dX6_begin_13 rfl (lv_at hl 0 rfl) ?_
      refine va_get (D := (dC, dI)) (ci := 6) (v := .ref h1) (C := RX6) (T := TX6) (N := 5) hx hb hts (fun _ h => List.mem_cons_of_mem _ (List.mem_append_right _ h)) hown hK hP 0 rfl rfl 3 (by decide) (hts (.fieldLink RX6 23 "KinkStreet$Pieces" "begins" "[I") (List.mem_of_getElem? (i := 1) rfl)) (fun _ h9 => h9) rfl dX6_begin_14 ?_
      refine lv_iload_n hx hb dX6_begin_17 rfl (lv_at hl 1 rfl) ?_
      have hi_3 : vp_in p0 5 := (vp_in_iff.mpr ⟨by omega, by omega⟩)
      refine va_iald hx hb hK hP 1 0 rfl rfl hi_3 dX6_begin_18 ?_
      refine lv_topi (fun y_3 e_3 => ?_)
      have t_3 : 0 ≤ y_3.toInt ∧ y_3.toInt ≤ 40 + 2 * ((p0 : Int32).toNatClampNeg : Int) := by rw [e_3]; exact bf1 _ (Nat.not_le.mp fun q => hi_3 (Or.inr q))
      have u_3 := kk_tn (x := (p0 : Int32)) (by show 0 ≤ (p0 : Int32).toInt; omega)
      have t_3 : 0 ≤ y_3.toInt ∧ y_3.toInt ≤ 40 + 2 * p0.toInt := by omega
      clear e_3
      refine lv_goto (tgt := 23) hx hb dX6_begin_19 (by decide) ?_
      obtain ⟨hP9, hD9⟩ := kk_leafout (wc := [(h0, .inr (6, [.ref h2, .ref h3, .ref h4, .ref h1, .int n0_pieceCount])), (h1, .inl (cint, 5, .inl f1))]) hP hD [0, 1] (by decide) rfl
      have hK9 := hK.sub (tys' := []) [] rfl
      exact W.iret (v := y_3) hx hb hr (fun t ht hW => ⟨⟨y_3, (), rfl, (by show (-1) ≤ (y_3 : Int32).toInt ∧ (y_3 : Int32).toInt ≤ 48; first | decide | (constructor <;> (omega))), by rw [ht]; exact hP9, va_K.moved hW.alike hK9, hD9⟩, hS.F ht⟩) hS.2.2 dX6_begin_23
