set_option maxHeartbeats 4000000 in
set_option maxRecDepth 100000 in
theorem g_X6_sum_0 (l : Launch) (dC : Nat → ClassId) (dI : Nat → Nat → Nat) (h0 : Nat) (h1 : Nat) (h2 : Nat) (h3 : Nat → Nat) (h4 : Nat → Nat) (h5 : Nat) (h6 : Nat) (cAint cint : ClassId) (sz : Nat) (n0_pieceCount : Int32) (F3 : Nat → Nat → Int32) (F4 : Nat → Nat → Int32) (tn0_pieceCount : 0 ≤ n0_pieceCount.toInt ∧ n0_pieceCount.toInt ≤ 5) : Met l yX6_sum wsX6_sum ({ frames := 0, cells := 0, slots := 0, locals := 0 }) (va_Pc [.ref h0] (fun U => U.heap.size = sz ∧ va_P (dC, dI) vwCl (([(h0, Sum.inr (6, [Value.ref h1, Value.ref h2, Value.ref h5, Value.ref h6, Value.int n0_pieceCount])), (h1, Sum.inl (cAint, 40, Sum.inr (Sum.inr (Sum.inr (Sum.inr (fun j => some (h3 j))))))), (h2, Sum.inl (cAint, 6, Sum.inr (Sum.inr (Sum.inr (Sum.inr (fun j => some (h4 j)))))))] : va_W) ++ (kk_rowsI h3 cint 41 F3 40 ++ (kk_rowsI h4 cint 41 F4 6))) U.heap ∧ va_K (dC, dI) vwCl [(cAint, .array .int), (cint, .int)] U ∧ va_D (fun _ => True) (([(h0, Sum.inr (6, [Value.ref h1, Value.ref h2, Value.ref h5, Value.ref h6, Value.int n0_pieceCount])), (h1, Sum.inl (cAint, 40, Sum.inr (Sum.inr (Sum.inr (Sum.inr (fun j => some (h3 j))))))), (h2, Sum.inl (cAint, 6, Sum.inr (Sum.inr (Sum.inr (Sum.inr (fun j => some (h4 j)))))))] : va_W) ++ (kk_rowsI h3 cint 41 F3 40 ++ (kk_rowsI h4 cint 41 F4 6))))) (va_Qi (fun (r : Int32) (_ : Unit) => True) (fun (_ : Unit) t => va_P (dC, dI) vwCl (([(h0, Sum.inr (6, [Value.ref h1, Value.ref h2, Value.ref h5, Value.ref h6, Value.int n0_pieceCount])), (h1, Sum.inl (cAint, 40, Sum.inr (Sum.inr (Sum.inr (Sum.inr (fun j => some (h3 j))))))), (h2, Sum.inl (cAint, 6, Sum.inr (Sum.inr (Sum.inr (Sum.inr (fun j => some (h4 j)))))))] : va_W) ++ (kk_rowsI h3 cint 41 F3 40 ++ (kk_rowsI h4 cint 41 F4 6))) t.heap ∧ va_K (dC, dI) vwCl [] t ∧ va_D (va_A (([(h0, Sum.inr (6, [Value.ref h1, Value.ref h2, Value.ref h5, Value.ref h6, Value.int n0_pieceCount])), (h1, Sum.inl (cAint, 40, Sum.inr (Sum.inr (Sum.inr (Sum.inr (fun j => some (h3 j))))))), (h2, Sum.inl (cAint, 6, Sum.inr (Sum.inr (Sum.inr (Sum.inr (fun j => some (h4 j)))))))] : va_W) ++ (kk_rowsI h3 cint 41 F3 40 ++ (kk_rowsI h4 cint 41 F4 6))) sz) (([(h0, Sum.inr (6, [Value.ref h1, Value.ref h2, Value.ref h5, Value.ref h6, Value.int n0_pieceCount])), (h1, Sum.inl (cAint, 40, Sum.inr (Sum.inr (Sum.inr (Sum.inr (fun j => some (h3 j))))))), (h2, Sum.inl (cAint, 6, Sum.inr (Sum.inr (Sum.inr (Sum.inr (fun j => some (h4 j)))))))] : va_W) ++ (kk_rowsI h3 cint 41 F3 40 ++ (kk_rowsI h4 cint 41 F4 6)))) (va_A (([(h0, Sum.inr (6, [Value.ref h1, Value.ref h2, Value.ref h5, Value.ref h6, Value.int n0_pieceCount])), (h1, Sum.inl (cAint, 40, Sum.inr (Sum.inr (Sum.inr (Sum.inr (fun j => some (h3 j))))))), (h2, Sum.inl (cAint, 6, Sum.inr (Sum.inr (Sum.inr (Sum.inr (fun j => some (h4 j)))))))] : va_W) ++ (kk_rowsI h3 cint 41 F3 40 ++ (kk_rowsI h4 cint 41 F4 6))) sz)) 0 0 (va_A (([(h0, Sum.inr (6, [Value.ref h1, Value.ref h2, Value.ref h5, Value.ref h6, Value.int n0_pieceCount])), (h1, Sum.inl (cAint, 40, Sum.inr (Sum.inr (Sum.inr (Sum.inr (fun j => some (h3 j))))))), (h2, Sum.inl (cAint, 6, Sum.inr (Sum.inr (Sum.inr (Sum.inr (fun j => some (h4 j)))))))] : va_W) ++ (kk_rowsI h3 cint 41 F3 40 ++ (kk_rowsI h4 cint 41 F4 6))) sz) := by
  refine Met.ofW (cc := cX6_sum) (maxL := 1) (ret := (some .int)) (by decide) rfl ?_
  intro p e s m args below meth c s₁ B hml hv
  obtain ⟨rfl, hsz, hP, hK, hD0⟩ := hv
  have hx := B.exec
  have hb := B.bytes
  have hr := B.returns
  have hts := atoms_spec (ws := wsX6_sum) B.pre
  have hown : s.vm.findClass RX6 = some m.cls := findClass_of_methodNamed B.named
  have hlocks := B.notSynchronized
  subst hsz
  have hD := hD0.self (sz := s.heap.size)
  generalize hAe : va_A (([(h0, Sum.inr (6, [Value.ref h1, Value.ref h2, Value.ref h5, Value.ref h6, Value.int n0_pieceCount])), (h1, Sum.inl (cAint, 40, Sum.inr (Sum.inr (Sum.inr (Sum.inr (fun j => some (h3 j))))))), (h2, Sum.inl (cAint, 6, Sum.inr (Sum.inr (Sum.inr (Sum.inr (fun j => some (h4 j)))))))] : va_W) ++ (kk_rowsI h3 cint 41 F3 40 ++ (kk_rowsI h4 cint 41 F4 6))) s.heap.size = A at hD ⊢
  have hA : ∀ q : Nat, s.heap.size ≤ q → A q := fun q h => by rw [← hAe]; exact Or.inr h
  have hS : va_S A s.heap s.heap [] := va_S.rf
  have hP : va_P (dC, dI) vwCl (([(h0, Sum.inr (6, [Value.ref h1, Value.ref h2, Value.ref h5, Value.ref h6, Value.int n0_pieceCount])), (h1, Sum.inl (cAint, 40, Sum.inr (Sum.inr (Sum.inr (Sum.inr (fun j => some (h3 j))))))), (h2, Sum.inl (cAint, 6, Sum.inr (Sum.inr (Sum.inr (Sum.inr (fun j => some (h4 j)))))))] : va_W) ++ (kk_rowsI h3 cint 41 F3 40 ++ (kk_rowsI h4 cint 41 F4 6))) s.heap := hP
  have hl := lv_entry ([.ref h0]) (n := 1) (Nat.le_of_ble_eq_true rfl)
  rw [lg_entry_eq]
  generalize (lg_sl ([.ref h0]) ++ List.replicate (1 - (lg_sl ([.ref h0])).length) Slot.unset).toArray = ls at hl ⊢
  have hl : lv_has ls 1 [(0, .ref h0)] := hl
  refine lv_aload_n hx hb dX6_sum_0 rfl (lv_at hl 0 rfl) ?_
  refine va_get (D := (dC, dI)) (ci := 6) (v := .ref h2) (C := RX6) (T := TX6) (N := 5) hx hb hts (fun _ h => List.mem_cons_of_mem _ (List.mem_append_right _ h)) hown hK hP 0 rfl rfl 1 (by decide) (hts (.fieldLink RX6 16 "KinkStreet$Pieces" "sums" "[[I") (List.mem_of_getElem? (i := 1) rfl)) (fun _ h9 => h9) rfl dX6_sum_1 ?_
  refine lv_aload_n hx hb dX6_sum_4 rfl (lv_at hl 0 rfl) ?_
  refine va_get (D := (dC, dI)) (ci := 6) (v := .int n0_pieceCount) (C := RX6) (T := TX6) (N := 5) hx hb hts (fun _ h => List.mem_cons_of_mem _ (List.mem_append_right _ h)) hown hK hP 0 rfl rfl 4 (by decide) (hts (.fieldLink RX6 40 "KinkStreet$Pieces" "pieceCount" "I") (List.mem_of_getElem? (i := 2) rfl)) (fun _ h9 => h9) rfl dX6_sum_5 ?_
  have hi_1 : vp_in (n0_pieceCount : Int32) 6 := (vp_in_iff.mpr ⟨by omega, by omega⟩)
  have hk_1 : (n0_pieceCount : Int32).toNatClampNeg < 6 := Nat.not_le.mp fun q => hi_1 (Or.inr q)
  refine kk_aald hx hb hK hP 2 0 rfl rfl hi_1 dX6_sum_8 ?_
  refine W.eq (g2 := F0 m 9 ls [.ref (h4 (n0_pieceCount : Int32).toNatClampNeg)]) rfl ?_
  refine lv_iconst (v := 0) hx hb dX6_sum_9 (by decide) ?_
  refine va_iald hx hb hK hP _ 1 (kk_getr (kk_getr (kk_rowI hk_1))) rfl (by unfold vp_in; decide) dX6_sum_10 ?_
  refine lv_topi (fun y_2 e_2 => ?_)
  clear e_2
  have hP9 := hP.part (cx := [(h0, Sum.inr (6, [Value.ref h1, Value.ref h2, Value.ref h5, Value.ref h6, Value.int n0_pieceCount])), (h1, Sum.inl (cAint, 40, Sum.inr (Sum.inr (Sum.inr (Sum.inr (fun j => some (h3 j))))))), (h2, Sum.inl (cAint, 6, Sum.inr (Sum.inr (Sum.inr (Sum.inr (fun j => some (h4 j)))))))]) [0, 1, 2] rfl
  have hD9 := hD.part (cx := [(h0, Sum.inr (6, [Value.ref h1, Value.ref h2, Value.ref h5, Value.ref h6, Value.int n0_pieceCount])), (h1, Sum.inl (cAint, 40, Sum.inr (Sum.inr (Sum.inr (Sum.inr (fun j => some (h3 j))))))), (h2, Sum.inl (cAint, 6, Sum.inr (Sum.inr (Sum.inr (Sum.inr (fun j => some (h4 j)))))))]) [0, 1, 2] (by decide) rfl
  have hK9 := hK.sub (tys' := []) [] rfl
  exact W.iret (v := y_2) hx hb hr (fun t ht hW => ⟨⟨y_2, (), rfl, trivial, by rw [ht]; exact hP9, va_K.moved hW.alike hK9, hD9⟩, hS.F ht⟩) hS.2.2 dX6_sum_11
set_option maxHeartbeats 4000000 in
set_option maxRecDepth 100000 in
theorem g_X6_howMany_0 (l : Launch) (dC : Nat → ClassId) (dI : Nat → Nat → Nat) (h0 : Nat) (h1 : Nat) (h2 : Nat) (h3 : Nat) (h4 : Nat) (sz : Nat) (n0_pieceCount : Int32) (tn0_pieceCount : 0 ≤ n0_pieceCount.toInt ∧ n0_pieceCount.toInt ≤ 5) : Met l yX6_howMany wsX6_howMany ({ frames := 0, cells := 0, slots := 0, locals := 0 }) (va_Pc [.ref h0] (fun U => U.heap.size = sz ∧ va_P (dC, dI) vwCl [(h0, Sum.inr (6, [Value.ref h1, Value.ref h2, Value.ref h3, Value.ref h4, Value.int n0_pieceCount]))] U.heap ∧ va_K (dC, dI) vwCl [] U ∧ va_D (fun _ => True) [(h0, Sum.inr (6, [Value.ref h1, Value.ref h2, Value.ref h3, Value.ref h4, Value.int n0_pieceCount]))])) (va_Qi (fun (r : Int32) (_ : Unit) => n0_pieceCount = r) (fun (_ : Unit) t => va_P (dC, dI) vwCl [(h0, Sum.inr (6, [Value.ref h1, Value.ref h2, Value.ref h3, Value.ref h4, Value.int n0_pieceCount]))] t.heap ∧ va_K (dC, dI) vwCl [] t ∧ va_D (va_A [(h0, Sum.inr (6, [Value.ref h1, Value.ref h2, Value.ref h3, Value.ref h4, Value.int n0_pieceCount]))] sz) [(h0, Sum.inr (6, [Value.ref h1, Value.ref h2, Value.ref h3, Value.ref h4, Value.int n0_pieceCount]))]) (va_A [(h0, Sum.inr (6, [Value.ref h1, Value.ref h2, Value.ref h3, Value.ref h4, Value.int n0_pieceCount]))] sz)) 0 0 (va_A [(h0, Sum.inr (6, [Value.ref h1, Value.ref h2, Value.ref h3, Value.ref h4, Value.int n0_pieceCount]))] sz) := by
  refine Met.ofW (cc := cX6_howMany) (maxL := 1) (ret := (some .int)) (by decide) rfl ?_
  intro p e s m args below meth c s₁ B hml hv
  obtain ⟨rfl, hsz, hP, hK, hD0⟩ := hv
  have hx := B.exec
  have hb := B.bytes
  have hr := B.returns
  have hts := atoms_spec (ws := wsX6_howMany) B.pre
  have hown : s.vm.findClass RX6 = some m.cls := findClass_of_methodNamed B.named
  have hlocks := B.notSynchronized
  subst hsz
  have hD := hD0.self (sz := s.heap.size)
  generalize hAe : va_A [(h0, Sum.inr (6, [Value.ref h1, Value.ref h2, Value.ref h3, Value.ref h4, Value.int n0_pieceCount]))] s.heap.size = A at hD ⊢
  have hA : ∀ q : Nat, s.heap.size ≤ q → A q := fun q h => by rw [← hAe]; exact Or.inr h
  have hS : va_S A s.heap s.heap [] := va_S.rf
  have hP : va_P (dC, dI) vwCl [(h0, Sum.inr (6, [Value.ref h1, Value.ref h2, Value.ref h3, Value.ref h4, Value.int n0_pieceCount]))] s.heap := hP
  have hl := lv_entry ([.ref h0]) (n := 1) (Nat.le_of_ble_eq_true rfl)
  rw [lg_entry_eq]
  generalize (lg_sl ([.ref h0]) ++ List.replicate (1 - (lg_sl ([.ref h0])).length) Slot.unset).toArray = ls at hl ⊢
  have hl : lv_has ls 1 [(0, .ref h0)] := hl
  refine lv_aload_n hx hb dX6_howMany_0 rfl (lv_at hl 0 rfl) ?_
  refine va_get (D := (dC, dI)) (ci := 6) (v := .int n0_pieceCount) (C := RX6) (T := TX6) (N := 5) hx hb hts (fun _ h => List.mem_cons_of_mem _ (List.mem_append_right _ h)) hown hK hP 0 rfl rfl 4 (by decide) (hts (.fieldLink RX6 40 "KinkStreet$Pieces" "pieceCount" "I") (List.mem_of_getElem? (i := 1) rfl)) (fun _ h9 => h9) rfl dX6_howMany_1 ?_
  obtain ⟨hP9, hD9⟩ := kk_leafout (wc := [(h0, Sum.inr (6, [Value.ref h1, Value.ref h2, Value.ref h3, Value.ref h4, Value.int n0_pieceCount]))]) hP hD [0] (by decide) rfl
  have hK9 := hK.sub (tys' := []) [] rfl
  exact W.iret (v := n0_pieceCount) hx hb hr (fun t ht hW => ⟨⟨n0_pieceCount, (), rfl, rfl, by rw [ht]; exact hP9, va_K.moved hW.alike hK9, hD9⟩, hS.F ht⟩) hS.2.2 dX6_howMany_4
set_option maxHeartbeats 4000000 in
set_option maxRecDepth 100000 in
theorem g_X6_begin_0 (l : Launch) (dC : Nat → ClassId) (dI : Nat → Nat → Nat) (h0 : Nat) (h1 : Nat) (h2 : Nat) (h3 : Nat) (h4 : Nat) (cint : ClassId) (sz : Nat) (p0 : Int32) (n0_pieceCount : Int32) (f1 : Nat → Int32) (tn0_pieceCount : 0 ≤ n0_pieceCount.toInt ∧ n0_pieceCount.toInt ≤ 5) (bf1 : ∀ j : Nat, j < 5 → 0 ≤ (f1 j).toInt ∧ (f1 j).toInt ≤ 40 + 2 * (j : Int)) : Met l yX6_begin wsX6_begin ({ frames := 0, cells := 0, slots := 0, locals := 0 }) (va_Pc [.ref h0, .int p0] (fun U => U.heap.size = sz ∧ va_P (dC, dI) vwCl [(h0, Sum.inr (6, [Value.ref h2, Value.ref h3, Value.ref h4, Value.ref h1, Value.int n0_pieceCount])), (h1, Sum.inl (cint, 5, Sum.inl f1))] U.heap ∧ va_K (dC, dI) vwCl [(cint, .int)] U ∧ va_D (fun _ => True) [(h0, Sum.inr (6, [Value.ref h2, Value.ref h3, Value.ref h4, Value.ref h1, Value.int n0_pieceCount])), (h1, Sum.inl (cint, 5, Sum.inl f1))])) (va_Qi (fun (r : Int32) (_ : Unit) => ((-1) ≤ r.toInt ∧ r.toInt ≤ 48)) (fun (_ : Unit) t => va_P (dC, dI) vwCl [(h0, Sum.inr (6, [Value.ref h2, Value.ref h3, Value.ref h4, Value.ref h1, Value.int n0_pieceCount])), (h1, Sum.inl (cint, 5, Sum.inl f1))] t.heap ∧ va_K (dC, dI) vwCl [] t ∧ va_D (va_A [(h0, Sum.inr (6, [Value.ref h2, Value.ref h3, Value.ref h4, Value.ref h1, Value.int n0_pieceCount])), (h1, Sum.inl (cint, 5, Sum.inl f1))] sz) [(h0, Sum.inr (6, [Value.ref h2, Value.ref h3, Value.ref h4, Value.ref h1, Value.int n0_pieceCount])), (h1, Sum.inl (cint, 5, Sum.inl f1))]) (va_A [(h0, Sum.inr (6, [Value.ref h2, Value.ref h3, Value.ref h4, Value.ref h1, Value.int n0_pieceCount])), (h1, Sum.inl (cint, 5, Sum.inl f1))] sz)) 0 0 (va_A [(h0, Sum.inr (6, [Value.ref h2, Value.ref h3, Value.ref h4, Value.ref h1, Value.int n0_pieceCount])), (h1, Sum.inl (cint, 5, Sum.inl f1))] sz) := by
  refine Met.ofW (cc := cX6_begin) (maxL := 2) (ret := (some .int)) (by decide) rfl ?_
  intro p e s m args below meth c s₁ B hml hv
  obtain ⟨rfl, hsz, hP, hK, hD0⟩ := hv
  have hx := B.exec
  have hb := B.bytes
  have hr := B.returns
  have hts := atoms_spec (ws := wsX6_begin) B.pre
  have hown : s.vm.findClass RX6 = some m.cls := findClass_of_methodNamed B.named
  have hlocks := B.notSynchronized
  subst hsz
  have hD := hD0.self (sz := s.heap.size)
  generalize hAe : va_A [(h0, Sum.inr (6, [Value.ref h2, Value.ref h3, Value.ref h4, Value.ref h1, Value.int n0_pieceCount])), (h1, Sum.inl (cint, 5, Sum.inl f1))] s.heap.size = A at hD ⊢
  have hA : ∀ q : Nat, s.heap.size ≤ q → A q := fun q h => by rw [← hAe]; exact Or.inr h
  have hS : va_S A s.heap s.heap [] := va_S.rf
  have hP : va_P (dC, dI) vwCl [(h0, Sum.inr (6, [Value.ref h2, Value.ref h3, Value.ref h4, Value.ref h1, Value.int n0_pieceCount])), (h1, Sum.inl (cint, 5, Sum.inl f1))] s.heap := hP
  have hl := lv_entry ([.ref h0, .int p0]) (n := 2) (Nat.le_of_ble_eq_true rfl)
  rw [lg_entry_eq]
  generalize (lg_sl ([.ref h0, .int p0]) ++ List.replicate (2 - (lg_sl ([.ref h0, .int p0])).length) Slot.unset).toArray = ls at hl ⊢
  have hl : lv_has ls 2 [(0, .ref h0), (1, .int p0)] := hl
  refine lv_iload_n hx hb dX6_begin_0 rfl (lv_at hl 1 rfl) ?_
  refine lv_if_lt (tgt := 22) hx hb dX6_begin_1 (by decide) (fun c_1 => ?_) (fun c_1 => ?_)
  · have t_1 : p0.toInt < 0 := kk_lt c_1
    refine lv_iconst (v := (-1)) hx hb dX6_begin_22 (by decide) ?_
    obtain ⟨hP9, hD9⟩ := kk_leafout (wc := [(h0, Sum.inr (6, [Value.ref h2, Value.ref h3, Value.ref h4, Value.ref h1, Value.int n0_pieceCount])), (h1, Sum.inl (cint, 5, Sum.inl f1))]) hP hD [0, 1] (by decide) rfl
    have hK9 := hK.sub (tys' := []) [] rfl
    exact W.iret (v := (-1)) hx hb hr (fun t ht hW => ⟨⟨(-1), (), rfl, (by show (-1) ≤ ((-1) : Int32).toInt ∧ ((-1) : Int32).toInt ≤ 48; first | decide | (constructor <;> (have := kk_rng p0; omega))), by rw [ht]; exact hP9, va_K.moved hW.alike hK9, hD9⟩, hS.F ht⟩) hS.2.2 dX6_begin_23
  · have t_1 : 0 ≤ p0.toInt := kk_nlt c_1
    refine lv_iload_n hx hb dX6_begin_4 rfl (lv_at hl 1 rfl) ?_
    refine lv_aload_n hx hb dX6_begin_5 rfl (lv_at hl 0 rfl) ?_
    refine va_get (D := (dC, dI)) (ci := 6) (v := .ref h1) (C := RX6) (T := TX6) (N := 5) hx hb hts (fun _ h => List.mem_cons_of_mem _ (List.mem_append_right _ h)) hown hK hP 0 rfl rfl 3 (by decide) (hts (.fieldLink RX6 23 "KinkStreet$Pieces" "begins" "[I") (List.mem_of_getElem? (i := 1) rfl)) (fun _ h9 => h9) rfl dX6_begin_6 ?_
    refine va_alen (v := 5) hx hb hK hP 1 0 rfl rfl rfl dX6_begin_9 ?_
    refine lv_icmp_ge (tgt := 22) hx hb dX6_begin_10 (by decide) (fun c_2 => ?_) (fun c_2 => ?_)
    · have t_2 : 5 ≤ p0.toInt := kk_le c_2
      refine lv_iconst (v := (-1)) hx hb dX6_begin_22 (by decide) ?_
      obtain ⟨hP9, hD9⟩ := kk_leafout (wc := [(h0, Sum.inr (6, [Value.ref h2, Value.ref h3, Value.ref h4, Value.ref h1, Value.int n0_pieceCount])), (h1, Sum.inl (cint, 5, Sum.inl f1))]) hP hD [0, 1] (by decide) rfl
      have hK9 := hK.sub (tys' := []) [] rfl
      exact W.iret (v := (-1)) hx hb hr (fun t ht hW => ⟨⟨(-1), (), rfl, (by show (-1) ≤ ((-1) : Int32).toInt ∧ ((-1) : Int32).toInt ≤ 48; first | decide | (constructor <;> (have := kk_rng p0; omega))), by rw [ht]; exact hP9, va_K.moved hW.alike hK9, hD9⟩, hS.F ht⟩) hS.2.2 dX6_begin_23
    · have t_2 : p0.toInt < 5 := kk_nle c_2
      refine lv_aload_n hx hb dX6_begin_13 rfl (lv_at hl 0 rfl) ?_
      refine va_get (D := (dC, dI)) (ci := 6) (v := .ref h1) (C := RX6) (T := TX6) (N := 5) hx hb hts (fun _ h => List.mem_cons_of_mem _ (List.mem_append_right _ h)) hown hK hP 0 rfl rfl 3 (by decide) (hts (.fieldLink RX6 23 "KinkStreet$Pieces" "begins" "[I") (List.mem_of_getElem? (i := 1) rfl)) (fun _ h9 => h9) rfl dX6_begin_14 ?_
      refine lv_iload_n hx hb dX6_begin_17 rfl (lv_at hl 1 rfl) ?_
      have hi_3 : vp_in p0 5 := (vp_in_iff.mpr ⟨by omega, by omega⟩)
      refine va_iald hx hb hK hP 1 0 rfl rfl hi_3 dX6_begin_18 ?_
      refine lv_topi (fun y_3 e_3 => ?_)
      have t_3 : 0 ≤ y_3.toInt ∧ y_3.toInt ≤ 40 + 2 * ((p0 : Int32).toNatClampNeg : Int) := by rw [e_3]; exact bf1 _ (Nat.not_le.mp fun q => hi_3 (Or.inr q))
      have u_3 := kk_tn (x := (p0 : Int32)) (by show 0 ≤ (p0 : Int32).toInt; omega)
      have t_3 : 0 ≤ y_3.toInt ∧ y_3.toInt ≤ 40 + 2 * p0.toInt := by omega
      clear e_3
      refine lv_goto (tgt := 23) hx hb dX6_begin_19 (by decide) ?_
      obtain ⟨hP9, hD9⟩ := kk_leafout (wc := [(h0, Sum.inr (6, [Value.ref h2, Value.ref h3, Value.ref h4, Value.ref h1, Value.int n0_pieceCount])), (h1, Sum.inl (cint, 5, Sum.inl f1))]) hP hD [0, 1] (by decide) rfl
      have hK9 := hK.sub (tys' := []) [] rfl
      exact W.iret (v := y_3) hx hb hr (fun t ht hW => ⟨⟨y_3, (), rfl, (by show (-1) ≤ (y_3 : Int32).toInt ∧ (y_3 : Int32).toInt ≤ 48; first | decide | (constructor <;> (omega))), by rw [ht]; exact hP9, va_K.moved hW.alike hK9, hD9⟩, hS.F ht⟩) hS.2.2 dX6_begin_23
set_option maxHeartbeats 4000000 in
set_option maxRecDepth 100000 in
theorem g_X5_isKind_0 (l : Launch) (dC : Nat → ClassId) (dI : Nat → Nat → Nat) (sz : Nat) (p0 : Int32) : Met l yX5_isKind wsX5_isKind ({ frames := 0, cells := 0, slots := 0, locals := 0 }) (va_Pc [.int p0] (fun U => U.heap.size = sz ∧ va_P (dC, dI) vwCl [] U.heap ∧ va_K (dC, dI) vwCl [] U ∧ va_D (fun _ => True) [])) (va_Qi (fun (r : Int32) (_ : Unit) => ((0 : Int32) = r) ∨ (0 ≤ p0.toInt ∧ p0.toInt < 8 ∧ (1 : Int32) = r)) (fun (_ : Unit) t => va_P (dC, dI) vwCl [] t.heap ∧ va_K (dC, dI) vwCl [] t ∧ va_D (va_A [] sz) []) (va_A [] sz)) 0 0 (va_A [] sz) := by
  refine Met.ofW (cc := cX5_isKind) (maxL := 1) (ret := (some .boolean)) (by decide) rfl ?_
  intro p e s m args below meth c s₁ B hml hv
  obtain ⟨rfl, hsz, hP, hK, hD0⟩ := hv
  have hx := B.exec
  have hb := B.bytes
  have hr := B.returns
  have hts := atoms_spec (ws := wsX5_isKind) B.pre
  have hown : s.vm.findClass RX5 = some m.cls := findClass_of_methodNamed B.named
  have hlocks := B.notSynchronized
  subst hsz
  have hD := hD0.self (sz := s.heap.size)
  generalize hAe : va_A [] s.heap.size = A at hD ⊢
  have hA : ∀ q : Nat, s.heap.size ≤ q → A q := fun q h => by rw [← hAe]; exact Or.inr h
  have hS : va_S A s.heap s.heap [] := va_S.rf
  have hP : va_P (dC, dI) vwCl [] s.heap := hP
  have hl := lv_entry ([.int p0]) (n := 1) (Nat.le_of_ble_eq_true rfl)
  rw [lg_entry_eq]
  generalize (lg_sl ([.int p0]) ++ List.replicate (1 - (lg_sl ([.int p0])).length) Slot.unset).toArray = ls at hl ⊢
  have hl : lv_has ls 1 [(0, .int p0)] := hl
  refine lv_iload_n hx hb dX5_isKind_0 rfl (lv_at hl 0 rfl) ?_
  refine lv_if_lt (tgt := 14) hx hb dX5_isKind_1 (by decide) (fun c_1 => ?_) (fun c_1 => ?_)
  · have t_1 : p0.toInt < 0 := kk_lt c_1
    refine lv_iconst (v := 0) hx hb dX5_isKind_14 (by decide) ?_
    obtain ⟨hP9, hD9⟩ := kk_leafout (wc := []) hP hD [] (by decide) rfl
    have hK9 := hK.sub (tys' := []) [] rfl
    exact W.zret (v := 0) hx hb hr rfl (fun t ht hW => ⟨⟨0, (), rfl, Or.inl rfl, by rw [ht]; exact hP9, va_K.moved hW.alike hK9, hD9⟩, hS.F ht⟩) hS.2.2 dX5_isKind_15
  · have t_1 : 0 ≤ p0.toInt := kk_nlt c_1
    refine lv_iload_n hx hb dX5_isKind_4 rfl (lv_at hl 0 rfl) ?_
    refine lv_bipush (v := 8) hx hb dX5_isKind_5 (by decide) ?_
    refine lv_icmp_ge (tgt := 14) hx hb dX5_isKind_7 (by decide) (fun c_2 => ?_) (fun c_2 => ?_)
    · have t_2 : 8 ≤ p0.toInt := kk_le c_2
      refine lv_iconst (v := 0) hx hb dX5_isKind_14 (by decide) ?_
      obtain ⟨hP9, hD9⟩ := kk_leafout (wc := []) hP hD [] (by decide) rfl
      have hK9 := hK.sub (tys' := []) [] rfl
      exact W.zret (v := 0) hx hb hr rfl (fun t ht hW => ⟨⟨0, (), rfl, Or.inl rfl, by rw [ht]; exact hP9, va_K.moved hW.alike hK9, hD9⟩, hS.F ht⟩) hS.2.2 dX5_isKind_15
    · have t_2 : p0.toInt < 8 := kk_nle c_2
      refine lv_iconst (v := 1) hx hb dX5_isKind_10 (by decide) ?_
      refine lv_goto (tgt := 15) hx hb dX5_isKind_11 (by decide) ?_
      obtain ⟨hP9, hD9⟩ := kk_leafout (wc := []) hP hD [] (by decide) rfl
      have hK9 := hK.sub (tys' := []) [] rfl
      exact W.zret (v := 1) hx hb hr rfl (fun t ht hW => ⟨⟨1, (), rfl, Or.inr (⟨by first | assumption | (omega), by first | assumption | (omega), rfl⟩), by rw [ht]; exact hP9, va_K.moved hW.alike hK9, hD9⟩, hS.F ht⟩) hS.2.2 dX5_isKind_15
set_option maxHeartbeats 4000000 in
set_option maxRecDepth 100000 in
theorem g_X5_isUnder_0 (l : Launch) (dC : Nat → ClassId) (dI : Nat → Nat → Nat) (sz : Nat) (p0 : Int32) (p1 : Int32) (aABOVE : Nat) : Met l yX5_isUnder wsX5_isUnder ({ frames := 1, cells := 0, slots := 0, locals := 20 }) (va_Pc [.int p0, .int p1] (fun U => U.heap.size = sz ∧ va_P (dC, dI) vwCl [] U.heap ∧ va_K (dC, dI) vwCl [] U ∧ va_D (fun _ => True) [] ∧ va_Z "KinkStreet$Lines" "ABOVE" "[I" (.ref aABOVE) (va_A [] sz) U U.heap ∧ va_T .int aABOVE 8 tb_ABOVE (va_A [] sz) U U.heap)) (va_Qi (fun (r : Int32) (_ : Unit) => ((0 : Int32) = r) ∨ (0 ≤ p1.toInt ∧ p1.toInt ≤ 7 ∧ (1 : Int32) = r)) (fun (_ : Unit) t => va_P (dC, dI) vwCl [] t.heap ∧ va_K (dC, dI) vwCl [] t ∧ va_D (va_A [] sz) []) (va_A [] sz)) 0 0 (va_A [] sz) := by
  refine Met.ofW (cc := cX5_isUnder) (maxL := 4) (ret := (some .boolean)) (by decide) rfl ?_
  intro p e s m args below meth c s₁ B hml hv
  obtain ⟨rfl, hsz, hP, hK, hD0, hZABOVE, hTABOVE⟩ := hv
  have hx := B.exec
  have hb := B.bytes
  have hr := B.returns
  have hts := atoms_spec (ws := wsX5_isUnder) B.pre
  have hown : s.vm.findClass RX5 = some m.cls := findClass_of_methodNamed B.named
  have hlocks := B.notSynchronized
  subst hsz
  have hD := hD0.self (sz := s.heap.size)
  generalize hAe : va_A [] s.heap.size = A at hD hZABOVE hTABOVE ⊢
  have hA : ∀ q : Nat, s.heap.size ≤ q → A q := fun q h => by rw [← hAe]; exact Or.inr h
  have hS : va_S A s.heap s.heap [] := va_S.rf
  have hP : va_P (dC, dI) vwCl [] s.heap := hP
  have hl := lv_entry ([.int p0, .int p1]) (n := 4) (Nat.le_of_ble_eq_true rfl)
  rw [lg_entry_eq]
  generalize (lg_sl ([.int p0, .int p1]) ++ List.replicate (4 - (lg_sl ([.int p0, .int p1])).length) Slot.unset).toArray = ls at hl ⊢
  have hl : lv_has ls 4 [(0, .int p0), (1, .int p1)] := hl
  refine lv_iload_n hx hb dX5_isUnder_0 rfl (lv_at hl 0 rfl) ?_
  refine lv_istore_n (lv' := [(2, .int p0), (0, .int p0), (1, .int p1)]) hx hb dX5_isUnder_1 rfl hl (by decide) rfl (fun ls hl => ?_)
  refine lv_iconst (v := 0) hx hb dX5_isUnder_2 (by decide) ?_
  refine lv_istore_n (lv' := [(3, .int 0), (2, .int p0), (0, .int p0), (1, .int p1)]) hx hb dX5_isUnder_3 rfl hl (by decide) rfl (fun ls hl => ?_)
  refine kk_loop (σ := Int32 × Int32) (fun x H locs ls => (0 ≤ x.1.toInt ∧ x.1.toInt ≤ 8) ∧ va_P (dC, dI) vwCl [] H ∧ va_D A [] ∧ va_S A s.heap H locs ∧ lv_has ls 4 [(3, .int x.1), (2, .int x.2), (0, .int p0), (1, .int p1)]) (fun x => ((8 : Int) - x.1.toInt).toNat) ?_ (0, p0) _ _ _ ⟨(by show 0 ≤ (0 : Int32).toInt ∧ (0 : Int32).toInt ≤ 8; first | decide | (constructor <;> (omega))), hP, hD, hS, hl⟩
  rintro ⟨i_1_0, i_1_1⟩ H locs ls ⟨t_1_0, hP, hD, hS, hl⟩ ih_1
  have t_1_0 : (0 ≤ i_1_0.toInt ∧ i_1_0.toInt ≤ 8) := t_1_0
  have hl : lv_has ls 4 [(3, .int i_1_0), (2, .int i_1_1), (0, .int p0), (1, .int p1)] := hl
  have hP : va_P (dC, dI) vwCl [] H := hP
  have hD : va_D A [] := hD
  refine lv_iload_n hx hb dX5_isUnder_4 rfl (lv_at hl 0 rfl) ?_
  refine lv_bipush (v := 8) hx hb dX5_isUnder_5 (by decide) ?_
  refine lv_icmp_ge (tgt := 36) hx hb dX5_isUnder_7 (by decide) (fun c_2 => ?_) (fun c_2 => ?_)
  · have t_2 : 8 ≤ i_1_0.toInt := kk_le c_2
    refine lv_iconst (v := 0) hx hb dX5_isUnder_36 (by decide) ?_
    obtain ⟨hP9, hD9⟩ := kk_leafout (wc := []) hP hD [] (by decide) rfl
    have hK9 := hK.sub (tys' := []) [] rfl
    exact W.zret (v := 0) hx hb hr rfl (fun t ht hW => ⟨⟨0, (), rfl, Or.inl rfl, by rw [ht]; exact hP9, va_K.moved hW.alike hK9, hD9⟩, hS.F ht⟩) hS.2.2 dX5_isUnder_37
  · have t_2 : i_1_0.toInt < 8 := kk_nle c_2
    refine lv_iload_n hx hb dX5_isUnder_10 rfl (lv_at hl 1 rfl) ?_
    obtain ⟨hPc, hDc, hFc⟩ := kk_cutout (wc := []) hP hD hS hA [] (by decide) rfl
    have hKc := hK.sub (tys' := []) [] rfl
    refine va_calli (va_runS (As := [.int i_1_1]) (rest := []) ⟨hx, hb, hml, hown, hts⟩ (g_X5_isKind_0 l dC dI H.size i_1_1) (va_cwS 1 hts gX5_isUnder_X5_isKind rfl rfl rfl (by decide +kernel) ⟨Nat.le_of_ble_eq_true rfl, Nat.le_of_ble_eq_true rfl⟩) ⟨fun a U g mk q => by obtain ⟨q0, q1, qP, qK, qD⟩ := q; exact ⟨q0, q1, qP, va_K.moved (u := U) (U := U.calling g mk a) (Vm.Alike.refl U.vm) qK, qD⟩, fun U hU hW => ⟨rfl, by rw [hU], by rw [hU]; exact hPc, va_K.moved hW.alike hKc, hDc.weaken (fun _ _ _ _ => trivial)⟩⟩ rfl rfl hl.1 rfl (lv_room (Nat.le_of_ble_eq_true rfl)) dX5_isUnder_11 ⟨Nat.le_of_ble_eq_true rfl, Nat.le_of_ble_eq_true rfl⟩) hS (fun q _ h => hFc q h) hFc (fun r_3 u t H1 locs ht hvm hw hB hz1 hk1 hS => ?_)
    obtain ⟨hP1, hK1, hD1⟩ := hB
    rw [ht] at hP1
    have hK1 := va_K.moved hvm.symm hK1
    obtain ⟨hP, hD⟩ := va_join (wr := []) (w1 := []) hP hD [] [] rfl rfl (by decide) (by decide) hk1 hFc hP1 hD1
    generalize H1 = H at hP hS ⊢
    have hP : va_P (dC, dI) vwCl [] H := hP
    have hD : va_D A [] := hD
    rcases hw with ⟨rfl⟩ | ⟨t_3_0, t_3_1, rfl⟩
    · skip
      refine lv_if_eq (tgt := 36) hx hb dX5_isUnder_14 (by decide) (fun _ => ?_) (fun c => absurd c (by decide))
      refine lv_iconst (v := 0) hx hb dX5_isUnder_36 (by decide) ?_
      obtain ⟨hP9, hD9⟩ := kk_leafout (wc := []) hP hD [] (by decide) rfl
      have hK9 := hK.sub (tys' := []) [] rfl
      exact W.zret (v := 0) hx hb hr rfl (fun t ht hW => ⟨⟨0, (), rfl, Or.inl rfl, by rw [ht]; exact hP9, va_K.moved hW.alike hK9, hD9⟩, hS.F ht⟩) hS.2.2 dX5_isUnder_37
    · skip
      have t_3_0 : (0 : Int) ≤ i_1_1.toInt := t_3_0
      have t_3_1 : (i_1_1.toInt : Int) < 8 := t_3_1
      refine lv_if_eq (tgt := 36) hx hb dX5_isUnder_14 (by decide) (fun c => absurd c (by decide)) (fun _ => ?_)
      refine lv_iload_n hx hb dX5_isUnder_17 rfl (lv_at hl 1 rfl) ?_
      refine lv_iload_n hx hb dX5_isUnder_18 rfl (lv_at hl 3 rfl) ?_
      refine lv_icmp_ne (tgt := 24) hx hb dX5_isUnder_19 (by decide) (fun c_4 => ?_) (fun c_4 => ?_)
      · have t_4 : i_1_1.toInt ≠ p1.toInt := kk_ne c_4
        refine va_gets hx hb hZABOVE hS hown (hts (.fieldLink RX5 22 "KinkStreet$Lines" "ABOVE" "[I") (List.mem_of_getElem? (i := 1) rfl)) (fun _ h9 => h9) dX5_isUnder_24 ?_
        refine lv_iload_n hx hb dX5_isUnder_27 rfl (lv_at hl 1 rfl) ?_
        have hi_5 : vp_in i_1_1 8 := (vp_in_iff.mpr ⟨by omega, by omega⟩)
        obtain ⟨y_5, e_5, t_5⟩ := tb_ABOVE_b _ (Nat.not_le.mp fun q => hi_5 (Or.inr q))
        refine va_ti (v := .int y_5) hx hb hTABOVE hS hi_5 e_5 dX5_isUnder_28 ?_
        refine lv_istore_n (lv' := [(2, .int y_5), (3, .int i_1_0), (0, .int p0), (1, .int p1)]) hx hb dX5_isUnder_29 rfl hl (by decide) rfl (fun ls hl => ?_)
        refine lv_iinc (v := (i_1_0 + 1)) (lv' := [(3, .int (i_1_0 + 1)), (2, .int y_5), (0, .int p0), (1, .int p1)]) hx hb dX5_isUnder_30 hl (k := 1) rfl (by first | rfl | decide) (by decide) rfl (fun ls hl => ?_)
        refine lv_goto (tgt := 4) hx hb dX5_isUnder_33 (by decide) ?_
        exact ih_1 ((i_1_0 + 1), y_5) _ _ _ (by show ((8 : Int) - ((i_1_0 + 1)).toInt).toNat < ((8 : Int) - i_1_0.toInt).toNat; have := kk_add2 (x := i_1_0) (y := 1) (a := i_1_0.toInt) (b := 1) rfl rfl (by omega) (by omega); exact kk_mu (by omega) (by omega)) ⟨(by show 0 ≤ ((i_1_0 + 1) : Int32).toInt ∧ ((i_1_0 + 1) : Int32).toInt ≤ 8; first | decide | (constructor <;> (have := kk_add2 (x := i_1_0) (y := 1) (a := i_1_0.toInt) (b := 1) rfl rfl (by omega) (by omega); omega))), hP, hD, hS, lv_sub hl [0, 1, 2, 3] rfl⟩
      · have t_4 : i_1_1.toInt = p1.toInt := kk_eq c_4
        refine lv_iconst (v := 1) hx hb dX5_isUnder_22 (by decide) ?_
        obtain ⟨hP9, hD9⟩ := kk_leafout (wc := []) hP hD [] (by decide) rfl
        have hK9 := hK.sub (tys' := []) [] rfl
        exact W.zret (v := 1) hx hb hr rfl (fun t ht hW => ⟨⟨1, (), rfl, Or.inr (⟨by first | assumption | (omega), by first | assumption | (omega), rfl⟩), by rw [ht]; exact hP9, va_K.moved hW.alike hK9, hD9⟩, hS.F ht⟩) hS.2.2 dX5_isUnder_23
set_option maxHeartbeats 4000000 in
set_option maxRecDepth 100000 in
theorem g_X5_size_0 (l : Launch) (dC : Nat → ClassId) (dI : Nat → Nat → Nat) (h0 : Nat) (h1 : Nat) (h2 : Nat) (sz : Nat) (n0_size : Int32) (n0_ran : Int32) (tn0_size : 0 ≤ n0_size.toInt ∧ n0_size.toInt ≤ 50) (tn0_ran : 0 ≤ n0_ran.toInt ∧ n0_ran.toInt ≤ 1000) : Met l yX5_size wsX5_size ({ frames := 0, cells := 0, slots := 0, locals := 0 }) (va_Pc [.ref h0] (fun U => U.heap.size = sz ∧ va_P (dC, dI) vwCl [(h0, Sum.inr (5, [Value.ref h1, Value.int n0_size, Value.ref h2, Value.int n0_ran]))] U.heap ∧ va_K (dC, dI) vwCl [] U ∧ va_D (fun _ => True) [(h0, Sum.inr (5, [Value.ref h1, Value.int n0_size, Value.ref h2, Value.int n0_ran]))])) (va_Qi (fun (r : Int32) (_ : Unit) => n0_size = r) (fun (_ : Unit) t => va_P (dC, dI) vwCl [(h0, Sum.inr (5, [Value.ref h1, Value.int n0_size, Value.ref h2, Value.int n0_ran]))] t.heap ∧ va_K (dC, dI) vwCl [] t ∧ va_D (va_A [(h0, Sum.inr (5, [Value.ref h1, Value.int n0_size, Value.ref h2, Value.int n0_ran]))] sz) [(h0, Sum.inr (5, [Value.ref h1, Value.int n0_size, Value.ref h2, Value.int n0_ran]))]) (va_A [(h0, Sum.inr (5, [Value.ref h1, Value.int n0_size, Value.ref h2, Value.int n0_ran]))] sz)) 0 0 (va_A [(h0, Sum.inr (5, [Value.ref h1, Value.int n0_size, Value.ref h2, Value.int n0_ran]))] sz) := by
  refine Met.ofW (cc := cX5_size) (maxL := 1) (ret := (some .int)) (by decide) rfl ?_
  intro p e s m args below meth c s₁ B hml hv
  obtain ⟨rfl, hsz, hP, hK, hD0⟩ := hv
  have hx := B.exec
  have hb := B.bytes
  have hr := B.returns
  have hts := atoms_spec (ws := wsX5_size) B.pre
  have hown : s.vm.findClass RX5 = some m.cls := findClass_of_methodNamed B.named
  have hlocks := B.notSynchronized
  subst hsz
  have hD := hD0.self (sz := s.heap.size)
  generalize hAe : va_A [(h0, Sum.inr (5, [Value.ref h1, Value.int n0_size, Value.ref h2, Value.int n0_ran]))] s.heap.size = A at hD ⊢
  have hA : ∀ q : Nat, s.heap.size ≤ q → A q := fun q h => by rw [← hAe]; exact Or.inr h
  have hS : va_S A s.heap s.heap [] := va_S.rf
  have hP : va_P (dC, dI) vwCl [(h0, Sum.inr (5, [Value.ref h1, Value.int n0_size, Value.ref h2, Value.int n0_ran]))] s.heap := hP
  have hl := lv_entry ([.ref h0]) (n := 1) (Nat.le_of_ble_eq_true rfl)
  rw [lg_entry_eq]
  generalize (lg_sl ([.ref h0]) ++ List.replicate (1 - (lg_sl ([.ref h0])).length) Slot.unset).toArray = ls at hl ⊢
  have hl : lv_has ls 1 [(0, .ref h0)] := hl
  refine lv_aload_n hx hb dX5_size_0 rfl (lv_at hl 0 rfl) ?_
  refine va_get (D := (dC, dI)) (ci := 5) (v := .int n0_size) (C := RX5) (T := TX5) (N := 4) hx hb hts (fun _ h => List.mem_cons_of_mem _ (List.mem_append_right _ h)) hown hK hP 0 rfl rfl 1 (by decide) (hts (.fieldLink RX5 25 "KinkStreet$Lines" "size" "I") (List.mem_of_getElem? (i := 1) rfl)) (fun _ h9 => h9) rfl dX5_size_1 ?_
  obtain ⟨hP9, hD9⟩ := kk_leafout (wc := [(h0, Sum.inr (5, [Value.ref h1, Value.int n0_size, Value.ref h2, Value.int n0_ran]))]) hP hD [0] (by decide) rfl
  have hK9 := hK.sub (tys' := []) [] rfl
  exact W.iret (v := n0_size) hx hb hr (fun t ht hW => ⟨⟨n0_size, (), rfl, rfl, by rw [ht]; exact hP9, va_K.moved hW.alike hK9, hD9⟩, hS.F ht⟩) hS.2.2 dX5_size_4
