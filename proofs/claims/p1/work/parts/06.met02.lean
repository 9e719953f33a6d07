set_option maxHeartbeats 4000000 in
set_option maxRecDepth 100000 in
theorem k_X8_isSort_0 (l : Launch) (dC : Nat → ClassId) (dI : Nat → Nat → Nat) (sz : Nat) (p0 : Int32) : Met l yX8_isSort wsX8_isSort ({ frames := 0, cells := 0, slots := 0, locals := 0 }) (va_Pc [.int p0] (fun U => U.heap.size = sz ∧ va_P (dC, dI) vwCl [] U.heap ∧ va_K (dC, dI) vwCl [] U ∧ va_D (fun _ => True) [])) (va_Qi (fun (r : Int32) (_ : Unit) => (p0.toInt < 0 ∧ r = 0) ∨ (0 ≤ p0.toInt ∧ 4 < p0.toInt ∧ r = 0) ∨ (0 ≤ p0.toInt ∧ p0.toInt ≤ 4 ∧ r = 1)) (fun (_ : Unit) t => va_P (dC, dI) vwCl [] t.heap ∧ va_K (dC, dI) vwCl [] t ∧ va_D (va_A [] sz) []) (va_A [] sz)) 0 0 (va_A [] sz) := by
  refine Met.ofW (cc := cX8_isSort) (maxL := 1) (ret := (some .boolean)) (by decide) rfl ?_
  intro p e s m args below meth c s₁ B hml hv
  obtain ⟨rfl, hsz, hP, hK, hD0⟩ := hv
  have hx := B.exec
  have hb := B.bytes
  have hr := B.returns
  have hts := atoms_spec (ws := wsX8_isSort) B.pre
  have hown : s.vm.findClass RX8 = some m.cls := findClass_of_methodNamed B.named
  have hlocks := B.notSynchronized
  subst hsz
  have hD := hD0.self (sz := s.heap.size)
  generalize hAe : va_A [] s.heap.size = A at hD ⊢
  have hA : ∀ q : Nat, s.heap.size ≤ q → A q := fun q h => by rw [← hAe]; exact Or.inr h
  have hS : va_S A s.heap s.heap [] := va_S.rf
  have hP : va_P (dC, dI) vwCl [] s.heap := hP
  have hl := lv_entry ([.int p0]) (n := 1) (Nat.le_of_ble_eq_true rfl)
  rw [lg_entry_eq]
  generalize (lg_sl ([.int p0]) ++ List.replicate (1 - (lg_sl ([.int p0])).length) Slot.unset).toArray = ls at hl ⊢
  have hl : lv_has ls 1 [(0, .int p0)] := hl
  refine lv_iload_n hx hb dX8_isSort_0 rfl (lv_at hl 0 rfl) ?_
  refine lv_if_lt (tgt := 13) hx hb dX8_isSort_1 (by decide) (fun c_1 => ?_) (fun c_1 => ?_)
  · have t_1 : p0.toInt < 0 := kk_lt c_1
    refine lv_iconst (v := 0) hx hb dX8_isSort_13 (by decide) ?_
    have hP9 := hP.sub (ws' := []) [] rfl
    have hD9 := hD.sub (ws' := []) [] (by decide) rfl
    have hK9 := hK.sub (tys' := []) [] rfl
    exact W.zret (v := 0) hx hb hr rfl (fun t ht hW => ⟨⟨0, (), rfl, Or.inl ⟨by first | assumption | omega, rfl⟩, by rw [ht]; exact hP9, va_K.moved hW.alike hK9, hD9⟩, hS.F ht⟩) hS.2.2 dX8_isSort_14
  · have t_1 : 0 ≤ p0.toInt := kk_nlt c_1
    refine lv_iload_n hx hb dX8_isSort_4 rfl (lv_at hl 0 rfl) ?_
    refine lv_iconst (v := 4) hx hb dX8_isSort_5 (by decide) ?_
    refine lv_icmp_gt (tgt := 13) hx hb dX8_isSort_6 (by decide) (fun c_2 => ?_) (fun c_2 => ?_)
    · have t_2 : 4 < p0.toInt := kk_lt c_2
      refine lv_iconst (v := 0) hx hb dX8_isSort_13 (by decide) ?_
      have hP9 := hP.sub (ws' := []) [] rfl
      have hD9 := hD.sub (ws' := []) [] (by decide) rfl
      have hK9 := hK.sub (tys' := []) [] rfl
      exact W.zret (v := 0) hx hb hr rfl (fun t ht hW => ⟨⟨0, (), rfl, Or.inr (Or.inl ⟨by first | assumption | omega, by first | assumption | omega, rfl⟩), by rw [ht]; exact hP9, va_K.moved hW.alike hK9, hD9⟩, hS.F ht⟩) hS.2.2 dX8_isSort_14
    · have t_2 : p0.toInt ≤ 4 := kk_nlt c_2
      refine lv_iconst (v := 1) hx hb dX8_isSort_9 (by decide) ?_
      refine lv_goto (tgt := 14) hx hb dX8_isSort_10 (by decide) ?_
      have hP9 := hP.sub (ws' := []) [] rfl
      have hD9 := hD.sub (ws' := []) [] (by decide) rfl
      have hK9 := hK.sub (tys' := []) [] rfl
      exact W.zret (v := 1) hx hb hr rfl (fun t ht hW => ⟨⟨1, (), rfl, Or.inr (Or.inr (⟨by first | assumption | omega, by first | assumption | omega, rfl⟩)), by rw [ht]; exact hP9, va_K.moved hW.alike hK9, hD9⟩, hS.F ht⟩) hS.2.2 dX8_isSort_14
set_option maxHeartbeats 4000000 in
set_option maxRecDepth 100000 in
theorem k_X8_holdRow_0 (l : Launch) (dC : Nat → ClassId) (dI : Nat → Nat → Nat) (h0 h1 : Nat) (clong : ClassId) (sz : Nat) (p0 : Int32) (p1 : Int32) : Met l yX8_holdRow wsX8_holdRow ({ frames := 0, cells := 0, slots := 0, locals := 0 }) (va_Pc [.ref h0, .int p0, .int p1] (fun U => U.heap.size = sz ∧ va_P (dC, dI) vwCl [(h0, .inr (8, [.ref h1, .int (-1), .int 0, .int 0])), (h1, .inl (clong, 60, .inr (.inl (fun _ => 0))))] U.heap ∧ va_K (dC, dI) vwCl [(clong, .long)] U ∧ va_D (fun _ => True) [(h0, .inr (8, [.ref h1, .int (-1), .int 0, .int 0])), (h1, .inl (clong, 60, .inr (.inl (fun _ => 0))))])) (va_Qv (fun (_ : Unit) => True) (fun (_ : Unit) t => va_P (dC, dI) vwCl [] t.heap ∧ va_K (dC, dI) vwCl [] t ∧ va_D (va_A [(h0, .inr (8, [.ref h1, .int (-1), .int 0, .int 0])), (h1, .inl (clong, 60, .inr (.inl (fun _ => 0))))] sz) []) (va_A [(h0, .inr (8, [.ref h1, .int (-1), .int 0, .int 0])), (h1, .inl (clong, 60, .inr (.inl (fun _ => 0))))] sz)) 0 0 (va_A [(h0, .inr (8, [.ref h1, .int (-1), .int 0, .int 0])), (h1, .inl (clong, 60, .inr (.inl (fun _ => 0))))] sz) := by
  refine Met.ofW (cc := cX8_holdRow) (maxL := 4) (ret := none) (by decide) rfl ?_
  intro p e s m args below meth c s₁ B hml hv
  obtain ⟨rfl, hsz, hP, hK, hD0⟩ := hv
  have hx := B.exec
  have hb := B.bytes
  have hr := B.returns
  have hts := atoms_spec (ws := wsX8_holdRow) B.pre
  have hown : s.vm.findClass RX8 = some m.cls := findClass_of_methodNamed B.named
  have hlocks := B.notSynchronized
  subst hsz
  have hD := hD0.self (sz := s.heap.size)
  generalize hAe : va_A [(h0, .inr (8, [.ref h1, .int (-1), .int 0, .int 0])), (h1, .inl (clong, 60, .inr (.inl (fun _ => 0))))] s.heap.size = A at hD ⊢
  have hA : ∀ q : Nat, s.heap.size ≤ q → A q := fun q h => by rw [← hAe]; exact Or.inr h
  have hS : va_S A s.heap s.heap [] := va_S.rf
  have hP : va_P (dC, dI) vwCl [(h0, .inr (8, [.ref h1, .int (-1), .int 0, .int 0])), (h1, .inl (clong, 60, .inr (.inl (fun _ => 0))))] s.heap := hP
  have hl := lv_entry ([.ref h0, .int p0, .int p1]) (n := 4) (Nat.le_of_ble_eq_true rfl)
  rw [lg_entry_eq]
  generalize (lg_sl ([.ref h0, .int p0, .int p1]) ++ List.replicate (4 - (lg_sl ([.ref h0, .int p0, .int p1])).length) Slot.unset).toArray = ls at hl ⊢
  have hl : lv_has ls 4 [(0, .ref h0), (1, .int p0), (2, .int p1)] := hl
  refine lv_aload_n hx hb dX8_holdRow_0 rfl (lv_at hl 0 rfl) ?_
  refine lv_iload_n hx hb dX8_holdRow_1 rfl (lv_at hl 1 rfl) ?_
  refine va_put (D := (dC, dI)) (ci := 8) (v := .int p0) (ty := .int) (C := RX8) (T := TX8) (N := 4) hx hb hts (fun _ h => List.mem_cons_of_mem _ (List.mem_append_right _ h)) tyX8 tyX8_ok nmX8 hown hK hP hD hS 0 rfl rfl 1 (by decide) (hts (.fieldLink RX8 15 "KinkStreet$Shelf" "holds" "I") (List.mem_of_getElem? (i := 1) rfl)) (fun _ h9 => h9) rfl (by decide +kernel) rfl rfl (Nat.le_of_ble_eq_true rfl) dX8_holdRow_2 (fun H locs hP hD hS => ?_)
  have hP : va_P (dC, dI) vwCl [(h0, .inr (8, [.ref h1, .int p0, .int 0, .int 0])), (h1, .inl (clong, 60, .inr (.inl (fun _ => 0))))] H := hP
  have hD : va_D A [(h0, .inr (8, [.ref h1, .int p0, .int 0, .int 0])), (h1, .inl (clong, 60, .inr (.inl (fun _ => 0))))] := hD
  refine lv_aload_n hx hb dX8_holdRow_5 rfl (lv_at hl 0 rfl) ?_
  refine lv_iload_n hx hb dX8_holdRow_6 rfl (lv_at hl 2 rfl) ?_
  refine va_put (D := (dC, dI)) (ci := 8) (v := .int p1) (ty := .int) (C := RX8) (T := TX8) (N := 4) hx hb hts (fun _ h => List.mem_cons_of_mem _ (List.mem_append_right _ h)) tyX8 tyX8_ok nmX8 hown hK hP hD hS 0 rfl rfl 2 (by decide) (hts (.fieldLink RX8 26 "KinkStreet$Shelf" "size" "I") (List.mem_of_getElem? (i := 2) rfl)) (fun _ h9 => h9) rfl (by decide +kernel) rfl rfl (Nat.le_of_ble_eq_true rfl) dX8_holdRow_7 (fun H locs hP hD hS => ?_)
  have hP : va_P (dC, dI) vwCl [(h0, .inr (8, [.ref h1, .int p0, .int p1, .int 0])), (h1, .inl (clong, 60, .inr (.inl (fun _ => 0))))] H := hP
  have hD : va_D A [(h0, .inr (8, [.ref h1, .int p0, .int p1, .int 0])), (h1, .inl (clong, 60, .inr (.inl (fun _ => 0))))] := hD
  refine lv_iconst (v := 0) hx hb dX8_holdRow_10 (by decide) ?_
  refine lv_istore_n (lv' := [(3, .int 0), (0, .ref h0), (1, .int p0), (2, .int p1)]) hx hb dX8_holdRow_11 rfl hl (by decide) rfl (fun ls hl => ?_)
  refine kk_loop (σ := Int32 × (Nat → Int64)) (fun x H locs ls => 0 ≤ x.1.toInt ∧ x.1.toInt ≤ 60 ∧ va_P (dC, dI) vwCl [(h0, .inr (8, [.ref h1, .int p0, .int p1, .int 0])), (h1, .inl (clong, 60, .inr (.inl x.2)))] H ∧ va_D A [(h0, .inr (8, [.ref h1, .int p0, .int p1, .int 0])), (h1, .inl (clong, 60, .inr (.inl x.2)))] ∧ va_S A s.heap H locs ∧ lv_has ls 4 [(3, .int x.1), (0, .ref h0), (1, .int p0), (2, .int p1)]) (fun x => ((60 : Int) - x.1.toInt).toNat) ?_ (0, (fun _ => 0)) _ _ _ ⟨by first | decide | (show _ ≤ (0 : Int32).toInt; decide) | omega, by first | decide | omega, hP, hD, hS, hl⟩
  rintro ⟨i_1, f_1_0⟩ H locs ls ⟨t_1, u_1, hP, hD, hS, hl⟩ ih_1
  have t_1 : 0 ≤ i_1.toInt := t_1
  have u_1 : i_1.toInt ≤ 60 := u_1
  have hl : lv_has ls 4 [(3, .int i_1), (0, .ref h0), (1, .int p0), (2, .int p1)] := hl
  have hP : va_P (dC, dI) vwCl [(h0, .inr (8, [.ref h1, .int p0, .int p1, .int 0])), (h1, .inl (clong, 60, .inr (.inl f_1_0)))] H := hP
  have hD : va_D A [(h0, .inr (8, [.ref h1, .int p0, .int p1, .int 0])), (h1, .inl (clong, 60, .inr (.inl f_1_0)))] := hD
  refine lv_iload_n hx hb dX8_holdRow_12 rfl (lv_at hl 0 rfl) ?_
  refine lv_bipush (v := 60) hx hb dX8_holdRow_13 (by decide) ?_
  refine lv_icmp_ge (tgt := 31) hx hb dX8_holdRow_15 (by decide) (fun c_2 => ?_) (fun c_2 => ?_)
  · have t_2 : 60 ≤ i_1.toInt := kk_le c_2
    have hP9 := hP.sub (ws' := []) [] rfl
    have hD9 := hD.sub (ws' := []) [] (by decide) rfl
    have hK9 := hK.sub (tys' := []) [] rfl
    exact W.vret hx hb hr (fun t ht hW => ⟨⟨(), rfl, trivial, by rw [ht]; exact hP9, va_K.moved hW.alike hK9, hD9⟩, hS.F ht⟩) hS.2.2 dX8_holdRow_31
  · have t_2 : i_1.toInt < 60 := kk_nle c_2
    refine lv_aload_n hx hb dX8_holdRow_18 rfl (lv_at hl 1 rfl) ?_
    refine va_get (D := (dC, dI)) (ci := 8) (v := .ref h1) (C := RX8) (T := TX8) (N := 4) hx hb hts (fun _ h => List.mem_cons_of_mem _ (List.mem_append_right _ h)) hown hK hP 0 rfl rfl 0 (by decide) (hts (.fieldLink RX8 11 "KinkStreet$Shelf" "elements" "[J") (List.mem_of_getElem? (i := 3) rfl)) (fun _ h9 => h9) rfl dX8_holdRow_19 ?_
    refine lv_iload_n hx hb dX8_holdRow_22 rfl (lv_at hl 0 rfl) ?_
    refine lv_lconst (v := 0) hx hb dX8_holdRow_23 (by decide) ?_
    refine va_last hx hb hK hP hD hS 1 0 rfl rfl (vp_in_iff.mpr ⟨by omega, by omega⟩) dX8_holdRow_24 (fun H locs hP hD hS => ?_)
    generalize vp_updL f_1_0 ((i_1 : Int32)).toNatClampNeg 0 = f_3 at hP hD
    have hP : va_P (dC, dI) vwCl [(h0, .inr (8, [.ref h1, .int p0, .int p1, .int 0])), (h1, .inl (clong, 60, .inr (.inl f_3)))] H := hP
    have hD : va_D A [(h0, .inr (8, [.ref h1, .int p0, .int p1, .int 0])), (h1, .inl (clong, 60, .inr (.inl f_3)))] := hD
    refine lv_iinc (v := (i_1 + 1)) (lv' := [(3, .int (i_1 + 1)), (0, .ref h0), (1, .int p0), (2, .int p1)]) hx hb dX8_holdRow_25 hl (k := 0) rfl (by first | rfl | decide) (by decide) rfl (fun ls hl => ?_)
    refine lv_goto (tgt := 12) hx hb dX8_holdRow_28 (by decide) ?_
    exact ih_1 ((i_1 + 1), f_3) _ _ _ (by show ((60 : Int) - ((i_1 + 1)).toInt).toNat < ((60 : Int) - i_1.toInt).toNat; have hi_ := kk_add (x := i_1) (k := 1) (n := 1) rfl (by omega) (by omega); omega) ⟨by show (0 : Int) ≤ ((i_1 + 1)).toInt; have hi_ := kk_add (x := i_1) (k := 1) (n := 1) rfl (by omega) (by omega); omega, by show ((i_1 + 1)).toInt ≤ (60 : Int); have hi_ := kk_add (x := i_1) (k := 1) (n := 1) rfl (by omega) (by omega); omega, hP, hD, hS, lv_sub hl [0, 1, 2, 3] rfl⟩
set_option maxHeartbeats 4000000 in
set_option maxRecDepth 100000 in
theorem k_X11_row_0 (l : Launch) (dC : Nat → ClassId) (dI : Nat → Nat → Nat) (h0 h1 h2 h3 h4 h5 h6 h7 h8 h9 h10 h11 h12 h13 h14 h15 h16 h17 h18 h19 h20 h21 h22 h23 h24 : Nat) (cOShelf clong : ClassId) (sz : Nat) (p0 : Int32) (p1 : Int32) (p2 : Int32) : Met l yX11_row wsX11_row ({ frames := 1, cells := 0, slots := 0, locals := 23 }) (va_Pc [.ref h0, .int p0, .int p1, .int p2] (fun U => U.heap.size = sz ∧ va_P (dC, dI) vwCl [(h0, .inr (11, [.ref h14, .int 0, .ref h15, .ref h16, .ref h17, .ref h18, .ref h19, .ref h20, .ref h21, .ref h22, .ref h23, .int 0, .ref h24, .ref h1])), (h1, .inl (cOShelf, 6, .inr (.inr (.inr (.inr (va_up (va_up (va_up (va_up (va_up (va_up (fun _ => none) (0 : Int32).toNatClampNeg (some h2)) (1 : Int32).toNatClampNeg (some h3)) (2 : Int32).toNatClampNeg (some h4)) (3 : Int32).toNatClampNeg (some h5)) (4 : Int32).toNatClampNeg (some h6)) (5 : Int32).toNatClampNeg (some h7))))))), (h2, .inr (8, [.ref h8, .int (-1), .int 0, .int 0])), (h3, .inr (8, [.ref h9, .int (-1), .int 0, .int 0])), (h4, .inr (8, [.ref h10, .int (-1), .int 0, .int 0])), (h5, .inr (8, [.ref h11, .int (-1), .int 0, .int 0])), (h6, .inr (8, [.ref h12, .int (-1), .int 0, .int 0])), (h7, .inr (8, [.ref h13, .int (-1), .int 0, .int 0])), (h8, .inl (clong, 60, .inr (.inl (fun _ => 0)))), (h9, .inl (clong, 60, .inr (.inl (fun _ => 0)))), (h10, .inl (clong, 60, .inr (.inl (fun _ => 0)))), (h11, .inl (clong, 60, .inr (.inl (fun _ => 0)))), (h12, .inl (clong, 60, .inr (.inl (fun _ => 0)))), (h13, .inl (clong, 60, .inr (.inl (fun _ => 0))))] U.heap ∧ va_K (dC, dI) vwCl [(cOShelf, .object "KinkStreet$Shelf"), (clong, .long)] U ∧ va_D (fun _ => True) [(h0, .inr (11, [.ref h14, .int 0, .ref h15, .ref h16, .ref h17, .ref h18, .ref h19, .ref h20, .ref h21, .ref h22, .ref h23, .int 0, .ref h24, .ref h1])), (h1, .inl (cOShelf, 6, .inr (.inr (.inr (.inr (va_up (va_up (va_up (va_up (va_up (va_up (fun _ => none) (0 : Int32).toNatClampNeg (some h2)) (1 : Int32).toNatClampNeg (some h3)) (2 : Int32).toNatClampNeg (some h4)) (3 : Int32).toNatClampNeg (some h5)) (4 : Int32).toNatClampNeg (some h6)) (5 : Int32).toNatClampNeg (some h7))))))), (h2, .inr (8, [.ref h8, .int (-1), .int 0, .int 0])), (h3, .inr (8, [.ref h9, .int (-1), .int 0, .int 0])), (h4, .inr (8, [.ref h10, .int (-1), .int 0, .int 0])), (h5, .inr (8, [.ref h11, .int (-1), .int 0, .int 0])), (h6, .inr (8, [.ref h12, .int (-1), .int 0, .int 0])), (h7, .inr (8, [.ref h13, .int (-1), .int 0, .int 0])), (h8, .inl (clong, 60, .inr (.inl (fun _ => 0)))), (h9, .inl (clong, 60, .inr (.inl (fun _ => 0)))), (h10, .inl (clong, 60, .inr (.inl (fun _ => 0)))), (h11, .inl (clong, 60, .inr (.inl (fun _ => 0)))), (h12, .inl (clong, 60, .inr (.inl (fun _ => 0)))), (h13, .inl (clong, 60, .inr (.inl (fun _ => 0))))])) (va_Qi (fun (r : Int32) (_ : Unit) => r = if 0 ≤ p0.toInt ∧ p0.toInt < 6 ∧ 0 ≤ p1.toInt ∧ p1.toInt ≤ 4 ∧ p2.toInt ≤ 60 then (if p2.toInt < 0 then (-14 : Int32) else 1) else -1) (fun (_ : Unit) t => va_P (dC, dI) vwCl [] t.heap ∧ va_K (dC, dI) vwCl [] t ∧ va_D (va_A [(h0, .inr (11, [.ref h14, .int 0, .ref h15, .ref h16, .ref h17, .ref h18, .ref h19, .ref h20, .ref h21, .ref h22, .ref h23, .int 0, .ref h24, .ref h1])), (h1, .inl (cOShelf, 6, .inr (.inr (.inr (.inr (va_up (va_up (va_up (va_up (va_up (va_up (fun _ => none) (0 : Int32).toNatClampNeg (some h2)) (1 : Int32).toNatClampNeg (some h3)) (2 : Int32).toNatClampNeg (some h4)) (3 : Int32).toNatClampNeg (some h5)) (4 : Int32).toNatClampNeg (some h6)) (5 : Int32).toNatClampNeg (some h7))))))), (h2, .inr (8, [.ref h8, .int (-1), .int 0, .int 0])), (h3, .inr (8, [.ref h9, .int (-1), .int 0, .int 0])), (h4, .inr (8, [.ref h10, .int (-1), .int 0, .int 0])), (h5, .inr (8, [.ref h11, .int (-1), .int 0, .int 0])), (h6, .inr (8, [.ref h12, .int (-1), .int 0, .int 0])), (h7, .inr (8, [.ref h13, .int (-1), .int 0, .int 0])), (h8, .inl (clong, 60, .inr (.inl (fun _ => 0)))), (h9, .inl (clong, 60, .inr (.inl (fun _ => 0)))), (h10, .inl (clong, 60, .inr (.inl (fun _ => 0)))), (h11, .inl (clong, 60, .inr (.inl (fun _ => 0)))), (h12, .inl (clong, 60, .inr (.inl (fun _ => 0)))), (h13, .inl (clong, 60, .inr (.inl (fun _ => 0))))] sz) []) (va_A [(h0, .inr (11, [.ref h14, .int 0, .ref h15, .ref h16, .ref h17, .ref h18, .ref h19, .ref h20, .ref h21, .ref h22, .ref h23, .int 0, .ref h24, .ref h1])), (h1, .inl (cOShelf, 6, .inr (.inr (.inr (.inr (va_up (va_up (va_up (va_up (va_up (va_up (fun _ => none) (0 : Int32).toNatClampNeg (some h2)) (1 : Int32).toNatClampNeg (some h3)) (2 : Int32).toNatClampNeg (some h4)) (3 : Int32).toNatClampNeg (some h5)) (4 : Int32).toNatClampNeg (some h6)) (5 : Int32).toNatClampNeg (some h7))))))), (h2, .inr (8, [.ref h8, .int (-1), .int 0, .int 0])), (h3, .inr (8, [.ref h9, .int (-1), .int 0, .int 0])), (h4, .inr (8, [.ref h10, .int (-1), .int 0, .int 0])), (h5, .inr (8, [.ref h11, .int (-1), .int 0, .int 0])), (h6, .inr (8, [.ref h12, .int (-1), .int 0, .int 0])), (h7, .inr (8, [.ref h13, .int (-1), .int 0, .int 0])), (h8, .inl (clong, 60, .inr (.inl (fun _ => 0)))), (h9, .inl (clong, 60, .inr (.inl (fun _ => 0)))), (h10, .inl (clong, 60, .inr (.inl (fun _ => 0)))), (h11, .inl (clong, 60, .inr (.inl (fun _ => 0)))), (h12, .inl (clong, 60, .inr (.inl (fun _ => 0)))), (h13, .inl (clong, 60, .inr (.inl (fun _ => 0))))] sz)) 0 0 (va_A [(h0, .inr (11, [.ref h14, .int 0, .ref h15, .ref h16, .ref h17, .ref h18, .ref h19, .ref h20, .ref h21, .ref h22, .ref h23, .int 0, .ref h24, .ref h1])), (h1, .inl (cOShelf, 6, .inr (.inr (.inr (.inr (va_up (va_up (va_up (va_up (va_up (va_up (fun _ => none) (0 : Int32).toNatClampNeg (some h2)) (1 : Int32).toNatClampNeg (some h3)) (2 : Int32).toNatClampNeg (some h4)) (3 : Int32).toNatClampNeg (some h5)) (4 : Int32).toNatClampNeg (some h6)) (5 : Int32).toNatClampNeg (some h7))))))), (h2, .inr (8, [.ref h8, .int (-1), .int 0, .int 0])), (h3, .inr (8, [.ref h9, .int (-1), .int 0, .int 0])), (h4, .inr (8, [.ref h10, .int (-1), .int 0, .int 0])), (h5, .inr (8, [.ref h11, .int (-1), .int 0, .int 0])), (h6, .inr (8, [.ref h12, .int (-1), .int 0, .int 0])), (h7, .inr (8, [.ref h13, .int (-1), .int 0, .int 0])), (h8, .inl (clong, 60, .inr (.inl (fun _ => 0)))), (h9, .inl (clong, 60, .inr (.inl (fun _ => 0)))), (h10, .inl (clong, 60, .inr (.inl (fun _ => 0)))), (h11, .inl (clong, 60, .inr (.inl (fun _ => 0)))), (h12, .inl (clong, 60, .inr (.inl (fun _ => 0)))), (h13, .inl (clong, 60, .inr (.inl (fun _ => 0))))] sz) := by
  refine Met.ofW (cc := cX11_row) (maxL := 5) (ret := (some .int)) (by decide) rfl ?_
  intro p e s m args below meth c s₁ B hml hv
  obtain ⟨rfl, hsz, hP, hK, hD0⟩ := hv
  have hx := B.exec
  have hb := B.bytes
  have hr := B.returns
  have hts := atoms_spec (ws := wsX11_row) B.pre
  have hown : s.vm.findClass RX11 = some m.cls := findClass_of_methodNamed B.named
  have hlocks := B.notSynchronized
  subst hsz
  have hD := hD0.self (sz := s.heap.size)
  generalize hAe : va_A [(h0, .inr (11, [.ref h14, .int 0, .ref h15, .ref h16, .ref h17, .ref h18, .ref h19, .ref h20, .ref h21, .ref h22, .ref h23, .int 0, .ref h24, .ref h1])), (h1, .inl (cOShelf, 6, .inr (.inr (.inr (.inr (va_up (va_up (va_up (va_up (va_up (va_up (fun _ => none) (0 : Int32).toNatClampNeg (some h2)) (1 : Int32).toNatClampNeg (some h3)) (2 : Int32).toNatClampNeg (some h4)) (3 : Int32).toNatClampNeg (some h5)) (4 : Int32).toNatClampNeg (some h6)) (5 : Int32).toNatClampNeg (some h7))))))), (h2, .inr (8, [.ref h8, .int (-1), .int 0, .int 0])), (h3, .inr (8, [.ref h9, .int (-1), .int 0, .int 0])), (h4, .inr (8, [.ref h10, .int (-1), .int 0, .int 0])), (h5, .inr (8, [.ref h11, .int (-1), .int 0, .int 0])), (h6, .inr (8, [.ref h12, .int (-1), .int 0, .int 0])), (h7, .inr (8, [.ref h13, .int (-1), .int 0, .int 0])), (h8, .inl (clong, 60, .inr (.inl (fun _ => 0)))), (h9, .inl (clong, 60, .inr (.inl (fun _ => 0)))), (h10, .inl (clong, 60, .inr (.inl (fun _ => 0)))), (h11, .inl (clong, 60, .inr (.inl (fun _ => 0)))), (h12, .inl (clong, 60, .inr (.inl (fun _ => 0)))), (h13, .inl (clong, 60, .inr (.inl (fun _ => 0))))] s.heap.size = A at hD ⊢
  have hA : ∀ q : Nat, s.heap.size ≤ q → A q := fun q h => by rw [← hAe]; exact Or.inr h
  have hS : va_S A s.heap s.heap [] := va_S.rf
  have hP : va_P (dC, dI) vwCl [(h0, .inr (11, [.ref h14, .int 0, .ref h15, .ref h16, .ref h17, .ref h18, .ref h19, .ref h20, .ref h21, .ref h22, .ref h23, .int 0, .ref h24, .ref h1])), (h1, .inl (cOShelf, 6, .inr (.inr (.inr (.inr (va_up (va_up (va_up (va_up (va_up (va_up (fun _ => none) (0 : Int32).toNatClampNeg (some h2)) (1 : Int32).toNatClampNeg (some h3)) (2 : Int32).toNatClampNeg (some h4)) (3 : Int32).toNatClampNeg (some h5)) (4 : Int32).toNatClampNeg (some h6)) (5 : Int32).toNatClampNeg (some h7))))))), (h2, .inr (8, [.ref h8, .int (-1), .int 0, .int 0])), (h3, .inr (8, [.ref h9, .int (-1), .int 0, .int 0])), (h4, .inr (8, [.ref h10, .int (-1), .int 0, .int 0])), (h5, .inr (8, [.ref h11, .int (-1), .int 0, .int 0])), (h6, .inr (8, [.ref h12, .int (-1), .int 0, .int 0])), (h7, .inr (8, [.ref h13, .int (-1), .int 0, .int 0])), (h8, .inl (clong, 60, .inr (.inl (fun _ => 0)))), (h9, .inl (clong, 60, .inr (.inl (fun _ => 0)))), (h10, .inl (clong, 60, .inr (.inl (fun _ => 0)))), (h11, .inl (clong, 60, .inr (.inl (fun _ => 0)))), (h12, .inl (clong, 60, .inr (.inl (fun _ => 0)))), (h13, .inl (clong, 60, .inr (.inl (fun _ => 0))))] s.heap := hP
  have hl := lv_entry ([.ref h0, .int p0, .int p1, .int p2]) (n := 5) (Nat.le_of_ble_eq_true rfl)
  rw [lg_entry_eq]
  generalize (lg_sl ([.ref h0, .int p0, .int p1, .int p2]) ++ List.replicate (5 - (lg_sl ([.ref h0, .int p0, .int p1, .int p2])).length) Slot.unset).toArray = ls at hl ⊢
  have hl : lv_has ls 5 [(0, .ref h0), (1, .int p0), (2, .int p1), (3, .int p2)] := hl
  refine lv_aload_n hx hb dX11_row_0 rfl (lv_at hl 0 rfl) ?_
  refine lv_iload_n hx hb dX11_row_1 rfl (lv_at hl 1 rfl) ?_
  have hPc := hP.sub (ws' := [(h0, .inr (11, [.ref h14, .int 0, .ref h15, .ref h16, .ref h17, .ref h18, .ref h19, .ref h20, .ref h21, .ref h22, .ref h23, .int 0, .ref h24, .ref h1])), (h1, .inl (cOShelf, 6, .inr (.inr (.inr (.inr (va_up (va_up (va_up (va_up (va_up (va_up (fun _ => none) (0 : Int32).toNatClampNeg (some h2)) (1 : Int32).toNatClampNeg (some h3)) (2 : Int32).toNatClampNeg (some h4)) (3 : Int32).toNatClampNeg (some h5)) (4 : Int32).toNatClampNeg (some h6)) (5 : Int32).toNatClampNeg (some h7)))))))]) [0, 1] rfl
  have hDc := hD.sub (ws' := [(h0, .inr (11, [.ref h14, .int 0, .ref h15, .ref h16, .ref h17, .ref h18, .ref h19, .ref h20, .ref h21, .ref h22, .ref h23, .int 0, .ref h24, .ref h1])), (h1, .inl (cOShelf, 6, .inr (.inr (.inr (.inr (va_up (va_up (va_up (va_up (va_up (va_up (fun _ => none) (0 : Int32).toNatClampNeg (some h2)) (1 : Int32).toNatClampNeg (some h3)) (2 : Int32).toNatClampNeg (some h4)) (3 : Int32).toNatClampNeg (some h5)) (4 : Int32).toNatClampNeg (some h6)) (5 : Int32).toNatClampNeg (some h7)))))))]) [0, 1] (by decide) rfl
  have hKc := hK.sub (tys' := [(cOShelf, .object "KinkStreet$Shelf")]) [0] rfl
  have hFc := va_free (wc := [(h0, .inr (11, [.ref h14, .int 0, .ref h15, .ref h16, .ref h17, .ref h18, .ref h19, .ref h20, .ref h21, .ref h22, .ref h23, .int 0, .ref h24, .ref h1])), (h1, .inl (cOShelf, 6, .inr (.inr (.inr (.inr (va_up (va_up (va_up (va_up (va_up (va_up (fun _ => none) (0 : Int32).toNatClampNeg (some h2)) (1 : Int32).toNatClampNeg (some h3)) (2 : Int32).toNatClampNeg (some h4)) (3 : Int32).toNatClampNeg (some h5)) (4 : Int32).toNatClampNeg (some h6)) (5 : Int32).toNatClampNeg (some h7)))))))]) hD hS hA [0, 1] rfl
  refine va_callq (va_runV (As := [.int p0]) (rest := []) ⟨hx, hb, hml, hown, hts⟩ (k_X11_knownShelf_0 l dC dI h0 h1 h14 h15 h16 h17 h18 h19 h20 h21 h22 h23 h24 h2 h3 h4 h5 h6 h7 cOShelf s.heap.size p0) (cwV 1 hts gX11_row_X11_knownShelf rfl rfl rfl (by decide +kernel) ⟨Nat.le_of_ble_eq_true rfl, Nat.le_of_ble_eq_true rfl⟩) ⟨fun a U g mk q => by obtain ⟨q0, q1, qP, qK, qD⟩ := q; exact ⟨q0, q1, qP, va_K.moved (u := U) (U := U.calling g mk a) (Vm.Alike.refl U.vm) qK, qD⟩, va_recv hKc hPc (ci := 11) (q0 := 0) rfl rfl, fun U hU hW => ⟨rfl, by rw [hU], by rw [hU]; exact hPc, va_K.moved hW.alike hKc, hDc.weaken (fun _ _ _ _ => trivial)⟩⟩ rfl rfl hl.1 rfl (lv_room (Nat.le_of_ble_eq_true rfl)) dX11_row_2 ⟨Nat.le_of_ble_eq_true rfl, Nat.le_of_ble_eq_true rfl⟩) hS (fun q _ h => hFc q h) hFc (fun r_1 u t H1 locs ht hvm hw hB hz1 hk1 hS => ?_)
  obtain ⟨hP1, hK1, hD1⟩ := hB
  rw [ht] at hP1
  have hK1 := va_K.moved hvm.symm hK1
  obtain ⟨hP, hD⟩ := va_join (wr := [(h2, .inr (8, [.ref h8, .int (-1), .int 0, .int 0])), (h3, .inr (8, [.ref h9, .int (-1), .int 0, .int 0])), (h4, .inr (8, [.ref h10, .int (-1), .int 0, .int 0])), (h5, .inr (8, [.ref h11, .int (-1), .int 0, .int 0])), (h6, .inr (8, [.ref h12, .int (-1), .int 0, .int 0])), (h7, .inr (8, [.ref h13, .int (-1), .int 0, .int 0])), (h8, .inl (clong, 60, .inr (.inl (fun _ => 0)))), (h9, .inl (clong, 60, .inr (.inl (fun _ => 0)))), (h10, .inl (clong, 60, .inr (.inl (fun _ => 0)))), (h11, .inl (clong, 60, .inr (.inl (fun _ => 0)))), (h12, .inl (clong, 60, .inr (.inl (fun _ => 0)))), (h13, .inl (clong, 60, .inr (.inl (fun _ => 0))))]) (w1 := [(h0, .inr (11, [.ref h14, .int 0, .ref h15, .ref h16, .ref h17, .ref h18, .ref h19, .ref h20, .ref h21, .ref h22, .ref h23, .int 0, .ref h24, .ref h1])), (h1, .inl (cOShelf, 6, .inr (.inr (.inr (.inr (va_up (va_up (va_up (va_up (va_up (va_up (fun _ => none) (0 : Int32).toNatClampNeg (some h2)) (1 : Int32).toNatClampNeg (some h3)) (2 : Int32).toNatClampNeg (some h4)) (3 : Int32).toNatClampNeg (some h5)) (4 : Int32).toNatClampNeg (some h6)) (5 : Int32).toNatClampNeg (some h7)))))))]) hP hD [0, 1] [2, 3, 4, 5, 6, 7, 8, 9, 10, 11, 12, 13] rfl rfl (by decide) (by decide) hk1 hFc hP1 hD1
  generalize H1 = H at hP hS ⊢
  have hP : va_P (dC, dI) vwCl [(h2, .inr (8, [.ref h8, .int (-1), .int 0, .int 0])), (h3, .inr (8, [.ref h9, .int (-1), .int 0, .int 0])), (h4, .inr (8, [.ref h10, .int (-1), .int 0, .int 0])), (h5, .inr (8, [.ref h11, .int (-1), .int 0, .int 0])), (h6, .inr (8, [.ref h12, .int (-1), .int 0, .int 0])), (h7, .inr (8, [.ref h13, .int (-1), .int 0, .int 0])), (h8, .inl (clong, 60, .inr (.inl (fun _ => 0)))), (h9, .inl (clong, 60, .inr (.inl (fun _ => 0)))), (h10, .inl (clong, 60, .inr (.inl (fun _ => 0)))), (h11, .inl (clong, 60, .inr (.inl (fun _ => 0)))), (h12, .inl (clong, 60, .inr (.inl (fun _ => 0)))), (h13, .inl (clong, 60, .inr (.inl (fun _ => 0)))), (h0, .inr (11, [.ref h14, .int 0, .ref h15, .ref h16, .ref h17, .ref h18, .ref h19, .ref h20, .ref h21, .ref h22, .ref h23, .int 0, .ref h24, .ref h1])), (h1, .inl (cOShelf, 6, .inr (.inr (.inr (.inr (va_up (va_up (va_up (va_up (va_up (va_up (fun _ => none) (0 : Int32).toNatClampNeg (some h2)) (1 : Int32).toNatClampNeg (some h3)) (2 : Int32).toNatClampNeg (some h4)) (3 : Int32).toNatClampNeg (some h5)) (4 : Int32).toNatClampNeg (some h6)) (5 : Int32).toNatClampNeg (some h7)))))))] H := hP
  have hD : va_D A [(h2, .inr (8, [.ref h8, .int (-1), .int 0, .int 0])), (h3, .inr (8, [.ref h9, .int (-1), .int 0, .int 0])), (h4, .inr (8, [.ref h10, .int (-1), .int 0, .int 0])), (h5, .inr (8, [.ref h11, .int (-1), .int 0, .int 0])), (h6, .inr (8, [.ref h12, .int (-1), .int 0, .int 0])), (h7, .inr (8, [.ref h13, .int (-1), .int 0, .int 0])), (h8, .inl (clong, 60, .inr (.inl (fun _ => 0)))), (h9, .inl (clong, 60, .inr (.inl (fun _ => 0)))), (h10, .inl (clong, 60, .inr (.inl (fun _ => 0)))), (h11, .inl (clong, 60, .inr (.inl (fun _ => 0)))), (h12, .inl (clong, 60, .inr (.inl (fun _ => 0)))), (h13, .inl (clong, 60, .inr (.inl (fun _ => 0)))), (h0, .inr (11, [.ref h14, .int 0, .ref h15, .ref h16, .ref h17, .ref h18, .ref h19, .ref h20, .ref h21, .ref h22, .ref h23, .int 0, .ref h24, .ref h1])), (h1, .inl (cOShelf, 6, .inr (.inr (.inr (.inr (va_up (va_up (va_up (va_up (va_up (va_up (fun _ => none) (0 : Int32).toNatClampNeg (some h2)) (1 : Int32).toNatClampNeg (some h3)) (2 : Int32).toNatClampNeg (some h4)) (3 : Int32).toNatClampNeg (some h5)) (4 : Int32).toNatClampNeg (some h6)) (5 : Int32).toNatClampNeg (some h7)))))))] := hD
  rcases hw with ⟨t_1_0, rfl⟩ | ⟨t_1_0, t_1_1, rfl⟩ | ⟨t_1_0, t_1_1, t_1_2, rfl⟩ | ⟨t_1_0, t_1_1, t_1_2, rfl⟩ | ⟨t_1_0, t_1_1, t_1_2, rfl⟩ | ⟨t_1_0, t_1_1, t_1_2, rfl⟩ | ⟨t_1_0, t_1_1, t_1_2, rfl⟩ | ⟨t_1_0, t_1_1, t_1_2, rfl⟩
  · skip
    refine W.eq (g2 := F0 m 5 ls [.null]) rfl ?_
    refine lv_astoreN (lv' := [(4, .null), (0, .ref h0), (1, .int p0), (2, .int p1), (3, .int p2)]) hx hb dX11_row_5 hl (by decide) rfl (fun ls hl => ?_)
    refine lv_aloadN hx hb dX11_row_7 (lv_at hl 0 rfl) ?_
    refine lv_ifnullN (tgt := 25) hx hb dX11_row_9 (by decide) ?_
    refine lv_iconst (v := (-1)) hx hb dX11_row_25 (by decide) ?_
    have hP9 := hP.sub (ws' := []) [] rfl
    have hD9 := hD.sub (ws' := []) [] (by decide) rfl
    have hK9 := hK.sub (tys' := []) [] rfl
    exact W.iret (v := (-1)) hx hb hr (fun t ht hW => ⟨⟨(-1), (), rfl, by first | rfl | ((repeat' split) <;> first | rfl | (exfalso; omega) | (exact Int32.toInt_inj.mp (by show ((-1) : Int) = _; omega))), by rw [ht]; exact hP9, va_K.moved hW.alike hK9, hD9⟩, hS.F ht⟩) hS.2.2 dX11_row_26
  · skip
    refine W.eq (g2 := F0 m 5 ls [.null]) rfl ?_
    refine lv_astoreN (lv' := [(4, .null), (0, .ref h0), (1, .int p0), (2, .int p1), (3, .int p2)]) hx hb dX11_row_5 hl (by decide) rfl (fun ls hl => ?_)
    refine lv_aloadN hx hb dX11_row_7 (lv_at hl 0 rfl) ?_
    refine lv_ifnullN (tgt := 25) hx hb dX11_row_9 (by decide) ?_
    refine lv_iconst (v := (-1)) hx hb dX11_row_25 (by decide) ?_
    have hP9 := hP.sub (ws' := []) [] rfl
    have hD9 := hD.sub (ws' := []) [] (by decide) rfl
    have hK9 := hK.sub (tys' := []) [] rfl
    exact W.iret (v := (-1)) hx hb hr (fun t ht hW => ⟨⟨(-1), (), rfl, by first | rfl | ((repeat' split) <;> first | rfl | (exfalso; omega) | (exact Int32.toInt_inj.mp (by show ((-1) : Int) = _; omega))), by rw [ht]; exact hP9, va_K.moved hW.alike hK9, hD9⟩, hS.F ht⟩) hS.2.2 dX11_row_26
  · skip
    refine W.eq (g2 := F0 m 5 ls [.ref h2]) rfl ?_
    refine lv_astore (lv' := [(4, .ref h2), (0, .ref h0), (1, .int p0), (2, .int p1), (3, .int p2)]) hx hb dX11_row_5 hl (by decide) rfl (fun ls hl => ?_)
    refine lv_aload hx hb dX11_row_7 (lv_at hl 0 rfl) ?_
    refine lv_ifnull hx hb dX11_row_9 ?_
    refine lv_iload_n hx hb dX11_row_12 rfl (lv_at hl 3 rfl) ?_
    have hPc := hP.sub (ws' := []) [] rfl
    have hDc := hD.sub (ws' := []) [] (by decide) rfl
    have hKc := hK.sub (tys' := []) [] rfl
    have hFc := va_free (wc := []) hD hS hA [] rfl
    refine va_calli (va_runS (As := [.int p1]) (rest := []) ⟨hx, hb, hml, hown, hts⟩ (k_X8_isSort_0 l dC dI H.size p1) (va_cwS 1 hts gX11_row_X8_isSort rfl rfl rfl (by decide +kernel) ⟨Nat.le_of_ble_eq_true rfl, Nat.le_of_ble_eq_true rfl⟩) ⟨fun a U g mk q => by obtain ⟨q0, q1, qP, qK, qD⟩ := q; exact ⟨q0, q1, qP, va_K.moved (u := U) (U := U.calling g mk a) (Vm.Alike.refl U.vm) qK, qD⟩, fun U hU hW => ⟨rfl, by rw [hU], by rw [hU]; exact hPc, va_K.moved hW.alike hKc, hDc.weaken (fun _ _ _ _ => trivial)⟩⟩ rfl rfl hl.1 rfl (lv_room (Nat.le_of_ble_eq_true rfl)) dX11_row_13 ⟨Nat.le_of_ble_eq_true rfl, Nat.le_of_ble_eq_true rfl⟩) hS (fun q _ h => hFc q h) hFc (fun r_2 u t H1 locs ht hvm hw hB hz1 hk1 hS => ?_)
    obtain ⟨hP1, hK1, hD1⟩ := hB
    rw [ht] at hP1
    have hK1 := va_K.moved hvm.symm hK1
    obtain ⟨hP, hD⟩ := va_join (wr := [(h2, .inr (8, [.ref h8, .int (-1), .int 0, .int 0])), (h3, .inr (8, [.ref h9, .int (-1), .int 0, .int 0])), (h4, .inr (8, [.ref h10, .int (-1), .int 0, .int 0])), (h5, .inr (8, [.ref h11, .int (-1), .int 0, .int 0])), (h6, .inr (8, [.ref h12, .int (-1), .int 0, .int 0])), (h7, .inr (8, [.ref h13, .int (-1), .int 0, .int 0])), (h8, .inl (clong, 60, .inr (.inl (fun _ => 0)))), (h9, .inl (clong, 60, .inr (.inl (fun _ => 0)))), (h10, .inl (clong, 60, .inr (.inl (fun _ => 0)))), (h11, .inl (clong, 60, .inr (.inl (fun _ => 0)))), (h12, .inl (clong, 60, .inr (.inl (fun _ => 0)))), (h13, .inl (clong, 60, .inr (.inl (fun _ => 0)))), (h0, .inr (11, [.ref h14, .int 0, .ref h15, .ref h16, .ref h17, .ref h18, .ref h19, .ref h20, .ref h21, .ref h22, .ref h23, .int 0, .ref h24, .ref h1])), (h1, .inl (cOShelf, 6, .inr (.inr (.inr (.inr (va_up (va_up (va_up (va_up (va_up (va_up (fun _ => none) (0 : Int32).toNatClampNeg (some h2)) (1 : Int32).toNatClampNeg (some h3)) (2 : Int32).toNatClampNeg (some h4)) (3 : Int32).toNatClampNeg (some h5)) (4 : Int32).toNatClampNeg (some h6)) (5 : Int32).toNatClampNeg (some h7)))))))]) (w1 := []) hP hD [] [0, 1, 2, 3, 4, 5, 6, 7, 8, 9, 10, 11, 12, 13] rfl rfl (by decide) (by decide) hk1 hFc hP1 hD1
    generalize H1 = H at hP hS ⊢
    have hP : va_P (dC, dI) vwCl [(h2, .inr (8, [.ref h8, .int (-1), .int 0, .int 0])), (h3, .inr (8, [.ref h9, .int (-1), .int 0, .int 0])), (h4, .inr (8, [.ref h10, .int (-1), .int 0, .int 0])), (h5, .inr (8, [.ref h11, .int (-1), .int 0, .int 0])), (h6, .inr (8, [.ref h12, .int (-1), .int 0, .int 0])), (h7, .inr (8, [.ref h13, .int (-1), .int 0, .int 0])), (h8, .inl (clong, 60, .inr (.inl (fun _ => 0)))), (h9, .inl (clong, 60, .inr (.inl (fun _ => 0)))), (h10, .inl (clong, 60, .inr (.inl (fun _ => 0)))), (h11, .inl (clong, 60, .inr (.inl (fun _ => 0)))), (h12, .inl (clong, 60, .inr (.inl (fun _ => 0)))), (h13, .inl (clong, 60, .inr (.inl (fun _ => 0)))), (h0, .inr (11, [.ref h14, .int 0, .ref h15, .ref h16, .ref h17, .ref h18, .ref h19, .ref h20, .ref h21, .ref h22, .ref h23, .int 0, .ref h24, .ref h1])), (h1, .inl (cOShelf, 6, .inr (.inr (.inr (.inr (va_up (va_up (va_up (va_up (va_up (va_up (fun _ => none) (0 : Int32).toNatClampNeg (some h2)) (1 : Int32).toNatClampNeg (some h3)) (2 : Int32).toNatClampNeg (some h4)) (3 : Int32).toNatClampNeg (some h5)) (4 : Int32).toNatClampNeg (some h6)) (5 : Int32).toNatClampNeg (some h7)))))))] H := hP
    have hD : va_D A [(h2, .inr (8, [.ref h8, .int (-1), .int 0, .int 0])), (h3, .inr (8, [.ref h9, .int (-1), .int 0, .int 0])), (h4, .inr (8, [.ref h10, .int (-1), .int 0, .int 0])), (h5, .inr (8, [.ref h11, .int (-1), .int 0, .int 0])), (h6, .inr (8, [.ref h12, .int (-1), .int 0, .int 0])), (h7, .inr (8, [.ref h13, .int (-1), .int 0, .int 0])), (h8, .inl (clong, 60, .inr (.inl (fun _ => 0)))), (h9, .inl (clong, 60, .inr (.inl (fun _ => 0)))), (h10, .inl (clong, 60, .inr (.inl (fun _ => 0)))), (h11, .inl (clong, 60, .inr (.inl (fun _ => 0)))), (h12, .inl (clong, 60, .inr (.inl (fun _ => 0)))), (h13, .inl (clong, 60, .inr (.inl (fun _ => 0)))), (h0, .inr (11, [.ref h14, .int 0, .ref h15, .ref h16, .ref h17, .ref h18, .ref h19, .ref h20, .ref h21, .ref h22, .ref h23, .int 0, .ref h24, .ref h1])), (h1, .inl (cOShelf, 6, .inr (.inr (.inr (.inr (va_up (va_up (va_up (va_up (va_up (va_up (fun _ => none) (0 : Int32).toNatClampNeg (some h2)) (1 : Int32).toNatClampNeg (some h3)) (2 : Int32).toNatClampNeg (some h4)) (3 : Int32).toNatClampNeg (some h5)) (4 : Int32).toNatClampNeg (some h6)) (5 : Int32).toNatClampNeg (some h7)))))))] := hD
    rcases hw with ⟨t_2_0, rfl⟩ | ⟨t_2_0, t_2_1, rfl⟩ | ⟨t_2_0, t_2_1, rfl⟩
    · skip
      refine lv_if_eq (tgt := 25) hx hb dX11_row_16 (by decide) (fun _ => ?_) (fun c => absurd c (by decide))
      refine lv_iconst (v := (-1)) hx hb dX11_row_25 (by decide) ?_
      have hP9 := hP.sub (ws' := []) [] rfl
      have hD9 := hD.sub (ws' := []) [] (by decide) rfl
      have hK9 := hK.sub (tys' := []) [] rfl
      exact W.iret (v := (-1)) hx hb hr (fun t ht hW => ⟨⟨(-1), (), rfl, by first | rfl | ((repeat' split) <;> first | rfl | (exfalso; omega) | (exact Int32.toInt_inj.mp (by show ((-1) : Int) = _; omega))), by rw [ht]; exact hP9, va_K.moved hW.alike hK9, hD9⟩, hS.F ht⟩) hS.2.2 dX11_row_26
    · skip
      refine lv_if_eq (tgt := 25) hx hb dX11_row_16 (by decide) (fun _ => ?_) (fun c => absurd c (by decide))
      refine lv_iconst (v := (-1)) hx hb dX11_row_25 (by decide) ?_
      have hP9 := hP.sub (ws' := []) [] rfl
      have hD9 := hD.sub (ws' := []) [] (by decide) rfl
      have hK9 := hK.sub (tys' := []) [] rfl
      exact W.iret (v := (-1)) hx hb hr (fun t ht hW => ⟨⟨(-1), (), rfl, by first | rfl | ((repeat' split) <;> first | rfl | (exfalso; omega) | (exact Int32.toInt_inj.mp (by show ((-1) : Int) = _; omega))), by rw [ht]; exact hP9, va_K.moved hW.alike hK9, hD9⟩, hS.F ht⟩) hS.2.2 dX11_row_26
    · skip
      refine lv_if_eq (tgt := 25) hx hb dX11_row_16 (by decide) (fun c => absurd c (by decide)) (fun _ => ?_)
      refine lv_iload_n hx hb dX11_row_19 rfl (lv_at hl 4 rfl) ?_
      refine lv_bipush (v := 60) hx hb dX11_row_20 (by decide) ?_
      refine lv_icmp_le (tgt := 27) hx hb dX11_row_22 (by decide) (fun c_3 => ?_) (fun c_3 => ?_)
      · have t_3 : p2.toInt ≤ 60 := kk_le c_3
        refine lv_iload_n hx hb dX11_row_27 rfl (lv_at hl 4 rfl) ?_
        refine lv_if_ge (tgt := 34) hx hb dX11_row_28 (by decide) (fun c_4 => ?_) (fun c_4 => ?_)
        · have t_4 : 0 ≤ p2.toInt := kk_le c_4
          refine lv_aload hx hb dX11_row_34 (lv_at hl 0 rfl) ?_
          refine lv_iload_n hx hb dX11_row_36 rfl (lv_at hl 3 rfl) ?_
          refine lv_iload_n hx hb dX11_row_37 rfl (lv_at hl 4 rfl) ?_
          have hPc := hP.sub (ws' := [(h2, .inr (8, [.ref h8, .int (-1), .int 0, .int 0])), (h8, .inl (clong, 60, .inr (.inl (fun _ => 0))))]) [0, 6] rfl
          have hDc := hD.sub (ws' := [(h2, .inr (8, [.ref h8, .int (-1), .int 0, .int 0])), (h8, .inl (clong, 60, .inr (.inl (fun _ => 0))))]) [0, 6] (by decide) rfl
          have hKc := hK.sub (tys' := [(clong, .long)]) [1] rfl
          have hFc := va_free (wc := [(h2, .inr (8, [.ref h8, .int (-1), .int 0, .int 0])), (h8, .inl (clong, 60, .inr (.inl (fun _ => 0))))]) hD hS hA [0, 6] rfl
          refine va_callv (va_runV (As := [.int p1, .int p2]) (rest := []) ⟨hx, hb, hml, hown, hts⟩ (k_X8_holdRow_0 l dC dI h2 h8 clong H.size p1 p2) (cwV 2 hts gX11_row_X8_holdRow rfl rfl rfl (by decide +kernel) ⟨Nat.le_of_ble_eq_true rfl, Nat.le_of_ble_eq_true rfl⟩) ⟨fun a U g mk q => by obtain ⟨q0, q1, qP, qK, qD⟩ := q; exact ⟨q0, q1, qP, va_K.moved (u := U) (U := U.calling g mk a) (Vm.Alike.refl U.vm) qK, qD⟩, va_recv hKc hPc (ci := 8) (q0 := 0) rfl rfl, fun U hU hW => ⟨rfl, by rw [hU], by rw [hU]; exact hPc, va_K.moved hW.alike hKc, hDc.weaken (fun _ _ _ _ => trivial)⟩⟩ rfl rfl hl.1 rfl (lv_room (Nat.le_of_ble_eq_true rfl)) dX11_row_38 ⟨Nat.le_of_ble_eq_true rfl, Nat.le_of_ble_eq_true rfl⟩) hS (fun q _ h => hFc q h) hFc (fun u t H1 locs ht hvm hw hB hz1 hk1 hS => ?_)
          obtain ⟨hP1, hK1, hD1⟩ := hB
          rw [ht] at hP1
          have hK1 := va_K.moved hvm.symm hK1
          obtain ⟨hP, hD⟩ := va_join (wr := [(h3, .inr (8, [.ref h9, .int (-1), .int 0, .int 0])), (h4, .inr (8, [.ref h10, .int (-1), .int 0, .int 0])), (h5, .inr (8, [.ref h11, .int (-1), .int 0, .int 0])), (h6, .inr (8, [.ref h12, .int (-1), .int 0, .int 0])), (h7, .inr (8, [.ref h13, .int (-1), .int 0, .int 0])), (h9, .inl (clong, 60, .inr (.inl (fun _ => 0)))), (h10, .inl (clong, 60, .inr (.inl (fun _ => 0)))), (h11, .inl (clong, 60, .inr (.inl (fun _ => 0)))), (h12, .inl (clong, 60, .inr (.inl (fun _ => 0)))), (h13, .inl (clong, 60, .inr (.inl (fun _ => 0)))), (h0, .inr (11, [.ref h14, .int 0, .ref h15, .ref h16, .ref h17, .ref h18, .ref h19, .ref h20, .ref h21, .ref h22, .ref h23, .int 0, .ref h24, .ref h1])), (h1, .inl (cOShelf, 6, .inr (.inr (.inr (.inr (va_up (va_up (va_up (va_up (va_up (va_up (fun _ => none) (0 : Int32).toNatClampNeg (some h2)) (1 : Int32).toNatClampNeg (some h3)) (2 : Int32).toNatClampNeg (some h4)) (3 : Int32).toNatClampNeg (some h5)) (4 : Int32).toNatClampNeg (some h6)) (5 : Int32).toNatClampNeg (some h7)))))))]) (w1 := []) hP hD [0, 6] [1, 2, 3, 4, 5, 7, 8, 9, 10, 11, 12, 13] rfl rfl (by decide) (by decide) hk1 hFc hP1 hD1
          generalize H1 = H at hP hS ⊢
          have hP : va_P (dC, dI) vwCl [(h3, .inr (8, [.ref h9, .int (-1), .int 0, .int 0])), (h4, .inr (8, [.ref h10, .int (-1), .int 0, .int 0])), (h5, .inr (8, [.ref h11, .int (-1), .int 0, .int 0])), (h6, .inr (8, [.ref h12, .int (-1), .int 0, .int 0])), (h7, .inr (8, [.ref h13, .int (-1), .int 0, .int 0])), (h9, .inl (clong, 60, .inr (.inl (fun _ => 0)))), (h10, .inl (clong, 60, .inr (.inl (fun _ => 0)))), (h11, .inl (clong, 60, .inr (.inl (fun _ => 0)))), (h12, .inl (clong, 60, .inr (.inl (fun _ => 0)))), (h13, .inl (clong, 60, .inr (.inl (fun _ => 0)))), (h0, .inr (11, [.ref h14, .int 0, .ref h15, .ref h16, .ref h17, .ref h18, .ref h19, .ref h20, .ref h21, .ref h22, .ref h23, .int 0, .ref h24, .ref h1])), (h1, .inl (cOShelf, 6, .inr (.inr (.inr (.inr (va_up (va_up (va_up (va_up (va_up (va_up (fun _ => none) (0 : Int32).toNatClampNeg (some h2)) (1 : Int32).toNatClampNeg (some h3)) (2 : Int32).toNatClampNeg (some h4)) (3 : Int32).toNatClampNeg (some h5)) (4 : Int32).toNatClampNeg (some h6)) (5 : Int32).toNatClampNeg (some h7)))))))] H := hP
          have hD : va_D A [(h3, .inr (8, [.ref h9, .int (-1), .int 0, .int 0])), (h4, .inr (8, [.ref h10, .int (-1), .int 0, .int 0])), (h5, .inr (8, [.ref h11, .int (-1), .int 0, .int 0])), (h6, .inr (8, [.ref h12, .int (-1), .int 0, .int 0])), (h7, .inr (8, [.ref h13, .int (-1), .int 0, .int 0])), (h9, .inl (clong, 60, .inr (.inl (fun _ => 0)))), (h10, .inl (clong, 60, .inr (.inl (fun _ => 0)))), (h11, .inl (clong, 60, .inr (.inl (fun _ => 0)))), (h12, .inl (clong, 60, .inr (.inl (fun _ => 0)))), (h13, .inl (clong, 60, .inr (.inl (fun _ => 0)))), (h0, .inr (11, [.ref h14, .int 0, .ref h15, .ref h16, .ref h17, .ref h18, .ref h19, .ref h20, .ref h21, .ref h22, .ref h23, .int 0, .ref h24, .ref h1])), (h1, .inl (cOShelf, 6, .inr (.inr (.inr (.inr (va_up (va_up (va_up (va_up (va_up (va_up (fun _ => none) (0 : Int32).toNatClampNeg (some h2)) (1 : Int32).toNatClampNeg (some h3)) (2 : Int32).toNatClampNeg (some h4)) (3 : Int32).toNatClampNeg (some h5)) (4 : Int32).toNatClampNeg (some h6)) (5 : Int32).toNatClampNeg (some h7)))))))] := hD
          refine lv_iconst (v := 1) hx hb dX11_row_41 (by decide) ?_
          have hP9 := hP.sub (ws' := []) [] rfl
          have hD9 := hD.sub (ws' := []) [] (by decide) rfl
          have hK9 := hK.sub (tys' := []) [] rfl
          exact W.iret (v := 1) hx hb hr (fun t ht hW => ⟨⟨1, (), rfl, by first | rfl | ((repeat' split) <;> first | rfl | (exfalso; omega) | (exact Int32.toInt_inj.mp (by show (1 : Int) = _; omega))), by rw [ht]; exact hP9, va_K.moved hW.alike hK9, hD9⟩, hS.F ht⟩) hS.2.2 dX11_row_42
        · have t_4 : p2.toInt < 0 := kk_nle c_4
          refine lv_bipush (v := (-14)) hx hb dX11_row_31 (by decide) ?_
          have hP9 := hP.sub (ws' := []) [] rfl
          have hD9 := hD.sub (ws' := []) [] (by decide) rfl
          have hK9 := hK.sub (tys' := []) [] rfl
          exact W.iret (v := (-14)) hx hb hr (fun t ht hW => ⟨⟨(-14), (), rfl, by first | rfl | ((repeat' split) <;> first | rfl | (exfalso; omega) | (exact Int32.toInt_inj.mp (by show ((-14) : Int) = _; omega))), by rw [ht]; exact hP9, va_K.moved hW.alike hK9, hD9⟩, hS.F ht⟩) hS.2.2 dX11_row_33
      · have t_3 : 60 < p2.toInt := kk_nle c_3
        refine lv_iconst (v := (-1)) hx hb dX11_row_25 (by decide) ?_
        have hP9 := hP.sub (ws' := []) [] rfl
        have hD9 := hD.sub (ws' := []) [] (by decide) rfl
        have hK9 := hK.sub (tys' := []) [] rfl
        exact W.iret (v := (-1)) hx hb hr (fun t ht hW => ⟨⟨(-1), (), rfl, by first | rfl | ((repeat' split) <;> first | rfl | (exfalso; omega) | (exact Int32.toInt_inj.mp (by show ((-1) : Int) = _; omega))), by rw [ht]; exact hP9, va_K.moved hW.alike hK9, hD9⟩, hS.F ht⟩) hS.2.2 dX11_row_26
  · skip
    refine W.eq (g2 := F0 m 5 ls [.ref h3]) rfl ?_
    refine lv_astore (lv' := [(4, .ref h3), (0, .ref h0), (1, .int p0), (2, .int p1), (3, .int p2)]) hx hb dX11_row_5 hl (by decide) rfl (fun ls hl => ?_)
    refine lv_aload hx hb dX11_row_7 (lv_at hl 0 rfl) ?_
    refine lv_ifnull hx hb dX11_row_9 ?_
    refine lv_iload_n hx hb dX11_row_12 rfl (lv_at hl 3 rfl) ?_
    have hPc := hP.sub (ws' := []) [] rfl
    have hDc := hD.sub (ws' := []) [] (by decide) rfl
    have hKc := hK.sub (tys' := []) [] rfl
    have hFc := va_free (wc := []) hD hS hA [] rfl
    refine va_calli (va_runS (As := [.int p1]) (rest := []) ⟨hx, hb, hml, hown, hts⟩ (k_X8_isSort_0 l dC dI H.size p1) (va_cwS 1 hts gX11_row_X8_isSort rfl rfl rfl (by decide +kernel) ⟨Nat.le_of_ble_eq_true rfl, Nat.le_of_ble_eq_true rfl⟩) ⟨fun a U g mk q => by obtain ⟨q0, q1, qP, qK, qD⟩ := q; exact ⟨q0, q1, qP, va_K.moved (u := U) (U := U.calling g mk a) (Vm.Alike.refl U.vm) qK, qD⟩, fun U hU hW => ⟨rfl, by rw [hU], by rw [hU]; exact hPc, va_K.moved hW.alike hKc, hDc.weaken (fun _ _ _ _ => trivial)⟩⟩ rfl rfl hl.1 rfl (lv_room (Nat.le_of_ble_eq_true rfl)) dX11_row_13 ⟨Nat.le_of_ble_eq_true rfl, Nat.le_of_ble_eq_true rfl⟩) hS (fun q _ h => hFc q h) hFc (fun r_6 u t H1 locs ht hvm hw hB hz1 hk1 hS => ?_)
    obtain ⟨hP1, hK1, hD1⟩ := hB
    rw [ht] at hP1
    have hK1 := va_K.moved hvm.symm hK1
    obtain ⟨hP, hD⟩ := va_join (wr := [(h2, .inr (8, [.ref h8, .int (-1), .int 0, .int 0])), (h3, .inr (8, [.ref h9, .int (-1), .int 0, .int 0])), (h4, .inr (8, [.ref h10, .int (-1), .int 0, .int 0])), (h5, .inr (8, [.ref h11, .int (-1), .int 0, .int 0])), (h6, .inr (8, [.ref h12, .int (-1), .int 0, .int 0])), (h7, .inr (8, [.ref h13, .int (-1), .int 0, .int 0])), (h8, .inl (clong, 60, .inr (.inl (fun _ => 0)))), (h9, .inl (clong, 60, .inr (.inl (fun _ => 0)))), (h10, .inl (clong, 60, .inr (.inl (fun _ => 0)))), (h11, .inl (clong, 60, .inr (.inl (fun _ => 0)))), (h12, .inl (clong, 60, .inr (.inl (fun _ => 0)))), (h13, .inl (clong, 60, .inr (.inl (fun _ => 0)))), (h0, .inr (11, [.ref h14, .int 0, .ref h15, .ref h16, .ref h17, .ref h18, .ref h19, .ref h20, .ref h21, .ref h22, .ref h23, .int 0, .ref h24, .ref h1])), (h1, .inl (cOShelf, 6, .inr (.inr (.inr (.inr (va_up (va_up (va_up (va_up (va_up (va_up (fun _ => none) (0 : Int32).toNatClampNeg (some h2)) (1 : Int32).toNatClampNeg (some h3)) (2 : Int32).toNatClampNeg (some h4)) (3 : Int32).toNatClampNeg (some h5)) (4 : Int32).toNatClampNeg (some h6)) (5 : Int32).toNatClampNeg (some h7)))))))]) (w1 := []) hP hD [] [0, 1, 2, 3, 4, 5, 6, 7, 8, 9, 10, 11, 12, 13] rfl rfl (by decide) (by decide) hk1 hFc hP1 hD1
    generalize H1 = H at hP hS ⊢
    have hP : va_P (dC, dI) vwCl [(h2, .inr (8, [.ref h8, .int (-1), .int 0, .int 0])), (h3, .inr (8, [.ref h9, .int (-1), .int 0, .int 0])), (h4, .inr (8, [.ref h10, .int (-1), .int 0, .int 0])), (h5, .inr (8, [.ref h11, .int (-1), .int 0, .int 0])), (h6, .inr (8, [.ref h12, .int (-1), .int 0, .int 0])), (h7, .inr (8, [.ref h13, .int (-1), .int 0, .int 0])), (h8, .inl (clong, 60, .inr (.inl (fun _ => 0)))), (h9, .inl (clong, 60, .inr (.inl (fun _ => 0)))), (h10, .inl (clong, 60, .inr (.inl (fun _ => 0)))), (h11, .inl (clong, 60, .inr (.inl (fun _ => 0)))), (h12, .inl (clong, 60, .inr (.inl (fun _ => 0)))), (h13, .inl (clong, 60, .inr (.inl (fun _ => 0)))), (h0, .inr (11, [.ref h14, .int 0, .ref h15, .ref h16, .ref h17, .ref h18, .ref h19, .ref h20, .ref h21, .ref h22, .ref h23, .int 0, .ref h24, .ref h1])), (h1, .inl (cOShelf, 6, .inr (.inr (.inr (.inr (va_up (va_up (va_up (va_up (va_up (va_up (fun _ => none) (0 : Int32).toNatClampNeg (some h2)) (1 : Int32).toNatClampNeg (some h3)) (2 : Int32).toNatClampNeg (some h4)) (3 : Int32).toNatClampNeg (some h5)) (4 : Int32).toNatClampNeg (some h6)) (5 : Int32).toNatClampNeg (some h7)))))))] H := hP
    have hD : va_D A [(h2, .inr (8, [.ref h8, .int (-1), .int 0, .int 0])), (h3, .inr (8, [.ref h9, .int (-1), .int 0, .int 0])), (h4, .inr (8, [.ref h10, .int (-1), .int 0, .int 0])), (h5, .inr (8, [.ref h11, .int (-1), .int 0, .int 0])), (h6, .inr (8, [.ref h12, .int (-1), .int 0, .int 0])), (h7, .inr (8, [.ref h13, .int (-1), .int 0, .int 0])), (h8, .inl (clong, 60, .inr (.inl (fun _ => 0)))), (h9, .inl (clong, 60, .inr (.inl (fun _ => 0)))), (h10, .inl (clong, 60, .inr (.inl (fun _ => 0)))), (h11, .inl (clong, 60, .inr (.inl (fun _ => 0)))), (h12, .inl (clong, 60, .inr (.inl (fun _ => 0)))), (h13, .inl (clong, 60, .inr (.inl (fun _ => 0)))), (h0, .inr (11, [.ref h14, .int 0, .ref h15, .ref h16, .ref h17, .ref h18, .ref h19, .ref h20, .ref h21, .ref h22, .ref h23, .int 0, .ref h24, .ref h1])), (h1, .inl (cOShelf, 6, .inr (.inr (.inr (.inr (va_up (va_up (va_up (va_up (va_up (va_up (fun _ => none) (0 : Int32).toNatClampNeg (some h2)) (1 : Int32).toNatClampNeg (some h3)) (2 : Int32).toNatClampNeg (some h4)) (3 : Int32).toNatClampNeg (some h5)) (4 : Int32).toNatClampNeg (some h6)) (5 : Int32).toNatClampNeg (some h7)))))))] := hD
    rcases hw with ⟨t_6_0, rfl⟩ | ⟨t_6_0, t_6_1, rfl⟩ | ⟨t_6_0, t_6_1, rfl⟩
    · skip
      refine lv_if_eq (tgt := 25) hx hb dX11_row_16 (by decide) (fun _ => ?_) (fun c => absurd c (by decide))
      refine lv_iconst (v := (-1)) hx hb dX11_row_25 (by decide) ?_
      have hP9 := hP.sub (ws' := []) [] rfl
      have hD9 := hD.sub (ws' := []) [] (by decide) rfl
      have hK9 := hK.sub (tys' := []) [] rfl
      exact W.iret (v := (-1)) hx hb hr (fun t ht hW => ⟨⟨(-1), (), rfl, by first | rfl | ((repeat' split) <;> first | rfl | (exfalso; omega) | (exact Int32.toInt_inj.mp (by show ((-1) : Int) = _; omega))), by rw [ht]; exact hP9, va_K.moved hW.alike hK9, hD9⟩, hS.F ht⟩) hS.2.2 dX11_row_26
    · skip
      refine lv_if_eq (tgt := 25) hx hb dX11_row_16 (by decide) (fun _ => ?_) (fun c => absurd c (by decide))
      refine lv_iconst (v := (-1)) hx hb dX11_row_25 (by decide) ?_
      have hP9 := hP.sub (ws' := []) [] rfl
      have hD9 := hD.sub (ws' := []) [] (by decide) rfl
      have hK9 := hK.sub (tys' := []) [] rfl
      exact W.iret (v := (-1)) hx hb hr (fun t ht hW => ⟨⟨(-1), (), rfl, by first | rfl | ((repeat' split) <;> first | rfl | (exfalso; omega) | (exact Int32.toInt_inj.mp (by show ((-1) : Int) = _; omega))), by rw [ht]; exact hP9, va_K.moved hW.alike hK9, hD9⟩, hS.F ht⟩) hS.2.2 dX11_row_26
    · skip
      refine lv_if_eq (tgt := 25) hx hb dX11_row_16 (by decide) (fun c => absurd c (by decide)) (fun _ => ?_)
      refine lv_iload_n hx hb dX11_row_19 rfl (lv_at hl 4 rfl) ?_
      refine lv_bipush (v := 60) hx hb dX11_row_20 (by decide) ?_
      refine lv_icmp_le (tgt := 27) hx hb dX11_row_22 (by decide) (fun c_7 => ?_) (fun c_7 => ?_)
      · have t_7 : p2.toInt ≤ 60 := kk_le c_7
        refine lv_iload_n hx hb dX11_row_27 rfl (lv_at hl 4 rfl) ?_
        refine lv_if_ge (tgt := 34) hx hb dX11_row_28 (by decide) (fun c_8 => ?_) (fun c_8 => ?_)
        · have t_8 : 0 ≤ p2.toInt := kk_le c_8
          refine lv_aload hx hb dX11_row_34 (lv_at hl 0 rfl) ?_
          refine lv_iload_n hx hb dX11_row_36 rfl (lv_at hl 3 rfl) ?_
          refine lv_iload_n hx hb dX11_row_37 rfl (lv_at hl 4 rfl) ?_
          have hPc := hP.sub (ws' := [(h3, .inr (8, [.ref h9, .int (-1), .int 0, .int 0])), (h9, .inl (clong, 60, .inr (.inl (fun _ => 0))))]) [1, 7] rfl
          have hDc := hD.sub (ws' := [(h3, .inr (8, [.ref h9, .int (-1), .int 0, .int 0])), (h9, .inl (clong, 60, .inr (.inl (fun _ => 0))))]) [1, 7] (by decide) rfl
          have hKc := hK.sub (tys' := [(clong, .long)]) [1] rfl
          have hFc := va_free (wc := [(h3, .inr (8, [.ref h9, .int (-1), .int 0, .int 0])), (h9, .inl (clong, 60, .inr (.inl (fun _ => 0))))]) hD hS hA [1, 7] rfl
          refine va_callv (va_runV (As := [.int p1, .int p2]) (rest := []) ⟨hx, hb, hml, hown, hts⟩ (k_X8_holdRow_0 l dC dI h3 h9 clong H.size p1 p2) (cwV 2 hts gX11_row_X8_holdRow rfl rfl rfl (by decide +kernel) ⟨Nat.le_of_ble_eq_true rfl, Nat.le_of_ble_eq_true rfl⟩) ⟨fun a U g mk q => by obtain ⟨q0, q1, qP, qK, qD⟩ := q; exact ⟨q0, q1, qP, va_K.moved (u := U) (U := U.calling g mk a) (Vm.Alike.refl U.vm) qK, qD⟩, va_recv hKc hPc (ci := 8) (q0 := 0) rfl rfl, fun U hU hW => ⟨rfl, by rw [hU], by rw [hU]; exact hPc, va_K.moved hW.alike hKc, hDc.weaken (fun _ _ _ _ => trivial)⟩⟩ rfl rfl hl.1 rfl (lv_room (Nat.le_of_ble_eq_true rfl)) dX11_row_38 ⟨Nat.le_of_ble_eq_true rfl, Nat.le_of_ble_eq_true rfl⟩) hS (fun q _ h => hFc q h) hFc (fun u t H1 locs ht hvm hw hB hz1 hk1 hS => ?_)
          obtain ⟨hP1, hK1, hD1⟩ := hB
          rw [ht] at hP1
          have hK1 := va_K.moved hvm.symm hK1
          obtain ⟨hP, hD⟩ := va_join (wr := [(h2, .inr (8, [.ref h8, .int (-1), .int 0, .int 0])), (h4, .inr (8, [.ref h10, .int (-1), .int 0, .int 0])), (h5, .inr (8, [.ref h11, .int (-1), .int 0, .int 0])), (h6, .inr (8, [.ref h12, .int (-1), .int 0, .int 0])), (h7, .inr (8, [.ref h13, .int (-1), .int 0, .int 0])), (h8, .inl (clong, 60, .inr (.inl (fun _ => 0)))), (h10, .inl (clong, 60, .inr (.inl (fun _ => 0)))), (h11, .inl (clong, 60, .inr (.inl (fun _ => 0)))), (h12, .inl (clong, 60, .inr (.inl (fun _ => 0)))), (h13, .inl (clong, 60, .inr (.inl (fun _ => 0)))), (h0, .inr (11, [.ref h14, .int 0, .ref h15, .ref h16, .ref h17, .ref h18, .ref h19, .ref h20, .ref h21, .ref h22, .ref h23, .int 0, .ref h24, .ref h1])), (h1, .inl (cOShelf, 6, .inr (.inr (.inr (.inr (va_up (va_up (va_up (va_up (va_up (va_up (fun _ => none) (0 : Int32).toNatClampNeg (some h2)) (1 : Int32).toNatClampNeg (some h3)) (2 : Int32).toNatClampNeg (some h4)) (3 : Int32).toNatClampNeg (some h5)) (4 : Int32).toNatClampNeg (some h6)) (5 : Int32).toNatClampNeg (some h7)))))))]) (w1 := []) hP hD [1, 7] [0, 2, 3, 4, 5, 6, 8, 9, 10, 11, 12, 13] rfl rfl (by decide) (by decide) hk1 hFc hP1 hD1
          generalize H1 = H at hP hS ⊢
          have hP : va_P (dC, dI) vwCl [(h2, .inr (8, [.ref h8, .int (-1), .int 0, .int 0])), (h4, .inr (8, [.ref h10, .int (-1), .int 0, .int 0])), (h5, .inr (8, [.ref h11, .int (-1), .int 0, .int 0])), (h6, .inr (8, [.ref h12, .int (-1), .int 0, .int 0])), (h7, .inr (8, [.ref h13, .int (-1), .int 0, .int 0])), (h8, .inl (clong, 60, .inr (.inl (fun _ => 0)))), (h10, .inl (clong, 60, .inr (.inl (fun _ => 0)))), (h11, .inl (clong, 60, .inr (.inl (fun _ => 0)))), (h12, .inl (clong, 60, .inr (.inl (fun _ => 0)))), (h13, .inl (clong, 60, .inr (.inl (fun _ => 0)))), (h0, .inr (11, [.ref h14, .int 0, .ref h15, .ref h16, .ref h17, .ref h18, .ref h19, .ref h20, .ref h21, .ref h22, .ref h23, .int 0, .ref h24, .ref h1])), (h1, .inl (cOShelf, 6, .inr (.inr (.inr (.inr (va_up (va_up (va_up (va_up (va_up (va_up (fun _ => none) (0 : Int32).toNatClampNeg (some h2)) (1 : Int32).toNatClampNeg (some h3)) (2 : Int32).toNatClampNeg (some h4)) (3 : Int32).toNatClampNeg (some h5)) (4 : Int32).toNatClampNeg (some h6)) (5 : Int32).toNatClampNeg (some h7)))))))] H := hP
          have hD : va_D A [(h2, .inr (8, [.ref h8, .int (-1), .int 0, .int 0])), (h4, .inr (8, [.ref h10, .int (-1), .int 0, .int 0])), (h5, .inr (8, [.ref h11, .int (-1), .int 0, .int 0])), (h6, .inr (8, [.ref h12, .int (-1), .int 0, .int 0])), (h7, .inr (8, [.ref h13, .int (-1), .int 0, .int 0])), (h8, .inl (clong, 60, .inr (.inl (fun _ => 0)))), (h10, .inl (clong, 60, .inr (.inl (fun _ => 0)))), (h11, .inl (clong, 60, .inr (.inl (fun _ => 0)))), (h12, .inl (clong, 60, .inr (.inl (fun _ => 0)))), (h13, .inl (clong, 60, .inr (.inl (fun _ => 0)))), (h0, .inr (11, [.ref h14, .int 0, .ref h15, .ref h16, .ref h17, .ref h18, .ref h19, .ref h20, .ref h21, .ref h22, .ref h23, .int 0, .ref h24, .ref h1])), (h1, .inl (cOShelf, 6, .inr (.inr (.inr (.inr (va_up (va_up (va_up (va_up (va_up (va_up (fun _ => none) (0 : Int32).toNatClampNeg (some h2)) (1 : Int32).toNatClampNeg (some h3)) (2 : Int32).toNatClampNeg (some h4)) (3 : Int32).toNatClampNeg (some h5)) (4 : Int32).toNatClampNeg (some h6)) (5 : Int32).toNatClampNeg (some h7)))))))] := hD
          refine lv_iconst (v := 1) hx hb dX11_row_41 (by decide) ?_
          have hP9 := hP.sub (ws' := []) [] rfl
          have hD9 := hD.sub (ws' := []) [] (by decide) rfl
          have hK9 := hK.sub (tys' := []) [] rfl
          exact W.iret (v := 1) hx hb hr (fun t ht hW => ⟨⟨1, (), rfl, by first | rfl | ((repeat' split) <;> first | rfl | (exfalso; omega) | (exact Int32.toInt_inj.mp (by show (1 : Int) = _; omega))), by rw [ht]; exact hP9, va_K.moved hW.alike hK9, hD9⟩, hS.F ht⟩) hS.2.2 dX11_row_42
        · have t_8 : p2.toInt < 0 := kk_nle c_8
          refine lv_bipush (v := (-14)) hx hb dX11_row_31 (by decide) ?_
          have hP9 := hP.sub (ws' := []) [] rfl
          have hD9 := hD.sub (ws' := []) [] (by decide) rfl
          have hK9 := hK.sub (tys' := []) [] rfl
          exact W.iret (v := (-14)) hx hb hr (fun t ht hW => ⟨⟨(-14), (), rfl, by first | rfl | ((repeat' split) <;> first | rfl | (exfalso; omega) | (exact Int32.toInt_inj.mp (by show ((-14) : Int) = _; omega))), by rw [ht]; exact hP9, va_K.moved hW.alike hK9, hD9⟩, hS.F ht⟩) hS.2.2 dX11_row_33
      · have t_7 : 60 < p2.toInt := kk_nle c_7
        refine lv_iconst (v := (-1)) hx hb dX11_row_25 (by decide) ?_
        have hP9 := hP.sub (ws' := []) [] rfl
        have hD9 := hD.sub (ws' := []) [] (by decide) rfl
        have hK9 := hK.sub (tys' := []) [] rfl
        exact W.iret (v := (-1)) hx hb hr (fun t ht hW => ⟨⟨(-1), (), rfl, by first | rfl | ((repeat' split) <;> first | rfl | (exfalso; omega) | (exact Int32.toInt_inj.mp (by show ((-1) : Int) = _; omega))), by rw [ht]; exact hP9, va_K.moved hW.alike hK9, hD9⟩, hS.F ht⟩) hS.2.2 dX11_row_26
  · skip
    refine W.eq (g2 := F0 m 5 ls [.ref h4]) rfl ?_
    refine lv_astore (lv' := [(4, .ref h4), (0, .ref h0), (1, .int p0), (2, .int p1), (3, .int p2)]) hx hb dX11_row_5 hl (by decide) rfl (fun ls hl => ?_)
    refine lv_aload hx hb dX11_row_7 (lv_at hl 0 rfl) ?_
    refine lv_ifnull hx hb dX11_row_9 ?_
    refine lv_iload_n hx hb dX11_row_12 rfl (lv_at hl 3 rfl) ?_
    have hPc := hP.sub (ws' := []) [] rfl
    have hDc := hD.sub (ws' := []) [] (by decide) rfl
    have hKc := hK.sub (tys' := []) [] rfl
    have hFc := va_free (wc := []) hD hS hA [] rfl
    refine va_calli (va_runS (As := [.int p1]) (rest := []) ⟨hx, hb, hml, hown, hts⟩ (k_X8_isSort_0 l dC dI H.size p1) (va_cwS 1 hts gX11_row_X8_isSort rfl rfl rfl (by decide +kernel) ⟨Nat.le_of_ble_eq_true rfl, Nat.le_of_ble_eq_true rfl⟩) ⟨fun a U g mk q => by obtain ⟨q0, q1, qP, qK, qD⟩ := q; exact ⟨q0, q1, qP, va_K.moved (u := U) (U := U.calling g mk a) (Vm.Alike.refl U.vm) qK, qD⟩, fun U hU hW => ⟨rfl, by rw [hU], by rw [hU]; exact hPc, va_K.moved hW.alike hKc, hDc.weaken (fun _ _ _ _ => trivial)⟩⟩ rfl rfl hl.1 rfl (lv_room (Nat.le_of_ble_eq_true rfl)) dX11_row_13 ⟨Nat.le_of_ble_eq_true rfl, Nat.le_of_ble_eq_true rfl⟩) hS (fun q _ h => hFc q h) hFc (fun r_10 u t H1 locs ht hvm hw hB hz1 hk1 hS => ?_)
    obtain ⟨hP1, hK1, hD1⟩ := hB
    rw [ht] at hP1
    have hK1 := va_K.moved hvm.symm hK1
    obtain ⟨hP, hD⟩ := va_join (wr := [(h2, .inr (8, [.ref h8, .int (-1), .int 0, .int 0])), (h3, .inr (8, [.ref h9, .int (-1), .int 0, .int 0])), (h4, .inr (8, [.ref h10, .int (-1), .int 0, .int 0])), (h5, .inr (8, [.ref h11, .int (-1), .int 0, .int 0])), (h6, .inr (8, [.ref h12, .int (-1), .int 0, .int 0])), (h7, .inr (8, [.ref h13, .int (-1), .int 0, .int 0])), (h8, .inl (clong, 60, .inr (.inl (fun _ => 0)))), (h9, .inl (clong, 60, .inr (.inl (fun _ => 0)))), (h10, .inl (clong, 60, .inr (.inl (fun _ => 0)))), (h11, .inl (clong, 60, .inr (.inl (fun _ => 0)))), (h12, .inl (clong, 60, .inr (.inl (fun _ => 0)))), (h13, .inl (clong, 60, .inr (.inl (fun _ => 0)))), (h0, .inr (11, [.ref h14, .int 0, .ref h15, .ref h16, .ref h17, .ref h18, .ref h19, .ref h20, .ref h21, .ref h22, .ref h23, .int 0, .ref h24, .ref h1])), (h1, .inl (cOShelf, 6, .inr (.inr (.inr (.inr (va_up (va_up (va_up (va_up (va_up (va_up (fun _ => none) (0 : Int32).toNatClampNeg (some h2)) (1 : Int32).toNatClampNeg (some h3)) (2 : Int32).toNatClampNeg (some h4)) (3 : Int32).toNatClampNeg (some h5)) (4 : Int32).toNatClampNeg (some h6)) (5 : Int32).toNatClampNeg (some h7)))))))]) (w1 := []) hP hD [] [0, 1, 2, 3, 4, 5, 6, 7, 8, 9, 10, 11, 12, 13] rfl rfl (by decide) (by decide) hk1 hFc hP1 hD1
    generalize H1 = H at hP hS ⊢
    have hP : va_P (dC, dI) vwCl [(h2, .inr (8, [.ref h8, .int (-1), .int 0, .int 0])), (h3, .inr (8, [.ref h9, .int (-1), .int 0, .int 0])), (h4, .inr (8, [.ref h10, .int (-1), .int 0, .int 0])), (h5, .inr (8, [.ref h11, .int (-1), .int 0, .int 0])), (h6, .inr (8, [.ref h12, .int (-1), .int 0, .int 0])), (h7, .inr (8, [.ref h13, .int (-1), .int 0, .int 0])), (h8, .inl (clong, 60, .inr (.inl (fun _ => 0)))), (h9, .inl (clong, 60, .inr (.inl (fun _ => 0)))), (h10, .inl (clong, 60, .inr (.inl (fun _ => 0)))), (h11, .inl (clong, 60, .inr (.inl (fun _ => 0)))), (h12, .inl (clong, 60, .inr (.inl (fun _ => 0)))), (h13, .inl (clong, 60, .inr (.inl (fun _ => 0)))), (h0, .inr (11, [.ref h14, .int 0, .ref h15, .ref h16, .ref h17, .ref h18, .ref h19, .ref h20, .ref h21, .ref h22, .ref h23, .int 0, .ref h24, .ref h1])), (h1, .inl (cOShelf, 6, .inr (.inr (.inr (.inr (va_up (va_up (va_up (va_up (va_up (va_up (fun _ => none) (0 : Int32).toNatClampNeg (some h2)) (1 : Int32).toNatClampNeg (some h3)) (2 : Int32).toNatClampNeg (some h4)) (3 : Int32).toNatClampNeg (some h5)) (4 : Int32).toNatClampNeg (some h6)) (5 : Int32).toNatClampNeg (some h7)))))))] H := hP
    have hD : va_D A [(h2, .inr (8, [.ref h8, .int (-1), .int 0, .int 0])), (h3, .inr (8, [.ref h9, .int (-1), .int 0, .int 0])), (h4, .inr (8, [.ref h10, .int (-1), .int 0, .int 0])), (h5, .inr (8, [.ref h11, .int (-1), .int 0, .int 0])), (h6, .inr (8, [.ref h12, .int (-1), .int 0, .int 0])), (h7, .inr (8, [.ref h13, .int (-1), .int 0, .int 0])), (h8, .inl (clong, 60, .inr (.inl (fun _ => 0)))), (h9, .inl (clong, 60, .inr (.inl (fun _ => 0)))), (h10, .inl (clong, 60, .inr (.inl (fun _ => 0)))), (h11, .inl (clong, 60, .inr (.inl (fun _ => 0)))), (h12, .inl (clong, 60, .inr (.inl (fun _ => 0)))), (h13, .inl (clong, 60, .inr (.inl (fun _ => 0)))), (h0, .inr (11, [.ref h14, .int 0, .ref h15, .ref h16, .ref h17, .ref h18, .ref h19, .ref h20, .ref h21, .ref h22, .ref h23, .int 0, .ref h24, .ref h1])), (h1, .inl (cOShelf, 6, .inr (.inr (.inr (.inr (va_up (va_up (va_up (va_up (va_up (va_up (fun _ => none) (0 : Int32).toNatClampNeg (some h2)) (1 : Int32).toNatClampNeg (some h3)) (2 : Int32).toNatClampNeg (some h4)) (3 : Int32).toNatClampNeg (some h5)) (4 : Int32).toNatClampNeg (some h6)) (5 : Int32).toNatClampNeg (some h7)))))))] := hD
    rcases hw with ⟨t_10_0, rfl⟩ | ⟨t_10_0, t_10_1, rfl⟩ | ⟨t_10_0, t_10_1, rfl⟩
    · skip
      refine lv_if_eq (tgt := 25) hx hb dX11_row_16 (by decide) (fun _ => ?_) (fun c => absurd c (by decide))
      refine lv_iconst (v := (-1)) hx hb dX11_row_25 (by decide) ?_
      have hP9 := hP.sub (ws' := []) [] rfl
      have hD9 := hD.sub (ws' := []) [] (by decide) rfl
      have hK9 := hK.sub (tys' := []) [] rfl
      exact W.iret (v := (-1)) hx hb hr (fun t ht hW => ⟨⟨(-1), (), rfl, by first | rfl | ((repeat' split) <;> first | rfl | (exfalso; omega) | (exact Int32.toInt_inj.mp (by show ((-1) : Int) = _; omega))), by rw [ht]; exact hP9, va_K.moved hW.alike hK9, hD9⟩, hS.F ht⟩) hS.2.2 dX11_row_26
    · skip
      refine lv_if_eq (tgt := 25) hx hb dX11_row_16 (by decide) (fun _ => ?_) (fun c => absurd c (by decide))
      refine lv_iconst (v := (-1)) hx hb dX11_row_25 (by decide) ?_
      have hP9 := hP.sub (ws' := []) [] rfl
      have hD9 := hD.sub (ws' := []) [] (by decide) rfl
      have hK9 := hK.sub (tys' := []) [] rfl
      exact W.iret (v := (-1)) hx hb hr (fun t ht hW => ⟨⟨(-1), (), rfl, by first | rfl | ((repeat' split) <;> first | rfl | (exfalso; omega) | (exact Int32.toInt_inj.mp (by show ((-1) : Int) = _; omega))), by rw [ht]; exact hP9, va_K.moved hW.alike hK9, hD9⟩, hS.F ht⟩) hS.2.2 dX11_row_26
    · skip
      refine lv_if_eq (tgt := 25) hx hb dX11_row_16 (by decide) (fun c => absurd c (by decide)) (fun _ => ?_)
      refine lv_iload_n hx hb dX11_row_19 rfl (lv_at hl 4 rfl) ?_
      refine lv_bipush (v := 60) hx hb dX11_row_20 (by decide) ?_
      refine lv_icmp_le (tgt := 27) hx hb dX11_row_22 (by decide) (fun c_11 => ?_) (fun c_11 => ?_)
      · have t_11 : p2.toInt ≤ 60 := kk_le c_11
        refine lv_iload_n hx hb dX11_row_27 rfl (lv_at hl 4 rfl) ?_
        refine lv_if_ge (tgt := 34) hx hb dX11_row_28 (by decide) (fun c_12 => ?_) (fun c_12 => ?_)
        · have t_12 : 0 ≤ p2.toInt := kk_le c_12
          refine lv_aload hx hb dX11_row_34 (lv_at hl 0 rfl) ?_
          refine lv_iload_n hx hb dX11_row_36 rfl (lv_at hl 3 rfl) ?_
          refine lv_iload_n hx hb dX11_row_37 rfl (lv_at hl 4 rfl) ?_
          have hPc := hP.sub (ws' := [(h4, .inr (8, [.ref h10, .int (-1), .int 0, .int 0])), (h10, .inl (clong, 60, .inr (.inl (fun _ => 0))))]) [2, 8] rfl
          have hDc := hD.sub (ws' := [(h4, .inr (8, [.ref h10, .int (-1), .int 0, .int 0])), (h10, .inl (clong, 60, .inr (.inl (fun _ => 0))))]) [2, 8] (by decide) rfl
          have hKc := hK.sub (tys' := [(clong, .long)]) [1] rfl
          have hFc := va_free (wc := [(h4, .inr (8, [.ref h10, .int (-1), .int 0, .int 0])), (h10, .inl (clong, 60, .inr (.inl (fun _ => 0))))]) hD hS hA [2, 8] rfl
          refine va_callv (va_runV (As := [.int p1, .int p2]) (rest := []) ⟨hx, hb, hml, hown, hts⟩ (k_X8_holdRow_0 l dC dI h4 h10 clong H.size p1 p2) (cwV 2 hts gX11_row_X8_holdRow rfl rfl rfl (by decide +kernel) ⟨Nat.le_of_ble_eq_true rfl, Nat.le_of_ble_eq_true rfl⟩) ⟨fun a U g mk q => by obtain ⟨q0, q1, qP, qK, qD⟩ := q; exact ⟨q0, q1, qP, va_K.moved (u := U) (U := U.calling g mk a) (Vm.Alike.refl U.vm) qK, qD⟩, va_recv hKc hPc (ci := 8) (q0 := 0) rfl rfl, fun U hU hW => ⟨rfl, by rw [hU], by rw [hU]; exact hPc, va_K.moved hW.alike hKc, hDc.weaken (fun _ _ _ _ => trivial)⟩⟩ rfl rfl hl.1 rfl (lv_room (Nat.le_of_ble_eq_true rfl)) dX11_row_38 ⟨Nat.le_of_ble_eq_true rfl, Nat.le_of_ble_eq_true rfl⟩) hS (fun q _ h => hFc q h) hFc (fun u t H1 locs ht hvm hw hB hz1 hk1 hS => ?_)
          obtain ⟨hP1, hK1, hD1⟩ := hB
          rw [ht] at hP1
          have hK1 := va_K.moved hvm.symm hK1
          obtain ⟨hP, hD⟩ := va_join (wr := [(h2, .inr (8, [.ref h8, .int (-1), .int 0, .int 0])), (h3, .inr (8, [.ref h9, .int (-1), .int 0, .int 0])), (h5, .inr (8, [.ref h11, .int (-1), .int 0, .int 0])), (h6, .inr (8, [.ref h12, .int (-1), .int 0, .int 0])), (h7, .inr (8, [.ref h13, .int (-1), .int 0, .int 0])), (h8, .inl (clong, 60, .inr (.inl (fun _ => 0)))), (h9, .inl (clong, 60, .inr (.inl (fun _ => 0)))), (h11, .inl (clong, 60, .inr (.inl (fun _ => 0)))), (h12, .inl (clong, 60, .inr (.inl (fun _ => 0)))), (h13, .inl (clong, 60, .inr (.inl (fun _ => 0)))), (h0, .inr (11, [.ref h14, .int 0, .ref h15, .ref h16, .ref h17, .ref h18, .ref h19, .ref h20, .ref h21, .ref h22, .ref h23, .int 0, .ref h24, .ref h1])), (h1, .inl (cOShelf, 6, .inr (.inr (.inr (.inr (va_up (va_up (va_up (va_up (va_up (va_up (fun _ => none) (0 : Int32).toNatClampNeg (some h2)) (1 : Int32).toNatClampNeg (some h3)) (2 : Int32).toNatClampNeg (some h4)) (3 : Int32).toNatClampNeg (some h5)) (4 : Int32).toNatClampNeg (some h6)) (5 : Int32).toNatClampNeg (some h7)))))))]) (w1 := []) hP hD [2, 8] [0, 1, 3, 4, 5, 6, 7, 9, 10, 11, 12, 13] rfl rfl (by decide) (by decide) hk1 hFc hP1 hD1
          generalize H1 = H at hP hS ⊢
          have hP : va_P (dC, dI) vwCl [(h2, .inr (8, [.ref h8, .int (-1), .int 0, .int 0])), (h3, .inr (8, [.ref h9, .int (-1), .int 0, .int 0])), (h5, .inr (8, [.ref h11, .int (-1), .int 0, .int 0])), (h6, .inr (8, [.ref h12, .int (-1), .int 0, .int 0])), (h7, .inr (8, [.ref h13, .int (-1), .int 0, .int 0])), (h8, .inl (clong, 60, .inr (.inl (fun _ => 0)))), (h9, .inl (clong, 60, .inr (.inl (fun _ => 0)))), (h11, .inl (clong, 60, .inr (.inl (fun _ => 0)))), (h12, .inl (clong, 60, .inr (.inl (fun _ => 0)))), (h13, .inl (clong, 60, .inr (.inl (fun _ => 0)))), (h0, .inr (11, [.ref h14, .int 0, .ref h15, .ref h16, .ref h17, .ref h18, .ref h19, .ref h20, .ref h21, .ref h22, .ref h23, .int 0, .ref h24, .ref h1])), (h1, .inl (cOShelf, 6, .inr (.inr (.inr (.inr (va_up (va_up (va_up (va_up (va_up (va_up (fun _ => none) (0 : Int32).toNatClampNeg (some h2)) (1 : Int32).toNatClampNeg (some h3)) (2 : Int32).toNatClampNeg (some h4)) (3 : Int32).toNatClampNeg (some h5)) (4 : Int32).toNatClampNeg (some h6)) (5 : Int32).toNatClampNeg (some h7)))))))] H := hP
          have hD : va_D A [(h2, .inr (8, [.ref h8, .int (-1), .int 0, .int 0])), (h3, .inr (8, [.ref h9, .int (-1), .int 0, .int 0])), (h5, .inr (8, [.ref h11, .int (-1), .int 0, .int 0])), (h6, .inr (8, [.ref h12, .int (-1), .int 0, .int 0])), (h7, .inr (8, [.ref h13, .int (-1), .int 0, .int 0])), (h8, .inl (clong, 60, .inr (.inl (fun _ => 0)))), (h9, .inl (clong, 60, .inr (.inl (fun _ => 0)))), (h11, .inl (clong, 60, .inr (.inl (fun _ => 0)))), (h12, .inl (clong, 60, .inr (.inl (fun _ => 0)))), (h13, .inl (clong, 60, .inr (.inl (fun _ => 0)))), (h0, .inr (11, [.ref h14, .int 0, .ref h15, .ref h16, .ref h17, .ref h18, .ref h19, .ref h20, .ref h21, .ref h22, .ref h23, .int 0, .ref h24, .ref h1])), (h1, .inl (cOShelf, 6, .inr (.inr (.inr (.inr (va_up (va_up (va_up (va_up (va_up (va_up (fun _ => none) (0 : Int32).toNatClampNeg (some h2)) (1 : Int32).toNatClampNeg (some h3)) (2 : Int32).toNatClampNeg (some h4)) (3 : Int32).toNatClampNeg (some h5)) (4 : Int32).toNatClampNeg (some h6)) (5 : Int32).toNatClampNeg (some h7)))))))] := hD
          refine lv_iconst (v := 1) hx hb dX11_row_41 (by decide) ?_
          have hP9 := hP.sub (ws' := []) [] rfl
          have hD9 := hD.sub (ws' := []) [] (by decide) rfl
          have hK9 := hK.sub (tys' := []) [] rfl
          exact W.iret (v := 1) hx hb hr (fun t ht hW => ⟨⟨1, (), rfl, by first | rfl | ((repeat' split) <;> first | rfl | (exfalso; omega) | (exact Int32.toInt_inj.mp (by show (1 : Int) = _; omega))), by rw [ht]; exact hP9, va_K.moved hW.alike hK9, hD9⟩, hS.F ht⟩) hS.2.2 dX11_row_42
        · have t_12 : p2.toInt < 0 := kk_nle c_12
          refine lv_bipush (v := (-14)) hx hb dX11_row_31 (by decide) ?_
          have hP9 := hP.sub (ws' := []) [] rfl
          have hD9 := hD.sub (ws' := []) [] (by decide) rfl
          have hK9 := hK.sub (tys' := []) [] rfl
          exact W.iret (v := (-14)) hx hb hr (fun t ht hW => ⟨⟨(-14), (), rfl, by first | rfl | ((repeat' split) <;> first | rfl | (exfalso; omega) | (exact Int32.toInt_inj.mp (by show ((-14) : Int) = _; omega))), by rw [ht]; exact hP9, va_K.moved hW.alike hK9, hD9⟩, hS.F ht⟩) hS.2.2 dX11_row_33
      · have t_11 : 60 < p2.toInt := kk_nle c_11
        refine lv_iconst (v := (-1)) hx hb dX11_row_25 (by decide) ?_
        have hP9 := hP.sub (ws' := []) [] rfl
        have hD9 := hD.sub (ws' := []) [] (by decide) rfl
        have hK9 := hK.sub (tys' := []) [] rfl
        exact W.iret (v := (-1)) hx hb hr (fun t ht hW => ⟨⟨(-1), (), rfl, by first | rfl | ((repeat' split) <;> first | rfl | (exfalso; omega) | (exact Int32.toInt_inj.mp (by show ((-1) : Int) = _; omega))), by rw [ht]; exact hP9, va_K.moved hW.alike hK9, hD9⟩, hS.F ht⟩) hS.2.2 dX11_row_26
  · skip
    refine W.eq (g2 := F0 m 5 ls [.ref h5]) rfl ?_
    refine lv_astore (lv' := [(4, .ref h5), (0, .ref h0), (1, .int p0), (2, .int p1), (3, .int p2)]) hx hb dX11_row_5 hl (by decide) rfl (fun ls hl => ?_)
    refine lv_aload hx hb dX11_row_7 (lv_at hl 0 rfl) ?_
    refine lv_ifnull hx hb dX11_row_9 ?_
    refine lv_iload_n hx hb dX11_row_12 rfl (lv_at hl 3 rfl) ?_
    have hPc := hP.sub (ws' := []) [] rfl
    have hDc := hD.sub (ws' := []) [] (by decide) rfl
    have hKc := hK.sub (tys' := []) [] rfl
    have hFc := va_free (wc := []) hD hS hA [] rfl
    refine va_calli (va_runS (As := [.int p1]) (rest := []) ⟨hx, hb, hml, hown, hts⟩ (k_X8_isSort_0 l dC dI H.size p1) (va_cwS 1 hts gX11_row_X8_isSort rfl rfl rfl (by decide +kernel) ⟨Nat.le_of_ble_eq_true rfl, Nat.le_of_ble_eq_true rfl⟩) ⟨fun a U g mk q => by obtain ⟨q0, q1, qP, qK, qD⟩ := q; exact ⟨q0, q1, qP, va_K.moved (u := U) (U := U.calling g mk a) (Vm.Alike.refl U.vm) qK, qD⟩, fun U hU hW => ⟨rfl, by rw [hU], by rw [hU]; exact hPc, va_K.moved hW.alike hKc, hDc.weaken (fun _ _ _ _ => trivial)⟩⟩ rfl rfl hl.1 rfl (lv_room (Nat.le_of_ble_eq_true rfl)) dX11_row_13 ⟨Nat.le_of_ble_eq_true rfl, Nat.le_of_ble_eq_true rfl⟩) hS (fun q _ h => hFc q h) hFc (fun r_14 u t H1 locs ht hvm hw hB hz1 hk1 hS => ?_)
    obtain ⟨hP1, hK1, hD1⟩ := hB
    rw [ht] at hP1
    have hK1 := va_K.moved hvm.symm hK1
    obtain ⟨hP, hD⟩ := va_join (wr := [(h2, .inr (8, [.ref h8, .int (-1), .int 0, .int 0])), (h3, .inr (8, [.ref h9, .int (-1), .int 0, .int 0])), (h4, .inr (8, [.ref h10, .int (-1), .int 0, .int 0])), (h5, .inr (8, [.ref h11, .int (-1), .int 0, .int 0])), (h6, .inr (8, [.ref h12, .int (-1), .int 0, .int 0])), (h7, .inr (8, [.ref h13, .int (-1), .int 0, .int 0])), (h8, .inl (clong, 60, .inr (.inl (fun _ => 0)))), (h9, .inl (clong, 60, .inr (.inl (fun _ => 0)))), (h10, .inl (clong, 60, .inr (.inl (fun _ => 0)))), (h11, .inl (clong, 60, .inr (.inl (fun _ => 0)))), (h12, .inl (clong, 60, .inr (.inl (fun _ => 0)))), (h13, .inl (clong, 60, .inr (.inl (fun _ => 0)))), (h0, .inr (11, [.ref h14, .int 0, .ref h15, .ref h16, .ref h17, .ref h18, .ref h19, .ref h20, .ref h21, .ref h22, .ref h23, .int 0, .ref h24, .ref h1])), (h1, .inl (cOShelf, 6, .inr (.inr (.inr (.inr (va_up (va_up (va_up (va_up (va_up (va_up (fun _ => none) (0 : Int32).toNatClampNeg (some h2)) (1 : Int32).toNatClampNeg (some h3)) (2 : Int32).toNatClampNeg (some h4)) (3 : Int32).toNatClampNeg (some h5)) (4 : Int32).toNatClampNeg (some h6)) (5 : Int32).toNatClampNeg (some h7)))))))]) (w1 := []) hP hD [] [0, 1, 2, 3, 4, 5, 6, 7, 8, 9, 10, 11, 12, 13] rfl rfl (by decide) (by decide) hk1 hFc hP1 hD1
    generalize H1 = H at hP hS ⊢
    have hP : va_P (dC, dI) vwCl [(h2, .inr (8, [.ref h8, .int (-1), .int 0, .int 0])), (h3, .inr (8, [.ref h9, .int (-1), .int 0, .int 0])), (h4, .inr (8, [.ref h10, .int (-1), .int 0, .int 0])), (h5, .inr (8, [.ref h11, .int (-1), .int 0, .int 0])), (h6, .inr (8, [.ref h12, .int (-1), .int 0, .int 0])), (h7, .inr (8, [.ref h13, .int (-1), .int 0, .int 0])), (h8, .inl (clong, 60, .inr (.inl (fun _ => 0)))), (h9, .inl (clong, 60, .inr (.inl (fun _ => 0)))), (h10, .inl (clong, 60, .inr (.inl (fun _ => 0)))), (h11, .inl (clong, 60, .inr (.inl (fun _ => 0)))), (h12, .inl (clong, 60, .inr (.inl (fun _ => 0)))), (h13, .inl (clong, 60, .inr (.inl (fun _ => 0)))), (h0, .inr (11, [.ref h14, .int 0, .ref h15, .ref h16, .ref h17, .ref h18, .ref h19, .ref h20, .ref h21, .ref h22, .ref h23, .int 0, .ref h24, .ref h1])), (h1, .inl (cOShelf, 6, .inr (.inr (.inr (.inr (va_up (va_up (va_up (va_up (va_up (va_up (fun _ => none) (0 : Int32).toNatClampNeg (some h2)) (1 : Int32).toNatClampNeg (some h3)) (2 : Int32).toNatClampNeg (some h4)) (3 : Int32).toNatClampNeg (some h5)) (4 : Int32).toNatClampNeg (some h6)) (5 : Int32).toNatClampNeg (some h7)))))))] H := hP
    have hD : va_D A [(h2, .inr (8, [.ref h8, .int (-1), .int 0, .int 0])), (h3, .inr (8, [.ref h9, .int (-1), .int 0, .int 0])), (h4, .inr (8, [.ref h10, .int (-1), .int 0, .int 0])), (h5, .inr (8, [.ref h11, .int (-1), .int 0, .int 0])), (h6, .inr (8, [.ref h12, .int (-1), .int 0, .int 0])), (h7, .inr (8, [.ref h13, .int (-1), .int 0, .int 0])), (h8, .inl (clong, 60, .inr (.inl (fun _ => 0)))), (h9, .inl (clong, 60, .inr (.inl (fun _ => 0)))), (h10, .inl (clong, 60, .inr (.inl (fun _ => 0)))), (h11, .inl (clong, 60, .inr (.inl (fun _ => 0)))), (h12, .inl (clong, 60, .inr (.inl (fun _ => 0)))), (h13, .inl (clong, 60, .inr (.inl (fun _ => 0)))), (h0, .inr (11, [.ref h14, .int 0, .ref h15, .ref h16, .ref h17, .ref h18, .ref h19, .ref h20, .ref h21, .ref h22, .ref h23, .int 0, .ref h24, .ref h1])), (h1, .inl (cOShelf, 6, .inr (.inr (.inr (.inr (va_up (va_up (va_up (va_up (va_up (va_up (fun _ => none) (0 : Int32).toNatClampNeg (some h2)) (1 : Int32).toNatClampNeg (some h3)) (2 : Int32).toNatClampNeg (some h4)) (3 : Int32).toNatClampNeg (some h5)) (4 : Int32).toNatClampNeg (some h6)) (5 : Int32).toNatClampNeg (some h7)))))))] := hD
    rcases hw with ⟨t_14_0, rfl⟩ | ⟨t_14_0, t_14_1, rfl⟩ | ⟨t_14_0, t_14_1, rfl⟩
    · skip
      refine lv_if_eq (tgt := 25) hx hb dX11_row_16 (by decide) (fun _ => ?_) (fun c => absurd c (by decide))
      refine lv_iconst (v := (-1)) hx hb dX11_row_25 (by decide) ?_
      have hP9 := hP.sub (ws' := []) [] rfl
      have hD9 := hD.sub (ws' := []) [] (by decide) rfl
      have hK9 := hK.sub (tys' := []) [] rfl
      exact W.iret (v := (-1)) hx hb hr (fun t ht hW => ⟨⟨(-1), (), rfl, by first | rfl | ((repeat' split) <;> first | rfl | (exfalso; omega) | (exact Int32.toInt_inj.mp (by show ((-1) : Int) = _; omega))), by rw [ht]; exact hP9, va_K.moved hW.alike hK9, hD9⟩, hS.F ht⟩) hS.2.2 dX11_row_26
    · skip
      refine lv_if_eq (tgt := 25) hx hb dX11_row_16 (by decide) (fun _ => ?_) (fun c => absurd c (by decide))
      refine lv_iconst (v := (-1)) hx hb dX11_row_25 (by decide) ?_
      have hP9 := hP.sub (ws' := []) [] rfl
      have hD9 := hD.sub (ws' := []) [] (by decide) rfl
      have hK9 := hK.sub (tys' := []) [] rfl
      exact W.iret (v := (-1)) hx hb hr (fun t ht hW => ⟨⟨(-1), (), rfl, by first | rfl | ((repeat' split) <;> first | rfl | (exfalso; omega) | (exact Int32.toInt_inj.mp (by show ((-1) : Int) = _; omega))), by rw [ht]; exact hP9, va_K.moved hW.alike hK9, hD9⟩, hS.F ht⟩) hS.2.2 dX11_row_26
    · skip
      refine lv_if_eq (tgt := 25) hx hb dX11_row_16 (by decide) (fun c => absurd c (by decide)) (fun _ => ?_)
      refine lv_iload_n hx hb dX11_row_19 rfl (lv_at hl 4 rfl) ?_
      refine lv_bipush (v := 60) hx hb dX11_row_20 (by decide) ?_
      refine lv_icmp_le (tgt := 27) hx hb dX11_row_22 (by decide) (fun c_15 => ?_) (fun c_15 => ?_)
      · have t_15 : p2.toInt ≤ 60 := kk_le c_15
        refine lv_iload_n hx hb dX11_row_27 rfl (lv_at hl 4 rfl) ?_
        refine lv_if_ge (tgt := 34) hx hb dX11_row_28 (by decide) (fun c_16 => ?_) (fun c_16 => ?_)
        · have t_16 : 0 ≤ p2.toInt := kk_le c_16
          refine lv_aload hx hb dX11_row_34 (lv_at hl 0 rfl) ?_
          refine lv_iload_n hx hb dX11_row_36 rfl (lv_at hl 3 rfl) ?_
          refine lv_iload_n hx hb dX11_row_37 rfl (lv_at hl 4 rfl) ?_
          have hPc := hP.sub (ws' := [(h5, .inr (8, [.ref h11, .int (-1), .int 0, .int 0])), (h11, .inl (clong, 60, .inr (.inl (fun _ => 0))))]) [3, 9] rfl
          have hDc := hD.sub (ws' := [(h5, .inr (8, [.ref h11, .int (-1), .int 0, .int 0])), (h11, .inl (clong, 60, .inr (.inl (fun _ => 0))))]) [3, 9] (by decide) rfl
          have hKc := hK.sub (tys' := [(clong, .long)]) [1] rfl
          have hFc := va_free (wc := [(h5, .inr (8, [.ref h11, .int (-1), .int 0, .int 0])), (h11, .inl (clong, 60, .inr (.inl (fun _ => 0))))]) hD hS hA [3, 9] rfl
          refine va_callv (va_runV (As := [.int p1, .int p2]) (rest := []) ⟨hx, hb, hml, hown, hts⟩ (k_X8_holdRow_0 l dC dI h5 h11 clong H.size p1 p2) (cwV 2 hts gX11_row_X8_holdRow rfl rfl rfl (by decide +kernel) ⟨Nat.le_of_ble_eq_true rfl, Nat.le_of_ble_eq_true rfl⟩) ⟨fun a U g mk q => by obtain ⟨q0, q1, qP, qK, qD⟩ := q; exact ⟨q0, q1, qP, va_K.moved (u := U) (U := U.calling g mk a) (Vm.Alike.refl U.vm) qK, qD⟩, va_recv hKc hPc (ci := 8) (q0 := 0) rfl rfl, fun U hU hW => ⟨rfl, by rw [hU], by rw [hU]; exact hPc, va_K.moved hW.alike hKc, hDc.weaken (fun _ _ _ _ => trivial)⟩⟩ rfl rfl hl.1 rfl (lv_room (Nat.le_of_ble_eq_true rfl)) dX11_row_38 ⟨Nat.le_of_ble_eq_true rfl, Nat.le_of_ble_eq_true rfl⟩) hS (fun q _ h => hFc q h) hFc (fun u t H1 locs ht hvm hw hB hz1 hk1 hS => ?_)
          obtain ⟨hP1, hK1, hD1⟩ := hB
          rw [ht] at hP1
          have hK1 := va_K.moved hvm.symm hK1
          obtain ⟨hP, hD⟩ := va_join (wr := [(h2, .inr (8, [.ref h8, .int (-1), .int 0, .int 0])), (h3, .inr (8, [.ref h9, .int (-1), .int 0, .int 0])), (h4, .inr (8, [.ref h10, .int (-1), .int 0, .int 0])), (h6, .inr (8, [.ref h12, .int (-1), .int 0, .int 0])), (h7, .inr (8, [.ref h13, .int (-1), .int 0, .int 0])), (h8, .inl (clong, 60, .inr (.inl (fun _ => 0)))), (h9, .inl (clong, 60, .inr (.inl (fun _ => 0)))), (h10, .inl (clong, 60, .inr (.inl (fun _ => 0)))), (h12, .inl (clong, 60, .inr (.inl (fun _ => 0)))), (h13, .inl (clong, 60, .inr (.inl (fun _ => 0)))), (h0, .inr (11, [.ref h14, .int 0, .ref h15, .ref h16, .ref h17, .ref h18, .ref h19, .ref h20, .ref h21, .ref h22, .ref h23, .int 0, .ref h24, .ref h1])), (h1, .inl (cOShelf, 6, .inr (.inr (.inr (.inr (va_up (va_up (va_up (va_up (va_up (va_up (fun _ => none) (0 : Int32).toNatClampNeg (some h2)) (1 : Int32).toNatClampNeg (some h3)) (2 : Int32).toNatClampNeg (some h4)) (3 : Int32).toNatClampNeg (some h5)) (4 : Int32).toNatClampNeg (some h6)) (5 : Int32).toNatClampNeg (some h7)))))))]) (w1 := []) hP hD [3, 9] [0, 1, 2, 4, 5, 6, 7, 8, 10, 11, 12, 13] rfl rfl (by decide) (by decide) hk1 hFc hP1 hD1
          generalize H1 = H at hP hS ⊢
          have hP : va_P (dC, dI) vwCl [(h2, .inr (8, [.ref h8, .int (-1), .int 0, .int 0])), (h3, .inr (8, [.ref h9, .int (-1), .int 0, .int 0])), (h4, .inr (8, [.ref h10, .int (-1), .int 0, .int 0])), (h6, .inr (8, [.ref h12, .int (-1), .int 0, .int 0])), (h7, .inr (8, [.ref h13, .int (-1), .int 0, .int 0])), (h8, .inl (clong, 60, .inr (.inl (fun _ => 0)))), (h9, .inl (clong, 60, .inr (.inl (fun _ => 0)))), (h10, .inl (clong, 60, .inr (.inl (fun _ => 0)))), (h12, .inl (clong, 60, .inr (.inl (fun _ => 0)))), (h13, .inl (clong, 60, .inr (.inl (fun _ => 0)))), (h0, .inr (11, [.ref h14, .int 0, .ref h15, .ref h16, .ref h17, .ref h18, .ref h19, .ref h20, .ref h21, .ref h22, .ref h23, .int 0, .ref h24, .ref h1])), (h1, .inl (cOShelf, 6, .inr (.inr (.inr (.inr (va_up (va_up (va_up (va_up (va_up (va_up (fun _ => none) (0 : Int32).toNatClampNeg (some h2)) (1 : Int32).toNatClampNeg (some h3)) (2 : Int32).toNatClampNeg (some h4)) (3 : Int32).toNatClampNeg (some h5)) (4 : Int32).toNatClampNeg (some h6)) (5 : Int32).toNatClampNeg (some h7)))))))] H := hP
          have hD : va_D A [(h2, .inr (8, [.ref h8, .int (-1), .int 0, .int 0])), (h3, .inr (8, [.ref h9, .int (-1), .int 0, .int 0])), (h4, .inr (8, [.ref h10, .int (-1), .int 0, .int 0])), (h6, .inr (8, [.ref h12, .int (-1), .int 0, .int 0])), (h7, .inr (8, [.ref h13, .int (-1), .int 0, .int 0])), (h8, .inl (clong, 60, .inr (.inl (fun _ => 0)))), (h9, .inl (clong, 60, .inr (.inl (fun _ => 0)))), (h10, .inl (clong, 60, .inr (.inl (fun _ => 0)))), (h12, .inl (clong, 60, .inr (.inl (fun _ => 0)))), (h13, .inl (clong, 60, .inr (.inl (fun _ => 0)))), (h0, .inr (11, [.ref h14, .int 0, .ref h15, .ref h16, .ref h17, .ref h18, .ref h19, .ref h20, .ref h21, .ref h22, .ref h23, .int 0, .ref h24, .ref h1])), (h1, .inl (cOShelf, 6, .inr (.inr (.inr (.inr (va_up (va_up (va_up (va_up (va_up (va_up (fun _ => none) (0 : Int32).toNatClampNeg (some h2)) (1 : Int32).toNatClampNeg (some h3)) (2 : Int32).toNatClampNeg (some h4)) (3 : Int32).toNatClampNeg (some h5)) (4 : Int32).toNatClampNeg (some h6)) (5 : Int32).toNatClampNeg (some h7)))))))] := hD
          refine lv_iconst (v := 1) hx hb dX11_row_41 (by decide) ?_
          have hP9 := hP.sub (ws' := []) [] rfl
          have hD9 := hD.sub (ws' := []) [] (by decide) rfl
          have hK9 := hK.sub (tys' := []) [] rfl
          exact W.iret (v := 1) hx hb hr (fun t ht hW => ⟨⟨1, (), rfl, by first | rfl | ((repeat' split) <;> first | rfl | (exfalso; omega) | (exact Int32.toInt_inj.mp (by show (1 : Int) = _; omega))), by rw [ht]; exact hP9, va_K.moved hW.alike hK9, hD9⟩, hS.F ht⟩) hS.2.2 dX11_row_42
        · have t_16 : p2.toInt < 0 := kk_nle c_16
          refine lv_bipush (v := (-14)) hx hb dX11_row_31 (by decide) ?_
          have hP9 := hP.sub (ws' := []) [] rfl
          have hD9 := hD.sub (ws' := []) [] (by decide) rfl
          have hK9 := hK.sub (tys' := []) [] rfl
          exact W.iret (v := (-14)) hx hb hr (fun t ht hW => ⟨⟨(-14), (), rfl, by first | rfl | ((repeat' split) <;> first | rfl | (exfalso; omega) | (exact Int32.toInt_inj.mp (by show ((-14) : Int) = _; omega))), by rw [ht]; exact hP9, va_K.moved hW.alike hK9, hD9⟩, hS.F ht⟩) hS.2.2 dX11_row_33
      · have t_15 : 60 < p2.toInt := kk_nle c_15
        refine lv_iconst (v := (-1)) hx hb dX11_row_25 (by decide) ?_
        have hP9 := hP.sub (ws' := []) [] rfl
        have hD9 := hD.sub (ws' := []) [] (by decide) rfl
        have hK9 := hK.sub (tys' := []) [] rfl
        exact W.iret (v := (-1)) hx hb hr (fun t ht hW => ⟨⟨(-1), (), rfl, by first | rfl | ((repeat' split) <;> first | rfl | (exfalso; omega) | (exact Int32.toInt_inj.mp (by show ((-1) : Int) = _; omega))), by rw [ht]; exact hP9, va_K.moved hW.alike hK9, hD9⟩, hS.F ht⟩) hS.2.2 dX11_row_26
  · skip
    refine W.eq (g2 := F0 m 5 ls [.ref h6]) rfl ?_
    refine lv_astore (lv' := [(4, .ref h6), (0, .ref h0), (1, .int p0), (2, .int p1), (3, .int p2)]) hx hb dX11_row_5 hl (by decide) rfl (fun ls hl => ?_)
    refine lv_aload hx hb dX11_row_7 (lv_at hl 0 rfl) ?_
    refine lv_ifnull hx hb dX11_row_9 ?_
    refine lv_iload_n hx hb dX11_row_12 rfl (lv_at hl 3 rfl) ?_
    have hPc := hP.sub (ws' := []) [] rfl
    have hDc := hD.sub (ws' := []) [] (by decide) rfl
    have hKc := hK.sub (tys' := []) [] rfl
    have hFc := va_free (wc := []) hD hS hA [] rfl
    refine va_calli (va_runS (As := [.int p1]) (rest := []) ⟨hx, hb, hml, hown, hts⟩ (k_X8_isSort_0 l dC dI H.size p1) (va_cwS 1 hts gX11_row_X8_isSort rfl rfl rfl (by decide +kernel) ⟨Nat.le_of_ble_eq_true rfl, Nat.le_of_ble_eq_true rfl⟩) ⟨fun a U g mk q => by obtain ⟨q0, q1, qP, qK, qD⟩ := q; exact ⟨q0, q1, qP, va_K.moved (u := U) (U := U.calling g mk a) (Vm.Alike.refl U.vm) qK, qD⟩, fun U hU hW => ⟨rfl, by rw [hU], by rw [hU]; exact hPc, va_K.moved hW.alike hKc, hDc.weaken (fun _ _ _ _ => trivial)⟩⟩ rfl rfl hl.1 rfl (lv_room (Nat.le_of_ble_eq_true rfl)) dX11_row_13 ⟨Nat.le_of_ble_eq_true rfl, Nat.le_of_ble_eq_true rfl⟩) hS (fun q _ h => hFc q h) hFc (fun r_18 u t H1 locs ht hvm hw hB hz1 hk1 hS => ?_)
    obtain ⟨hP1, hK1, hD1⟩ := hB
    rw [ht] at hP1
    have hK1 := va_K.moved hvm.symm hK1
    obtain ⟨hP, hD⟩ := va_join (wr := [(h2, .inr (8, [.ref h8, .int (-1), .int 0, .int 0])), (h3, .inr (8, [.ref h9, .int (-1), .int 0, .int 0])), (h4, .inr (8, [.ref h10, .int (-1), .int 0, .int 0])), (h5, .inr (8, [.ref h11, .int (-1), .int 0, .int 0])), (h6, .inr (8, [.ref h12, .int (-1), .int 0, .int 0])), (h7, .inr (8, [.ref h13, .int (-1), .int 0, .int 0])), (h8, .inl (clong, 60, .inr (.inl (fun _ => 0)))), (h9, .inl (clong, 60, .inr (.inl (fun _ => 0)))), (h10, .inl (clong, 60, .inr (.inl (fun _ => 0)))), (h11, .inl (clong, 60, .inr (.inl (fun _ => 0)))), (h12, .inl (clong, 60, .inr (.inl (fun _ => 0)))), (h13, .inl (clong, 60, .inr (.inl (fun _ => 0)))), (h0, .inr (11, [.ref h14, .int 0, .ref h15, .ref h16, .ref h17, .ref h18, .ref h19, .ref h20, .ref h21, .ref h22, .ref h23, .int 0, .ref h24, .ref h1])), (h1, .inl (cOShelf, 6, .inr (.inr (.inr (.inr (va_up (va_up (va_up (va_up (va_up (va_up (fun _ => none) (0 : Int32).toNatClampNeg (some h2)) (1 : Int32).toNatClampNeg (some h3)) (2 : Int32).toNatClampNeg (some h4)) (3 : Int32).toNatClampNeg (some h5)) (4 : Int32).toNatClampNeg (some h6)) (5 : Int32).toNatClampNeg (some h7)))))))]) (w1 := []) hP hD [] [0, 1, 2, 3, 4, 5, 6, 7, 8, 9, 10, 11, 12, 13] rfl rfl (by decide) (by decide) hk1 hFc hP1 hD1
    generalize H1 = H at hP hS ⊢
    have hP : va_P (dC, dI) vwCl [(h2, .inr (8, [.ref h8, .int (-1), .int 0, .int 0])), (h3, .inr (8, [.ref h9, .int (-1), .int 0, .int 0])), (h4, .inr (8, [.ref h10, .int (-1), .int 0, .int 0])), (h5, .inr (8, [.ref h11, .int (-1), .int 0, .int 0])), (h6, .inr (8, [.ref h12, .int (-1), .int 0, .int 0])), (h7, .inr (8, [.ref h13, .int (-1), .int 0, .int 0])), (h8, .inl (clong, 60, .inr (.inl (fun _ => 0)))), (h9, .inl (clong, 60, .inr (.inl (fun _ => 0)))), (h10, .inl (clong, 60, .inr (.inl (fun _ => 0)))), (h11, .inl (clong, 60, .inr (.inl (fun _ => 0)))), (h12, .inl (clong, 60, .inr (.inl (fun _ => 0)))), (h13, .inl (clong, 60, .inr (.inl (fun _ => 0)))), (h0, .inr (11, [.ref h14, .int 0, .ref h15, .ref h16, .ref h17, .ref h18, .ref h19, .ref h20, .ref h21, .ref h22, .ref h23, .int 0, .ref h24, .ref h1])), (h1, .inl (cOShelf, 6, .inr (.inr (.inr (.inr (va_up (va_up (va_up (va_up (va_up (va_up (fun _ => none) (0 : Int32).toNatClampNeg (some h2)) (1 : Int32).toNatClampNeg (some h3)) (2 : Int32).toNatClampNeg (some h4)) (3 : Int32).toNatClampNeg (some h5)) (4 : Int32).toNatClampNeg (some h6)) (5 : Int32).toNatClampNeg (some h7)))))))] H := hP
    have hD : va_D A [(h2, .inr (8, [.ref h8, .int (-1), .int 0, .int 0])), (h3, .inr (8, [.ref h9, .int (-1), .int 0, .int 0])), (h4, .inr (8, [.ref h10, .int (-1), .int 0, .int 0])), (h5, .inr (8, [.ref h11, .int (-1), .int 0, .int 0])), (h6, .inr (8, [.ref h12, .int (-1), .int 0, .int 0])), (h7, .inr (8, [.ref h13, .int (-1), .int 0, .int 0])), (h8, .inl (clong, 60, .inr (.inl (fun _ => 0)))), (h9, .inl (clong, 60, .inr (.inl (fun _ => 0)))), (h10, .inl (clong, 60, .inr (.inl (fun _ => 0)))), (h11, .inl (clong, 60, .inr (.inl (fun _ => 0)))), (h12, .inl (clong, 60, .inr (.inl (fun _ => 0)))), (h13, .inl (clong, 60, .inr (.inl (fun _ => 0)))), (h0, .inr (11, [.ref h14, .int 0, .ref h15, .ref h16, .ref h17, .ref h18, .ref h19, .ref h20, .ref h21, .ref h22, .ref h23, .int 0, .ref h24, .ref h1])), (h1, .inl (cOShelf, 6, .inr (.inr (.inr (.inr (va_up (va_up (va_up (va_up (va_up (va_up (fun _ => none) (0 : Int32).toNatClampNeg (some h2)) (1 : Int32).toNatClampNeg (some h3)) (2 : Int32).toNatClampNeg (some h4)) (3 : Int32).toNatClampNeg (some h5)) (4 : Int32).toNatClampNeg (some h6)) (5 : Int32).toNatClampNeg (some h7)))))))] := hD
    rcases hw with ⟨t_18_0, rfl⟩ | ⟨t_18_0, t_18_1, rfl⟩ | ⟨t_18_0, t_18_1, rfl⟩
    · skip
      refine lv_if_eq (tgt := 25) hx hb dX11_row_16 (by decide) (fun _ => ?_) (fun c => absurd c (by decide))
      refine lv_iconst (v := (-1)) hx hb dX11_row_25 (by decide) ?_
      have hP9 := hP.sub (ws' := []) [] rfl
      have hD9 := hD.sub (ws' := []) [] (by decide) rfl
      have hK9 := hK.sub (tys' := []) [] rfl
      exact W.iret (v := (-1)) hx hb hr (fun t ht hW => ⟨⟨(-1), (), rfl, by first | rfl | ((repeat' split) <;> first | rfl | (exfalso; omega) | (exact Int32.toInt_inj.mp (by show ((-1) : Int) = _; omega))), by rw [ht]; exact hP9, va_K.moved hW.alike hK9, hD9⟩, hS.F ht⟩) hS.2.2 dX11_row_26
    · skip
      refine lv_if_eq (tgt := 25) hx hb dX11_row_16 (by decide) (fun _ => ?_) (fun c => absurd c (by decide))
      refine lv_iconst (v := (-1)) hx hb dX11_row_25 (by decide) ?_
      have hP9 := hP.sub (ws' := []) [] rfl
      have hD9 := hD.sub (ws' := []) [] (by decide) rfl
      have hK9 := hK.sub (tys' := []) [] rfl
      exact W.iret (v := (-1)) hx hb hr (fun t ht hW => ⟨⟨(-1), (), rfl, by first | rfl | ((repeat' split) <;> first | rfl | (exfalso; omega) | (exact Int32.toInt_inj.mp (by show ((-1) : Int) = _; omega))), by rw [ht]; exact hP9, va_K.moved hW.alike hK9, hD9⟩, hS.F ht⟩) hS.2.2 dX11_row_26
    · skip
      refine lv_if_eq (tgt := 25) hx hb dX11_row_16 (by decide) (fun c => absurd c (by decide)) (fun _ => ?_)
      refine lv_iload_n hx hb dX11_row_19 rfl (lv_at hl 4 rfl) ?_
      refine lv_bipush (v := 60) hx hb dX11_row_20 (by decide) ?_
      refine lv_icmp_le (tgt := 27) hx hb dX11_row_22 (by decide) (fun c_19 => ?_) (fun c_19 => ?_)
      · have t_19 : p2.toInt ≤ 60 := kk_le c_19
        refine lv_iload_n hx hb dX11_row_27 rfl (lv_at hl 4 rfl) ?_
        refine lv_if_ge (tgt := 34) hx hb dX11_row_28 (by decide) (fun c_20 => ?_) (fun c_20 => ?_)
        · have t_20 : 0 ≤ p2.toInt := kk_le c_20
          refine lv_aload hx hb dX11_row_34 (lv_at hl 0 rfl) ?_
          refine lv_iload_n hx hb dX11_row_36 rfl (lv_at hl 3 rfl) ?_
          refine lv_iload_n hx hb dX11_row_37 rfl (lv_at hl 4 rfl) ?_
          have hPc := hP.sub (ws' := [(h6, .inr (8, [.ref h12, .int (-1), .int 0, .int 0])), (h12, .inl (clong, 60, .inr (.inl (fun _ => 0))))]) [4, 10] rfl
          have hDc := hD.sub (ws' := [(h6, .inr (8, [.ref h12, .int (-1), .int 0, .int 0])), (h12, .inl (clong, 60, .inr (.inl (fun _ => 0))))]) [4, 10] (by decide) rfl
          have hKc := hK.sub (tys' := [(clong, .long)]) [1] rfl
          have hFc := va_free (wc := [(h6, .inr (8, [.ref h12, .int (-1), .int 0, .int 0])), (h12, .inl (clong, 60, .inr (.inl (fun _ => 0))))]) hD hS hA [4, 10] rfl
          refine va_callv (va_runV (As := [.int p1, .int p2]) (rest := []) ⟨hx, hb, hml, hown, hts⟩ (k_X8_holdRow_0 l dC dI h6 h12 clong H.size p1 p2) (cwV 2 hts gX11_row_X8_holdRow rfl rfl rfl (by decide +kernel) ⟨Nat.le_of_ble_eq_true rfl, Nat.le_of_ble_eq_true rfl⟩) ⟨fun a U g mk q => by obtain ⟨q0, q1, qP, qK, qD⟩ := q; exact ⟨q0, q1, qP, va_K.moved (u := U) (U := U.calling g mk a) (Vm.Alike.refl U.vm) qK, qD⟩, va_recv hKc hPc (ci := 8) (q0 := 0) rfl rfl, fun U hU hW => ⟨rfl, by rw [hU], by rw [hU]; exact hPc, va_K.moved hW.alike hKc, hDc.weaken (fun _ _ _ _ => trivial)⟩⟩ rfl rfl hl.1 rfl (lv_room (Nat.le_of_ble_eq_true rfl)) dX11_row_38 ⟨Nat.le_of_ble_eq_true rfl, Nat.le_of_ble_eq_true rfl⟩) hS (fun q _ h => hFc q h) hFc (fun u t H1 locs ht hvm hw hB hz1 hk1 hS => ?_)
          obtain ⟨hP1, hK1, hD1⟩ := hB
          rw [ht] at hP1
          have hK1 := va_K.moved hvm.symm hK1
          obtain ⟨hP, hD⟩ := va_join (wr := [(h2, .inr (8, [.ref h8, .int (-1), .int 0, .int 0])), (h3, .inr (8, [.ref h9, .int (-1), .int 0, .int 0])), (h4, .inr (8, [.ref h10, .int (-1), .int 0, .int 0])), (h5, .inr (8, [.ref h11, .int (-1), .int 0, .int 0])), (h7, .inr (8, [.ref h13, .int (-1), .int 0, .int 0])), (h8, .inl (clong, 60, .inr (.inl (fun _ => 0)))), (h9, .inl (clong, 60, .inr (.inl (fun _ => 0)))), (h10, .inl (clong, 60, .inr (.inl (fun _ => 0)))), (h11, .inl (clong, 60, .inr (.inl (fun _ => 0)))), (h13, .inl (clong, 60, .inr (.inl (fun _ => 0)))), (h0, .inr (11, [.ref h14, .int 0, .ref h15, .ref h16, .ref h17, .ref h18, .ref h19, .ref h20, .ref h21, .ref h22, .ref h23, .int 0, .ref h24, .ref h1])), (h1, .inl (cOShelf, 6, .inr (.inr (.inr (.inr (va_up (va_up (va_up (va_up (va_up (va_up (fun _ => none) (0 : Int32).toNatClampNeg (some h2)) (1 : Int32).toNatClampNeg (some h3)) (2 : Int32).toNatClampNeg (some h4)) (3 : Int32).toNatClampNeg (some h5)) (4 : Int32).toNatClampNeg (some h6)) (5 : Int32).toNatClampNeg (some h7)))))))]) (w1 := []) hP hD [4, 10] [0, 1, 2, 3, 5, 6, 7, 8, 9, 11, 12, 13] rfl rfl (by decide) (by decide) hk1 hFc hP1 hD1
          generalize H1 = H at hP hS ⊢
          have hP : va_P (dC, dI) vwCl [(h2, .inr (8, [.ref h8, .int (-1), .int 0, .int 0])), (h3, .inr (8, [.ref h9, .int (-1), .int 0, .int 0])), (h4, .inr (8, [.ref h10, .int (-1), .int 0, .int 0])), (h5, .inr (8, [.ref h11, .int (-1), .int 0, .int 0])), (h7, .inr (8, [.ref h13, .int (-1), .int 0, .int 0])), (h8, .inl (clong, 60, .inr (.inl (fun _ => 0)))), (h9, .inl (clong, 60, .inr (.inl (fun _ => 0)))), (h10, .inl (clong, 60, .inr (.inl (fun _ => 0)))), (h11, .inl (clong, 60, .inr (.inl (fun _ => 0)))), (h13, .inl (clong, 60, .inr (.inl (fun _ => 0)))), (h0, .inr (11, [.ref h14, .int 0, .ref h15, .ref h16, .ref h17, .ref h18, .ref h19, .ref h20, .ref h21, .ref h22, .ref h23, .int 0, .ref h24, .ref h1])), (h1, .inl (cOShelf, 6, .inr (.inr (.inr (.inr (va_up (va_up (va_up (va_up (va_up (va_up (fun _ => none) (0 : Int32).toNatClampNeg (some h2)) (1 : Int32).toNatClampNeg (some h3)) (2 : Int32).toNatClampNeg (some h4)) (3 : Int32).toNatClampNeg (some h5)) (4 : Int32).toNatClampNeg (some h6)) (5 : Int32).toNatClampNeg (some h7)))))))] H := hP
          have hD : va_D A [(h2, .inr (8, [.ref h8, .int (-1), .int 0, .int 0])), (h3, .inr (8, [.ref h9, .int (-1), .int 0, .int 0])), (h4, .inr (8, [.ref h10, .int (-1), .int 0, .int 0])), (h5, .inr (8, [.ref h11, .int (-1), .int 0, .int 0])), (h7, .inr (8, [.ref h13, .int (-1), .int 0, .int 0])), (h8, .inl (clong, 60, .inr (.inl (fun _ => 0)))), (h9, .inl (clong, 60, .inr (.inl (fun _ => 0)))), (h10, .inl (clong, 60, .inr (.inl (fun _ => 0)))), (h11, .inl (clong, 60, .inr (.inl (fun _ => 0)))), (h13, .inl (clong, 60, .inr (.inl (fun _ => 0)))), (h0, .inr (11, [.ref h14, .int 0, .ref h15, .ref h16, .ref h17, .ref h18, .ref h19, .ref h20, .ref h21, .ref h22, .ref h23, .int 0, .ref h24, .ref h1])), (h1, .inl (cOShelf, 6, .inr (.inr (.inr (.inr (va_up (va_up (va_up (va_up (va_up (va_up (fun _ => none) (0 : Int32).toNatClampNeg (some h2)) (1 : Int32).toNatClampNeg (some h3)) (2 : Int32).toNatClampNeg (some h4)) (3 : Int32).toNatClampNeg (some h5)) (4 : Int32).toNatClampNeg (some h6)) (5 : Int32).toNatClampNeg (some h7)))))))] := hD
          refine lv_iconst (v := 1) hx hb dX11_row_41 (by decide) ?_
          have hP9 := hP.sub (ws' := []) [] rfl
          have hD9 := hD.sub (ws' := []) [] (by decide) rfl
          have hK9 := hK.sub (tys' := []) [] rfl
          exact W.iret (v := 1) hx hb hr (fun t ht hW => ⟨⟨1, (), rfl, by first | rfl | ((repeat' split) <;> first | rfl | (exfalso; omega) | (exact Int32.toInt_inj.mp (by show (1 : Int) = _; omega))), by rw [ht]; exact hP9, va_K.moved hW.alike hK9, hD9⟩, hS.F ht⟩) hS.2.2 dX11_row_42
        · have t_20 : p2.toInt < 0 := kk_nle c_20
          refine lv_bipush (v := (-14)) hx hb dX11_row_31 (by decide) ?_
          have hP9 := hP.sub (ws' := []) [] rfl
          have hD9 := hD.sub (ws' := []) [] (by decide) rfl
          have hK9 := hK.sub (tys' := []) [] rfl
          exact W.iret (v := (-14)) hx hb hr (fun t ht hW => ⟨⟨(-14), (), rfl, by first | rfl | ((repeat' split) <;> first | rfl | (exfalso; omega) | (exact Int32.toInt_inj.mp (by show ((-14) : Int) = _; omega))), by rw [ht]; exact hP9, va_K.moved hW.alike hK9, hD9⟩, hS.F ht⟩) hS.2.2 dX11_row_33
      · have t_19 : 60 < p2.toInt := kk_nle c_19
        refine lv_iconst (v := (-1)) hx hb dX11_row_25 (by decide) ?_
        have hP9 := hP.sub (ws' := []) [] rfl
        have hD9 := hD.sub (ws' := []) [] (by decide) rfl
        have hK9 := hK.sub (tys' := []) [] rfl
        exact W.iret (v := (-1)) hx hb hr (fun t ht hW => ⟨⟨(-1), (), rfl, by first | rfl | ((repeat' split) <;> first | rfl | (exfalso; omega) | (exact Int32.toInt_inj.mp (by show ((-1) : Int) = _; omega))), by rw [ht]; exact hP9, va_K.moved hW.alike hK9, hD9⟩, hS.F ht⟩) hS.2.2 dX11_row_26
  · skip
    refine W.eq (g2 := F0 m 5 ls [.ref h7]) rfl ?_
    refine lv_astore (lv' := [(4, .ref h7), (0, .ref h0), (1, .int p0), (2, .int p1), (3, .int p2)]) hx hb dX11_row_5 hl (by decide) rfl (fun ls hl => ?_)
    refine lv_aload hx hb dX11_row_7 (lv_at hl 0 rfl) ?_
    refine lv_ifnull hx hb dX11_row_9 ?_
    refine lv_iload_n hx hb dX11_row_12 rfl (lv_at hl 3 rfl) ?_
    have hPc := hP.sub (ws' := []) [] rfl
    have hDc := hD.sub (ws' := []) [] (by decide) rfl
    have hKc := hK.sub (tys' := []) [] rfl
    have hFc := va_free (wc := []) hD hS hA [] rfl
    refine va_calli (va_runS (As := [.int p1]) (rest := []) ⟨hx, hb, hml, hown, hts⟩ (k_X8_isSort_0 l dC dI H.size p1) (va_cwS 1 hts gX11_row_X8_isSort rfl rfl rfl (by decide +kernel) ⟨Nat.le_of_ble_eq_true rfl, Nat.le_of_ble_eq_true rfl⟩) ⟨fun a U g mk q => by obtain ⟨q0, q1, qP, qK, qD⟩ := q; exact ⟨q0, q1, qP, va_K.moved (u := U) (U := U.calling g mk a) (Vm.Alike.refl U.vm) qK, qD⟩, fun U hU hW => ⟨rfl, by rw [hU], by rw [hU]; exact hPc, va_K.moved hW.alike hKc, hDc.weaken (fun _ _ _ _ => trivial)⟩⟩ rfl rfl hl.1 rfl (lv_room (Nat.le_of_ble_eq_true rfl)) dX11_row_13 ⟨Nat.le_of_ble_eq_true rfl, Nat.le_of_ble_eq_true rfl⟩) hS (fun q _ h => hFc q h) hFc (fun r_22 u t H1 locs ht hvm hw hB hz1 hk1 hS => ?_)
    obtain ⟨hP1, hK1, hD1⟩ := hB
    rw [ht] at hP1
    have hK1 := va_K.moved hvm.symm hK1
    obtain ⟨hP, hD⟩ := va_join (wr := [(h2, .inr (8, [.ref h8, .int (-1), .int 0, .int 0])), (h3, .inr (8, [.ref h9, .int (-1), .int 0, .int 0])), (h4, .inr (8, [.ref h10, .int (-1), .int 0, .int 0])), (h5, .inr (8, [.ref h11, .int (-1), .int 0, .int 0])), (h6, .inr (8, [.ref h12, .int (-1), .int 0, .int 0])), (h7, .inr (8, [.ref h13, .int (-1), .int 0, .int 0])), (h8, .inl (clong, 60, .inr (.inl (fun _ => 0)))), (h9, .inl (clong, 60, .inr (.inl (fun _ => 0)))), (h10, .inl (clong, 60, .inr (.inl (fun _ => 0)))), (h11, .inl (clong, 60, .inr (.inl (fun _ => 0)))), (h12, .inl (clong, 60, .inr (.inl (fun _ => 0)))), (h13, .inl (clong, 60, .inr (.inl (fun _ => 0)))), (h0, .inr (11, [.ref h14, .int 0, .ref h15, .ref h16, .ref h17, .ref h18, .ref h19, .ref h20, .ref h21, .ref h22, .ref h23, .int 0, .ref h24, .ref h1])), (h1, .inl (cOShelf, 6, .inr (.inr (.inr (.inr (va_up (va_up (va_up (va_up (va_up (va_up (fun _ => none) (0 : Int32).toNatClampNeg (some h2)) (1 : Int32).toNatClampNeg (some h3)) (2 : Int32).toNatClampNeg (some h4)) (3 : Int32).toNatClampNeg (some h5)) (4 : Int32).toNatClampNeg (some h6)) (5 : Int32).toNatClampNeg (some h7)))))))]) (w1 := []) hP hD [] [0, 1, 2, 3, 4, 5, 6, 7, 8, 9, 10, 11, 12, 13] rfl rfl (by decide) (by decide) hk1 hFc hP1 hD1
    generalize H1 = H at hP hS ⊢
    have hP : va_P (dC, dI) vwCl [(h2, .inr (8, [.ref h8, .int (-1), .int 0, .int 0])), (h3, .inr (8, [.ref h9, .int (-1), .int 0, .int 0])), (h4, .inr (8, [.ref h10, .int (-1), .int 0, .int 0])), (h5, .inr (8, [.ref h11, .int (-1), .int 0, .int 0])), (h6, .inr (8, [.ref h12, .int (-1), .int 0, .int 0])), (h7, .inr (8, [.ref h13, .int (-1), .int 0, .int 0])), (h8, .inl (clong, 60, .inr (.inl (fun _ => 0)))), (h9, .inl (clong, 60, .inr (.inl (fun _ => 0)))), (h10, .inl (clong, 60, .inr (.inl (fun _ => 0)))), (h11, .inl (clong, 60, .inr (.inl (fun _ => 0)))), (h12, .inl (clong, 60, .inr (.inl (fun _ => 0)))), (h13, .inl (clong, 60, .inr (.inl (fun _ => 0)))), (h0, .inr (11, [.ref h14, .int 0, .ref h15, .ref h16, .ref h17, .ref h18, .ref h19, .ref h20, .ref h21, .ref h22, .ref h23, .int 0, .ref h24, .ref h1])), (h1, .inl (cOShelf, 6, .inr (.inr (.inr (.inr (va_up (va_up (va_up (va_up (va_up (va_up (fun _ => none) (0 : Int32).toNatClampNeg (some h2)) (1 : Int32).toNatClampNeg (some h3)) (2 : Int32).toNatClampNeg (some h4)) (3 : Int32).toNatClampNeg (some h5)) (4 : Int32).toNatClampNeg (some h6)) (5 : Int32).toNatClampNeg (some h7)))))))] H := hP
    have hD : va_D A [(h2, .inr (8, [.ref h8, .int (-1), .int 0, .int 0])), (h3, .inr (8, [.ref h9, .int (-1), .int 0, .int 0])), (h4, .inr (8, [.ref h10, .int (-1), .int 0, .int 0])), (h5, .inr (8, [.ref h11, .int (-1), .int 0, .int 0])), (h6, .inr (8, [.ref h12, .int (-1), .int 0, .int 0])), (h7, .inr (8, [.ref h13, .int (-1), .int 0, .int 0])), (h8, .inl (clong, 60, .inr (.inl (fun _ => 0)))), (h9, .inl (clong, 60, .inr (.inl (fun _ => 0)))), (h10, .inl (clong, 60, .inr (.inl (fun _ => 0)))), (h11, .inl (clong, 60, .inr (.inl (fun _ => 0)))), (h12, .inl (clong, 60, .inr (.inl (fun _ => 0)))), (h13, .inl (clong, 60, .inr (.inl (fun _ => 0)))), (h0, .inr (11, [.ref h14, .int 0, .ref h15, .ref h16, .ref h17, .ref h18, .ref h19, .ref h20, .ref h21, .ref h22, .ref h23, .int 0, .ref h24, .ref h1])), (h1, .inl (cOShelf, 6, .inr (.inr (.inr (.inr (va_up (va_up (va_up (va_up (va_up (va_up (fun _ => none) (0 : Int32).toNatClampNeg (some h2)) (1 : Int32).toNatClampNeg (some h3)) (2 : Int32).toNatClampNeg (some h4)) (3 : Int32).toNatClampNeg (some h5)) (4 : Int32).toNatClampNeg (some h6)) (5 : Int32).toNatClampNeg (some h7)))))))] := hD
    rcases hw with ⟨t_22_0, rfl⟩ | ⟨t_22_0, t_22_1, rfl⟩ | ⟨t_22_0, t_22_1, rfl⟩
    · skip
      refine lv_if_eq (tgt := 25) hx hb dX11_row_16 (by decide) (fun _ => ?_) (fun c => absurd c (by decide))
      refine lv_iconst (v := (-1)) hx hb dX11_row_25 (by decide) ?_
      have hP9 := hP.sub (ws' := []) [] rfl
      have hD9 := hD.sub (ws' := []) [] (by decide) rfl
      have hK9 := hK.sub (tys' := []) [] rfl
      exact W.iret (v := (-1)) hx hb hr (fun t ht hW => ⟨⟨(-1), (), rfl, by first | rfl | ((repeat' split) <;> first | rfl | (exfalso; omega) | (exact Int32.toInt_inj.mp (by show ((-1) : Int) = _; omega))), by rw [ht]; exact hP9, va_K.moved hW.alike hK9, hD9⟩, hS.F ht⟩) hS.2.2 dX11_row_26
    · skip
      refine lv_if_eq (tgt := 25) hx hb dX11_row_16 (by decide) (fun _ => ?_) (fun c => absurd c (by decide))
      refine lv_iconst (v := (-1)) hx hb dX11_row_25 (by decide) ?_
      have hP9 := hP.sub (ws' := []) [] rfl
      have hD9 := hD.sub (ws' := []) [] (by decide) rfl
      have hK9 := hK.sub (tys' := []) [] rfl
      exact W.iret (v := (-1)) hx hb hr (fun t ht hW => ⟨⟨(-1), (), rfl, by first | rfl | ((repeat' split) <;> first | rfl | (exfalso; omega) | (exact Int32.toInt_inj.mp (by show ((-1) : Int) = _; omega))), by rw [ht]; exact hP9, va_K.moved hW.alike hK9, hD9⟩, hS.F ht⟩) hS.2.2 dX11_row_26
    · skip
      refine lv_if_eq (tgt := 25) hx hb dX11_row_16 (by decide) (fun c => absurd c (by decide)) (fun _ => ?_)
      refine lv_iload_n hx hb dX11_row_19 rfl (lv_at hl 4 rfl) ?_
      refine lv_bipush (v := 60) hx hb dX11_row_20 (by decide) ?_
      refine lv_icmp_le (tgt := 27) hx hb dX11_row_22 (by decide) (fun c_23 => ?_) (fun c_23 => ?_)
      · have t_23 : p2.toInt ≤ 60 := kk_le c_23
        refine lv_iload_n hx hb dX11_row_27 rfl (lv_at hl 4 rfl) ?_
        refine lv_if_ge (tgt := 34) hx hb dX11_row_28 (by decide) (fun c_24 => ?_) (fun c_24 => ?_)
        · have t_24 : 0 ≤ p2.toInt := kk_le c_24
          refine lv_aload hx hb dX11_row_34 (lv_at hl 0 rfl) ?_
          refine lv_iload_n hx hb dX11_row_36 rfl (lv_at hl 3 rfl) ?_
          refine lv_iload_n hx hb dX11_row_37 rfl (lv_at hl 4 rfl) ?_
          have hPc := hP.sub (ws' := [(h7, .inr (8, [.ref h13, .int (-1), .int 0, .int 0])), (h13, .inl (clong, 60, .inr (.inl (fun _ => 0))))]) [5, 11] rfl
          have hDc := hD.sub (ws' := [(h7, .inr (8, [.ref h13, .int (-1), .int 0, .int 0])), (h13, .inl (clong, 60, .inr (.inl (fun _ => 0))))]) [5, 11] (by decide) rfl
          have hKc := hK.sub (tys' := [(clong, .long)]) [1] rfl
          have hFc := va_free (wc := [(h7, .inr (8, [.ref h13, .int (-1), .int 0, .int 0])), (h13, .inl (clong, 60, .inr (.inl (fun _ => 0))))]) hD hS hA [5, 11] rfl
          refine va_callv (va_runV (As := [.int p1, .int p2]) (rest := []) ⟨hx, hb, hml, hown, hts⟩ (k_X8_holdRow_0 l dC dI h7 h13 clong H.size p1 p2) (cwV 2 hts gX11_row_X8_holdRow rfl rfl rfl (by decide +kernel) ⟨Nat.le_of_ble_eq_true rfl, Nat.le_of_ble_eq_true rfl⟩) ⟨fun a U g mk q => by obtain ⟨q0, q1, qP, qK, qD⟩ := q; exact ⟨q0, q1, qP, va_K.moved (u := U) (U := U.calling g mk a) (Vm.Alike.refl U.vm) qK, qD⟩, va_recv hKc hPc (ci := 8) (q0 := 0) rfl rfl, fun U hU hW => ⟨rfl, by rw [hU], by rw [hU]; exact hPc, va_K.moved hW.alike hKc, hDc.weaken (fun _ _ _ _ => trivial)⟩⟩ rfl rfl hl.1 rfl (lv_room (Nat.le_of_ble_eq_true rfl)) dX11_row_38 ⟨Nat.le_of_ble_eq_true rfl, Nat.le_of_ble_eq_true rfl⟩) hS (fun q _ h => hFc q h) hFc (fun u t H1 locs ht hvm hw hB hz1 hk1 hS => ?_)
          obtain ⟨hP1, hK1, hD1⟩ := hB
          rw [ht] at hP1
          have hK1 := va_K.moved hvm.symm hK1
          obtain ⟨hP, hD⟩ := va_join (wr := [(h2, .inr (8, [.ref h8, .int (-1), .int 0, .int 0])), (h3, .inr (8, [.ref h9, .int (-1), .int 0, .int 0])), (h4, .inr (8, [.ref h10, .int (-1), .int 0, .int 0])), (h5, .inr (8, [.ref h11, .int (-1), .int 0, .int 0])), (h6, .inr (8, [.ref h12, .int (-1), .int 0, .int 0])), (h8, .inl (clong, 60, .inr (.inl (fun _ => 0)))), (h9, .inl (clong, 60, .inr (.inl (fun _ => 0)))), (h10, .inl (clong, 60, .inr (.inl (fun _ => 0)))), (h11, .inl (clong, 60, .inr (.inl (fun _ => 0)))), (h12, .inl (clong, 60, .inr (.inl (fun _ => 0)))), (h0, .inr (11, [.ref h14, .int 0, .ref h15, .ref h16, .ref h17, .ref h18, .ref h19, .ref h20, .ref h21, .ref h22, .ref h23, .int 0, .ref h24, .ref h1])), (h1, .inl (cOShelf, 6, .inr (.inr (.inr (.inr (va_up (va_up (va_up (va_up (va_up (va_up (fun _ => none) (0 : Int32).toNatClampNeg (some h2)) (1 : Int32).toNatClampNeg (some h3)) (2 : Int32).toNatClampNeg (some h4)) (3 : Int32).toNatClampNeg (some h5)) (4 : Int32).toNatClampNeg (some h6)) (5 : Int32).toNatClampNeg (some h7)))))))]) (w1 := []) hP hD [5, 11] [0, 1, 2, 3, 4, 6, 7, 8, 9, 10, 12, 13] rfl rfl (by decide) (by decide) hk1 hFc hP1 hD1
          generalize H1 = H at hP hS ⊢
          have hP : va_P (dC, dI) vwCl [(h2, .inr (8, [.ref h8, .int (-1), .int 0, .int 0])), (h3, .inr (8, [.ref h9, .int (-1), .int 0, .int 0])), (h4, .inr (8, [.ref h10, .int (-1), .int 0, .int 0])), (h5, .inr (8, [.ref h11, .int (-1), .int 0, .int 0])), (h6, .inr (8, [.ref h12, .int (-1), .int 0, .int 0])), (h8, .inl (clong, 60, .inr (.inl (fun _ => 0)))), (h9, .inl (clong, 60, .inr (.inl (fun _ => 0)))), (h10, .inl (clong, 60, .inr (.inl (fun _ => 0)))), (h11, .inl (clong, 60, .inr (.inl (fun _ => 0)))), (h12, .inl (clong, 60, .inr (.inl (fun _ => 0)))), (h0, .inr (11, [.ref h14, .int 0, .ref h15, .ref h16, .ref h17, .ref h18, .ref h19, .ref h20, .ref h21, .ref h22, .ref h23, .int 0, .ref h24, .ref h1])), (h1, .inl (cOShelf, 6, .inr (.inr (.inr (.inr (va_up (va_up (va_up (va_up (va_up (va_up (fun _ => none) (0 : Int32).toNatClampNeg (some h2)) (1 : Int32).toNatClampNeg (some h3)) (2 : Int32).toNatClampNeg (some h4)) (3 : Int32).toNatClampNeg (some h5)) (4 : Int32).toNatClampNeg (some h6)) (5 : Int32).toNatClampNeg (some h7)))))))] H := hP
          have hD : va_D A [(h2, .inr (8, [.ref h8, .int (-1), .int 0, .int 0])), (h3, .inr (8, [.ref h9, .int (-1), .int 0, .int 0])), (h4, .inr (8, [.ref h10, .int (-1), .int 0, .int 0])), (h5, .inr (8, [.ref h11, .int (-1), .int 0, .int 0])), (h6, .inr (8, [.ref h12, .int (-1), .int 0, .int 0])), (h8, .inl (clong, 60, .inr (.inl (fun _ => 0)))), (h9, .inl (clong, 60, .inr (.inl (fun _ => 0)))), (h10, .inl (clong, 60, .inr (.inl (fun _ => 0)))), (h11, .inl (clong, 60, .inr (.inl (fun _ => 0)))), (h12, .inl (clong, 60, .inr (.inl (fun _ => 0)))), (h0, .inr (11, [.ref h14, .int 0, .ref h15, .ref h16, .ref h17, .ref h18, .ref h19, .ref h20, .ref h21, .ref h22, .ref h23, .int 0, .ref h24, .ref h1])), (h1, .inl (cOShelf, 6, .inr (.inr (.inr (.inr (va_up (va_up (va_up (va_up (va_up (va_up (fun _ => none) (0 : Int32).toNatClampNeg (some h2)) (1 : Int32).toNatClampNeg (some h3)) (2 : Int32).toNatClampNeg (some h4)) (3 : Int32).toNatClampNeg (some h5)) (4 : Int32).toNatClampNeg (some h6)) (5 : Int32).toNatClampNeg (some h7)))))))] := hD
          refine lv_iconst (v := 1) hx hb dX11_row_41 (by decide) ?_
          have hP9 := hP.sub (ws' := []) [] rfl
          have hD9 := hD.sub (ws' := []) [] (by decide) rfl
          have hK9 := hK.sub (tys' := []) [] rfl
          exact W.iret (v := 1) hx hb hr (fun t ht hW => ⟨⟨1, (), rfl, by first | rfl | ((repeat' split) <;> first | rfl | (exfalso; omega) | (exact Int32.toInt_inj.mp (by show (1 : Int) = _; omega))), by rw [ht]; exact hP9, va_K.moved hW.alike hK9, hD9⟩, hS.F ht⟩) hS.2.2 dX11_row_42
        · have t_24 : p2.toInt < 0 := kk_nle c_24
          refine lv_bipush (v := (-14)) hx hb dX11_row_31 (by decide) ?_
          have hP9 := hP.sub (ws' := []) [] rfl
          have hD9 := hD.sub (ws' := []) [] (by decide) rfl
          have hK9 := hK.sub (tys' := []) [] rfl
          exact W.iret (v := (-14)) hx hb hr (fun t ht hW => ⟨⟨(-14), (), rfl, by first | rfl | ((repeat' split) <;> first | rfl | (exfalso; omega) | (exact Int32.toInt_inj.mp (by show ((-14) : Int) = _; omega))), by rw [ht]; exact hP9, va_K.moved hW.alike hK9, hD9⟩, hS.F ht⟩) hS.2.2 dX11_row_33
      · have t_23 : 60 < p2.toInt := kk_nle c_23
        refine lv_iconst (v := (-1)) hx hb dX11_row_25 (by decide) ?_
        have hP9 := hP.sub (ws' := []) [] rfl
        have hD9 := hD.sub (ws' := []) [] (by decide) rfl
        have hK9 := hK.sub (tys' := []) [] rfl
        exact W.iret (v := (-1)) hx hb hr (fun t ht hW => ⟨⟨(-1), (), rfl, by first | rfl | ((repeat' split) <;> first | rfl | (exfalso; omega) | (exact Int32.toInt_inj.mp (by show ((-1) : Int) = _; omega))), by rw [ht]; exact hP9, va_K.moved hW.alike hK9, hD9⟩, hS.F ht⟩) hS.2.2 dX11_row_26
set_option maxHeartbeats 4000000 in
set_option maxRecDepth 100000 in
theorem k_X8_isEmpty_0 (l : Launch) (dC : Nat → ClassId) (dI : Nat → Nat → Nat) (h0 h1 : Nat) (sz : Nat)  : Met l yX8_isEmpty wsX8_isEmpty ({ frames := 0, cells := 0, slots := 0, locals := 0 }) (va_Pc [.ref h0] (fun U => U.heap.size = sz ∧ va_P (dC, dI) vwCl [(h0, .inr (8, [.ref h1, .int (-1), .int 0, .int 0]))] U.heap ∧ va_K (dC, dI) vwCl [] U ∧ va_D (fun _ => True) [(h0, .inr (8, [.ref h1, .int (-1), .int 0, .int 0]))])) (va_Qi (fun (r : Int32) (_ : Unit) => r = 1) (fun (_ : Unit) t => va_P (dC, dI) vwCl [(h0, .inr (8, [.ref h1, .int (-1), .int 0, .int 0]))] t.heap ∧ va_K (dC, dI) vwCl [] t ∧ va_D (va_A [(h0, .inr (8, [.ref h1, .int (-1), .int 0, .int 0]))] sz) [(h0, .inr (8, [.ref h1, .int (-1), .int 0, .int 0]))]) (va_A [(h0, .inr (8, [.ref h1, .int (-1), .int 0, .int 0]))] sz)) 0 0 (va_A [(h0, .inr (8, [.ref h1, .int (-1), .int 0, .int 0]))] sz) := by
  refine Met.ofW (cc := cX8_isEmpty) (maxL := 1) (ret := (some .boolean)) (by decide) rfl ?_
  intro p e s m args below meth c s₁ B hml hv
  obtain ⟨rfl, hsz, hP, hK, hD0⟩ := hv
  have hx := B.exec
  have hb := B.bytes
  have hr := B.returns
  have hts := atoms_spec (ws := wsX8_isEmpty) B.pre
  have hown : s.vm.findClass RX8 = some m.cls := findClass_of_methodNamed B.named
  have hlocks := B.notSynchronized
  subst hsz
  have hD := hD0.self (sz := s.heap.size)
  generalize hAe : va_A [(h0, .inr (8, [.ref h1, .int (-1), .int 0, .int 0]))] s.heap.size = A at hD ⊢
  have hA : ∀ q : Nat, s.heap.size ≤ q → A q := fun q h => by rw [← hAe]; exact Or.inr h
  have hS : va_S A s.heap s.heap [] := va_S.rf
  have hP : va_P (dC, dI) vwCl [(h0, .inr (8, [.ref h1, .int (-1), .int 0, .int 0]))] s.heap := hP
  have hl := lv_entry ([.ref h0]) (n := 1) (Nat.le_of_ble_eq_true rfl)
  rw [lg_entry_eq]
  generalize (lg_sl ([.ref h0]) ++ List.replicate (1 - (lg_sl ([.ref h0])).length) Slot.unset).toArray = ls at hl ⊢
  have hl : lv_has ls 1 [(0, .ref h0)] := hl
  refine lv_aload_n hx hb dX8_isEmpty_0 rfl (lv_at hl 0 rfl) ?_
  refine va_get (D := (dC, dI)) (ci := 8) (v := .int (-1)) (C := RX8) (T := TX8) (N := 4) hx hb hts (fun _ h => List.mem_cons_of_mem _ (List.mem_append_right _ h)) hown hK hP 0 rfl rfl 1 (by decide) (hts (.fieldLink RX8 15 "KinkStreet$Shelf" "holds" "I") (List.mem_of_getElem? (i := 1) rfl)) (fun _ h9 => h9) rfl dX8_isEmpty_1 ?_
  refine lv_iconst (v := (-1)) hx hb dX8_isEmpty_4 (by decide) ?_
  refine lv_icmp_ne (tgt := 12) hx hb dX8_isEmpty_5 (by decide) (fun c => absurd c (by decide)) (fun _ => ?_)
  refine lv_iconst (v := 1) hx hb dX8_isEmpty_8 (by decide) ?_
  refine lv_goto (tgt := 13) hx hb dX8_isEmpty_9 (by decide) ?_
  have hP9 := hP.sub (ws' := [(h0, .inr (8, [.ref h1, .int (-1), .int 0, .int 0]))]) [0] rfl
  have hD9 := hD.sub (ws' := [(h0, .inr (8, [.ref h1, .int (-1), .int 0, .int 0]))]) [0] (by decide) rfl
  have hK9 := hK.sub (tys' := []) [] rfl
  exact W.zret (v := 1) hx hb hr rfl (fun t ht hW => ⟨⟨1, (), rfl, rfl, by rw [ht]; exact hP9, va_K.moved hW.alike hK9, hD9⟩, hS.F ht⟩) hS.2.2 dX8_isEmpty_13
set_option maxHeartbeats 4000000 in
set_option maxRecDepth 100000 in
theorem k_X8_refusal_0 (l : Launch) (dC : Nat → ClassId) (dI : Nat → Nat → Nat) (h0 h1 : Nat) (sz : Nat) (p0 : Int32) : Met l yX8_refusal wsX8_refusal ({ frames := 1, cells := 0, slots := 0, locals := 20 }) (va_Pc [.ref h0, .int p0] (fun U => U.heap.size = sz ∧ va_P (dC, dI) vwCl [(h0, .inr (8, [.ref h1, .int (-1), .int 0, .int 0]))] U.heap ∧ va_K (dC, dI) vwCl [] U ∧ va_D (fun _ => True) [(h0, .inr (8, [.ref h1, .int (-1), .int 0, .int 0]))])) (va_Qi (fun (r : Int32) (_ : Unit) => r = (-11)) (fun (_ : Unit) t => va_P (dC, dI) vwCl [(h0, .inr (8, [.ref h1, .int (-1), .int 0, .int 0]))] t.heap ∧ va_K (dC, dI) vwCl [] t ∧ va_D (va_A [(h0, .inr (8, [.ref h1, .int (-1), .int 0, .int 0]))] sz) [(h0, .inr (8, [.ref h1, .int (-1), .int 0, .int 0]))]) (va_A [(h0, .inr (8, [.ref h1, .int (-1), .int 0, .int 0]))] sz)) 0 0 (va_A [(h0, .inr (8, [.ref h1, .int (-1), .int 0, .int 0]))] sz) := by
  refine Met.ofW (cc := cX8_refusal) (maxL := 2) (ret := (some .int)) (by decide) rfl ?_
  intro p e s m args below meth c s₁ B hml hv
  obtain ⟨rfl, hsz, hP, hK, hD0⟩ := hv
  have hx := B.exec
  have hb := B.bytes
  have hr := B.returns
  have hts := atoms_spec (ws := wsX8_refusal) B.pre
  have hown : s.vm.findClass RX8 = some m.cls := findClass_of_methodNamed B.named
  have hlocks := B.notSynchronized
  subst hsz
  have hD := hD0.self (sz := s.heap.size)
  generalize hAe : va_A [(h0, .inr (8, [.ref h1, .int (-1), .int 0, .int 0]))] s.heap.size = A at hD ⊢
  have hA : ∀ q : Nat, s.heap.size ≤ q → A q := fun q h => by rw [← hAe]; exact Or.inr h
  have hS : va_S A s.heap s.heap [] := va_S.rf
  have hP : va_P (dC, dI) vwCl [(h0, .inr (8, [.ref h1, .int (-1), .int 0, .int 0]))] s.heap := hP
  have hl := lv_entry ([.ref h0, .int p0]) (n := 2) (Nat.le_of_ble_eq_true rfl)
  rw [lg_entry_eq]
  generalize (lg_sl ([.ref h0, .int p0]) ++ List.replicate (2 - (lg_sl ([.ref h0, .int p0])).length) Slot.unset).toArray = ls at hl ⊢
  have hl : lv_has ls 2 [(0, .ref h0), (1, .int p0)] := hl
  refine lv_aload_n hx hb dX8_refusal_0 rfl (lv_at hl 0 rfl) ?_
  have hPc := hP.sub (ws' := [(h0, .inr (8, [.ref h1, .int (-1), .int 0, .int 0]))]) [0] rfl
  have hDc := hD.sub (ws' := [(h0, .inr (8, [.ref h1, .int (-1), .int 0, .int 0]))]) [0] (by decide) rfl
  have hKc := hK.sub (tys' := []) [] rfl
  have hFc := va_free (wc := [(h0, .inr (8, [.ref h1, .int (-1), .int 0, .int 0]))]) hD hS hA [0] rfl
  refine va_calli (va_runV (As := []) (rest := []) ⟨hx, hb, hml, hown, hts⟩ (k_X8_isEmpty_0 l dC dI h0 h1 s.heap.size) (cwV 0 hts gX8_refusal_X8_isEmpty rfl rfl rfl (by decide +kernel) ⟨Nat.le_of_ble_eq_true rfl, Nat.le_of_ble_eq_true rfl⟩) ⟨fun a U g mk q => by obtain ⟨q0, q1, qP, qK, qD⟩ := q; exact ⟨q0, q1, qP, va_K.moved (u := U) (U := U.calling g mk a) (Vm.Alike.refl U.vm) qK, qD⟩, va_recv hKc hPc (ci := 8) (q0 := 0) rfl rfl, fun U hU hW => ⟨rfl, by rw [hU], by rw [hU]; exact hPc, va_K.moved hW.alike hKc, hDc.weaken (fun _ _ _ _ => trivial)⟩⟩ rfl rfl hl.1 rfl (lv_room (Nat.le_of_ble_eq_true rfl)) dX8_refusal_1 ⟨Nat.le_of_ble_eq_true rfl, Nat.le_of_ble_eq_true rfl⟩) hS (fun q _ h => hFc q h) hFc (fun r_1 u t H1 locs ht hvm hw hB hz1 hk1 hS => ?_)
  obtain ⟨hP1, hK1, hD1⟩ := hB
  rw [ht] at hP1
  have hK1 := va_K.moved hvm.symm hK1
  obtain ⟨hP, hD⟩ := va_join (wr := []) (w1 := [(h0, .inr (8, [.ref h1, .int (-1), .int 0, .int 0]))]) hP hD [0] [] rfl rfl (by decide) (by decide) hk1 hFc hP1 hD1
  generalize H1 = H at hP hS ⊢
  have hP : va_P (dC, dI) vwCl [(h0, .inr (8, [.ref h1, .int (-1), .int 0, .int 0]))] H := hP
  have hD : va_D A [(h0, .inr (8, [.ref h1, .int (-1), .int 0, .int 0]))] := hD
  obtain rfl := hw
  refine lv_if_eq (tgt := 10) hx hb dX8_refusal_4 (by decide) (fun c => absurd c (by decide)) (fun _ => ?_)
  refine lv_bipush (v := (-11)) hx hb dX8_refusal_7 (by decide) ?_
  have hP9 := hP.sub (ws' := [(h0, .inr (8, [.ref h1, .int (-1), .int 0, .int 0]))]) [0] rfl
  have hD9 := hD.sub (ws' := [(h0, .inr (8, [.ref h1, .int (-1), .int 0, .int 0]))]) [0] (by decide) rfl
  have hK9 := hK.sub (tys' := []) [] rfl
  exact W.iret (v := (-11)) hx hb hr (fun t ht hW => ⟨⟨(-11), (), rfl, rfl, by rw [ht]; exact hP9, va_K.moved hW.alike hK9, hD9⟩, hS.F ht⟩) hS.2.2 dX8_refusal_9
set_option maxHeartbeats 4000000 in
set_option maxRecDepth 100000 in
theorem k_X11_put_0 (l : Launch) (dC : Nat → ClassId) (dI : Nat → Nat → Nat) (h0 h1 h2 h3 h4 h5 h6 h7 h8 h9 h10 h11 h12 h13 h14 h15 h16 h17 h18 h19 h20 h21 h22 h23 h24 : Nat) (cOShelf : ClassId) (sz : Nat) (p0 : Int32) (p1 : Int32) (v2 : Int64) (xv2 : Int) (exv2 : v2.toInt = xv2) : Met l yX11_put wsX11_put ({ frames := 2, cells := 0, slots := 0, locals := 41 }) (va_Pc [.ref h0, .int p0, .int p1, .long v2] (fun U => U.heap.size = sz ∧ va_P (dC, dI) vwCl [(h0, .inr (11, [.ref h8, .int 0, .ref h9, .ref h10, .ref h11, .ref h12, .ref h13, .ref h14, .ref h15, .ref h16, .ref h17, .int 0, .ref h18, .ref h1])), (h1, .inl (cOShelf, 6, .inr (.inr (.inr (.inr (va_up (va_up (va_up (va_up (va_up (va_up (fun _ => none) (0 : Int32).toNatClampNeg (some h2)) (1 : Int32).toNatClampNeg (some h3)) (2 : Int32).toNatClampNeg (some h4)) (3 : Int32).toNatClampNeg (some h5)) (4 : Int32).toNatClampNeg (some h6)) (5 : Int32).toNatClampNeg (some h7))))))), (h2, .inr (8, [.ref h19, .int (-1), .int 0, .int 0])), (h3, .inr (8, [.ref h20, .int (-1), .int 0, .int 0])), (h4, .inr (8, [.ref h21, .int (-1), .int 0, .int 0])), (h5, .inr (8, [.ref h22, .int (-1), .int 0, .int 0])), (h6, .inr (8, [.ref h23, .int (-1), .int 0, .int 0])), (h7, .inr (8, [.ref h24, .int (-1), .int 0, .int 0]))] U.heap ∧ va_K (dC, dI) vwCl [(cOShelf, .object "KinkStreet$Shelf")] U ∧ va_D (fun _ => True) [(h0, .inr (11, [.ref h8, .int 0, .ref h9, .ref h10, .ref h11, .ref h12, .ref h13, .ref h14, .ref h15, .ref h16, .ref h17, .int 0, .ref h18, .ref h1])), (h1, .inl (cOShelf, 6, .inr (.inr (.inr (.inr (va_up (va_up (va_up (va_up (va_up (va_up (fun _ => none) (0 : Int32).toNatClampNeg (some h2)) (1 : Int32).toNatClampNeg (some h3)) (2 : Int32).toNatClampNeg (some h4)) (3 : Int32).toNatClampNeg (some h5)) (4 : Int32).toNatClampNeg (some h6)) (5 : Int32).toNatClampNeg (some h7))))))), (h2, .inr (8, [.ref h19, .int (-1), .int 0, .int 0])), (h3, .inr (8, [.ref h20, .int (-1), .int 0, .int 0])), (h4, .inr (8, [.ref h21, .int (-1), .int 0, .int 0])), (h5, .inr (8, [.ref h22, .int (-1), .int 0, .int 0])), (h6, .inr (8, [.ref h23, .int (-1), .int 0, .int 0])), (h7, .inr (8, [.ref h24, .int (-1), .int 0, .int 0]))])) (va_Qi (fun (r : Int32) (_ : Unit) => r = if 0 ≤ p0.toInt ∧ p0.toInt < 6 then (-11 : Int32) else -1) (fun (_ : Unit) t => va_P (dC, dI) vwCl [] t.heap ∧ va_K (dC, dI) vwCl [] t ∧ va_D (va_A [(h0, .inr (11, [.ref h8, .int 0, .ref h9, .ref h10, .ref h11, .ref h12, .ref h13, .ref h14, .ref h15, .ref h16, .ref h17, .int 0, .ref h18, .ref h1])), (h1, .inl (cOShelf, 6, .inr (.inr (.inr (.inr (va_up (va_up (va_up (va_up (va_up (va_up (fun _ => none) (0 : Int32).toNatClampNeg (some h2)) (1 : Int32).toNatClampNeg (some h3)) (2 : Int32).toNatClampNeg (some h4)) (3 : Int32).toNatClampNeg (some h5)) (4 : Int32).toNatClampNeg (some h6)) (5 : Int32).toNatClampNeg (some h7))))))), (h2, .inr (8, [.ref h19, .int (-1), .int 0, .int 0])), (h3, .inr (8, [.ref h20, .int (-1), .int 0, .int 0])), (h4, .inr (8, [.ref h21, .int (-1), .int 0, .int 0])), (h5, .inr (8, [.ref h22, .int (-1), .int 0, .int 0])), (h6, .inr (8, [.ref h23, .int (-1), .int 0, .int 0])), (h7, .inr (8, [.ref h24, .int (-1), .int 0, .int 0]))] sz) []) (va_A [(h0, .inr (11, [.ref h8, .int 0, .ref h9, .ref h10, .ref h11, .ref h12, .ref h13, .ref h14, .ref h15, .ref h16, .ref h17, .int 0, .ref h18, .ref h1])), (h1, .inl (cOShelf, 6, .inr (.inr (.inr (.inr (va_up (va_up (va_up (va_up (va_up (va_up (fun _ => none) (0 : Int32).toNatClampNeg (some h2)) (1 : Int32).toNatClampNeg (some h3)) (2 : Int32).toNatClampNeg (some h4)) (3 : Int32).toNatClampNeg (some h5)) (4 : Int32).toNatClampNeg (some h6)) (5 : Int32).toNatClampNeg (some h7))))))), (h2, .inr (8, [.ref h19, .int (-1), .int 0, .int 0])), (h3, .inr (8, [.ref h20, .int (-1), .int 0, .int 0])), (h4, .inr (8, [.ref h21, .int (-1), .int 0, .int 0])), (h5, .inr (8, [.ref h22, .int (-1), .int 0, .int 0])), (h6, .inr (8, [.ref h23, .int (-1), .int 0, .int 0])), (h7, .inr (8, [.ref h24, .int (-1), .int 0, .int 0]))] sz)) 0 0 (va_A [(h0, .inr (11, [.ref h8, .int 0, .ref h9, .ref h10, .ref h11, .ref h12, .ref h13, .ref h14, .ref h15, .ref h16, .ref h17, .int 0, .ref h18, .ref h1])), (h1, .inl (cOShelf, 6, .inr (.inr (.inr (.inr (va_up (va_up (va_up (va_up (va_up (va_up (fun _ => none) (0 : Int32).toNatClampNeg (some h2)) (1 : Int32).toNatClampNeg (some h3)) (2 : Int32).toNatClampNeg (some h4)) (3 : Int32).toNatClampNeg (some h5)) (4 : Int32).toNatClampNeg (some h6)) (5 : Int32).toNatClampNeg (some h7))))))), (h2, .inr (8, [.ref h19, .int (-1), .int 0, .int 0])), (h3, .inr (8, [.ref h20, .int (-1), .int 0, .int 0])), (h4, .inr (8, [.ref h21, .int (-1), .int 0, .int 0])), (h5, .inr (8, [.ref h22, .int (-1), .int 0, .int 0])), (h6, .inr (8, [.ref h23, .int (-1), .int 0, .int 0])), (h7, .inr (8, [.ref h24, .int (-1), .int 0, .int 0]))] sz) := by
  refine Met.ofW (cc := cX11_put) (maxL := 7) (ret := (some .int)) (by decide) rfl ?_
  intro p e s m args below meth c s₁ B hml hv
  obtain ⟨rfl, hsz, hP, hK, hD0⟩ := hv
  have hx := B.exec
  have hb := B.bytes
  have hr := B.returns
  have hts := atoms_spec (ws := wsX11_put) B.pre
  have hown : s.vm.findClass RX11 = some m.cls := findClass_of_methodNamed B.named
  have hlocks := B.notSynchronized
  subst hsz
  have hD := hD0.self (sz := s.heap.size)
  generalize hAe : va_A [(h0, .inr (11, [.ref h8, .int 0, .ref h9, .ref h10, .ref h11, .ref h12, .ref h13, .ref h14, .ref h15, .ref h16, .ref h17, .int 0, .ref h18, .ref h1])), (h1, .inl (cOShelf, 6, .inr (.inr (.inr (.inr (va_up (va_up (va_up (va_up (va_up (va_up (fun _ => none) (0 : Int32).toNatClampNeg (some h2)) (1 : Int32).toNatClampNeg (some h3)) (2 : Int32).toNatClampNeg (some h4)) (3 : Int32).toNatClampNeg (some h5)) (4 : Int32).toNatClampNeg (some h6)) (5 : Int32).toNatClampNeg (some h7))))))), (h2, .inr (8, [.ref h19, .int (-1), .int 0, .int 0])), (h3, .inr (8, [.ref h20, .int (-1), .int 0, .int 0])), (h4, .inr (8, [.ref h21, .int (-1), .int 0, .int 0])), (h5, .inr (8, [.ref h22, .int (-1), .int 0, .int 0])), (h6, .inr (8, [.ref h23, .int (-1), .int 0, .int 0])), (h7, .inr (8, [.ref h24, .int (-1), .int 0, .int 0]))] s.heap.size = A at hD ⊢
  have hA : ∀ q : Nat, s.heap.size ≤ q → A q := fun q h => by rw [← hAe]; exact Or.inr h
  have hS : va_S A s.heap s.heap [] := va_S.rf
  have hP : va_P (dC, dI) vwCl [(h0, .inr (11, [.ref h8, .int 0, .ref h9, .ref h10, .ref h11, .ref h12, .ref h13, .ref h14, .ref h15, .ref h16, .ref h17, .int 0, .ref h18, .ref h1])), (h1, .inl (cOShelf, 6, .inr (.inr (.inr (.inr (va_up (va_up (va_up (va_up (va_up (va_up (fun _ => none) (0 : Int32).toNatClampNeg (some h2)) (1 : Int32).toNatClampNeg (some h3)) (2 : Int32).toNatClampNeg (some h4)) (3 : Int32).toNatClampNeg (some h5)) (4 : Int32).toNatClampNeg (some h6)) (5 : Int32).toNatClampNeg (some h7))))))), (h2, .inr (8, [.ref h19, .int (-1), .int 0, .int 0])), (h3, .inr (8, [.ref h20, .int (-1), .int 0, .int 0])), (h4, .inr (8, [.ref h21, .int (-1), .int 0, .int 0])), (h5, .inr (8, [.ref h22, .int (-1), .int 0, .int 0])), (h6, .inr (8, [.ref h23, .int (-1), .int 0, .int 0])), (h7, .inr (8, [.ref h24, .int (-1), .int 0, .int 0]))] s.heap := hP
  have hl := lv_entry ([.ref h0, .int p0, .int p1, .long v2]) (n := 7) (Nat.le_of_ble_eq_true rfl)
  rw [lg_entry_eq]
  generalize (lg_sl ([.ref h0, .int p0, .int p1, .long v2]) ++ List.replicate (7 - (lg_sl ([.ref h0, .int p0, .int p1, .long v2])).length) Slot.unset).toArray = ls at hl ⊢
  have hl : lv_has ls 7 [(0, .ref h0), (1, .int p0), (2, .int p1), (3, .long v2)] := hl
  refine lv_aload_n hx hb dX11_put_0 rfl (lv_at hl 0 rfl) ?_
  refine lv_iload_n hx hb dX11_put_1 rfl (lv_at hl 1 rfl) ?_
  have hPc := hP.sub (ws' := [(h0, .inr (11, [.ref h8, .int 0, .ref h9, .ref h10, .ref h11, .ref h12, .ref h13, .ref h14, .ref h15, .ref h16, .ref h17, .int 0, .ref h18, .ref h1])), (h1, .inl (cOShelf, 6, .inr (.inr (.inr (.inr (va_up (va_up (va_up (va_up (va_up (va_up (fun _ => none) (0 : Int32).toNatClampNeg (some h2)) (1 : Int32).toNatClampNeg (some h3)) (2 : Int32).toNatClampNeg (some h4)) (3 : Int32).toNatClampNeg (some h5)) (4 : Int32).toNatClampNeg (some h6)) (5 : Int32).toNatClampNeg (some h7)))))))]) [0, 1] rfl
  have hDc := hD.sub (ws' := [(h0, .inr (11, [.ref h8, .int 0, .ref h9, .ref h10, .ref h11, .ref h12, .ref h13, .ref h14, .ref h15, .ref h16, .ref h17, .int 0, .ref h18, .ref h1])), (h1, .inl (cOShelf, 6, .inr (.inr (.inr (.inr (va_up (va_up (va_up (va_up (va_up (va_up (fun _ => none) (0 : Int32).toNatClampNeg (some h2)) (1 : Int32).toNatClampNeg (some h3)) (2 : Int32).toNatClampNeg (some h4)) (3 : Int32).toNatClampNeg (some h5)) (4 : Int32).toNatClampNeg (some h6)) (5 : Int32).toNatClampNeg (some h7)))))))]) [0, 1] (by decide) rfl
  have hKc := hK.sub (tys' := [(cOShelf, .object "KinkStreet$Shelf")]) [0] rfl
  have hFc := va_free (wc := [(h0, .inr (11, [.ref h8, .int 0, .ref h9, .ref h10, .ref h11, .ref h12, .ref h13, .ref h14, .ref h15, .ref h16, .ref h17, .int 0, .ref h18, .ref h1])), (h1, .inl (cOShelf, 6, .inr (.inr (.inr (.inr (va_up (va_up (va_up (va_up (va_up (va_up (fun _ => none) (0 : Int32).toNatClampNeg (some h2)) (1 : Int32).toNatClampNeg (some h3)) (2 : Int32).toNatClampNeg (some h4)) (3 : Int32).toNatClampNeg (some h5)) (4 : Int32).toNatClampNeg (some h6)) (5 : Int32).toNatClampNeg (some h7)))))))]) hD hS hA [0, 1] rfl
  refine va_callq (va_runV (As := [.int p0]) (rest := []) ⟨hx, hb, hml, hown, hts⟩ (k_X11_knownShelf_0 l dC dI h0 h1 h8 h9 h10 h11 h12 h13 h14 h15 h16 h17 h18 h2 h3 h4 h5 h6 h7 cOShelf s.heap.size p0) (cwV 1 hts gX11_put_X11_knownShelf rfl rfl rfl (by decide +kernel) ⟨Nat.le_of_ble_eq_true rfl, Nat.le_of_ble_eq_true rfl⟩) ⟨fun a U g mk q => by obtain ⟨q0, q1, qP, qK, qD⟩ := q; exact ⟨q0, q1, qP, va_K.moved (u := U) (U := U.calling g mk a) (Vm.Alike.refl U.vm) qK, qD⟩, va_recv hKc hPc (ci := 11) (q0 := 0) rfl rfl, fun U hU hW => ⟨rfl, by rw [hU], by rw [hU]; exact hPc, va_K.moved hW.alike hKc, hDc.weaken (fun _ _ _ _ => trivial)⟩⟩ rfl rfl hl.1 rfl (lv_room (Nat.le_of_ble_eq_true rfl)) dX11_put_2 ⟨Nat.le_of_ble_eq_true rfl, Nat.le_of_ble_eq_true rfl⟩) hS (fun q _ h => hFc q h) hFc (fun r_1 u t H1 locs ht hvm hw hB hz1 hk1 hS => ?_)
  obtain ⟨hP1, hK1, hD1⟩ := hB
  rw [ht] at hP1
  have hK1 := va_K.moved hvm.symm hK1
  obtain ⟨hP, hD⟩ := va_join (wr := [(h2, .inr (8, [.ref h19, .int (-1), .int 0, .int 0])), (h3, .inr (8, [.ref h20, .int (-1), .int 0, .int 0])), (h4, .inr (8, [.ref h21, .int (-1), .int 0, .int 0])), (h5, .inr (8, [.ref h22, .int (-1), .int 0, .int 0])), (h6, .inr (8, [.ref h23, .int (-1), .int 0, .int 0])), (h7, .inr (8, [.ref h24, .int (-1), .int 0, .int 0]))]) (w1 := [(h0, .inr (11, [.ref h8, .int 0, .ref h9, .ref h10, .ref h11, .ref h12, .ref h13, .ref h14, .ref h15, .ref h16, .ref h17, .int 0, .ref h18, .ref h1])), (h1, .inl (cOShelf, 6, .inr (.inr (.inr (.inr (va_up (va_up (va_up (va_up (va_up (va_up (fun _ => none) (0 : Int32).toNatClampNeg (some h2)) (1 : Int32).toNatClampNeg (some h3)) (2 : Int32).toNatClampNeg (some h4)) (3 : Int32).toNatClampNeg (some h5)) (4 : Int32).toNatClampNeg (some h6)) (5 : Int32).toNatClampNeg (some h7)))))))]) hP hD [0, 1] [2, 3, 4, 5, 6, 7] rfl rfl (by decide) (by decide) hk1 hFc hP1 hD1
  generalize H1 = H at hP hS ⊢
  have hP : va_P (dC, dI) vwCl [(h2, .inr (8, [.ref h19, .int (-1), .int 0, .int 0])), (h3, .inr (8, [.ref h20, .int (-1), .int 0, .int 0])), (h4, .inr (8, [.ref h21, .int (-1), .int 0, .int 0])), (h5, .inr (8, [.ref h22, .int (-1), .int 0, .int 0])), (h6, .inr (8, [.ref h23, .int (-1), .int 0, .int 0])), (h7, .inr (8, [.ref h24, .int (-1), .int 0, .int 0])), (h0, .inr (11, [.ref h8, .int 0, .ref h9, .ref h10, .ref h11, .ref h12, .ref h13, .ref h14, .ref h15, .ref h16, .ref h17, .int 0, .ref h18, .ref h1])), (h1, .inl (cOShelf, 6, .inr (.inr (.inr (.inr (va_up (va_up (va_up (va_up (va_up (va_up (fun _ => none) (0 : Int32).toNatClampNeg (some h2)) (1 : Int32).toNatClampNeg (some h3)) (2 : Int32).toNatClampNeg (some h4)) (3 : Int32).toNatClampNeg (some h5)) (4 : Int32).toNatClampNeg (some h6)) (5 : Int32).toNatClampNeg (some h7)))))))] H := hP
  have hD : va_D A [(h2, .inr (8, [.ref h19, .int (-1), .int 0, .int 0])), (h3, .inr (8, [.ref h20, .int (-1), .int 0, .int 0])), (h4, .inr (8, [.ref h21, .int (-1), .int 0, .int 0])), (h5, .inr (8, [.ref h22, .int (-1), .int 0, .int 0])), (h6, .inr (8, [.ref h23, .int (-1), .int 0, .int 0])), (h7, .inr (8, [.ref h24, .int (-1), .int 0, .int 0])), (h0, .inr (11, [.ref h8, .int 0, .ref h9, .ref h10, .ref h11, .ref h12, .ref h13, .ref h14, .ref h15, .ref h16, .ref h17, .int 0, .ref h18, .ref h1])), (h1, .inl (cOShelf, 6, .inr (.inr (.inr (.inr (va_up (va_up (va_up (va_up (va_up (va_up (fun _ => none) (0 : Int32).toNatClampNeg (some h2)) (1 : Int32).toNatClampNeg (some h3)) (2 : Int32).toNatClampNeg (some h4)) (3 : Int32).toNatClampNeg (some h5)) (4 : Int32).toNatClampNeg (some h6)) (5 : Int32).toNatClampNeg (some h7)))))))] := hD
  rcases hw with ⟨t_1_0, rfl⟩ | ⟨t_1_0, t_1_1, rfl⟩ | ⟨t_1_0, t_1_1, t_1_2, rfl⟩ | ⟨t_1_0, t_1_1, t_1_2, rfl⟩ | ⟨t_1_0, t_1_1, t_1_2, rfl⟩ | ⟨t_1_0, t_1_1, t_1_2, rfl⟩ | ⟨t_1_0, t_1_1, t_1_2, rfl⟩ | ⟨t_1_0, t_1_1, t_1_2, rfl⟩
  · skip
    refine W.eq (g2 := F0 m 5 ls [.null]) rfl ?_
    refine lv_astoreN (lv' := [(5, .null), (0, .ref h0), (1, .int p0), (2, .int p1), (3, .long v2)]) hx hb dX11_put_5 hl (by decide) rfl (fun ls hl => ?_)
    refine lv_aloadN hx hb dX11_put_7 (lv_at hl 0 rfl) ?_
    refine lv_ifnonnullN hx hb dX11_put_9 ?_
    refine lv_iconst (v := (-1)) hx hb dX11_put_12 (by decide) ?_
    have hP9 := hP.sub (ws' := []) [] rfl
    have hD9 := hD.sub (ws' := []) [] (by decide) rfl
    have hK9 := hK.sub (tys' := []) [] rfl
    exact W.iret (v := (-1)) hx hb hr (fun t ht hW => ⟨⟨(-1), (), rfl, by first | rfl | ((repeat' split) <;> first | rfl | (exfalso; omega) | (exact Int32.toInt_inj.mp (by show ((-1) : Int) = _; omega))), by rw [ht]; exact hP9, va_K.moved hW.alike hK9, hD9⟩, hS.F ht⟩) hS.2.2 dX11_put_13
  · skip
    refine W.eq (g2 := F0 m 5 ls [.null]) rfl ?_
    refine lv_astoreN (lv' := [(5, .null), (0, .ref h0), (1, .int p0), (2, .int p1), (3, .long v2)]) hx hb dX11_put_5 hl (by decide) rfl (fun ls hl => ?_)
    refine lv_aloadN hx hb dX11_put_7 (lv_at hl 0 rfl) ?_
    refine lv_ifnonnullN hx hb dX11_put_9 ?_
    refine lv_iconst (v := (-1)) hx hb dX11_put_12 (by decide) ?_
    have hP9 := hP.sub (ws' := []) [] rfl
    have hD9 := hD.sub (ws' := []) [] (by decide) rfl
    have hK9 := hK.sub (tys' := []) [] rfl
    exact W.iret (v := (-1)) hx hb hr (fun t ht hW => ⟨⟨(-1), (), rfl, by first | rfl | ((repeat' split) <;> first | rfl | (exfalso; omega) | (exact Int32.toInt_inj.mp (by show ((-1) : Int) = _; omega))), by rw [ht]; exact hP9, va_K.moved hW.alike hK9, hD9⟩, hS.F ht⟩) hS.2.2 dX11_put_13
  · skip
    refine W.eq (g2 := F0 m 5 ls [.ref h2]) rfl ?_
    refine lv_astore (lv' := [(5, .ref h2), (0, .ref h0), (1, .int p0), (2, .int p1), (3, .long v2)]) hx hb dX11_put_5 hl (by decide) rfl (fun ls hl => ?_)
    refine lv_aload hx hb dX11_put_7 (lv_at hl 0 rfl) ?_
    refine lv_ifnonnull (tgt := 14) hx hb dX11_put_9 (by decide) ?_
    refine lv_aload hx hb dX11_put_14 (lv_at hl 0 rfl) ?_
    refine lv_iload_n hx hb dX11_put_16 rfl (lv_at hl 3 rfl) ?_
    have hPc := hP.sub (ws' := [(h2, .inr (8, [.ref h19, .int (-1), .int 0, .int 0]))]) [0] rfl
    have hDc := hD.sub (ws' := [(h2, .inr (8, [.ref h19, .int (-1), .int 0, .int 0]))]) [0] (by decide) rfl
    have hKc := hK.sub (tys' := []) [] rfl
    have hFc := va_free (wc := [(h2, .inr (8, [.ref h19, .int (-1), .int 0, .int 0]))]) hD hS hA [0] rfl
    refine va_calli (va_runV (As := [.int p1]) (rest := []) ⟨hx, hb, hml, hown, hts⟩ (k_X8_refusal_0 l dC dI h2 h19 H.size p1) (cwV 1 hts gX11_put_X8_refusal rfl rfl rfl (by decide +kernel) ⟨Nat.le_of_ble_eq_true rfl, Nat.le_of_ble_eq_true rfl⟩) ⟨fun a U g mk q => by obtain ⟨q0, q1, qP, qK, qD⟩ := q; exact ⟨q0, q1, qP, va_K.moved (u := U) (U := U.calling g mk a) (Vm.Alike.refl U.vm) qK, qD⟩, va_recv hKc hPc (ci := 8) (q0 := 0) rfl rfl, fun U hU hW => ⟨rfl, by rw [hU], by rw [hU]; exact hPc, va_K.moved hW.alike hKc, hDc.weaken (fun _ _ _ _ => trivial)⟩⟩ rfl rfl hl.1 rfl (lv_room (Nat.le_of_ble_eq_true rfl)) dX11_put_17 ⟨Nat.le_of_ble_eq_true rfl, Nat.le_of_ble_eq_true rfl⟩) hS (fun q _ h => hFc q h) hFc (fun r_2 u t H1 locs ht hvm hw hB hz1 hk1 hS => ?_)
    obtain ⟨hP1, hK1, hD1⟩ := hB
    rw [ht] at hP1
    have hK1 := va_K.moved hvm.symm hK1
    obtain ⟨hP, hD⟩ := va_join (wr := [(h3, .inr (8, [.ref h20, .int (-1), .int 0, .int 0])), (h4, .inr (8, [.ref h21, .int (-1), .int 0, .int 0])), (h5, .inr (8, [.ref h22, .int (-1), .int 0, .int 0])), (h6, .inr (8, [.ref h23, .int (-1), .int 0, .int 0])), (h7, .inr (8, [.ref h24, .int (-1), .int 0, .int 0])), (h0, .inr (11, [.ref h8, .int 0, .ref h9, .ref h10, .ref h11, .ref h12, .ref h13, .ref h14, .ref h15, .ref h16, .ref h17, .int 0, .ref h18, .ref h1])), (h1, .inl (cOShelf, 6, .inr (.inr (.inr (.inr (va_up (va_up (va_up (va_up (va_up (va_up (fun _ => none) (0 : Int32).toNatClampNeg (some h2)) (1 : Int32).toNatClampNeg (some h3)) (2 : Int32).toNatClampNeg (some h4)) (3 : Int32).toNatClampNeg (some h5)) (4 : Int32).toNatClampNeg (some h6)) (5 : Int32).toNatClampNeg (some h7)))))))]) (w1 := [(h2, .inr (8, [.ref h19, .int (-1), .int 0, .int 0]))]) hP hD [0] [1, 2, 3, 4, 5, 6, 7] rfl rfl (by decide) (by decide) hk1 hFc hP1 hD1
    generalize H1 = H at hP hS ⊢
    have hP : va_P (dC, dI) vwCl [(h3, .inr (8, [.ref h20, .int (-1), .int 0, .int 0])), (h4, .inr (8, [.ref h21, .int (-1), .int 0, .int 0])), (h5, .inr (8, [.ref h22, .int (-1), .int 0, .int 0])), (h6, .inr (8, [.ref h23, .int (-1), .int 0, .int 0])), (h7, .inr (8, [.ref h24, .int (-1), .int 0, .int 0])), (h0, .inr (11, [.ref h8, .int 0, .ref h9, .ref h10, .ref h11, .ref h12, .ref h13, .ref h14, .ref h15, .ref h16, .ref h17, .int 0, .ref h18, .ref h1])), (h1, .inl (cOShelf, 6, .inr (.inr (.inr (.inr (va_up (va_up (va_up (va_up (va_up (va_up (fun _ => none) (0 : Int32).toNatClampNeg (some h2)) (1 : Int32).toNatClampNeg (some h3)) (2 : Int32).toNatClampNeg (some h4)) (3 : Int32).toNatClampNeg (some h5)) (4 : Int32).toNatClampNeg (some h6)) (5 : Int32).toNatClampNeg (some h7))))))), (h2, .inr (8, [.ref h19, .int (-1), .int 0, .int 0]))] H := hP
    have hD : va_D A [(h3, .inr (8, [.ref h20, .int (-1), .int 0, .int 0])), (h4, .inr (8, [.ref h21, .int (-1), .int 0, .int 0])), (h5, .inr (8, [.ref h22, .int (-1), .int 0, .int 0])), (h6, .inr (8, [.ref h23, .int (-1), .int 0, .int 0])), (h7, .inr (8, [.ref h24, .int (-1), .int 0, .int 0])), (h0, .inr (11, [.ref h8, .int 0, .ref h9, .ref h10, .ref h11, .ref h12, .ref h13, .ref h14, .ref h15, .ref h16, .ref h17, .int 0, .ref h18, .ref h1])), (h1, .inl (cOShelf, 6, .inr (.inr (.inr (.inr (va_up (va_up (va_up (va_up (va_up (va_up (fun _ => none) (0 : Int32).toNatClampNeg (some h2)) (1 : Int32).toNatClampNeg (some h3)) (2 : Int32).toNatClampNeg (some h4)) (3 : Int32).toNatClampNeg (some h5)) (4 : Int32).toNatClampNeg (some h6)) (5 : Int32).toNatClampNeg (some h7))))))), (h2, .inr (8, [.ref h19, .int (-1), .int 0, .int 0]))] := hD
    obtain rfl := hw
    refine lv_istore (lv' := [(6, .int (-11)), (5, .ref h2), (0, .ref h0), (1, .int p0), (2, .int p1), (3, .long v2)]) hx hb dX11_put_20 hl (by decide) rfl (fun ls hl => ?_)
    refine lv_iload hx hb dX11_put_22 (lv_at hl 0 rfl) ?_
    refine lv_if_eq (tgt := 30) hx hb dX11_put_24 (by decide) (fun c => absurd c (by decide)) (fun _ => ?_)
    refine lv_iload hx hb dX11_put_27 (lv_at hl 0 rfl) ?_
    have hP9 := hP.sub (ws' := []) [] rfl
    have hD9 := hD.sub (ws' := []) [] (by decide) rfl
    have hK9 := hK.sub (tys' := []) [] rfl
    exact W.iret (v := (-11)) hx hb hr (fun t ht hW => ⟨⟨(-11), (), rfl, by first | rfl | ((repeat' split) <;> first | rfl | (exfalso; omega) | (exact Int32.toInt_inj.mp (by show ((-11) : Int) = _; omega))), by rw [ht]; exact hP9, va_K.moved hW.alike hK9, hD9⟩, hS.F ht⟩) hS.2.2 dX11_put_29
  · skip
    refine W.eq (g2 := F0 m 5 ls [.ref h3]) rfl ?_
    refine lv_astore (lv' := [(5, .ref h3), (0, .ref h0), (1, .int p0), (2, .int p1), (3, .long v2)]) hx hb dX11_put_5 hl (by decide) rfl (fun ls hl => ?_)
    refine lv_aload hx hb dX11_put_7 (lv_at hl 0 rfl) ?_
    refine lv_ifnonnull (tgt := 14) hx hb dX11_put_9 (by decide) ?_
    refine lv_aload hx hb dX11_put_14 (lv_at hl 0 rfl) ?_
    refine lv_iload_n hx hb dX11_put_16 rfl (lv_at hl 3 rfl) ?_
    have hPc := hP.sub (ws' := [(h3, .inr (8, [.ref h20, .int (-1), .int 0, .int 0]))]) [1] rfl
    have hDc := hD.sub (ws' := [(h3, .inr (8, [.ref h20, .int (-1), .int 0, .int 0]))]) [1] (by decide) rfl
    have hKc := hK.sub (tys' := []) [] rfl
    have hFc := va_free (wc := [(h3, .inr (8, [.ref h20, .int (-1), .int 0, .int 0]))]) hD hS hA [1] rfl
    refine va_calli (va_runV (As := [.int p1]) (rest := []) ⟨hx, hb, hml, hown, hts⟩ (k_X8_refusal_0 l dC dI h3 h20 H.size p1) (cwV 1 hts gX11_put_X8_refusal rfl rfl rfl (by decide +kernel) ⟨Nat.le_of_ble_eq_true rfl, Nat.le_of_ble_eq_true rfl⟩) ⟨fun a U g mk q => by obtain ⟨q0, q1, qP, qK, qD⟩ := q; exact ⟨q0, q1, qP, va_K.moved (u := U) (U := U.calling g mk a) (Vm.Alike.refl U.vm) qK, qD⟩, va_recv hKc hPc (ci := 8) (q0 := 0) rfl rfl, fun U hU hW => ⟨rfl, by rw [hU], by rw [hU]; exact hPc, va_K.moved hW.alike hKc, hDc.weaken (fun _ _ _ _ => trivial)⟩⟩ rfl rfl hl.1 rfl (lv_room (Nat.le_of_ble_eq_true rfl)) dX11_put_17 ⟨Nat.le_of_ble_eq_true rfl, Nat.le_of_ble_eq_true rfl⟩) hS (fun q _ h => hFc q h) hFc (fun r_3 u t H1 locs ht hvm hw hB hz1 hk1 hS => ?_)
    obtain ⟨hP1, hK1, hD1⟩ := hB
    rw [ht] at hP1
    have hK1 := va_K.moved hvm.symm hK1
    obtain ⟨hP, hD⟩ := va_join (wr := [(h2, .inr (8, [.ref h19, .int (-1), .int 0, .int 0])), (h4, .inr (8, [.ref h21, .int (-1), .int 0, .int 0])), (h5, .inr (8, [.ref h22, .int (-1), .int 0, .int 0])), (h6, .inr (8, [.ref h23, .int (-1), .int 0, .int 0])), (h7, .inr (8, [.ref h24, .int (-1), .int 0, .int 0])), (h0, .inr (11, [.ref h8, .int 0, .ref h9, .ref h10, .ref h11, .ref h12, .ref h13, .ref h14, .ref h15, .ref h16, .ref h17, .int 0, .ref h18, .ref h1])), (h1, .inl (cOShelf, 6, .inr (.inr (.inr (.inr (va_up (va_up (va_up (va_up (va_up (va_up (fun _ => none) (0 : Int32).toNatClampNeg (some h2)) (1 : Int32).toNatClampNeg (some h3)) (2 : Int32).toNatClampNeg (some h4)) (3 : Int32).toNatClampNeg (some h5)) (4 : Int32).toNatClampNeg (some h6)) (5 : Int32).toNatClampNeg (some h7)))))))]) (w1 := [(h3, .inr (8, [.ref h20, .int (-1), .int 0, .int 0]))]) hP hD [1] [0, 2, 3, 4, 5, 6, 7] rfl rfl (by decide) (by decide) hk1 hFc hP1 hD1
    generalize H1 = H at hP hS ⊢
    have hP : va_P (dC, dI) vwCl [(h2, .inr (8, [.ref h19, .int (-1), .int 0, .int 0])), (h4, .inr (8, [.ref h21, .int (-1), .int 0, .int 0])), (h5, .inr (8, [.ref h22, .int (-1), .int 0, .int 0])), (h6, .inr (8, [.ref h23, .int (-1), .int 0, .int 0])), (h7, .inr (8, [.ref h24, .int (-1), .int 0, .int 0])), (h0, .inr (11, [.ref h8, .int 0, .ref h9, .ref h10, .ref h11, .ref h12, .ref h13, .ref h14, .ref h15, .ref h16, .ref h17, .int 0, .ref h18, .ref h1])), (h1, .inl (cOShelf, 6, .inr (.inr (.inr (.inr (va_up (va_up (va_up (va_up (va_up (va_up (fun _ => none) (0 : Int32).toNatClampNeg (some h2)) (1 : Int32).toNatClampNeg (some h3)) (2 : Int32).toNatClampNeg (some h4)) (3 : Int32).toNatClampNeg (some h5)) (4 : Int32).toNatClampNeg (some h6)) (5 : Int32).toNatClampNeg (some h7))))))), (h3, .inr (8, [.ref h20, .int (-1), .int 0, .int 0]))] H := hP
    have hD : va_D A [(h2, .inr (8, [.ref h19, .int (-1), .int 0, .int 0])), (h4, .inr (8, [.ref h21, .int (-1), .int 0, .int 0])), (h5, .inr (8, [.ref h22, .int (-1), .int 0, .int 0])), (h6, .inr (8, [.ref h23, .int (-1), .int 0, .int 0])), (h7, .inr (8, [.ref h24, .int (-1), .int 0, .int 0])), (h0, .inr (11, [.ref h8, .int 0, .ref h9, .ref h10, .ref h11, .ref h12, .ref h13, .ref h14, .ref h15, .ref h16, .ref h17, .int 0, .ref h18, .ref h1])), (h1, .inl (cOShelf, 6, .inr (.inr (.inr (.inr (va_up (va_up (va_up (va_up (va_up (va_up (fun _ => none) (0 : Int32).toNatClampNeg (some h2)) (1 : Int32).toNatClampNeg (some h3)) (2 : Int32).toNatClampNeg (some h4)) (3 : Int32).toNatClampNeg (some h5)) (4 : Int32).toNatClampNeg (some h6)) (5 : Int32).toNatClampNeg (some h7))))))), (h3, .inr (8, [.ref h20, .int (-1), .int 0, .int 0]))] := hD
    obtain rfl := hw
    refine lv_istore (lv' := [(6, .int (-11)), (5, .ref h3), (0, .ref h0), (1, .int p0), (2, .int p1), (3, .long v2)]) hx hb dX11_put_20 hl (by decide) rfl (fun ls hl => ?_)
    refine lv_iload hx hb dX11_put_22 (lv_at hl 0 rfl) ?_
    refine lv_if_eq (tgt := 30) hx hb dX11_put_24 (by decide) (fun c => absurd c (by decide)) (fun _ => ?_)
    refine lv_iload hx hb dX11_put_27 (lv_at hl 0 rfl) ?_
    have hP9 := hP.sub (ws' := []) [] rfl
    have hD9 := hD.sub (ws' := []) [] (by decide) rfl
    have hK9 := hK.sub (tys' := []) [] rfl
    exact W.iret (v := (-11)) hx hb hr (fun t ht hW => ⟨⟨(-11), (), rfl, by first | rfl | ((repeat' split) <;> first | rfl | (exfalso; omega) | (exact Int32.toInt_inj.mp (by show ((-11) : Int) = _; omega))), by rw [ht]; exact hP9, va_K.moved hW.alike hK9, hD9⟩, hS.F ht⟩) hS.2.2 dX11_put_29
  · skip
    refine W.eq (g2 := F0 m 5 ls [.ref h4]) rfl ?_
    refine lv_astore (lv' := [(5, .ref h4), (0, .ref h0), (1, .int p0), (2, .int p1), (3, .long v2)]) hx hb dX11_put_5 hl (by decide) rfl (fun ls hl => ?_)
    refine lv_aload hx hb dX11_put_7 (lv_at hl 0 rfl) ?_
    refine lv_ifnonnull (tgt := 14) hx hb dX11_put_9 (by decide) ?_
    refine lv_aload hx hb dX11_put_14 (lv_at hl 0 rfl) ?_
    refine lv_iload_n hx hb dX11_put_16 rfl (lv_at hl 3 rfl) ?_
    have hPc := hP.sub (ws' := [(h4, .inr (8, [.ref h21, .int (-1), .int 0, .int 0]))]) [2] rfl
    have hDc := hD.sub (ws' := [(h4, .inr (8, [.ref h21, .int (-1), .int 0, .int 0]))]) [2] (by decide) rfl
    have hKc := hK.sub (tys' := []) [] rfl
    have hFc := va_free (wc := [(h4, .inr (8, [.ref h21, .int (-1), .int 0, .int 0]))]) hD hS hA [2] rfl
    refine va_calli (va_runV (As := [.int p1]) (rest := []) ⟨hx, hb, hml, hown, hts⟩ (k_X8_refusal_0 l dC dI h4 h21 H.size p1) (cwV 1 hts gX11_put_X8_refusal rfl rfl rfl (by decide +kernel) ⟨Nat.le_of_ble_eq_true rfl, Nat.le_of_ble_eq_true rfl⟩) ⟨fun a U g mk q => by obtain ⟨q0, q1, qP, qK, qD⟩ := q; exact ⟨q0, q1, qP, va_K.moved (u := U) (U := U.calling g mk a) (Vm.Alike.refl U.vm) qK, qD⟩, va_recv hKc hPc (ci := 8) (q0 := 0) rfl rfl, fun U hU hW => ⟨rfl, by rw [hU], by rw [hU]; exact hPc, va_K.moved hW.alike hKc, hDc.weaken (fun _ _ _ _ => trivial)⟩⟩ rfl rfl hl.1 rfl (lv_room (Nat.le_of_ble_eq_true rfl)) dX11_put_17 ⟨Nat.le_of_ble_eq_true rfl, Nat.le_of_ble_eq_true rfl⟩) hS (fun q _ h => hFc q h) hFc (fun r_4 u t H1 locs ht hvm hw hB hz1 hk1 hS => ?_)
    obtain ⟨hP1, hK1, hD1⟩ := hB
    rw [ht] at hP1
    have hK1 := va_K.moved hvm.symm hK1
    obtain ⟨hP, hD⟩ := va_join (wr := [(h2, .inr (8, [.ref h19, .int (-1), .int 0, .int 0])), (h3, .inr (8, [.ref h20, .int (-1), .int 0, .int 0])), (h5, .inr (8, [.ref h22, .int (-1), .int 0, .int 0])), (h6, .inr (8, [.ref h23, .int (-1), .int 0, .int 0])), (h7, .inr (8, [.ref h24, .int (-1), .int 0, .int 0])), (h0, .inr (11, [.ref h8, .int 0, .ref h9, .ref h10, .ref h11, .ref h12, .ref h13, .ref h14, .ref h15, .ref h16, .ref h17, .int 0, .ref h18, .ref h1])), (h1, .inl (cOShelf, 6, .inr (.inr (.inr (.inr (va_up (va_up (va_up (va_up (va_up (va_up (fun _ => none) (0 : Int32).toNatClampNeg (some h2)) (1 : Int32).toNatClampNeg (some h3)) (2 : Int32).toNatClampNeg (some h4)) (3 : Int32).toNatClampNeg (some h5)) (4 : Int32).toNatClampNeg (some h6)) (5 : Int32).toNatClampNeg (some h7)))))))]) (w1 := [(h4, .inr (8, [.ref h21, .int (-1), .int 0, .int 0]))]) hP hD [2] [0, 1, 3, 4, 5, 6, 7] rfl rfl (by decide) (by decide) hk1 hFc hP1 hD1
    generalize H1 = H at hP hS ⊢
    have hP : va_P (dC, dI) vwCl [(h2, .inr (8, [.ref h19, .int (-1), .int 0, .int 0])), (h3, .inr (8, [.ref h20, .int (-1), .int 0, .int 0])), (h5, .inr (8, [.ref h22, .int (-1), .int 0, .int 0])), (h6, .inr (8, [.ref h23, .int (-1), .int 0, .int 0])), (h7, .inr (8, [.ref h24, .int (-1), .int 0, .int 0])), (h0, .inr (11, [.ref h8, .int 0, .ref h9, .ref h10, .ref h11, .ref h12, .ref h13, .ref h14, .ref h15, .ref h16, .ref h17, .int 0, .ref h18, .ref h1])), (h1, .inl (cOShelf, 6, .inr (.inr (.inr (.inr (va_up (va_up (va_up (va_up (va_up (va_up (fun _ => none) (0 : Int32).toNatClampNeg (some h2)) (1 : Int32).toNatClampNeg (some h3)) (2 : Int32).toNatClampNeg (some h4)) (3 : Int32).toNatClampNeg (some h5)) (4 : Int32).toNatClampNeg (some h6)) (5 : Int32).toNatClampNeg (some h7))))))), (h4, .inr (8, [.ref h21, .int (-1), .int 0, .int 0]))] H := hP
    have hD : va_D A [(h2, .inr (8, [.ref h19, .int (-1), .int 0, .int 0])), (h3, .inr (8, [.ref h20, .int (-1), .int 0, .int 0])), (h5, .inr (8, [.ref h22, .int (-1), .int 0, .int 0])), (h6, .inr (8, [.ref h23, .int (-1), .int 0, .int 0])), (h7, .inr (8, [.ref h24, .int (-1), .int 0, .int 0])), (h0, .inr (11, [.ref h8, .int 0, .ref h9, .ref h10, .ref h11, .ref h12, .ref h13, .ref h14, .ref h15, .ref h16, .ref h17, .int 0, .ref h18, .ref h1])), (h1, .inl (cOShelf, 6, .inr (.inr (.inr (.inr (va_up (va_up (va_up (va_up (va_up (va_up (fun _ => none) (0 : Int32).toNatClampNeg (some h2)) (1 : Int32).toNatClampNeg (some h3)) (2 : Int32).toNatClampNeg (some h4)) (3 : Int32).toNatClampNeg (some h5)) (4 : Int32).toNatClampNeg (some h6)) (5 : Int32).toNatClampNeg (some h7))))))), (h4, .inr (8, [.ref h21, .int (-1), .int 0, .int 0]))] := hD
    obtain rfl := hw
    refine lv_istore (lv' := [(6, .int (-11)), (5, .ref h4), (0, .ref h0), (1, .int p0), (2, .int p1), (3, .long v2)]) hx hb dX11_put_20 hl (by decide) rfl (fun ls hl => ?_)
    refine lv_iload hx hb dX11_put_22 (lv_at hl 0 rfl) ?_
    refine lv_if_eq (tgt := 30) hx hb dX11_put_24 (by decide) (fun c => absurd c (by decide)) (fun _ => ?_)
    refine lv_iload hx hb dX11_put_27 (lv_at hl 0 rfl) ?_
    have hP9 := hP.sub (ws' := []) [] rfl
    have hD9 := hD.sub (ws' := []) [] (by decide) rfl
    have hK9 := hK.sub (tys' := []) [] rfl
    exact W.iret (v := (-11)) hx hb hr (fun t ht hW => ⟨⟨(-11), (), rfl, by first | rfl | ((repeat' split) <;> first | rfl | (exfalso; omega) | (exact Int32.toInt_inj.mp (by show ((-11) : Int) = _; omega))), by rw [ht]; exact hP9, va_K.moved hW.alike hK9, hD9⟩, hS.F ht⟩) hS.2.2 dX11_put_29
  · skip
    refine W.eq (g2 := F0 m 5 ls [.ref h5]) rfl ?_
    refine lv_astore (lv' := [(5, .ref h5), (0, .ref h0), (1, .int p0), (2, .int p1), (3, .long v2)]) hx hb dX11_put_5 hl (by decide) rfl (fun ls hl => ?_)
    refine lv_aload hx hb dX11_put_7 (lv_at hl 0 rfl) ?_
    refine lv_ifnonnull (tgt := 14) hx hb dX11_put_9 (by decide) ?_
    refine lv_aload hx hb dX11_put_14 (lv_at hl 0 rfl) ?_
    refine lv_iload_n hx hb dX11_put_16 rfl (lv_at hl 3 rfl) ?_
    have hPc := hP.sub (ws' := [(h5, .inr (8, [.ref h22, .int (-1), .int 0, .int 0]))]) [3] rfl
    have hDc := hD.sub (ws' := [(h5, .inr (8, [.ref h22, .int (-1), .int 0, .int 0]))]) [3] (by decide) rfl
    have hKc := hK.sub (tys' := []) [] rfl
    have hFc := va_free (wc := [(h5, .inr (8, [.ref h22, .int (-1), .int 0, .int 0]))]) hD hS hA [3] rfl
    refine va_calli (va_runV (As := [.int p1]) (rest := []) ⟨hx, hb, hml, hown, hts⟩ (k_X8_refusal_0 l dC dI h5 h22 H.size p1) (cwV 1 hts gX11_put_X8_refusal rfl rfl rfl (by decide +kernel) ⟨Nat.le_of_ble_eq_true rfl, Nat.le_of_ble_eq_true rfl⟩) ⟨fun a U g mk q => by obtain ⟨q0, q1, qP, qK, qD⟩ := q; exact ⟨q0, q1, qP, va_K.moved (u := U) (U := U.calling g mk a) (Vm.Alike.refl U.vm) qK, qD⟩, va_recv hKc hPc (ci := 8) (q0 := 0) rfl rfl, fun U hU hW => ⟨rfl, by rw [hU], by rw [hU]; exact hPc, va_K.moved hW.alike hKc, hDc.weaken (fun _ _ _ _ => trivial)⟩⟩ rfl rfl hl.1 rfl (lv_room (Nat.le_of_ble_eq_true rfl)) dX11_put_17 ⟨Nat.le_of_ble_eq_true rfl, Nat.le_of_ble_eq_true rfl⟩) hS (fun q _ h => hFc q h) hFc (fun r_5 u t H1 locs ht hvm hw hB hz1 hk1 hS => ?_)
    obtain ⟨hP1, hK1, hD1⟩ := hB
    rw [ht] at hP1
    have hK1 := va_K.moved hvm.symm hK1
    obtain ⟨hP, hD⟩ := va_join (wr := [(h2, .inr (8, [.ref h19, .int (-1), .int 0, .int 0])), (h3, .inr (8, [.ref h20, .int (-1), .int 0, .int 0])), (h4, .inr (8, [.ref h21, .int (-1), .int 0, .int 0])), (h6, .inr (8, [.ref h23, .int (-1), .int 0, .int 0])), (h7, .inr (8, [.ref h24, .int (-1), .int 0, .int 0])), (h0, .inr (11, [.ref h8, .int 0, .ref h9, .ref h10, .ref h11, .ref h12, .ref h13, .ref h14, .ref h15, .ref h16, .ref h17, .int 0, .ref h18, .ref h1])), (h1, .inl (cOShelf, 6, .inr (.inr (.inr (.inr (va_up (va_up (va_up (va_up (va_up (va_up (fun _ => none) (0 : Int32).toNatClampNeg (some h2)) (1 : Int32).toNatClampNeg (some h3)) (2 : Int32).toNatClampNeg (some h4)) (3 : Int32).toNatClampNeg (some h5)) (4 : Int32).toNatClampNeg (some h6)) (5 : Int32).toNatClampNeg (some h7)))))))]) (w1 := [(h5, .inr (8, [.ref h22, .int (-1), .int 0, .int 0]))]) hP hD [3] [0, 1, 2, 4, 5, 6, 7] rfl rfl (by decide) (by decide) hk1 hFc hP1 hD1
    generalize H1 = H at hP hS ⊢
    have hP : va_P (dC, dI) vwCl [(h2, .inr (8, [.ref h19, .int (-1), .int 0, .int 0])), (h3, .inr (8, [.ref h20, .int (-1), .int 0, .int 0])), (h4, .inr (8, [.ref h21, .int (-1), .int 0, .int 0])), (h6, .inr (8, [.ref h23, .int (-1), .int 0, .int 0])), (h7, .inr (8, [.ref h24, .int (-1), .int 0, .int 0])), (h0, .inr (11, [.ref h8, .int 0, .ref h9, .ref h10, .ref h11, .ref h12, .ref h13, .ref h14, .ref h15, .ref h16, .ref h17, .int 0, .ref h18, .ref h1])), (h1, .inl (cOShelf, 6, .inr (.inr (.inr (.inr (va_up (va_up (va_up (va_up (va_up (va_up (fun _ => none) (0 : Int32).toNatClampNeg (some h2)) (1 : Int32).toNatClampNeg (some h3)) (2 : Int32).toNatClampNeg (some h4)) (3 : Int32).toNatClampNeg (some h5)) (4 : Int32).toNatClampNeg (some h6)) (5 : Int32).toNatClampNeg (some h7))))))), (h5, .inr (8, [.ref h22, .int (-1), .int 0, .int 0]))] H := hP
    have hD : va_D A [(h2, .inr (8, [.ref h19, .int (-1), .int 0, .int 0])), (h3, .inr (8, [.ref h20, .int (-1), .int 0, .int 0])), (h4, .inr (8, [.ref h21, .int (-1), .int 0, .int 0])), (h6, .inr (8, [.ref h23, .int (-1), .int 0, .int 0])), (h7, .inr (8, [.ref h24, .int (-1), .int 0, .int 0])), (h0, .inr (11, [.ref h8, .int 0, .ref h9, .ref h10, .ref h11, .ref h12, .ref h13, .ref h14, .ref h15, .ref h16, .ref h17, .int 0, .ref h18, .ref h1])), (h1, .inl (cOShelf, 6, .inr (.inr (.inr (.inr (va_up (va_up (va_up (va_up (va_up (va_up (fun _ => none) (0 : Int32).toNatClampNeg (some h2)) (1 : Int32).toNatClampNeg (some h3)) (2 : Int32).toNatClampNeg (some h4)) (3 : Int32).toNatClampNeg (some h5)) (4 : Int32).toNatClampNeg (some h6)) (5 : Int32).toNatClampNeg (some h7))))))), (h5, .inr (8, [.ref h22, .int (-1), .int 0, .int 0]))] := hD
    obtain rfl := hw
    refine lv_istore (lv' := [(6, .int (-11)), (5, .ref h5), (0, .ref h0), (1, .int p0), (2, .int p1), (3, .long v2)]) hx hb dX11_put_20 hl (by decide) rfl (fun ls hl => ?_)
    refine lv_iload hx hb dX11_put_22 (lv_at hl 0 rfl) ?_
    refine lv_if_eq (tgt := 30) hx hb dX11_put_24 (by decide) (fun c => absurd c (by decide)) (fun _ => ?_)
    refine lv_iload hx hb dX11_put_27 (lv_at hl 0 rfl) ?_
    have hP9 := hP.sub (ws' := []) [] rfl
    have hD9 := hD.sub (ws' := []) [] (by decide) rfl
    have hK9 := hK.sub (tys' := []) [] rfl
    exact W.iret (v := (-11)) hx hb hr (fun t ht hW => ⟨⟨(-11), (), rfl, by first | rfl | ((repeat' split) <;> first | rfl | (exfalso; omega) | (exact Int32.toInt_inj.mp (by show ((-11) : Int) = _; omega))), by rw [ht]; exact hP9, va_K.moved hW.alike hK9, hD9⟩, hS.F ht⟩) hS.2.2 dX11_put_29
  · skip
    refine W.eq (g2 := F0 m 5 ls [.ref h6]) rfl ?_
    refine lv_astore (lv' := [(5, .ref h6), (0, .ref h0), (1, .int p0), (2, .int p1), (3, .long v2)]) hx hb dX11_put_5 hl (by decide) rfl (fun ls hl => ?_)
    refine lv_aload hx hb dX11_put_7 (lv_at hl 0 rfl) ?_
    refine lv_ifnonnull (tgt := 14) hx hb dX11_put_9 (by decide) ?_
    refine lv_aload hx hb dX11_put_14 (lv_at hl 0 rfl) ?_
    refine lv_iload_n hx hb dX11_put_16 rfl (lv_at hl 3 rfl) ?_
    have hPc := hP.sub (ws' := [(h6, .inr (8, [.ref h23, .int (-1), .int 0, .int 0]))]) [4] rfl
    have hDc := hD.sub (ws' := [(h6, .inr (8, [.ref h23, .int (-1), .int 0, .int 0]))]) [4] (by decide) rfl
    have hKc := hK.sub (tys' := []) [] rfl
    have hFc := va_free (wc := [(h6, .inr (8, [.ref h23, .int (-1), .int 0, .int 0]))]) hD hS hA [4] rfl
    refine va_calli (va_runV (As := [.int p1]) (rest := []) ⟨hx, hb, hml, hown, hts⟩ (k_X8_refusal_0 l dC dI h6 h23 H.size p1) (cwV 1 hts gX11_put_X8_refusal rfl rfl rfl (by decide +kernel) ⟨Nat.le_of_ble_eq_true rfl, Nat.le_of_ble_eq_true rfl⟩) ⟨fun a U g mk q => by obtain ⟨q0, q1, qP, qK, qD⟩ := q; exact ⟨q0, q1, qP, va_K.moved (u := U) (U := U.calling g mk a) (Vm.Alike.refl U.vm) qK, qD⟩, va_recv hKc hPc (ci := 8) (q0 := 0) rfl rfl, fun U hU hW => ⟨rfl, by rw [hU], by rw [hU]; exact hPc, va_K.moved hW.alike hKc, hDc.weaken (fun _ _ _ _ => trivial)⟩⟩ rfl rfl hl.1 rfl (lv_room (Nat.le_of_ble_eq_true rfl)) dX11_put_17 ⟨Nat.le_of_ble_eq_true rfl, Nat.le_of_ble_eq_true rfl⟩) hS (fun q _ h => hFc q h) hFc (fun r_6 u t H1 locs ht hvm hw hB hz1 hk1 hS => ?_)
    obtain ⟨hP1, hK1, hD1⟩ := hB
    rw [ht] at hP1
    have hK1 := va_K.moved hvm.symm hK1
    obtain ⟨hP, hD⟩ := va_join (wr := [(h2, .inr (8, [.ref h19, .int (-1), .int 0, .int 0])), (h3, .inr (8, [.ref h20, .int (-1), .int 0, .int 0])), (h4, .inr (8, [.ref h21, .int (-1), .int 0, .int 0])), (h5, .inr (8, [.ref h22, .int (-1), .int 0, .int 0])), (h7, .inr (8, [.ref h24, .int (-1), .int 0, .int 0])), (h0, .inr (11, [.ref h8, .int 0, .ref h9, .ref h10, .ref h11, .ref h12, .ref h13, .ref h14, .ref h15, .ref h16, .ref h17, .int 0, .ref h18, .ref h1])), (h1, .inl (cOShelf, 6, .inr (.inr (.inr (.inr (va_up (va_up (va_up (va_up (va_up (va_up (fun _ => none) (0 : Int32).toNatClampNeg (some h2)) (1 : Int32).toNatClampNeg (some h3)) (2 : Int32).toNatClampNeg (some h4)) (3 : Int32).toNatClampNeg (some h5)) (4 : Int32).toNatClampNeg (some h6)) (5 : Int32).toNatClampNeg (some h7)))))))]) (w1 := [(h6, .inr (8, [.ref h23, .int (-1), .int 0, .int 0]))]) hP hD [4] [0, 1, 2, 3, 5, 6, 7] rfl rfl (by decide) (by decide) hk1 hFc hP1 hD1
    generalize H1 = H at hP hS ⊢
    have hP : va_P (dC, dI) vwCl [(h2, .inr (8, [.ref h19, .int (-1), .int 0, .int 0])), (h3, .inr (8, [.ref h20, .int (-1), .int 0, .int 0])), (h4, .inr (8, [.ref h21, .int (-1), .int 0, .int 0])), (h5, .inr (8, [.ref h22, .int (-1), .int 0, .int 0])), (h7, .inr (8, [.ref h24, .int (-1), .int 0, .int 0])), (h0, .inr (11, [.ref h8, .int 0, .ref h9, .ref h10, .ref h11, .ref h12, .ref h13, .ref h14, .ref h15, .ref h16, .ref h17, .int 0, .ref h18, .ref h1])), (h1, .inl (cOShelf, 6, .inr (.inr (.inr (.inr (va_up (va_up (va_up (va_up (va_up (va_up (fun _ => none) (0 : Int32).toNatClampNeg (some h2)) (1 : Int32).toNatClampNeg (some h3)) (2 : Int32).toNatClampNeg (some h4)) (3 : Int32).toNatClampNeg (some h5)) (4 : Int32).toNatClampNeg (some h6)) (5 : Int32).toNatClampNeg (some h7))))))), (h6, .inr (8, [.ref h23, .int (-1), .int 0, .int 0]))] H := hP
    have hD : va_D A [(h2, .inr (8, [.ref h19, .int (-1), .int 0, .int 0])), (h3, .inr (8, [.ref h20, .int (-1), .int 0, .int 0])), (h4, .inr (8, [.ref h21, .int (-1), .int 0, .int 0])), (h5, .inr (8, [.ref h22, .int (-1), .int 0, .int 0])), (h7, .inr (8, [.ref h24, .int (-1), .int 0, .int 0])), (h0, .inr (11, [.ref h8, .int 0, .ref h9, .ref h10, .ref h11, .ref h12, .ref h13, .ref h14, .ref h15, .ref h16, .ref h17, .int 0, .ref h18, .ref h1])), (h1, .inl (cOShelf, 6, .inr (.inr (.inr (.inr (va_up (va_up (va_up (va_up (va_up (va_up (fun _ => none) (0 : Int32).toNatClampNeg (some h2)) (1 : Int32).toNatClampNeg (some h3)) (2 : Int32).toNatClampNeg (some h4)) (3 : Int32).toNatClampNeg (some h5)) (4 : Int32).toNatClampNeg (some h6)) (5 : Int32).toNatClampNeg (some h7))))))), (h6, .inr (8, [.ref h23, .int (-1), .int 0, .int 0]))] := hD
    obtain rfl := hw
    refine lv_istore (lv' := [(6, .int (-11)), (5, .ref h6), (0, .ref h0), (1, .int p0), (2, .int p1), (3, .long v2)]) hx hb dX11_put_20 hl (by decide) rfl (fun ls hl => ?_)
    refine lv_iload hx hb dX11_put_22 (lv_at hl 0 rfl) ?_
    refine lv_if_eq (tgt := 30) hx hb dX11_put_24 (by decide) (fun c => absurd c (by decide)) (fun _ => ?_)
    refine lv_iload hx hb dX11_put_27 (lv_at hl 0 rfl) ?_
    have hP9 := hP.sub (ws' := []) [] rfl
    have hD9 := hD.sub (ws' := []) [] (by decide) rfl
    have hK9 := hK.sub (tys' := []) [] rfl
    exact W.iret (v := (-11)) hx hb hr (fun t ht hW => ⟨⟨(-11), (), rfl, by first | rfl | ((repeat' split) <;> first | rfl | (exfalso; omega) | (exact Int32.toInt_inj.mp (by show ((-11) : Int) = _; omega))), by rw [ht]; exact hP9, va_K.moved hW.alike hK9, hD9⟩, hS.F ht⟩) hS.2.2 dX11_put_29
  · skip
    refine W.eq (g2 := F0 m 5 ls [.ref h7]) rfl ?_
    refine lv_astore (lv' := [(5, .ref h7), (0, .ref h0), (1, .int p0), (2, .int p1), (3, .long v2)]) hx hb dX11_put_5 hl (by decide) rfl (fun ls hl => ?_)
    refine lv_aload hx hb dX11_put_7 (lv_at hl 0 rfl) ?_
    refine lv_ifnonnull (tgt := 14) hx hb dX11_put_9 (by decide) ?_
    refine lv_aload hx hb dX11_put_14 (lv_at hl 0 rfl) ?_
    refine lv_iload_n hx hb dX11_put_16 rfl (lv_at hl 3 rfl) ?_
    have hPc := hP.sub (ws' := [(h7, .inr (8, [.ref h24, .int (-1), .int 0, .int 0]))]) [5] rfl
    have hDc := hD.sub (ws' := [(h7, .inr (8, [.ref h24, .int (-1), .int 0, .int 0]))]) [5] (by decide) rfl
    have hKc := hK.sub (tys' := []) [] rfl
    have hFc := va_free (wc := [(h7, .inr (8, [.ref h24, .int (-1), .int 0, .int 0]))]) hD hS hA [5] rfl
    refine va_calli (va_runV (As := [.int p1]) (rest := []) ⟨hx, hb, hml, hown, hts⟩ (k_X8_refusal_0 l dC dI h7 h24 H.size p1) (cwV 1 hts gX11_put_X8_refusal rfl rfl rfl (by decide +kernel) ⟨Nat.le_of_ble_eq_true rfl, Nat.le_of_ble_eq_true rfl⟩) ⟨fun a U g mk q => by obtain ⟨q0, q1, qP, qK, qD⟩ := q; exact ⟨q0, q1, qP, va_K.moved (u := U) (U := U.calling g mk a) (Vm.Alike.refl U.vm) qK, qD⟩, va_recv hKc hPc (ci := 8) (q0 := 0) rfl rfl, fun U hU hW => ⟨rfl, by rw [hU], by rw [hU]; exact hPc, va_K.moved hW.alike hKc, hDc.weaken (fun _ _ _ _ => trivial)⟩⟩ rfl rfl hl.1 rfl (lv_room (Nat.le_of_ble_eq_true rfl)) dX11_put_17 ⟨Nat.le_of_ble_eq_true rfl, Nat.le_of_ble_eq_true rfl⟩) hS (fun q _ h => hFc q h) hFc (fun r_7 u t H1 locs ht hvm hw hB hz1 hk1 hS => ?_)
    obtain ⟨hP1, hK1, hD1⟩ := hB
    rw [ht] at hP1
    have hK1 := va_K.moved hvm.symm hK1
    obtain ⟨hP, hD⟩ := va_join (wr := [(h2, .inr (8, [.ref h19, .int (-1), .int 0, .int 0])), (h3, .inr (8, [.ref h20, .int (-1), .int 0, .int 0])), (h4, .inr (8, [.ref h21, .int (-1), .int 0, .int 0])), (h5, .inr (8, [.ref h22, .int (-1), .int 0, .int 0])), (h6, .inr (8, [.ref h23, .int (-1), .int 0, .int 0])), (h0, .inr (11, [.ref h8, .int 0, .ref h9, .ref h10, .ref h11, .ref h12, .ref h13, .ref h14, .ref h15, .ref h16, .ref h17, .int 0, .ref h18, .ref h1])), (h1, .inl (cOShelf, 6, .inr (.inr (.inr (.inr (va_up (va_up (va_up (va_up (va_up (va_up (fun _ => none) (0 : Int32).toNatClampNeg (some h2)) (1 : Int32).toNatClampNeg (some h3)) (2 : Int32).toNatClampNeg (some h4)) (3 : Int32).toNatClampNeg (some h5)) (4 : Int32).toNatClampNeg (some h6)) (5 : Int32).toNatClampNeg (some h7)))))))]) (w1 := [(h7, .inr (8, [.ref h24, .int (-1), .int 0, .int 0]))]) hP hD [5] [0, 1, 2, 3, 4, 6, 7] rfl rfl (by decide) (by decide) hk1 hFc hP1 hD1
    generalize H1 = H at hP hS ⊢
    have hP : va_P (dC, dI) vwCl [(h2, .inr (8, [.ref h19, .int (-1), .int 0, .int 0])), (h3, .inr (8, [.ref h20, .int (-1), .int 0, .int 0])), (h4, .inr (8, [.ref h21, .int (-1), .int 0, .int 0])), (h5, .inr (8, [.ref h22, .int (-1), .int 0, .int 0])), (h6, .inr (8, [.ref h23, .int (-1), .int 0, .int 0])), (h0, .inr (11, [.ref h8, .int 0, .ref h9, .ref h10, .ref h11, .ref h12, .ref h13, .ref h14, .ref h15, .ref h16, .ref h17, .int 0, .ref h18, .ref h1])), (h1, .inl (cOShelf, 6, .inr (.inr (.inr (.inr (va_up (va_up (va_up (va_up (va_up (va_up (fun _ => none) (0 : Int32).toNatClampNeg (some h2)) (1 : Int32).toNatClampNeg (some h3)) (2 : Int32).toNatClampNeg (some h4)) (3 : Int32).toNatClampNeg (some h5)) (4 : Int32).toNatClampNeg (some h6)) (5 : Int32).toNatClampNeg (some h7))))))), (h7, .inr (8, [.ref h24, .int (-1), .int 0, .int 0]))] H := hP
    have hD : va_D A [(h2, .inr (8, [.ref h19, .int (-1), .int 0, .int 0])), (h3, .inr (8, [.ref h20, .int (-1), .int 0, .int 0])), (h4, .inr (8, [.ref h21, .int (-1), .int 0, .int 0])), (h5, .inr (8, [.ref h22, .int (-1), .int 0, .int 0])), (h6, .inr (8, [.ref h23, .int (-1), .int 0, .int 0])), (h0, .inr (11, [.ref h8, .int 0, .ref h9, .ref h10, .ref h11, .ref h12, .ref h13, .ref h14, .ref h15, .ref h16, .ref h17, .int 0, .ref h18, .ref h1])), (h1, .inl (cOShelf, 6, .inr (.inr (.inr (.inr (va_up (va_up (va_up (va_up (va_up (va_up (fun _ => none) (0 : Int32).toNatClampNeg (some h2)) (1 : Int32).toNatClampNeg (some h3)) (2 : Int32).toNatClampNeg (some h4)) (3 : Int32).toNatClampNeg (some h5)) (4 : Int32).toNatClampNeg (some h6)) (5 : Int32).toNatClampNeg (some h7))))))), (h7, .inr (8, [.ref h24, .int (-1), .int 0, .int 0]))] := hD
    obtain rfl := hw
    refine lv_istore (lv' := [(6, .int (-11)), (5, .ref h7), (0, .ref h0), (1, .int p0), (2, .int p1), (3, .long v2)]) hx hb dX11_put_20 hl (by decide) rfl (fun ls hl => ?_)
    refine lv_iload hx hb dX11_put_22 (lv_at hl 0 rfl) ?_
    refine lv_if_eq (tgt := 30) hx hb dX11_put_24 (by decide) (fun c => absurd c (by decide)) (fun _ => ?_)
    refine lv_iload hx hb dX11_put_27 (lv_at hl 0 rfl) ?_
    have hP9 := hP.sub (ws' := []) [] rfl
    have hD9 := hD.sub (ws' := []) [] (by decide) rfl
    have hK9 := hK.sub (tys' := []) [] rfl
    exact W.iret (v := (-11)) hx hb hr (fun t ht hW => ⟨⟨(-11), (), rfl, by first | rfl | ((repeat' split) <;> first | rfl | (exfalso; omega) | (exact Int32.toInt_inj.mp (by show ((-11) : Int) = _; omega))), by rw [ht]; exact hP9, va_K.moved hW.alike hK9, hD9⟩, hS.F ht⟩) hS.2.2 dX11_put_29
set_option maxHeartbeats 4000000 in
set_option maxRecDepth 100000 in
theorem k_X11_element_0 (l : Launch) (dC : Nat → ClassId) (dI : Nat → Nat → Nat) (h0 h1 h2 h3 h4 h5 h6 h7 h8 h9 h10 h11 h12 h13 h14 h15 h16 h17 h18 h19 h20 h21 h22 h23 h24 : Nat) (cOShelf : ClassId) (sz : Nat) (p0 : Int32) (p1 : Int32) : Met l yX11_element wsX11_element ({ frames := 2, cells := 0, slots := 0, locals := 41 }) (va_Pc [.ref h0, .int p0, .int p1] (fun U => U.heap.size = sz ∧ va_P (dC, dI) vwCl [(h0, .inr (11, [.ref h8, .int 0, .ref h9, .ref h10, .ref h11, .ref h12, .ref h13, .ref h14, .ref h15, .ref h16, .ref h17, .int 0, .ref h18, .ref h1])), (h1, .inl (cOShelf, 6, .inr (.inr (.inr (.inr (va_up (va_up (va_up (va_up (va_up (va_up (fun _ => none) (0 : Int32).toNatClampNeg (some h2)) (1 : Int32).toNatClampNeg (some h3)) (2 : Int32).toNatClampNeg (some h4)) (3 : Int32).toNatClampNeg (some h5)) (4 : Int32).toNatClampNeg (some h6)) (5 : Int32).toNatClampNeg (some h7))))))), (h2, .inr (8, [.ref h19, .int (-1), .int 0, .int 0])), (h3, .inr (8, [.ref h20, .int (-1), .int 0, .int 0])), (h4, .inr (8, [.ref h21, .int (-1), .int 0, .int 0])), (h5, .inr (8, [.ref h22, .int (-1), .int 0, .int 0])), (h6, .inr (8, [.ref h23, .int (-1), .int 0, .int 0])), (h7, .inr (8, [.ref h24, .int (-1), .int 0, .int 0]))] U.heap ∧ va_K (dC, dI) vwCl [(cOShelf, .object "KinkStreet$Shelf")] U ∧ va_D (fun _ => True) [(h0, .inr (11, [.ref h8, .int 0, .ref h9, .ref h10, .ref h11, .ref h12, .ref h13, .ref h14, .ref h15, .ref h16, .ref h17, .int 0, .ref h18, .ref h1])), (h1, .inl (cOShelf, 6, .inr (.inr (.inr (.inr (va_up (va_up (va_up (va_up (va_up (va_up (fun _ => none) (0 : Int32).toNatClampNeg (some h2)) (1 : Int32).toNatClampNeg (some h3)) (2 : Int32).toNatClampNeg (some h4)) (3 : Int32).toNatClampNeg (some h5)) (4 : Int32).toNatClampNeg (some h6)) (5 : Int32).toNatClampNeg (some h7))))))), (h2, .inr (8, [.ref h19, .int (-1), .int 0, .int 0])), (h3, .inr (8, [.ref h20, .int (-1), .int 0, .int 0])), (h4, .inr (8, [.ref h21, .int (-1), .int 0, .int 0])), (h5, .inr (8, [.ref h22, .int (-1), .int 0, .int 0])), (h6, .inr (8, [.ref h23, .int (-1), .int 0, .int 0])), (h7, .inr (8, [.ref h24, .int (-1), .int 0, .int 0]))])) (va_Ql (fun (r : Int64) (_ : Unit) => r = -9223372036854775808) (fun (_ : Unit) t => va_P (dC, dI) vwCl [] t.heap ∧ va_K (dC, dI) vwCl [] t ∧ va_D (va_A [(h0, .inr (11, [.ref h8, .int 0, .ref h9, .ref h10, .ref h11, .ref h12, .ref h13, .ref h14, .ref h15, .ref h16, .ref h17, .int 0, .ref h18, .ref h1])), (h1, .inl (cOShelf, 6, .inr (.inr (.inr (.inr (va_up (va_up (va_up (va_up (va_up (va_up (fun _ => none) (0 : Int32).toNatClampNeg (some h2)) (1 : Int32).toNatClampNeg (some h3)) (2 : Int32).toNatClampNeg (some h4)) (3 : Int32).toNatClampNeg (some h5)) (4 : Int32).toNatClampNeg (some h6)) (5 : Int32).toNatClampNeg (some h7))))))), (h2, .inr (8, [.ref h19, .int (-1), .int 0, .int 0])), (h3, .inr (8, [.ref h20, .int (-1), .int 0, .int 0])), (h4, .inr (8, [.ref h21, .int (-1), .int 0, .int 0])), (h5, .inr (8, [.ref h22, .int (-1), .int 0, .int 0])), (h6, .inr (8, [.ref h23, .int (-1), .int 0, .int 0])), (h7, .inr (8, [.ref h24, .int (-1), .int 0, .int 0]))] sz) []) (va_A [(h0, .inr (11, [.ref h8, .int 0, .ref h9, .ref h10, .ref h11, .ref h12, .ref h13, .ref h14, .ref h15, .ref h16, .ref h17, .int 0, .ref h18, .ref h1])), (h1, .inl (cOShelf, 6, .inr (.inr (.inr (.inr (va_up (va_up (va_up (va_up (va_up (va_up (fun _ => none) (0 : Int32).toNatClampNeg (some h2)) (1 : Int32).toNatClampNeg (some h3)) (2 : Int32).toNatClampNeg (some h4)) (3 : Int32).toNatClampNeg (some h5)) (4 : Int32).toNatClampNeg (some h6)) (5 : Int32).toNatClampNeg (some h7))))))), (h2, .inr (8, [.ref h19, .int (-1), .int 0, .int 0])), (h3, .inr (8, [.ref h20, .int (-1), .int 0, .int 0])), (h4, .inr (8, [.ref h21, .int (-1), .int 0, .int 0])), (h5, .inr (8, [.ref h22, .int (-1), .int 0, .int 0])), (h6, .inr (8, [.ref h23, .int (-1), .int 0, .int 0])), (h7, .inr (8, [.ref h24, .int (-1), .int 0, .int 0]))] sz)) 0 0 (va_A [(h0, .inr (11, [.ref h8, .int 0, .ref h9, .ref h10, .ref h11, .ref h12, .ref h13, .ref h14, .ref h15, .ref h16, .ref h17, .int 0, .ref h18, .ref h1])), (h1, .inl (cOShelf, 6, .inr (.inr (.inr (.inr (va_up (va_up (va_up (va_up (va_up (va_up (fun _ => none) (0 : Int32).toNatClampNeg (some h2)) (1 : Int32).toNatClampNeg (some h3)) (2 : Int32).toNatClampNeg (some h4)) (3 : Int32).toNatClampNeg (some h5)) (4 : Int32).toNatClampNeg (some h6)) (5 : Int32).toNatClampNeg (some h7))))))), (h2, .inr (8, [.ref h19, .int (-1), .int 0, .int 0])), (h3, .inr (8, [.ref h20, .int (-1), .int 0, .int 0])), (h4, .inr (8, [.ref h21, .int (-1), .int 0, .int 0])), (h5, .inr (8, [.ref h22, .int (-1), .int 0, .int 0])), (h6, .inr (8, [.ref h23, .int (-1), .int 0, .int 0])), (h7, .inr (8, [.ref h24, .int (-1), .int 0, .int 0]))] sz) := by
  refine Met.ofW (cc := cX11_element) (maxL := 4) (ret := (some .long)) (by decide) rfl ?_
  intro p e s m args below meth c s₁ B hml hv
  obtain ⟨rfl, hsz, hP, hK, hD0⟩ := hv
  have hx := B.exec
  have hb := B.bytes
  have hr := B.returns
  have hts := atoms_spec (ws := wsX11_element) B.pre
  have hown : s.vm.findClass RX11 = some m.cls := findClass_of_methodNamed B.named
  have hlocks := B.notSynchronized
  subst hsz
  have hD := hD0.self (sz := s.heap.size)
  generalize hAe : va_A [(h0, .inr (11, [.ref h8, .int 0, .ref h9, .ref h10, .ref h11, .ref h12, .ref h13, .ref h14, .ref h15, .ref h16, .ref h17, .int 0, .ref h18, .ref h1])), (h1, .inl (cOShelf, 6, .inr (.inr (.inr (.inr (va_up (va_up (va_up (va_up (va_up (va_up (fun _ => none) (0 : Int32).toNatClampNeg (some h2)) (1 : Int32).toNatClampNeg (some h3)) (2 : Int32).toNatClampNeg (some h4)) (3 : Int32).toNatClampNeg (some h5)) (4 : Int32).toNatClampNeg (some h6)) (5 : Int32).toNatClampNeg (some h7))))))), (h2, .inr (8, [.ref h19, .int (-1), .int 0, .int 0])), (h3, .inr (8, [.ref h20, .int (-1), .int 0, .int 0])), (h4, .inr (8, [.ref h21, .int (-1), .int 0, .int 0])), (h5, .inr (8, [.ref h22, .int (-1), .int 0, .int 0])), (h6, .inr (8, [.ref h23, .int (-1), .int 0, .int 0])), (h7, .inr (8, [.ref h24, .int (-1), .int 0, .int 0]))] s.heap.size = A at hD ⊢
  have hA : ∀ q : Nat, s.heap.size ≤ q → A q := fun q h => by rw [← hAe]; exact Or.inr h
  have hS : va_S A s.heap s.heap [] := va_S.rf
  have hP : va_P (dC, dI) vwCl [(h0, .inr (11, [.ref h8, .int 0, .ref h9, .ref h10, .ref h11, .ref h12, .ref h13, .ref h14, .ref h15, .ref h16, .ref h17, .int 0, .ref h18, .ref h1])), (h1, .inl (cOShelf, 6, .inr (.inr (.inr (.inr (va_up (va_up (va_up (va_up (va_up (va_up (fun _ => none) (0 : Int32).toNatClampNeg (some h2)) (1 : Int32).toNatClampNeg (some h3)) (2 : Int32).toNatClampNeg (some h4)) (3 : Int32).toNatClampNeg (some h5)) (4 : Int32).toNatClampNeg (some h6)) (5 : Int32).toNatClampNeg (some h7))))))), (h2, .inr (8, [.ref h19, .int (-1), .int 0, .int 0])), (h3, .inr (8, [.ref h20, .int (-1), .int 0, .int 0])), (h4, .inr (8, [.ref h21, .int (-1), .int 0, .int 0])), (h5, .inr (8, [.ref h22, .int (-1), .int 0, .int 0])), (h6, .inr (8, [.ref h23, .int (-1), .int 0, .int 0])), (h7, .inr (8, [.ref h24, .int (-1), .int 0, .int 0]))] s.heap := hP
  have hl := lv_entry ([.ref h0, .int p0, .int p1]) (n := 4) (Nat.le_of_ble_eq_true rfl)
  rw [lg_entry_eq]
  generalize (lg_sl ([.ref h0, .int p0, .int p1]) ++ List.replicate (4 - (lg_sl ([.ref h0, .int p0, .int p1])).length) Slot.unset).toArray = ls at hl ⊢
  have hl : lv_has ls 4 [(0, .ref h0), (1, .int p0), (2, .int p1)] := hl
  refine lv_aload_n hx hb dX11_element_0 rfl (lv_at hl 0 rfl) ?_
  refine lv_iload_n hx hb dX11_element_1 rfl (lv_at hl 1 rfl) ?_
  have hPc := hP.sub (ws' := [(h0, .inr (11, [.ref h8, .int 0, .ref h9, .ref h10, .ref h11, .ref h12, .ref h13, .ref h14, .ref h15, .ref h16, .ref h17, .int 0, .ref h18, .ref h1])), (h1, .inl (cOShelf, 6, .inr (.inr (.inr (.inr (va_up (va_up (va_up (va_up (va_up (va_up (fun _ => none) (0 : Int32).toNatClampNeg (some h2)) (1 : Int32).toNatClampNeg (some h3)) (2 : Int32).toNatClampNeg (some h4)) (3 : Int32).toNatClampNeg (some h5)) (4 : Int32).toNatClampNeg (some h6)) (5 : Int32).toNatClampNeg (some h7)))))))]) [0, 1] rfl
  have hDc := hD.sub (ws' := [(h0, .inr (11, [.ref h8, .int 0, .ref h9, .ref h10, .ref h11, .ref h12, .ref h13, .ref h14, .ref h15, .ref h16, .ref h17, .int 0, .ref h18, .ref h1])), (h1, .inl (cOShelf, 6, .inr (.inr (.inr (.inr (va_up (va_up (va_up (va_up (va_up (va_up (fun _ => none) (0 : Int32).toNatClampNeg (some h2)) (1 : Int32).toNatClampNeg (some h3)) (2 : Int32).toNatClampNeg (some h4)) (3 : Int32).toNatClampNeg (some h5)) (4 : Int32).toNatClampNeg (some h6)) (5 : Int32).toNatClampNeg (some h7)))))))]) [0, 1] (by decide) rfl
  have hKc := hK.sub (tys' := [(cOShelf, .object "KinkStreet$Shelf")]) [0] rfl
  have hFc := va_free (wc := [(h0, .inr (11, [.ref h8, .int 0, .ref h9, .ref h10, .ref h11, .ref h12, .ref h13, .ref h14, .ref h15, .ref h16, .ref h17, .int 0, .ref h18, .ref h1])), (h1, .inl (cOShelf, 6, .inr (.inr (.inr (.inr (va_up (va_up (va_up (va_up (va_up (va_up (fun _ => none) (0 : Int32).toNatClampNeg (some h2)) (1 : Int32).toNatClampNeg (some h3)) (2 : Int32).toNatClampNeg (some h4)) (3 : Int32).toNatClampNeg (some h5)) (4 : Int32).toNatClampNeg (some h6)) (5 : Int32).toNatClampNeg (some h7)))))))]) hD hS hA [0, 1] rfl
  refine va_callq (va_runV (As := [.int p0]) (rest := []) ⟨hx, hb, hml, hown, hts⟩ (k_X11_knownShelf_0 l dC dI h0 h1 h8 h9 h10 h11 h12 h13 h14 h15 h16 h17 h18 h2 h3 h4 h5 h6 h7 cOShelf s.heap.size p0) (cwV 1 hts gX11_element_X11_knownShelf rfl rfl rfl (by decide +kernel) ⟨Nat.le_of_ble_eq_true rfl, Nat.le_of_ble_eq_true rfl⟩) ⟨fun a U g mk q => by obtain ⟨q0, q1, qP, qK, qD⟩ := q; exact ⟨q0, q1, qP, va_K.moved (u := U) (U := U.calling g mk a) (Vm.Alike.refl U.vm) qK, qD⟩, va_recv hKc hPc (ci := 11) (q0 := 0) rfl rfl, fun U hU hW => ⟨rfl, by rw [hU], by rw [hU]; exact hPc, va_K.moved hW.alike hKc, hDc.weaken (fun _ _ _ _ => trivial)⟩⟩ rfl rfl hl.1 rfl (lv_room (Nat.le_of_ble_eq_true rfl)) dX11_element_2 ⟨Nat.le_of_ble_eq_true rfl, Nat.le_of_ble_eq_true rfl⟩) hS (fun q _ h => hFc q h) hFc (fun r_1 u t H1 locs ht hvm hw hB hz1 hk1 hS => ?_)
  obtain ⟨hP1, hK1, hD1⟩ := hB
  rw [ht] at hP1
  have hK1 := va_K.moved hvm.symm hK1
  obtain ⟨hP, hD⟩ := va_join (wr := [(h2, .inr (8, [.ref h19, .int (-1), .int 0, .int 0])), (h3, .inr (8, [.ref h20, .int (-1), .int 0, .int 0])), (h4, .inr (8, [.ref h21, .int (-1), .int 0, .int 0])), (h5, .inr (8, [.ref h22, .int (-1), .int 0, .int 0])), (h6, .inr (8, [.ref h23, .int (-1), .int 0, .int 0])), (h7, .inr (8, [.ref h24, .int (-1), .int 0, .int 0]))]) (w1 := [(h0, .inr (11, [.ref h8, .int 0, .ref h9, .ref h10, .ref h11, .ref h12, .ref h13, .ref h14, .ref h15, .ref h16, .ref h17, .int 0, .ref h18, .ref h1])), (h1, .inl (cOShelf, 6, .inr (.inr (.inr (.inr (va_up (va_up (va_up (va_up (va_up (va_up (fun _ => none) (0 : Int32).toNatClampNeg (some h2)) (1 : Int32).toNatClampNeg (some h3)) (2 : Int32).toNatClampNeg (some h4)) (3 : Int32).toNatClampNeg (some h5)) (4 : Int32).toNatClampNeg (some h6)) (5 : Int32).toNatClampNeg (some h7)))))))]) hP hD [0, 1] [2, 3, 4, 5, 6, 7] rfl rfl (by decide) (by decide) hk1 hFc hP1 hD1
  generalize H1 = H at hP hS ⊢
  have hP : va_P (dC, dI) vwCl [(h2, .inr (8, [.ref h19, .int (-1), .int 0, .int 0])), (h3, .inr (8, [.ref h20, .int (-1), .int 0, .int 0])), (h4, .inr (8, [.ref h21, .int (-1), .int 0, .int 0])), (h5, .inr (8, [.ref h22, .int (-1), .int 0, .int 0])), (h6, .inr (8, [.ref h23, .int (-1), .int 0, .int 0])), (h7, .inr (8, [.ref h24, .int (-1), .int 0, .int 0])), (h0, .inr (11, [.ref h8, .int 0, .ref h9, .ref h10, .ref h11, .ref h12, .ref h13, .ref h14, .ref h15, .ref h16, .ref h17, .int 0, .ref h18, .ref h1])), (h1, .inl (cOShelf, 6, .inr (.inr (.inr (.inr (va_up (va_up (va_up (va_up (va_up (va_up (fun _ => none) (0 : Int32).toNatClampNeg (some h2)) (1 : Int32).toNatClampNeg (some h3)) (2 : Int32).toNatClampNeg (some h4)) (3 : Int32).toNatClampNeg (some h5)) (4 : Int32).toNatClampNeg (some h6)) (5 : Int32).toNatClampNeg (some h7)))))))] H := hP
  have hD : va_D A [(h2, .inr (8, [.ref h19, .int (-1), .int 0, .int 0])), (h3, .inr (8, [.ref h20, .int (-1), .int 0, .int 0])), (h4, .inr (8, [.ref h21, .int (-1), .int 0, .int 0])), (h5, .inr (8, [.ref h22, .int (-1), .int 0, .int 0])), (h6, .inr (8, [.ref h23, .int (-1), .int 0, .int 0])), (h7, .inr (8, [.ref h24, .int (-1), .int 0, .int 0])), (h0, .inr (11, [.ref h8, .int 0, .ref h9, .ref h10, .ref h11, .ref h12, .ref h13, .ref h14, .ref h15, .ref h16, .ref h17, .int 0, .ref h18, .ref h1])), (h1, .inl (cOShelf, 6, .inr (.inr (.inr (.inr (va_up (va_up (va_up (va_up (va_up (va_up (fun _ => none) (0 : Int32).toNatClampNeg (some h2)) (1 : Int32).toNatClampNeg (some h3)) (2 : Int32).toNatClampNeg (some h4)) (3 : Int32).toNatClampNeg (some h5)) (4 : Int32).toNatClampNeg (some h6)) (5 : Int32).toNatClampNeg (some h7)))))))] := hD
  rcases hw with ⟨t_1_0, rfl⟩ | ⟨t_1_0, t_1_1, rfl⟩ | ⟨t_1_0, t_1_1, t_1_2, rfl⟩ | ⟨t_1_0, t_1_1, t_1_2, rfl⟩ | ⟨t_1_0, t_1_1, t_1_2, rfl⟩ | ⟨t_1_0, t_1_1, t_1_2, rfl⟩ | ⟨t_1_0, t_1_1, t_1_2, rfl⟩ | ⟨t_1_0, t_1_1, t_1_2, rfl⟩
  · skip
    refine W.eq (g2 := F0 m 5 ls [.null]) rfl ?_
    refine lv_astore_nN (lv' := [(3, .null), (0, .ref h0), (1, .int p0), (2, .int p1)]) hx hb dX11_element_5 rfl hl (by decide) rfl (fun ls hl => ?_)
    refine lv_aload_nN hx hb dX11_element_6 rfl (lv_at hl 0 rfl) ?_
    refine lv_ifnullN (tgt := 18) hx hb dX11_element_7 (by decide) ?_
    refine lv_ldc2 hx hb hown (hts _ (List.mem_of_getElem? (i := 1) rfl)) dX11_element_18 ?_
    refine lv_goto (tgt := 29) hx hb dX11_element_21 (by decide) ?_
    have hP9 := hP.sub (ws' := []) [] rfl
    have hD9 := hD.sub (ws' := []) [] (by decide) rfl
    have hK9 := hK.sub (tys' := []) [] rfl
    exact W.lret (v := (-9223372036854775808)) hx hb hr (fun t ht hW => ⟨⟨(-9223372036854775808), (), rfl, by first | rfl | ((repeat' split) <;> first | rfl | (exfalso; omega) | (exact Int32.toInt_inj.mp (by show ((-9223372036854775808) : Int) = _; omega))), by rw [ht]; exact hP9, va_K.moved hW.alike hK9, hD9⟩, hS.F ht⟩) hS.2.2 dX11_element_29
  · skip
    refine W.eq (g2 := F0 m 5 ls [.null]) rfl ?_
    refine lv_astore_nN (lv' := [(3, .null), (0, .ref h0), (1, .int p0), (2, .int p1)]) hx hb dX11_element_5 rfl hl (by decide) rfl (fun ls hl => ?_)
    refine lv_aload_nN hx hb dX11_element_6 rfl (lv_at hl 0 rfl) ?_
    refine lv_ifnullN (tgt := 18) hx hb dX11_element_7 (by decide) ?_
    refine lv_ldc2 hx hb hown (hts _ (List.mem_of_getElem? (i := 1) rfl)) dX11_element_18 ?_
    refine lv_goto (tgt := 29) hx hb dX11_element_21 (by decide) ?_
    have hP9 := hP.sub (ws' := []) [] rfl
    have hD9 := hD.sub (ws' := []) [] (by decide) rfl
    have hK9 := hK.sub (tys' := []) [] rfl
    exact W.lret (v := (-9223372036854775808)) hx hb hr (fun t ht hW => ⟨⟨(-9223372036854775808), (), rfl, by first | rfl | ((repeat' split) <;> first | rfl | (exfalso; omega) | (exact Int32.toInt_inj.mp (by show ((-9223372036854775808) : Int) = _; omega))), by rw [ht]; exact hP9, va_K.moved hW.alike hK9, hD9⟩, hS.F ht⟩) hS.2.2 dX11_element_29
  · skip
    refine W.eq (g2 := F0 m 5 ls [.ref h2]) rfl ?_
    refine lv_astore_n (lv' := [(3, .ref h2), (0, .ref h0), (1, .int p0), (2, .int p1)]) hx hb dX11_element_5 rfl hl (by decide) rfl (fun ls hl => ?_)
    refine lv_aload_n hx hb dX11_element_6 rfl (lv_at hl 0 rfl) ?_
    refine lv_ifnull hx hb dX11_element_7 ?_
    refine lv_aload_n hx hb dX11_element_10 rfl (lv_at hl 0 rfl) ?_
    refine lv_iload_n hx hb dX11_element_11 rfl (lv_at hl 3 rfl) ?_
    have hPc := hP.sub (ws' := [(h2, .inr (8, [.ref h19, .int (-1), .int 0, .int 0]))]) [0] rfl
    have hDc := hD.sub (ws' := [(h2, .inr (8, [.ref h19, .int (-1), .int 0, .int 0]))]) [0] (by decide) rfl
    have hKc := hK.sub (tys' := []) [] rfl
    have hFc := va_free (wc := [(h2, .inr (8, [.ref h19, .int (-1), .int 0, .int 0]))]) hD hS hA [0] rfl
    refine va_calli (va_runV (As := [.int p1]) (rest := []) ⟨hx, hb, hml, hown, hts⟩ (k_X8_refusal_0 l dC dI h2 h19 H.size p1) (cwV 1 hts gX11_element_X8_refusal rfl rfl rfl (by decide +kernel) ⟨Nat.le_of_ble_eq_true rfl, Nat.le_of_ble_eq_true rfl⟩) ⟨fun a U g mk q => by obtain ⟨q0, q1, qP, qK, qD⟩ := q; exact ⟨q0, q1, qP, va_K.moved (u := U) (U := U.calling g mk a) (Vm.Alike.refl U.vm) qK, qD⟩, va_recv hKc hPc (ci := 8) (q0 := 0) rfl rfl, fun U hU hW => ⟨rfl, by rw [hU], by rw [hU]; exact hPc, va_K.moved hW.alike hKc, hDc.weaken (fun _ _ _ _ => trivial)⟩⟩ rfl rfl hl.1 rfl (lv_room (Nat.le_of_ble_eq_true rfl)) dX11_element_12 ⟨Nat.le_of_ble_eq_true rfl, Nat.le_of_ble_eq_true rfl⟩) hS (fun q _ h => hFc q h) hFc (fun r_2 u t H1 locs ht hvm hw hB hz1 hk1 hS => ?_)
    obtain ⟨hP1, hK1, hD1⟩ := hB
    rw [ht] at hP1
    have hK1 := va_K.moved hvm.symm hK1
    obtain ⟨hP, hD⟩ := va_join (wr := [(h3, .inr (8, [.ref h20, .int (-1), .int 0, .int 0])), (h4, .inr (8, [.ref h21, .int (-1), .int 0, .int 0])), (h5, .inr (8, [.ref h22, .int (-1), .int 0, .int 0])), (h6, .inr (8, [.ref h23, .int (-1), .int 0, .int 0])), (h7, .inr (8, [.ref h24, .int (-1), .int 0, .int 0])), (h0, .inr (11, [.ref h8, .int 0, .ref h9, .ref h10, .ref h11, .ref h12, .ref h13, .ref h14, .ref h15, .ref h16, .ref h17, .int 0, .ref h18, .ref h1])), (h1, .inl (cOShelf, 6, .inr (.inr (.inr (.inr (va_up (va_up (va_up (va_up (va_up (va_up (fun _ => none) (0 : Int32).toNatClampNeg (some h2)) (1 : Int32).toNatClampNeg (some h3)) (2 : Int32).toNatClampNeg (some h4)) (3 : Int32).toNatClampNeg (some h5)) (4 : Int32).toNatClampNeg (some h6)) (5 : Int32).toNatClampNeg (some h7)))))))]) (w1 := [(h2, .inr (8, [.ref h19, .int (-1), .int 0, .int 0]))]) hP hD [0] [1, 2, 3, 4, 5, 6, 7] rfl rfl (by decide) (by decide) hk1 hFc hP1 hD1
    generalize H1 = H at hP hS ⊢
    have hP : va_P (dC, dI) vwCl [(h3, .inr (8, [.ref h20, .int (-1), .int 0, .int 0])), (h4, .inr (8, [.ref h21, .int (-1), .int 0, .int 0])), (h5, .inr (8, [.ref h22, .int (-1), .int 0, .int 0])), (h6, .inr (8, [.ref h23, .int (-1), .int 0, .int 0])), (h7, .inr (8, [.ref h24, .int (-1), .int 0, .int 0])), (h0, .inr (11, [.ref h8, .int 0, .ref h9, .ref h10, .ref h11, .ref h12, .ref h13, .ref h14, .ref h15, .ref h16, .ref h17, .int 0, .ref h18, .ref h1])), (h1, .inl (cOShelf, 6, .inr (.inr (.inr (.inr (va_up (va_up (va_up (va_up (va_up (va_up (fun _ => none) (0 : Int32).toNatClampNeg (some h2)) (1 : Int32).toNatClampNeg (some h3)) (2 : Int32).toNatClampNeg (some h4)) (3 : Int32).toNatClampNeg (some h5)) (4 : Int32).toNatClampNeg (some h6)) (5 : Int32).toNatClampNeg (some h7))))))), (h2, .inr (8, [.ref h19, .int (-1), .int 0, .int 0]))] H := hP
    have hD : va_D A [(h3, .inr (8, [.ref h20, .int (-1), .int 0, .int 0])), (h4, .inr (8, [.ref h21, .int (-1), .int 0, .int 0])), (h5, .inr (8, [.ref h22, .int (-1), .int 0, .int 0])), (h6, .inr (8, [.ref h23, .int (-1), .int 0, .int 0])), (h7, .inr (8, [.ref h24, .int (-1), .int 0, .int 0])), (h0, .inr (11, [.ref h8, .int 0, .ref h9, .ref h10, .ref h11, .ref h12, .ref h13, .ref h14, .ref h15, .ref h16, .ref h17, .int 0, .ref h18, .ref h1])), (h1, .inl (cOShelf, 6, .inr (.inr (.inr (.inr (va_up (va_up (va_up (va_up (va_up (va_up (fun _ => none) (0 : Int32).toNatClampNeg (some h2)) (1 : Int32).toNatClampNeg (some h3)) (2 : Int32).toNatClampNeg (some h4)) (3 : Int32).toNatClampNeg (some h5)) (4 : Int32).toNatClampNeg (some h6)) (5 : Int32).toNatClampNeg (some h7))))))), (h2, .inr (8, [.ref h19, .int (-1), .int 0, .int 0]))] := hD
    obtain rfl := hw
    refine lv_if_eq (tgt := 24) hx hb dX11_element_15 (by decide) (fun c => absurd c (by decide)) (fun _ => ?_)
    refine lv_ldc2 hx hb hown (hts _ (List.mem_of_getElem? (i := 1) rfl)) dX11_element_18 ?_
    refine lv_goto (tgt := 29) hx hb dX11_element_21 (by decide) ?_
    have hP9 := hP.sub (ws' := []) [] rfl
    have hD9 := hD.sub (ws' := []) [] (by decide) rfl
    have hK9 := hK.sub (tys' := []) [] rfl
    exact W.lret (v := (-9223372036854775808)) hx hb hr (fun t ht hW => ⟨⟨(-9223372036854775808), (), rfl, by first | rfl | ((repeat' split) <;> first | rfl | (exfalso; omega) | (exact Int32.toInt_inj.mp (by show ((-9223372036854775808) : Int) = _; omega))), by rw [ht]; exact hP9, va_K.moved hW.alike hK9, hD9⟩, hS.F ht⟩) hS.2.2 dX11_element_29
  · skip
    refine W.eq (g2 := F0 m 5 ls [.ref h3]) rfl ?_
    refine lv_astore_n (lv' := [(3, .ref h3), (0, .ref h0), (1, .int p0), (2, .int p1)]) hx hb dX11_element_5 rfl hl (by decide) rfl (fun ls hl => ?_)
    refine lv_aload_n hx hb dX11_element_6 rfl (lv_at hl 0 rfl) ?_
    refine lv_ifnull hx hb dX11_element_7 ?_
    refine lv_aload_n hx hb dX11_element_10 rfl (lv_at hl 0 rfl) ?_
    refine lv_iload_n hx hb dX11_element_11 rfl (lv_at hl 3 rfl) ?_
    have hPc := hP.sub (ws' := [(h3, .inr (8, [.ref h20, .int (-1), .int 0, .int 0]))]) [1] rfl
    have hDc := hD.sub (ws' := [(h3, .inr (8, [.ref h20, .int (-1), .int 0, .int 0]))]) [1] (by decide) rfl
    have hKc := hK.sub (tys' := []) [] rfl
    have hFc := va_free (wc := [(h3, .inr (8, [.ref h20, .int (-1), .int 0, .int 0]))]) hD hS hA [1] rfl
    refine va_calli (va_runV (As := [.int p1]) (rest := []) ⟨hx, hb, hml, hown, hts⟩ (k_X8_refusal_0 l dC dI h3 h20 H.size p1) (cwV 1 hts gX11_element_X8_refusal rfl rfl rfl (by decide +kernel) ⟨Nat.le_of_ble_eq_true rfl, Nat.le_of_ble_eq_true rfl⟩) ⟨fun a U g mk q => by obtain ⟨q0, q1, qP, qK, qD⟩ := q; exact ⟨q0, q1, qP, va_K.moved (u := U) (U := U.calling g mk a) (Vm.Alike.refl U.vm) qK, qD⟩, va_recv hKc hPc (ci := 8) (q0 := 0) rfl rfl, fun U hU hW => ⟨rfl, by rw [hU], by rw [hU]; exact hPc, va_K.moved hW.alike hKc, hDc.weaken (fun _ _ _ _ => trivial)⟩⟩ rfl rfl hl.1 rfl (lv_room (Nat.le_of_ble_eq_true rfl)) dX11_element_12 ⟨Nat.le_of_ble_eq_true rfl, Nat.le_of_ble_eq_true rfl⟩) hS (fun q _ h => hFc q h) hFc (fun r_3 u t H1 locs ht hvm hw hB hz1 hk1 hS => ?_)
    obtain ⟨hP1, hK1, hD1⟩ := hB
    rw [ht] at hP1
    have hK1 := va_K.moved hvm.symm hK1
    obtain ⟨hP, hD⟩ := va_join (wr := [(h2, .inr (8, [.ref h19, .int (-1), .int 0, .int 0])), (h4, .inr (8, [.ref h21, .int (-1), .int 0, .int 0])), (h5, .inr (8, [.ref h22, .int (-1), .int 0, .int 0])), (h6, .inr (8, [.ref h23, .int (-1), .int 0, .int 0])), (h7, .inr (8, [.ref h24, .int (-1), .int 0, .int 0])), (h0, .inr (11, [.ref h8, .int 0, .ref h9, .ref h10, .ref h11, .ref h12, .ref h13, .ref h14, .ref h15, .ref h16, .ref h17, .int 0, .ref h18, .ref h1])), (h1, .inl (cOShelf, 6, .inr (.inr (.inr (.inr (va_up (va_up (va_up (va_up (va_up (va_up (fun _ => none) (0 : Int32).toNatClampNeg (some h2)) (1 : Int32).toNatClampNeg (some h3)) (2 : Int32).toNatClampNeg (some h4)) (3 : Int32).toNatClampNeg (some h5)) (4 : Int32).toNatClampNeg (some h6)) (5 : Int32).toNatClampNeg (some h7)))))))]) (w1 := [(h3, .inr (8, [.ref h20, .int (-1), .int 0, .int 0]))]) hP hD [1] [0, 2, 3, 4, 5, 6, 7] rfl rfl (by decide) (by decide) hk1 hFc hP1 hD1
    generalize H1 = H at hP hS ⊢
    have hP : va_P (dC, dI) vwCl [(h2, .inr (8, [.ref h19, .int (-1), .int 0, .int 0])), (h4, .inr (8, [.ref h21, .int (-1), .int 0, .int 0])), (h5, .inr (8, [.ref h22, .int (-1), .int 0, .int 0])), (h6, .inr (8, [.ref h23, .int (-1), .int 0, .int 0])), (h7, .inr (8, [.ref h24, .int (-1), .int 0, .int 0])), (h0, .inr (11, [.ref h8, .int 0, .ref h9, .ref h10, .ref h11, .ref h12, .ref h13, .ref h14, .ref h15, .ref h16, .ref h17, .int 0, .ref h18, .ref h1])), (h1, .inl (cOShelf, 6, .inr (.inr (.inr (.inr (va_up (va_up (va_up (va_up (va_up (va_up (fun _ => none) (0 : Int32).toNatClampNeg (some h2)) (1 : Int32).toNatClampNeg (some h3)) (2 : Int32).toNatClampNeg (some h4)) (3 : Int32).toNatClampNeg (some h5)) (4 : Int32).toNatClampNeg (some h6)) (5 : Int32).toNatClampNeg (some h7))))))), (h3, .inr (8, [.ref h20, .int (-1), .int 0, .int 0]))] H := hP
    have hD : va_D A [(h2, .inr (8, [.ref h19, .int (-1), .int 0, .int 0])), (h4, .inr (8, [.ref h21, .int (-1), .int 0, .int 0])), (h5, .inr (8, [.ref h22, .int (-1), .int 0, .int 0])), (h6, .inr (8, [.ref h23, .int (-1), .int 0, .int 0])), (h7, .inr (8, [.ref h24, .int (-1), .int 0, .int 0])), (h0, .inr (11, [.ref h8, .int 0, .ref h9, .ref h10, .ref h11, .ref h12, .ref h13, .ref h14, .ref h15, .ref h16, .ref h17, .int 0, .ref h18, .ref h1])), (h1, .inl (cOShelf, 6, .inr (.inr (.inr (.inr (va_up (va_up (va_up (va_up (va_up (va_up (fun _ => none) (0 : Int32).toNatClampNeg (some h2)) (1 : Int32).toNatClampNeg (some h3)) (2 : Int32).toNatClampNeg (some h4)) (3 : Int32).toNatClampNeg (some h5)) (4 : Int32).toNatClampNeg (some h6)) (5 : Int32).toNatClampNeg (some h7))))))), (h3, .inr (8, [.ref h20, .int (-1), .int 0, .int 0]))] := hD
    obtain rfl := hw
    refine lv_if_eq (tgt := 24) hx hb dX11_element_15 (by decide) (fun c => absurd c (by decide)) (fun _ => ?_)
    refine lv_ldc2 hx hb hown (hts _ (List.mem_of_getElem? (i := 1) rfl)) dX11_element_18 ?_
    refine lv_goto (tgt := 29) hx hb dX11_element_21 (by decide) ?_
    have hP9 := hP.sub (ws' := []) [] rfl
    have hD9 := hD.sub (ws' := []) [] (by decide) rfl
    have hK9 := hK.sub (tys' := []) [] rfl
    exact W.lret (v := (-9223372036854775808)) hx hb hr (fun t ht hW => ⟨⟨(-9223372036854775808), (), rfl, by first | rfl | ((repeat' split) <;> first | rfl | (exfalso; omega) | (exact Int32.toInt_inj.mp (by show ((-9223372036854775808) : Int) = _; omega))), by rw [ht]; exact hP9, va_K.moved hW.alike hK9, hD9⟩, hS.F ht⟩) hS.2.2 dX11_element_29
  · skip
    refine W.eq (g2 := F0 m 5 ls [.ref h4]) rfl ?_
    refine lv_astore_n (lv' := [(3, .ref h4), (0, .ref h0), (1, .int p0), (2, .int p1)]) hx hb dX11_element_5 rfl hl (by decide) rfl (fun ls hl => ?_)
    refine lv_aload_n hx hb dX11_element_6 rfl (lv_at hl 0 rfl) ?_
    refine lv_ifnull hx hb dX11_element_7 ?_
    refine lv_aload_n hx hb dX11_element_10 rfl (lv_at hl 0 rfl) ?_
    refine lv_iload_n hx hb dX11_element_11 rfl (lv_at hl 3 rfl) ?_
    have hPc := hP.sub (ws' := [(h4, .inr (8, [.ref h21, .int (-1), .int 0, .int 0]))]) [2] rfl
    have hDc := hD.sub (ws' := [(h4, .inr (8, [.ref h21, .int (-1), .int 0, .int 0]))]) [2] (by decide) rfl
    have hKc := hK.sub (tys' := []) [] rfl
    have hFc := va_free (wc := [(h4, .inr (8, [.ref h21, .int (-1), .int 0, .int 0]))]) hD hS hA [2] rfl
    refine va_calli (va_runV (As := [.int p1]) (rest := []) ⟨hx, hb, hml, hown, hts⟩ (k_X8_refusal_0 l dC dI h4 h21 H.size p1) (cwV 1 hts gX11_element_X8_refusal rfl rfl rfl (by decide +kernel) ⟨Nat.le_of_ble_eq_true rfl, Nat.le_of_ble_eq_true rfl⟩) ⟨fun a U g mk q => by obtain ⟨q0, q1, qP, qK, qD⟩ := q; exact ⟨q0, q1, qP, va_K.moved (u := U) (U := U.calling g mk a) (Vm.Alike.refl U.vm) qK, qD⟩, va_recv hKc hPc (ci := 8) (q0 := 0) rfl rfl, fun U hU hW => ⟨rfl, by rw [hU], by rw [hU]; exact hPc, va_K.moved hW.alike hKc, hDc.weaken (fun _ _ _ _ => trivial)⟩⟩ rfl rfl hl.1 rfl (lv_room (Nat.le_of_ble_eq_true rfl)) dX11_element_12 ⟨Nat.le_of_ble_eq_true rfl, Nat.le_of_ble_eq_true rfl⟩) hS (fun q _ h => hFc q h) hFc (fun r_4 u t H1 locs ht hvm hw hB hz1 hk1 hS => ?_)
    obtain ⟨hP1, hK1, hD1⟩ := hB
    rw [ht] at hP1
    have hK1 := va_K.moved hvm.symm hK1
    obtain ⟨hP, hD⟩ := va_join (wr := [(h2, .inr (8, [.ref h19, .int (-1), .int 0, .int 0])), (h3, .inr (8, [.ref h20, .int (-1), .int 0, .int 0])), (h5, .inr (8, [.ref h22, .int (-1), .int 0, .int 0])), (h6, .inr (8, [.ref h23, .int (-1), .int 0, .int 0])), (h7, .inr (8, [.ref h24, .int (-1), .int 0, .int 0])), (h0, .inr (11, [.ref h8, .int 0, .ref h9, .ref h10, .ref h11, .ref h12, .ref h13, .ref h14, .ref h15, .ref h16, .ref h17, .int 0, .ref h18, .ref h1])), (h1, .inl (cOShelf, 6, .inr (.inr (.inr (.inr (va_up (va_up (va_up (va_up (va_up (va_up (fun _ => none) (0 : Int32).toNatClampNeg (some h2)) (1 : Int32).toNatClampNeg (some h3)) (2 : Int32).toNatClampNeg (some h4)) (3 : Int32).toNatClampNeg (some h5)) (4 : Int32).toNatClampNeg (some h6)) (5 : Int32).toNatClampNeg (some h7)))))))]) (w1 := [(h4, .inr (8, [.ref h21, .int (-1), .int 0, .int 0]))]) hP hD [2] [0, 1, 3, 4, 5, 6, 7] rfl rfl (by decide) (by decide) hk1 hFc hP1 hD1
    generalize H1 = H at hP hS ⊢
    have hP : va_P (dC, dI) vwCl [(h2, .inr (8, [.ref h19, .int (-1), .int 0, .int 0])), (h3, .inr (8, [.ref h20, .int (-1), .int 0, .int 0])), (h5, .inr (8, [.ref h22, .int (-1), .int 0, .int 0])), (h6, .inr (8, [.ref h23, .int (-1), .int 0, .int 0])), (h7, .inr (8, [.ref h24, .int (-1), .int 0, .int 0])), (h0, .inr (11, [.ref h8, .int 0, .ref h9, .ref h10, .ref h11, .ref h12, .ref h13, .ref h14, .ref h15, .ref h16, .ref h17, .int 0, .ref h18, .ref h1])), (h1, .inl (cOShelf, 6, .inr (.inr (.inr (.inr (va_up (va_up (va_up (va_up (va_up (va_up (fun _ => none) (0 : Int32).toNatClampNeg (some h2)) (1 : Int32).toNatClampNeg (some h3)) (2 : Int32).toNatClampNeg (some h4)) (3 : Int32).toNatClampNeg (some h5)) (4 : Int32).toNatClampNeg (some h6)) (5 : Int32).toNatClampNeg (some h7))))))), (h4, .inr (8, [.ref h21, .int (-1), .int 0, .int 0]))] H := hP
    have hD : va_D A [(h2, .inr (8, [.ref h19, .int (-1), .int 0, .int 0])), (h3, .inr (8, [.ref h20, .int (-1), .int 0, .int 0])), (h5, .inr (8, [.ref h22, .int (-1), .int 0, .int 0])), (h6, .inr (8, [.ref h23, .int (-1), .int 0, .int 0])), (h7, .inr (8, [.ref h24, .int (-1), .int 0, .int 0])), (h0, .inr (11, [.ref h8, .int 0, .ref h9, .ref h10, .ref h11, .ref h12, .ref h13, .ref h14, .ref h15, .ref h16, .ref h17, .int 0, .ref h18, .ref h1])), (h1, .inl (cOShelf, 6, .inr (.inr (.inr (.inr (va_up (va_up (va_up (va_up (va_up (va_up (fun _ => none) (0 : Int32).toNatClampNeg (some h2)) (1 : Int32).toNatClampNeg (some h3)) (2 : Int32).toNatClampNeg (some h4)) (3 : Int32).toNatClampNeg (some h5)) (4 : Int32).toNatClampNeg (some h6)) (5 : Int32).toNatClampNeg (some h7))))))), (h4, .inr (8, [.ref h21, .int (-1), .int 0, .int 0]))] := hD
    obtain rfl := hw
    refine lv_if_eq (tgt := 24) hx hb dX11_element_15 (by decide) (fun c => absurd c (by decide)) (fun _ => ?_)
    refine lv_ldc2 hx hb hown (hts _ (List.mem_of_getElem? (i := 1) rfl)) dX11_element_18 ?_
    refine lv_goto (tgt := 29) hx hb dX11_element_21 (by decide) ?_
    have hP9 := hP.sub (ws' := []) [] rfl
    have hD9 := hD.sub (ws' := []) [] (by decide) rfl
    have hK9 := hK.sub (tys' := []) [] rfl
    exact W.lret (v := (-9223372036854775808)) hx hb hr (fun t ht hW => ⟨⟨(-9223372036854775808), (), rfl, by first | rfl | ((repeat' split) <;> first | rfl | (exfalso; omega) | (exact Int32.toInt_inj.mp (by show ((-9223372036854775808) : Int) = _; omega))), by rw [ht]; exact hP9, va_K.moved hW.alike hK9, hD9⟩, hS.F ht⟩) hS.2.2 dX11_element_29
  · skip
    refine W.eq (g2 := F0 m 5 ls [.ref h5]) rfl ?_
    refine lv_astore_n (lv' := [(3, .ref h5), (0, .ref h0), (1, .int p0), (2, .int p1)]) hx hb dX11_element_5 rfl hl (by decide) rfl (fun ls hl => ?_)
    refine lv_aload_n hx hb dX11_element_6 rfl (lv_at hl 0 rfl) ?_
    refine lv_ifnull hx hb dX11_element_7 ?_
    refine lv_aload_n hx hb dX11_element_10 rfl (lv_at hl 0 rfl) ?_
    refine lv_iload_n hx hb dX11_element_11 rfl (lv_at hl 3 rfl) ?_
    have hPc := hP.sub (ws' := [(h5, .inr (8, [.ref h22, .int (-1), .int 0, .int 0]))]) [3] rfl
    have hDc := hD.sub (ws' := [(h5, .inr (8, [.ref h22, .int (-1), .int 0, .int 0]))]) [3] (by decide) rfl
    have hKc := hK.sub (tys' := []) [] rfl
    have hFc := va_free (wc := [(h5, .inr (8, [.ref h22, .int (-1), .int 0, .int 0]))]) hD hS hA [3] rfl
    refine va_calli (va_runV (As := [.int p1]) (rest := []) ⟨hx, hb, hml, hown, hts⟩ (k_X8_refusal_0 l dC dI h5 h22 H.size p1) (cwV 1 hts gX11_element_X8_refusal rfl rfl rfl (by decide +kernel) ⟨Nat.le_of_ble_eq_true rfl, Nat.le_of_ble_eq_true rfl⟩) ⟨fun a U g mk q => by obtain ⟨q0, q1, qP, qK, qD⟩ := q; exact ⟨q0, q1, qP, va_K.moved (u := U) (U := U.calling g mk a) (Vm.Alike.refl U.vm) qK, qD⟩, va_recv hKc hPc (ci := 8) (q0 := 0) rfl rfl, fun U hU hW => ⟨rfl, by rw [hU], by rw [hU]; exact hPc, va_K.moved hW.alike hKc, hDc.weaken (fun _ _ _ _ => trivial)⟩⟩ rfl rfl hl.1 rfl (lv_room (Nat.le_of_ble_eq_true rfl)) dX11_element_12 ⟨Nat.le_of_ble_eq_true rfl, Nat.le_of_ble_eq_true rfl⟩) hS (fun q _ h => hFc q h) hFc (fun r_5 u t H1 locs ht hvm hw hB hz1 hk1 hS => ?_)
    obtain ⟨hP1, hK1, hD1⟩ := hB
    rw [ht] at hP1
    have hK1 := va_K.moved hvm.symm hK1
    obtain ⟨hP, hD⟩ := va_join (wr := [(h2, .inr (8, [.ref h19, .int (-1), .int 0, .int 0])), (h3, .inr (8, [.ref h20, .int (-1), .int 0, .int 0])), (h4, .inr (8, [.ref h21, .int (-1), .int 0, .int 0])), (h6, .inr (8, [.ref h23, .int (-1), .int 0, .int 0])), (h7, .inr (8, [.ref h24, .int (-1), .int 0, .int 0])), (h0, .inr (11, [.ref h8, .int 0, .ref h9, .ref h10, .ref h11, .ref h12, .ref h13, .ref h14, .ref h15, .ref h16, .ref h17, .int 0, .ref h18, .ref h1])), (h1, .inl (cOShelf, 6, .inr (.inr (.inr (.inr (va_up (va_up (va_up (va_up (va_up (va_up (fun _ => none) (0 : Int32).toNatClampNeg (some h2)) (1 : Int32).toNatClampNeg (some h3)) (2 : Int32).toNatClampNeg (some h4)) (3 : Int32).toNatClampNeg (some h5)) (4 : Int32).toNatClampNeg (some h6)) (5 : Int32).toNatClampNeg (some h7)))))))]) (w1 := [(h5, .inr (8, [.ref h22, .int (-1), .int 0, .int 0]))]) hP hD [3] [0, 1, 2, 4, 5, 6, 7] rfl rfl (by decide) (by decide) hk1 hFc hP1 hD1
    generalize H1 = H at hP hS ⊢
    have hP : va_P (dC, dI) vwCl [(h2, .inr (8, [.ref h19, .int (-1), .int 0, .int 0])), (h3, .inr (8, [.ref h20, .int (-1), .int 0, .int 0])), (h4, .inr (8, [.ref h21, .int (-1), .int 0, .int 0])), (h6, .inr (8, [.ref h23, .int (-1), .int 0, .int 0])), (h7, .inr (8, [.ref h24, .int (-1), .int 0, .int 0])), (h0, .inr (11, [.ref h8, .int 0, .ref h9, .ref h10, .ref h11, .ref h12, .ref h13, .ref h14, .ref h15, .ref h16, .ref h17, .int 0, .ref h18, .ref h1])), (h1, .inl (cOShelf, 6, .inr (.inr (.inr (.inr (va_up (va_up (va_up (va_up (va_up (va_up (fun _ => none) (0 : Int32).toNatClampNeg (some h2)) (1 : Int32).toNatClampNeg (some h3)) (2 : Int32).toNatClampNeg (some h4)) (3 : Int32).toNatClampNeg (some h5)) (4 : Int32).toNatClampNeg (some h6)) (5 : Int32).toNatClampNeg (some h7))))))), (h5, .inr (8, [.ref h22, .int (-1), .int 0, .int 0]))] H := hP
    have hD : va_D A [(h2, .inr (8, [.ref h19, .int (-1), .int 0, .int 0])), (h3, .inr (8, [.ref h20, .int (-1), .int 0, .int 0])), (h4, .inr (8, [.ref h21, .int (-1), .int 0, .int 0])), (h6, .inr (8, [.ref h23, .int (-1), .int 0, .int 0])), (h7, .inr (8, [.ref h24, .int (-1), .int 0, .int 0])), (h0, .inr (11, [.ref h8, .int 0, .ref h9, .ref h10, .ref h11, .ref h12, .ref h13, .ref h14, .ref h15, .ref h16, .ref h17, .int 0, .ref h18, .ref h1])), (h1, .inl (cOShelf, 6, .inr (.inr (.inr (.inr (va_up (va_up (va_up (va_up (va_up (va_up (fun _ => none) (0 : Int32).toNatClampNeg (some h2)) (1 : Int32).toNatClampNeg (some h3)) (2 : Int32).toNatClampNeg (some h4)) (3 : Int32).toNatClampNeg (some h5)) (4 : Int32).toNatClampNeg (some h6)) (5 : Int32).toNatClampNeg (some h7))))))), (h5, .inr (8, [.ref h22, .int (-1), .int 0, .int 0]))] := hD
    obtain rfl := hw
    refine lv_if_eq (tgt := 24) hx hb dX11_element_15 (by decide) (fun c => absurd c (by decide)) (fun _ => ?_)
    refine lv_ldc2 hx hb hown (hts _ (List.mem_of_getElem? (i := 1) rfl)) dX11_element_18 ?_
    refine lv_goto (tgt := 29) hx hb dX11_element_21 (by decide) ?_
    have hP9 := hP.sub (ws' := []) [] rfl
    have hD9 := hD.sub (ws' := []) [] (by decide) rfl
    have hK9 := hK.sub (tys' := []) [] rfl
    exact W.lret (v := (-9223372036854775808)) hx hb hr (fun t ht hW => ⟨⟨(-9223372036854775808), (), rfl, by first | rfl | ((repeat' split) <;> first | rfl | (exfalso; omega) | (exact Int32.toInt_inj.mp (by show ((-9223372036854775808) : Int) = _; omega))), by rw [ht]; exact hP9, va_K.moved hW.alike hK9, hD9⟩, hS.F ht⟩) hS.2.2 dX11_element_29
  · skip
    refine W.eq (g2 := F0 m 5 ls [.ref h6]) rfl ?_
    refine lv_astore_n (lv' := [(3, .ref h6), (0, .ref h0), (1, .int p0), (2, .int p1)]) hx hb dX11_element_5 rfl hl (by decide) rfl (fun ls hl => ?_)
    refine lv_aload_n hx hb dX11_element_6 rfl (lv_at hl 0 rfl) ?_
    refine lv_ifnull hx hb dX11_element_7 ?_
    refine lv_aload_n hx hb dX11_element_10 rfl (lv_at hl 0 rfl) ?_
    refine lv_iload_n hx hb dX11_element_11 rfl (lv_at hl 3 rfl) ?_
    have hPc := hP.sub (ws' := [(h6, .inr (8, [.ref h23, .int (-1), .int 0, .int 0]))]) [4] rfl
    have hDc := hD.sub (ws' := [(h6, .inr (8, [.ref h23, .int (-1), .int 0, .int 0]))]) [4] (by decide) rfl
    have hKc := hK.sub (tys' := []) [] rfl
    have hFc := va_free (wc := [(h6, .inr (8, [.ref h23, .int (-1), .int 0, .int 0]))]) hD hS hA [4] rfl
    refine va_calli (va_runV (As := [.int p1]) (rest := []) ⟨hx, hb, hml, hown, hts⟩ (k_X8_refusal_0 l dC dI h6 h23 H.size p1) (cwV 1 hts gX11_element_X8_refusal rfl rfl rfl (by decide +kernel) ⟨Nat.le_of_ble_eq_true rfl, Nat.le_of_ble_eq_true rfl⟩) ⟨fun a U g mk q => by obtain ⟨q0, q1, qP, qK, qD⟩ := q; exact ⟨q0, q1, qP, va_K.moved (u := U) (U := U.calling g mk a) (Vm.Alike.refl U.vm) qK, qD⟩, va_recv hKc hPc (ci := 8) (q0 := 0) rfl rfl, fun U hU hW => ⟨rfl, by rw [hU], by rw [hU]; exact hPc, va_K.moved hW.alike hKc, hDc.weaken (fun _ _ _ _ => trivial)⟩⟩ rfl rfl hl.1 rfl (lv_room (Nat.le_of_ble_eq_true rfl)) dX11_element_12 ⟨Nat.le_of_ble_eq_true rfl, Nat.le_of_ble_eq_true rfl⟩) hS (fun q _ h => hFc q h) hFc (fun r_6 u t H1 locs ht hvm hw hB hz1 hk1 hS => ?_)
    obtain ⟨hP1, hK1, hD1⟩ := hB
    rw [ht] at hP1
    have hK1 := va_K.moved hvm.symm hK1
    obtain ⟨hP, hD⟩ := va_join (wr := [(h2, .inr (8, [.ref h19, .int (-1), .int 0, .int 0])), (h3, .inr (8, [.ref h20, .int (-1), .int 0, .int 0])), (h4, .inr (8, [.ref h21, .int (-1), .int 0, .int 0])), (h5, .inr (8, [.ref h22, .int (-1), .int 0, .int 0])), (h7, .inr (8, [.ref h24, .int (-1), .int 0, .int 0])), (h0, .inr (11, [.ref h8, .int 0, .ref h9, .ref h10, .ref h11, .ref h12, .ref h13, .ref h14, .ref h15, .ref h16, .ref h17, .int 0, .ref h18, .ref h1])), (h1, .inl (cOShelf, 6, .inr (.inr (.inr (.inr (va_up (va_up (va_up (va_up (va_up (va_up (fun _ => none) (0 : Int32).toNatClampNeg (some h2)) (1 : Int32).toNatClampNeg (some h3)) (2 : Int32).toNatClampNeg (some h4)) (3 : Int32).toNatClampNeg (some h5)) (4 : Int32).toNatClampNeg (some h6)) (5 : Int32).toNatClampNeg (some h7)))))))]) (w1 := [(h6, .inr (8, [.ref h23, .int (-1), .int 0, .int 0]))]) hP hD [4] [0, 1, 2, 3, 5, 6, 7] rfl rfl (by decide) (by decide) hk1 hFc hP1 hD1
    generalize H1 = H at hP hS ⊢
    have hP : va_P (dC, dI) vwCl [(h2, .inr (8, [.ref h19, .int (-1), .int 0, .int 0])), (h3, .inr (8, [.ref h20, .int (-1), .int 0, .int 0])), (h4, .inr (8, [.ref h21, .int (-1), .int 0, .int 0])), (h5, .inr (8, [.ref h22, .int (-1), .int 0, .int 0])), (h7, .inr (8, [.ref h24, .int (-1), .int 0, .int 0])), (h0, .inr (11, [.ref h8, .int 0, .ref h9, .ref h10, .ref h11, .ref h12, .ref h13, .ref h14, .ref h15, .ref h16, .ref h17, .int 0, .ref h18, .ref h1])), (h1, .inl (cOShelf, 6, .inr (.inr (.inr (.inr (va_up (va_up (va_up (va_up (va_up (va_up (fun _ => none) (0 : Int32).toNatClampNeg (some h2)) (1 : Int32).toNatClampNeg (some h3)) (2 : Int32).toNatClampNeg (some h4)) (3 : Int32).toNatClampNeg (some h5)) (4 : Int32).toNatClampNeg (some h6)) (5 : Int32).toNatClampNeg (some h7))))))), (h6, .inr (8, [.ref h23, .int (-1), .int 0, .int 0]))] H := hP
    have hD : va_D A [(h2, .inr (8, [.ref h19, .int (-1), .int 0, .int 0])), (h3, .inr (8, [.ref h20, .int (-1), .int 0, .int 0])), (h4, .inr (8, [.ref h21, .int (-1), .int 0, .int 0])), (h5, .inr (8, [.ref h22, .int (-1), .int 0, .int 0])), (h7, .inr (8, [.ref h24, .int (-1), .int 0, .int 0])), (h0, .inr (11, [.ref h8, .int 0, .ref h9, .ref h10, .ref h11, .ref h12, .ref h13, .ref h14, .ref h15, .ref h16, .ref h17, .int 0, .ref h18, .ref h1])), (h1, .inl (cOShelf, 6, .inr (.inr (.inr (.inr (va_up (va_up (va_up (va_up (va_up (va_up (fun _ => none) (0 : Int32).toNatClampNeg (some h2)) (1 : Int32).toNatClampNeg (some h3)) (2 : Int32).toNatClampNeg (some h4)) (3 : Int32).toNatClampNeg (some h5)) (4 : Int32).toNatClampNeg (some h6)) (5 : Int32).toNatClampNeg (some h7))))))), (h6, .inr (8, [.ref h23, .int (-1), .int 0, .int 0]))] := hD
    obtain rfl := hw
    refine lv_if_eq (tgt := 24) hx hb dX11_element_15 (by decide) (fun c => absurd c (by decide)) (fun _ => ?_)
    refine lv_ldc2 hx hb hown (hts _ (List.mem_of_getElem? (i := 1) rfl)) dX11_element_18 ?_
    refine lv_goto (tgt := 29) hx hb dX11_element_21 (by decide) ?_
    have hP9 := hP.sub (ws' := []) [] rfl
    have hD9 := hD.sub (ws' := []) [] (by decide) rfl
    have hK9 := hK.sub (tys' := []) [] rfl
    exact W.lret (v := (-9223372036854775808)) hx hb hr (fun t ht hW => ⟨⟨(-9223372036854775808), (), rfl, by first | rfl | ((repeat' split) <;> first | rfl | (exfalso; omega) | (exact Int32.toInt_inj.mp (by show ((-9223372036854775808) : Int) = _; omega))), by rw [ht]; exact hP9, va_K.moved hW.alike hK9, hD9⟩, hS.F ht⟩) hS.2.2 dX11_element_29
  · skip
    refine W.eq (g2 := F0 m 5 ls [.ref h7]) rfl ?_
    refine lv_astore_n (lv' := [(3, .ref h7), (0, .ref h0), (1, .int p0), (2, .int p1)]) hx hb dX11_element_5 rfl hl (by decide) rfl (fun ls hl => ?_)
    refine lv_aload_n hx hb dX11_element_6 rfl (lv_at hl 0 rfl) ?_
    refine lv_ifnull hx hb dX11_element_7 ?_
    refine lv_aload_n hx hb dX11_element_10 rfl (lv_at hl 0 rfl) ?_
    refine lv_iload_n hx hb dX11_element_11 rfl (lv_at hl 3 rfl) ?_
    have hPc := hP.sub (ws' := [(h7, .inr (8, [.ref h24, .int (-1), .int 0, .int 0]))]) [5] rfl
    have hDc := hD.sub (ws' := [(h7, .inr (8, [.ref h24, .int (-1), .int 0, .int 0]))]) [5] (by decide) rfl
    have hKc := hK.sub (tys' := []) [] rfl
    have hFc := va_free (wc := [(h7, .inr (8, [.ref h24, .int (-1), .int 0, .int 0]))]) hD hS hA [5] rfl
    refine va_calli (va_runV (As := [.int p1]) (rest := []) ⟨hx, hb, hml, hown, hts⟩ (k_X8_refusal_0 l dC dI h7 h24 H.size p1) (cwV 1 hts gX11_element_X8_refusal rfl rfl rfl (by decide +kernel) ⟨Nat.le_of_ble_eq_true rfl, Nat.le_of_ble_eq_true rfl⟩) ⟨fun a U g mk q => by obtain ⟨q0, q1, qP, qK, qD⟩ := q; exact ⟨q0, q1, qP, va_K.moved (u := U) (U := U.calling g mk a) (Vm.Alike.refl U.vm) qK, qD⟩, va_recv hKc hPc (ci := 8) (q0 := 0) rfl rfl, fun U hU hW => ⟨rfl, by rw [hU], by rw [hU]; exact hPc, va_K.moved hW.alike hKc, hDc.weaken (fun _ _ _ _ => trivial)⟩⟩ rfl rfl hl.1 rfl (lv_room (Nat.le_of_ble_eq_true rfl)) dX11_element_12 ⟨Nat.le_of_ble_eq_true rfl, Nat.le_of_ble_eq_true rfl⟩) hS (fun q _ h => hFc q h) hFc (fun r_7 u t H1 locs ht hvm hw hB hz1 hk1 hS => ?_)
    obtain ⟨hP1, hK1, hD1⟩ := hB
    rw [ht] at hP1
    have hK1 := va_K.moved hvm.symm hK1
    obtain ⟨hP, hD⟩ := va_join (wr := [(h2, .inr (8, [.ref h19, .int (-1), .int 0, .int 0])), (h3, .inr (8, [.ref h20, .int (-1), .int 0, .int 0])), (h4, .inr (8, [.ref h21, .int (-1), .int 0, .int 0])), (h5, .inr (8, [.ref h22, .int (-1), .int 0, .int 0])), (h6, .inr (8, [.ref h23, .int (-1), .int 0, .int 0])), (h0, .inr (11, [.ref h8, .int 0, .ref h9, .ref h10, .ref h11, .ref h12, .ref h13, .ref h14, .ref h15, .ref h16, .ref h17, .int 0, .ref h18, .ref h1])), (h1, .inl (cOShelf, 6, .inr (.inr (.inr (.inr (va_up (va_up (va_up (va_up (va_up (va_up (fun _ => none) (0 : Int32).toNatClampNeg (some h2)) (1 : Int32).toNatClampNeg (some h3)) (2 : Int32).toNatClampNeg (some h4)) (3 : Int32).toNatClampNeg (some h5)) (4 : Int32).toNatClampNeg (some h6)) (5 : Int32).toNatClampNeg (some h7)))))))]) (w1 := [(h7, .inr (8, [.ref h24, .int (-1), .int 0, .int 0]))]) hP hD [5] [0, 1, 2, 3, 4, 6, 7] rfl rfl (by decide) (by decide) hk1 hFc hP1 hD1
    generalize H1 = H at hP hS ⊢
    have hP : va_P (dC, dI) vwCl [(h2, .inr (8, [.ref h19, .int (-1), .int 0, .int 0])), (h3, .inr (8, [.ref h20, .int (-1), .int 0, .int 0])), (h4, .inr (8, [.ref h21, .int (-1), .int 0, .int 0])), (h5, .inr (8, [.ref h22, .int (-1), .int 0, .int 0])), (h6, .inr (8, [.ref h23, .int (-1), .int 0, .int 0])), (h0, .inr (11, [.ref h8, .int 0, .ref h9, .ref h10, .ref h11, .ref h12, .ref h13, .ref h14, .ref h15, .ref h16, .ref h17, .int 0, .ref h18, .ref h1])), (h1, .inl (cOShelf, 6, .inr (.inr (.inr (.inr (va_up (va_up (va_up (va_up (va_up (va_up (fun _ => none) (0 : Int32).toNatClampNeg (some h2)) (1 : Int32).toNatClampNeg (some h3)) (2 : Int32).toNatClampNeg (some h4)) (3 : Int32).toNatClampNeg (some h5)) (4 : Int32).toNatClampNeg (some h6)) (5 : Int32).toNatClampNeg (some h7))))))), (h7, .inr (8, [.ref h24, .int (-1), .int 0, .int 0]))] H := hP
    have hD : va_D A [(h2, .inr (8, [.ref h19, .int (-1), .int 0, .int 0])), (h3, .inr (8, [.ref h20, .int (-1), .int 0, .int 0])), (h4, .inr (8, [.ref h21, .int (-1), .int 0, .int 0])), (h5, .inr (8, [.ref h22, .int (-1), .int 0, .int 0])), (h6, .inr (8, [.ref h23, .int (-1), .int 0, .int 0])), (h0, .inr (11, [.ref h8, .int 0, .ref h9, .ref h10, .ref h11, .ref h12, .ref h13, .ref h14, .ref h15, .ref h16, .ref h17, .int 0, .ref h18, .ref h1])), (h1, .inl (cOShelf, 6, .inr (.inr (.inr (.inr (va_up (va_up (va_up (va_up (va_up (va_up (fun _ => none) (0 : Int32).toNatClampNeg (some h2)) (1 : Int32).toNatClampNeg (some h3)) (2 : Int32).toNatClampNeg (some h4)) (3 : Int32).toNatClampNeg (some h5)) (4 : Int32).toNatClampNeg (some h6)) (5 : Int32).toNatClampNeg (some h7))))))), (h7, .inr (8, [.ref h24, .int (-1), .int 0, .int 0]))] := hD
    obtain rfl := hw
    refine lv_if_eq (tgt := 24) hx hb dX11_element_15 (by decide) (fun c => absurd c (by decide)) (fun _ => ?_)
    refine lv_ldc2 hx hb hown (hts _ (List.mem_of_getElem? (i := 1) rfl)) dX11_element_18 ?_
    refine lv_goto (tgt := 29) hx hb dX11_element_21 (by decide) ?_
    have hP9 := hP.sub (ws' := []) [] rfl
    have hD9 := hD.sub (ws' := []) [] (by decide) rfl
    have hK9 := hK.sub (tys' := []) [] rfl
    exact W.lret (v := (-9223372036854775808)) hx hb hr (fun t ht hW => ⟨⟨(-9223372036854775808), (), rfl, by first | rfl | ((repeat' split) <;> first | rfl | (exfalso; omega) | (exact Int32.toInt_inj.mp (by show ((-9223372036854775808) : Int) = _; omega))), by rw [ht]; exact hP9, va_K.moved hW.alike hK9, hD9⟩, hS.F ht⟩) hS.2.2 dX11_element_29
set_option maxHeartbeats 4000000 in
set_option maxRecDepth 100000 in
theorem k_X11_shift_0 (l : Launch) (dC : Nat → ClassId) (dI : Nat → Nat → Nat) (h0 h1 h2 h3 h4 h5 h6 h7 h8 h9 h10 h11 h12 h13 h14 h15 h16 h17 h18 h19 h20 h21 h22 h23 h24 : Nat) (cOShelf : ClassId) (sz : Nat) (p0 : Int32) (p1 : Int32) (p2 : Int32) (p3 : Int32) (p4 : Int32) : Met l yX11_shift wsX11_shift ({ frames := 1, cells := 0, slots := 0, locals := 21 }) (va_Pc [.ref h0, .int p0, .int p1, .int p2, .int p3, .int p4] (fun U => U.heap.size = sz ∧ va_P (dC, dI) vwCl [(h0, .inr (11, [.ref h8, .int 0, .ref h9, .ref h10, .ref h11, .ref h12, .ref h13, .ref h14, .ref h15, .ref h16, .ref h17, .int 0, .ref h18, .ref h1])), (h1, .inl (cOShelf, 6, .inr (.inr (.inr (.inr (va_up (va_up (va_up (va_up (va_up (va_up (fun _ => none) (0 : Int32).toNatClampNeg (some h2)) (1 : Int32).toNatClampNeg (some h3)) (2 : Int32).toNatClampNeg (some h4)) (3 : Int32).toNatClampNeg (some h5)) (4 : Int32).toNatClampNeg (some h6)) (5 : Int32).toNatClampNeg (some h7))))))), (h2, .inr (8, [.ref h19, .int (-1), .int 0, .int 0])), (h3, .inr (8, [.ref h20, .int (-1), .int 0, .int 0])), (h4, .inr (8, [.ref h21, .int (-1), .int 0, .int 0])), (h5, .inr (8, [.ref h22, .int (-1), .int 0, .int 0])), (h6, .inr (8, [.ref h23, .int (-1), .int 0, .int 0])), (h7, .inr (8, [.ref h24, .int (-1), .int 0, .int 0]))] U.heap ∧ va_K (dC, dI) vwCl [(cOShelf, .object "KinkStreet$Shelf")] U ∧ va_D (fun _ => True) [(h0, .inr (11, [.ref h8, .int 0, .ref h9, .ref h10, .ref h11, .ref h12, .ref h13, .ref h14, .ref h15, .ref h16, .ref h17, .int 0, .ref h18, .ref h1])), (h1, .inl (cOShelf, 6, .inr (.inr (.inr (.inr (va_up (va_up (va_up (va_up (va_up (va_up (fun _ => none) (0 : Int32).toNatClampNeg (some h2)) (1 : Int32).toNatClampNeg (some h3)) (2 : Int32).toNatClampNeg (some h4)) (3 : Int32).toNatClampNeg (some h5)) (4 : Int32).toNatClampNeg (some h6)) (5 : Int32).toNatClampNeg (some h7))))))), (h2, .inr (8, [.ref h19, .int (-1), .int 0, .int 0])), (h3, .inr (8, [.ref h20, .int (-1), .int 0, .int 0])), (h4, .inr (8, [.ref h21, .int (-1), .int 0, .int 0])), (h5, .inr (8, [.ref h22, .int (-1), .int 0, .int 0])), (h6, .inr (8, [.ref h23, .int (-1), .int 0, .int 0])), (h7, .inr (8, [.ref h24, .int (-1), .int 0, .int 0]))])) (va_Qi (fun (r : Int32) (_ : Unit) => r = if 0 ≤ p0.toInt ∧ p0.toInt < 6 ∧ 0 ≤ p2.toInt ∧ p2.toInt < 6 then (-11 : Int32) else -1) (fun (_ : Unit) t => va_P (dC, dI) vwCl [] t.heap ∧ va_K (dC, dI) vwCl [] t ∧ va_D (va_A [(h0, .inr (11, [.ref h8, .int 0, .ref h9, .ref h10, .ref h11, .ref h12, .ref h13, .ref h14, .ref h15, .ref h16, .ref h17, .int 0, .ref h18, .ref h1])), (h1, .inl (cOShelf, 6, .inr (.inr (.inr (.inr (va_up (va_up (va_up (va_up (va_up (va_up (fun _ => none) (0 : Int32).toNatClampNeg (some h2)) (1 : Int32).toNatClampNeg (some h3)) (2 : Int32).toNatClampNeg (some h4)) (3 : Int32).toNatClampNeg (some h5)) (4 : Int32).toNatClampNeg (some h6)) (5 : Int32).toNatClampNeg (some h7))))))), (h2, .inr (8, [.ref h19, .int (-1), .int 0, .int 0])), (h3, .inr (8, [.ref h20, .int (-1), .int 0, .int 0])), (h4, .inr (8, [.ref h21, .int (-1), .int 0, .int 0])), (h5, .inr (8, [.ref h22, .int (-1), .int 0, .int 0])), (h6, .inr (8, [.ref h23, .int (-1), .int 0, .int 0])), (h7, .inr (8, [.ref h24, .int (-1), .int 0, .int 0]))] sz) []) (va_A [(h0, .inr (11, [.ref h8, .int 0, .ref h9, .ref h10, .ref h11, .ref h12, .ref h13, .ref h14, .ref h15, .ref h16, .ref h17, .int 0, .ref h18, .ref h1])), (h1, .inl (cOShelf, 6, .inr (.inr (.inr (.inr (va_up (va_up (va_up (va_up (va_up (va_up (fun _ => none) (0 : Int32).toNatClampNeg (some h2)) (1 : Int32).toNatClampNeg (some h3)) (2 : Int32).toNatClampNeg (some h4)) (3 : Int32).toNatClampNeg (some h5)) (4 : Int32).toNatClampNeg (some h6)) (5 : Int32).toNatClampNeg (some h7))))))), (h2, .inr (8, [.ref h19, .int (-1), .int 0, .int 0])), (h3, .inr (8, [.ref h20, .int (-1), .int 0, .int 0])), (h4, .inr (8, [.ref h21, .int (-1), .int 0, .int 0])), (h5, .inr (8, [.ref h22, .int (-1), .int 0, .int 0])), (h6, .inr (8, [.ref h23, .int (-1), .int 0, .int 0])), (h7, .inr (8, [.ref h24, .int (-1), .int 0, .int 0]))] sz)) 0 0 (va_A [(h0, .inr (11, [.ref h8, .int 0, .ref h9, .ref h10, .ref h11, .ref h12, .ref h13, .ref h14, .ref h15, .ref h16, .ref h17, .int 0, .ref h18, .ref h1])), (h1, .inl (cOShelf, 6, .inr (.inr (.inr (.inr (va_up (va_up (va_up (va_up (va_up (va_up (fun _ => none) (0 : Int32).toNatClampNeg (some h2)) (1 : Int32).toNatClampNeg (some h3)) (2 : Int32).toNatClampNeg (some h4)) (3 : Int32).toNatClampNeg (some h5)) (4 : Int32).toNatClampNeg (some h6)) (5 : Int32).toNatClampNeg (some h7))))))), (h2, .inr (8, [.ref h19, .int (-1), .int 0, .int 0])), (h3, .inr (8, [.ref h20, .int (-1), .int 0, .int 0])), (h4, .inr (8, [.ref h21, .int (-1), .int 0, .int 0])), (h5, .inr (8, [.ref h22, .int (-1), .int 0, .int 0])), (h6, .inr (8, [.ref h23, .int (-1), .int 0, .int 0])), (h7, .inr (8, [.ref h24, .int (-1), .int 0, .int 0]))] sz) := by
  refine Met.ofW (cc := cX11_shift) (maxL := 8) (ret := (some .int)) (by decide) rfl ?_
  intro p e s m args below meth c s₁ B hml hv
  obtain ⟨rfl, hsz, hP, hK, hD0⟩ := hv
  have hx := B.exec
  have hb := B.bytes
  have hr := B.returns
  have hts := atoms_spec (ws := wsX11_shift) B.pre
  have hown : s.vm.findClass RX11 = some m.cls := findClass_of_methodNamed B.named
  have hlocks := B.notSynchronized
  subst hsz
  have hD := hD0.self (sz := s.heap.size)
  generalize hAe : va_A [(h0, .inr (11, [.ref h8, .int 0, .ref h9, .ref h10, .ref h11, .ref h12, .ref h13, .ref h14, .ref h15, .ref h16, .ref h17, .int 0, .ref h18, .ref h1])), (h1, .inl (cOShelf, 6, .inr (.inr (.inr (.inr (va_up (va_up (va_up (va_up (va_up (va_up (fun _ => none) (0 : Int32).toNatClampNeg (some h2)) (1 : Int32).toNatClampNeg (some h3)) (2 : Int32).toNatClampNeg (some h4)) (3 : Int32).toNatClampNeg (some h5)) (4 : Int32).toNatClampNeg (some h6)) (5 : Int32).toNatClampNeg (some h7))))))), (h2, .inr (8, [.ref h19, .int (-1), .int 0, .int 0])), (h3, .inr (8, [.ref h20, .int (-1), .int 0, .int 0])), (h4, .inr (8, [.ref h21, .int (-1), .int 0, .int 0])), (h5, .inr (8, [.ref h22, .int (-1), .int 0, .int 0])), (h6, .inr (8, [.ref h23, .int (-1), .int 0, .int 0])), (h7, .inr (8, [.ref h24, .int (-1), .int 0, .int 0]))] s.heap.size = A at hD ⊢
  have hA : ∀ q : Nat, s.heap.size ≤ q → A q := fun q h => by rw [← hAe]; exact Or.inr h
  have hS : va_S A s.heap s.heap [] := va_S.rf
  have hP : va_P (dC, dI) vwCl [(h0, .inr (11, [.ref h8, .int 0, .ref h9, .ref h10, .ref h11, .ref h12, .ref h13, .ref h14, .ref h15, .ref h16, .ref h17, .int 0, .ref h18, .ref h1])), (h1, .inl (cOShelf, 6, .inr (.inr (.inr (.inr (va_up (va_up (va_up (va_up (va_up (va_up (fun _ => none) (0 : Int32).toNatClampNeg (some h2)) (1 : Int32).toNatClampNeg (some h3)) (2 : Int32).toNatClampNeg (some h4)) (3 : Int32).toNatClampNeg (some h5)) (4 : Int32).toNatClampNeg (some h6)) (5 : Int32).toNatClampNeg (some h7))))))), (h2, .inr (8, [.ref h19, .int (-1), .int 0, .int 0])), (h3, .inr (8, [.ref h20, .int (-1), .int 0, .int 0])), (h4, .inr (8, [.ref h21, .int (-1), .int 0, .int 0])), (h5, .inr (8, [.ref h22, .int (-1), .int 0, .int 0])), (h6, .inr (8, [.ref h23, .int (-1), .int 0, .int 0])), (h7, .inr (8, [.ref h24, .int (-1), .int 0, .int 0]))] s.heap := hP
  have hl := lv_entry ([.ref h0, .int p0, .int p1, .int p2, .int p3, .int p4]) (n := 8) (Nat.le_of_ble_eq_true rfl)
  rw [lg_entry_eq]
  generalize (lg_sl ([.ref h0, .int p0, .int p1, .int p2, .int p3, .int p4]) ++ List.replicate (8 - (lg_sl ([.ref h0, .int p0, .int p1, .int p2, .int p3, .int p4])).length) Slot.unset).toArray = ls at hl ⊢
  have hl : lv_has ls 8 [(0, .ref h0), (1, .int p0), (2, .int p1), (3, .int p2), (4, .int p3), (5, .int p4)] := hl
  refine lv_aload_n hx hb dX11_shift_0 rfl (lv_at hl 0 rfl) ?_
  refine lv_iload_n hx hb dX11_shift_1 rfl (lv_at hl 1 rfl) ?_
  have hPc := hP.sub (ws' := [(h0, .inr (11, [.ref h8, .int 0, .ref h9, .ref h10, .ref h11, .ref h12, .ref h13, .ref h14, .ref h15, .ref h16, .ref h17, .int 0, .ref h18, .ref h1])), (h1, .inl (cOShelf, 6, .inr (.inr (.inr (.inr (va_up (va_up (va_up (va_up (va_up (va_up (fun _ => none) (0 : Int32).toNatClampNeg (some h2)) (1 : Int32).toNatClampNeg (some h3)) (2 : Int32).toNatClampNeg (some h4)) (3 : Int32).toNatClampNeg (some h5)) (4 : Int32).toNatClampNeg (some h6)) (5 : Int32).toNatClampNeg (some h7)))))))]) [0, 1] rfl
  have hDc := hD.sub (ws' := [(h0, .inr (11, [.ref h8, .int 0, .ref h9, .ref h10, .ref h11, .ref h12, .ref h13, .ref h14, .ref h15, .ref h16, .ref h17, .int 0, .ref h18, .ref h1])), (h1, .inl (cOShelf, 6, .inr (.inr (.inr (.inr (va_up (va_up (va_up (va_up (va_up (va_up (fun _ => none) (0 : Int32).toNatClampNeg (some h2)) (1 : Int32).toNatClampNeg (some h3)) (2 : Int32).toNatClampNeg (some h4)) (3 : Int32).toNatClampNeg (some h5)) (4 : Int32).toNatClampNeg (some h6)) (5 : Int32).toNatClampNeg (some h7)))))))]) [0, 1] (by decide) rfl
  have hKc := hK.sub (tys' := [(cOShelf, .object "KinkStreet$Shelf")]) [0] rfl
  have hFc := va_free (wc := [(h0, .inr (11, [.ref h8, .int 0, .ref h9, .ref h10, .ref h11, .ref h12, .ref h13, .ref h14, .ref h15, .ref h16, .ref h17, .int 0, .ref h18, .ref h1])), (h1, .inl (cOShelf, 6, .inr (.inr (.inr (.inr (va_up (va_up (va_up (va_up (va_up (va_up (fun _ => none) (0 : Int32).toNatClampNeg (some h2)) (1 : Int32).toNatClampNeg (some h3)) (2 : Int32).toNatClampNeg (some h4)) (3 : Int32).toNatClampNeg (some h5)) (4 : Int32).toNatClampNeg (some h6)) (5 : Int32).toNatClampNeg (some h7)))))))]) hD hS hA [0, 1] rfl
  refine va_callq (va_runV (As := [.int p0]) (rest := []) ⟨hx, hb, hml, hown, hts⟩ (k_X11_knownShelf_0 l dC dI h0 h1 h8 h9 h10 h11 h12 h13 h14 h15 h16 h17 h18 h2 h3 h4 h5 h6 h7 cOShelf s.heap.size p0) (cwV 1 hts gX11_shift_X11_knownShelf rfl rfl rfl (by decide +kernel) ⟨Nat.le_of_ble_eq_true rfl, Nat.le_of_ble_eq_true rfl⟩) ⟨fun a U g mk q => by obtain ⟨q0, q1, qP, qK, qD⟩ := q; exact ⟨q0, q1, qP, va_K.moved (u := U) (U := U.calling g mk a) (Vm.Alike.refl U.vm) qK, qD⟩, va_recv hKc hPc (ci := 11) (q0 := 0) rfl rfl, fun U hU hW => ⟨rfl, by rw [hU], by rw [hU]; exact hPc, va_K.moved hW.alike hKc, hDc.weaken (fun _ _ _ _ => trivial)⟩⟩ rfl rfl hl.1 rfl (lv_room (Nat.le_of_ble_eq_true rfl)) dX11_shift_2 ⟨Nat.le_of_ble_eq_true rfl, Nat.le_of_ble_eq_true rfl⟩) hS (fun q _ h => hFc q h) hFc (fun r_1 u t H1 locs ht hvm hw hB hz1 hk1 hS => ?_)
  obtain ⟨hP1, hK1, hD1⟩ := hB
  rw [ht] at hP1
  have hK1 := va_K.moved hvm.symm hK1
  obtain ⟨hP, hD⟩ := va_join (wr := [(h2, .inr (8, [.ref h19, .int (-1), .int 0, .int 0])), (h3, .inr (8, [.ref h20, .int (-1), .int 0, .int 0])), (h4, .inr (8, [.ref h21, .int (-1), .int 0, .int 0])), (h5, .inr (8, [.ref h22, .int (-1), .int 0, .int 0])), (h6, .inr (8, [.ref h23, .int (-1), .int 0, .int 0])), (h7, .inr (8, [.ref h24, .int (-1), .int 0, .int 0]))]) (w1 := [(h0, .inr (11, [.ref h8, .int 0, .ref h9, .ref h10, .ref h11, .ref h12, .ref h13, .ref h14, .ref h15, .ref h16, .ref h17, .int 0, .ref h18, .ref h1])), (h1, .inl (cOShelf, 6, .inr (.inr (.inr (.inr (va_up (va_up (va_up (va_up (va_up (va_up (fun _ => none) (0 : Int32).toNatClampNeg (some h2)) (1 : Int32).toNatClampNeg (some h3)) (2 : Int32).toNatClampNeg (some h4)) (3 : Int32).toNatClampNeg (some h5)) (4 : Int32).toNatClampNeg (some h6)) (5 : Int32).toNatClampNeg (some h7)))))))]) hP hD [0, 1] [2, 3, 4, 5, 6, 7] rfl rfl (by decide) (by decide) hk1 hFc hP1 hD1
  generalize H1 = H at hP hS ⊢
  have hP : va_P (dC, dI) vwCl [(h2, .inr (8, [.ref h19, .int (-1), .int 0, .int 0])), (h3, .inr (8, [.ref h20, .int (-1), .int 0, .int 0])), (h4, .inr (8, [.ref h21, .int (-1), .int 0, .int 0])), (h5, .inr (8, [.ref h22, .int (-1), .int 0, .int 0])), (h6, .inr (8, [.ref h23, .int (-1), .int 0, .int 0])), (h7, .inr (8, [.ref h24, .int (-1), .int 0, .int 0])), (h0, .inr (11, [.ref h8, .int 0, .ref h9, .ref h10, .ref h11, .ref h12, .ref h13, .ref h14, .ref h15, .ref h16, .ref h17, .int 0, .ref h18, .ref h1])), (h1, .inl (cOShelf, 6, .inr (.inr (.inr (.inr (va_up (va_up (va_up (va_up (va_up (va_up (fun _ => none) (0 : Int32).toNatClampNeg (some h2)) (1 : Int32).toNatClampNeg (some h3)) (2 : Int32).toNatClampNeg (some h4)) (3 : Int32).toNatClampNeg (some h5)) (4 : Int32).toNatClampNeg (some h6)) (5 : Int32).toNatClampNeg (some h7)))))))] H := hP
  have hD : va_D A [(h2, .inr (8, [.ref h19, .int (-1), .int 0, .int 0])), (h3, .inr (8, [.ref h20, .int (-1), .int 0, .int 0])), (h4, .inr (8, [.ref h21, .int (-1), .int 0, .int 0])), (h5, .inr (8, [.ref h22, .int (-1), .int 0, .int 0])), (h6, .inr (8, [.ref h23, .int (-1), .int 0, .int 0])), (h7, .inr (8, [.ref h24, .int (-1), .int 0, .int 0])), (h0, .inr (11, [.ref h8, .int 0, .ref h9, .ref h10, .ref h11, .ref h12, .ref h13, .ref h14, .ref h15, .ref h16, .ref h17, .int 0, .ref h18, .ref h1])), (h1, .inl (cOShelf, 6, .inr (.inr (.inr (.inr (va_up (va_up (va_up (va_up (va_up (va_up (fun _ => none) (0 : Int32).toNatClampNeg (some h2)) (1 : Int32).toNatClampNeg (some h3)) (2 : Int32).toNatClampNeg (some h4)) (3 : Int32).toNatClampNeg (some h5)) (4 : Int32).toNatClampNeg (some h6)) (5 : Int32).toNatClampNeg (some h7)))))))] := hD
  rcases hw with ⟨t_1_0, rfl⟩ | ⟨t_1_0, t_1_1, rfl⟩ | ⟨t_1_0, t_1_1, t_1_2, rfl⟩ | ⟨t_1_0, t_1_1, t_1_2, rfl⟩ | ⟨t_1_0, t_1_1, t_1_2, rfl⟩ | ⟨t_1_0, t_1_1, t_1_2, rfl⟩ | ⟨t_1_0, t_1_1, t_1_2, rfl⟩ | ⟨t_1_0, t_1_1, t_1_2, rfl⟩
  · skip
    refine W.eq (g2 := F0 m 5 ls [.null]) rfl ?_
    refine lv_astoreN (lv' := [(6, .null), (0, .ref h0), (1, .int p0), (2, .int p1), (3, .int p2), (4, .int p3), (5, .int p4)]) hx hb dX11_shift_5 hl (by decide) rfl (fun ls hl => ?_)
    refine lv_aload_n hx hb dX11_shift_7 rfl (lv_at hl 1 rfl) ?_
    refine lv_iload_n hx hb dX11_shift_8 rfl (lv_at hl 4 rfl) ?_
    have hPc := hP.sub (ws' := [(h0, .inr (11, [.ref h8, .int 0, .ref h9, .ref h10, .ref h11, .ref h12, .ref h13, .ref h14, .ref h15, .ref h16, .ref h17, .int 0, .ref h18, .ref h1])), (h1, .inl (cOShelf, 6, .inr (.inr (.inr (.inr (va_up (va_up (va_up (va_up (va_up (va_up (fun _ => none) (0 : Int32).toNatClampNeg (some h2)) (1 : Int32).toNatClampNeg (some h3)) (2 : Int32).toNatClampNeg (some h4)) (3 : Int32).toNatClampNeg (some h5)) (4 : Int32).toNatClampNeg (some h6)) (5 : Int32).toNatClampNeg (some h7)))))))]) [6, 7] rfl
    have hDc := hD.sub (ws' := [(h0, .inr (11, [.ref h8, .int 0, .ref h9, .ref h10, .ref h11, .ref h12, .ref h13, .ref h14, .ref h15, .ref h16, .ref h17, .int 0, .ref h18, .ref h1])), (h1, .inl (cOShelf, 6, .inr (.inr (.inr (.inr (va_up (va_up (va_up (va_up (va_up (va_up (fun _ => none) (0 : Int32).toNatClampNeg (some h2)) (1 : Int32).toNatClampNeg (some h3)) (2 : Int32).toNatClampNeg (some h4)) (3 : Int32).toNatClampNeg (some h5)) (4 : Int32).toNatClampNeg (some h6)) (5 : Int32).toNatClampNeg (some h7)))))))]) [6, 7] (by decide) rfl
    have hKc := hK.sub (tys' := [(cOShelf, .object "KinkStreet$Shelf")]) [0] rfl
    have hFc := va_free (wc := [(h0, .inr (11, [.ref h8, .int 0, .ref h9, .ref h10, .ref h11, .ref h12, .ref h13, .ref h14, .ref h15, .ref h16, .ref h17, .int 0, .ref h18, .ref h1])), (h1, .inl (cOShelf, 6, .inr (.inr (.inr (.inr (va_up (va_up (va_up (va_up (va_up (va_up (fun _ => none) (0 : Int32).toNatClampNeg (some h2)) (1 : Int32).toNatClampNeg (some h3)) (2 : Int32).toNatClampNeg (some h4)) (3 : Int32).toNatClampNeg (some h5)) (4 : Int32).toNatClampNeg (some h6)) (5 : Int32).toNatClampNeg (some h7)))))))]) hD hS hA [6, 7] rfl
    refine va_callq (va_runV (As := [.int p2]) (rest := []) ⟨hx, hb, hml, hown, hts⟩ (k_X11_knownShelf_0 l dC dI h0 h1 h8 h9 h10 h11 h12 h13 h14 h15 h16 h17 h18 h2 h3 h4 h5 h6 h7 cOShelf H.size p2) (cwV 1 hts gX11_shift_X11_knownShelf rfl rfl rfl (by decide +kernel) ⟨Nat.le_of_ble_eq_true rfl, Nat.le_of_ble_eq_true rfl⟩) ⟨fun a U g mk q => by obtain ⟨q0, q1, qP, qK, qD⟩ := q; exact ⟨q0, q1, qP, va_K.moved (u := U) (U := U.calling g mk a) (Vm.Alike.refl U.vm) qK, qD⟩, va_recv hKc hPc (ci := 11) (q0 := 0) rfl rfl, fun U hU hW => ⟨rfl, by rw [hU], by rw [hU]; exact hPc, va_K.moved hW.alike hKc, hDc.weaken (fun _ _ _ _ => trivial)⟩⟩ rfl rfl hl.1 rfl (lv_room (Nat.le_of_ble_eq_true rfl)) dX11_shift_9 ⟨Nat.le_of_ble_eq_true rfl, Nat.le_of_ble_eq_true rfl⟩) hS (fun q _ h => hFc q h) hFc (fun r_2 u t H1 locs ht hvm hw hB hz1 hk1 hS => ?_)
    obtain ⟨hP1, hK1, hD1⟩ := hB
    rw [ht] at hP1
    have hK1 := va_K.moved hvm.symm hK1
    obtain ⟨hP, hD⟩ := va_join (wr := [(h2, .inr (8, [.ref h19, .int (-1), .int 0, .int 0])), (h3, .inr (8, [.ref h20, .int (-1), .int 0, .int 0])), (h4, .inr (8, [.ref h21, .int (-1), .int 0, .int 0])), (h5, .inr (8, [.ref h22, .int (-1), .int 0, .int 0])), (h6, .inr (8, [.ref h23, .int (-1), .int 0, .int 0])), (h7, .inr (8, [.ref h24, .int (-1), .int 0, .int 0]))]) (w1 := [(h0, .inr (11, [.ref h8, .int 0, .ref h9, .ref h10, .ref h11, .ref h12, .ref h13, .ref h14, .ref h15, .ref h16, .ref h17, .int 0, .ref h18, .ref h1])), (h1, .inl (cOShelf, 6, .inr (.inr (.inr (.inr (va_up (va_up (va_up (va_up (va_up (va_up (fun _ => none) (0 : Int32).toNatClampNeg (some h2)) (1 : Int32).toNatClampNeg (some h3)) (2 : Int32).toNatClampNeg (some h4)) (3 : Int32).toNatClampNeg (some h5)) (4 : Int32).toNatClampNeg (some h6)) (5 : Int32).toNatClampNeg (some h7)))))))]) hP hD [6, 7] [0, 1, 2, 3, 4, 5] rfl rfl (by decide) (by decide) hk1 hFc hP1 hD1
    generalize H1 = H at hP hS ⊢
    have hP : va_P (dC, dI) vwCl [(h2, .inr (8, [.ref h19, .int (-1), .int 0, .int 0])), (h3, .inr (8, [.ref h20, .int (-1), .int 0, .int 0])), (h4, .inr (8, [.ref h21, .int (-1), .int 0, .int 0])), (h5, .inr (8, [.ref h22, .int (-1), .int 0, .int 0])), (h6, .inr (8, [.ref h23, .int (-1), .int 0, .int 0])), (h7, .inr (8, [.ref h24, .int (-1), .int 0, .int 0])), (h0, .inr (11, [.ref h8, .int 0, .ref h9, .ref h10, .ref h11, .ref h12, .ref h13, .ref h14, .ref h15, .ref h16, .ref h17, .int 0, .ref h18, .ref h1])), (h1, .inl (cOShelf, 6, .inr (.inr (.inr (.inr (va_up (va_up (va_up (va_up (va_up (va_up (fun _ => none) (0 : Int32).toNatClampNeg (some h2)) (1 : Int32).toNatClampNeg (some h3)) (2 : Int32).toNatClampNeg (some h4)) (3 : Int32).toNatClampNeg (some h5)) (4 : Int32).toNatClampNeg (some h6)) (5 : Int32).toNatClampNeg (some h7)))))))] H := hP
    have hD : va_D A [(h2, .inr (8, [.ref h19, .int (-1), .int 0, .int 0])), (h3, .inr (8, [.ref h20, .int (-1), .int 0, .int 0])), (h4, .inr (8, [.ref h21, .int (-1), .int 0, .int 0])), (h5, .inr (8, [.ref h22, .int (-1), .int 0, .int 0])), (h6, .inr (8, [.ref h23, .int (-1), .int 0, .int 0])), (h7, .inr (8, [.ref h24, .int (-1), .int 0, .int 0])), (h0, .inr (11, [.ref h8, .int 0, .ref h9, .ref h10, .ref h11, .ref h12, .ref h13, .ref h14, .ref h15, .ref h16, .ref h17, .int 0, .ref h18, .ref h1])), (h1, .inl (cOShelf, 6, .inr (.inr (.inr (.inr (va_up (va_up (va_up (va_up (va_up (va_up (fun _ => none) (0 : Int32).toNatClampNeg (some h2)) (1 : Int32).toNatClampNeg (some h3)) (2 : Int32).toNatClampNeg (some h4)) (3 : Int32).toNatClampNeg (some h5)) (4 : Int32).toNatClampNeg (some h6)) (5 : Int32).toNatClampNeg (some h7)))))))] := hD
    rcases hw with ⟨t_2_0, rfl⟩ | ⟨t_2_0, t_2_1, rfl⟩ | ⟨t_2_0, t_2_1, t_2_2, rfl⟩ | ⟨t_2_0, t_2_1, t_2_2, rfl⟩ | ⟨t_2_0, t_2_1, t_2_2, rfl⟩ | ⟨t_2_0, t_2_1, t_2_2, rfl⟩ | ⟨t_2_0, t_2_1, t_2_2, rfl⟩ | ⟨t_2_0, t_2_1, t_2_2, rfl⟩
    · skip
      refine W.eq (g2 := F0 m 12 ls [.null]) rfl ?_
      refine lv_astoreN (lv' := [(7, .null), (6, .null), (0, .ref h0), (1, .int p0), (2, .int p1), (3, .int p2), (4, .int p3), (5, .int p4)]) hx hb dX11_shift_12 hl (by decide) rfl (fun ls hl => ?_)
      refine lv_aloadN hx hb dX11_shift_14 (lv_at hl 1 rfl) ?_
      refine lv_ifnullN (tgt := 24) hx hb dX11_shift_16 (by decide) ?_
      refine lv_iconst (v := (-1)) hx hb dX11_shift_24 (by decide) ?_
      have hP9 := hP.sub (ws' := []) [] rfl
      have hD9 := hD.sub (ws' := []) [] (by decide) rfl
      have hK9 := hK.sub (tys' := []) [] rfl
      exact W.iret (v := (-1)) hx hb hr (fun t ht hW => ⟨⟨(-1), (), rfl, by first | rfl | ((repeat' split) <;> first | rfl | (exfalso; omega) | (exact Int32.toInt_inj.mp (by show ((-1) : Int) = _; omega))), by rw [ht]; exact hP9, va_K.moved hW.alike hK9, hD9⟩, hS.F ht⟩) hS.2.2 dX11_shift_25
    · skip
      refine W.eq (g2 := F0 m 12 ls [.null]) rfl ?_
      refine lv_astoreN (lv' := [(7, .null), (6, .null), (0, .ref h0), (1, .int p0), (2, .int p1), (3, .int p2), (4, .int p3), (5, .int p4)]) hx hb dX11_shift_12 hl (by decide) rfl (fun ls hl => ?_)
      refine lv_aloadN hx hb dX11_shift_14 (lv_at hl 1 rfl) ?_
      refine lv_ifnullN (tgt := 24) hx hb dX11_shift_16 (by decide) ?_
      refine lv_iconst (v := (-1)) hx hb dX11_shift_24 (by decide) ?_
      have hP9 := hP.sub (ws' := []) [] rfl
      have hD9 := hD.sub (ws' := []) [] (by decide) rfl
      have hK9 := hK.sub (tys' := []) [] rfl
      exact W.iret (v := (-1)) hx hb hr (fun t ht hW => ⟨⟨(-1), (), rfl, by first | rfl | ((repeat' split) <;> first | rfl | (exfalso; omega) | (exact Int32.toInt_inj.mp (by show ((-1) : Int) = _; omega))), by rw [ht]; exact hP9, va_K.moved hW.alike hK9, hD9⟩, hS.F ht⟩) hS.2.2 dX11_shift_25
    · skip
      refine W.eq (g2 := F0 m 12 ls [.ref h2]) rfl ?_
      refine lv_astore (lv' := [(7, .ref h2), (6, .null), (0, .ref h0), (1, .int p0), (2, .int p1), (3, .int p2), (4, .int p3), (5, .int p4)]) hx hb dX11_shift_12 hl (by decide) rfl (fun ls hl => ?_)
      refine lv_aloadN hx hb dX11_shift_14 (lv_at hl 1 rfl) ?_
      refine lv_ifnullN (tgt := 24) hx hb dX11_shift_16 (by decide) ?_
      refine lv_iconst (v := (-1)) hx hb dX11_shift_24 (by decide) ?_
      have hP9 := hP.sub (ws' := []) [] rfl
      have hD9 := hD.sub (ws' := []) [] (by decide) rfl
      have hK9 := hK.sub (tys' := []) [] rfl
      exact W.iret (v := (-1)) hx hb hr (fun t ht hW => ⟨⟨(-1), (), rfl, by first | rfl | ((repeat' split) <;> first | rfl | (exfalso; omega) | (exact Int32.toInt_inj.mp (by show ((-1) : Int) = _; omega))), by rw [ht]; exact hP9, va_K.moved hW.alike hK9, hD9⟩, hS.F ht⟩) hS.2.2 dX11_shift_25
    · skip
      refine W.eq (g2 := F0 m 12 ls [.ref h3]) rfl ?_
      refine lv_astore (lv' := [(7, .ref h3), (6, .null), (0, .ref h0), (1, .int p0), (2, .int p1), (3, .int p2), (4, .int p3), (5, .int p4)]) hx hb dX11_shift_12 hl (by decide) rfl (fun ls hl => ?_)
      refine lv_aloadN hx hb dX11_shift_14 (lv_at hl 1 rfl) ?_
      refine lv_ifnullN (tgt := 24) hx hb dX11_shift_16 (by decide) ?_
      refine lv_iconst (v := (-1)) hx hb dX11_shift_24 (by decide) ?_
      have hP9 := hP.sub (ws' := []) [] rfl
      have hD9 := hD.sub (ws' := []) [] (by decide) rfl
      have hK9 := hK.sub (tys' := []) [] rfl
      exact W.iret (v := (-1)) hx hb hr (fun t ht hW => ⟨⟨(-1), (), rfl, by first | rfl | ((repeat' split) <;> first | rfl | (exfalso; omega) | (exact Int32.toInt_inj.mp (by show ((-1) : Int) = _; omega))), by rw [ht]; exact hP9, va_K.moved hW.alike hK9, hD9⟩, hS.F ht⟩) hS.2.2 dX11_shift_25
    · skip
      refine W.eq (g2 := F0 m 12 ls [.ref h4]) rfl ?_
      refine lv_astore (lv' := [(7, .ref h4), (6, .null), (0, .ref h0), (1, .int p0), (2, .int p1), (3, .int p2), (4, .int p3), (5, .int p4)]) hx hb dX11_shift_12 hl (by decide) rfl (fun ls hl => ?_)
      refine lv_aloadN hx hb dX11_shift_14 (lv_at hl 1 rfl) ?_
      refine lv_ifnullN (tgt := 24) hx hb dX11_shift_16 (by decide) ?_
      refine lv_iconst (v := (-1)) hx hb dX11_shift_24 (by decide) ?_
      have hP9 := hP.sub (ws' := []) [] rfl
      have hD9 := hD.sub (ws' := []) [] (by decide) rfl
      have hK9 := hK.sub (tys' := []) [] rfl
      exact W.iret (v := (-1)) hx hb hr (fun t ht hW => ⟨⟨(-1), (), rfl, by first | rfl | ((repeat' split) <;> first | rfl | (exfalso; omega) | (exact Int32.toInt_inj.mp (by show ((-1) : Int) = _; omega))), by rw [ht]; exact hP9, va_K.moved hW.alike hK9, hD9⟩, hS.F ht⟩) hS.2.2 dX11_shift_25
    · skip
      refine W.eq (g2 := F0 m 12 ls [.ref h5]) rfl ?_
      refine lv_astore (lv' := [(7, .ref h5), (6, .null), (0, .ref h0), (1, .int p0), (2, .int p1), (3, .int p2), (4, .int p3), (5, .int p4)]) hx hb dX11_shift_12 hl (by decide) rfl (fun ls hl => ?_)
      refine lv_aloadN hx hb dX11_shift_14 (lv_at hl 1 rfl) ?_
      refine lv_ifnullN (tgt := 24) hx hb dX11_shift_16 (by decide) ?_
      refine lv_iconst (v := (-1)) hx hb dX11_shift_24 (by decide) ?_
      have hP9 := hP.sub (ws' := []) [] rfl
      have hD9 := hD.sub (ws' := []) [] (by decide) rfl
      have hK9 := hK.sub (tys' := []) [] rfl
      exact W.iret (v := (-1)) hx hb hr (fun t ht hW => ⟨⟨(-1), (), rfl, by first | rfl | ((repeat' split) <;> first | rfl | (exfalso; omega) | (exact Int32.toInt_inj.mp (by show ((-1) : Int) = _; omega))), by rw [ht]; exact hP9, va_K.moved hW.alike hK9, hD9⟩, hS.F ht⟩) hS.2.2 dX11_shift_25
    · skip
      refine W.eq (g2 := F0 m 12 ls [.ref h6]) rfl ?_
      refine lv_astore (lv' := [(7, .ref h6), (6, .null), (0, .ref h0), (1, .int p0), (2, .int p1), (3, .int p2), (4, .int p3), (5, .int p4)]) hx hb dX11_shift_12 hl (by decide) rfl (fun ls hl => ?_)
      refine lv_aloadN hx hb dX11_shift_14 (lv_at hl 1 rfl) ?_
      refine lv_ifnullN (tgt := 24) hx hb dX11_shift_16 (by decide) ?_
      refine lv_iconst (v := (-1)) hx hb dX11_shift_24 (by decide) ?_
      have hP9 := hP.sub (ws' := []) [] rfl
      have hD9 := hD.sub (ws' := []) [] (by decide) rfl
      have hK9 := hK.sub (tys' := []) [] rfl
      exact W.iret (v := (-1)) hx hb hr (fun t ht hW => ⟨⟨(-1), (), rfl, by first | rfl | ((repeat' split) <;> first | rfl | (exfalso; omega) | (exact Int32.toInt_inj.mp (by show ((-1) : Int) = _; omega))), by rw [ht]; exact hP9, va_K.moved hW.alike hK9, hD9⟩, hS.F ht⟩) hS.2.2 dX11_shift_25
    · skip
      refine W.eq (g2 := F0 m 12 ls [.ref h7]) rfl ?_
      refine lv_astore (lv' := [(7, .ref h7), (6, .null), (0, .ref h0), (1, .int p0), (2, .int p1), (3, .int p2), (4, .int p3), (5, .int p4)]) hx hb dX11_shift_12 hl (by decide) rfl (fun ls hl => ?_)
      refine lv_aloadN hx hb dX11_shift_14 (lv_at hl 1 rfl) ?_
      refine lv_ifnullN (tgt := 24) hx hb dX11_shift_16 (by decide) ?_
      refine lv_iconst (v := (-1)) hx hb dX11_shift_24 (by decide) ?_
      have hP9 := hP.sub (ws' := []) [] rfl
      have hD9 := hD.sub (ws' := []) [] (by decide) rfl
      have hK9 := hK.sub (tys' := []) [] rfl
      exact W.iret (v := (-1)) hx hb hr (fun t ht hW => ⟨⟨(-1), (), rfl, by first | rfl | ((repeat' split) <;> first | rfl | (exfalso; omega) | (exact Int32.toInt_inj.mp (by show ((-1) : Int) = _; omega))), by rw [ht]; exact hP9, va_K.moved hW.alike hK9, hD9⟩, hS.F ht⟩) hS.2.2 dX11_shift_25
  · skip
    refine W.eq (g2 := F0 m 5 ls [.null]) rfl ?_
    refine lv_astoreN (lv' := [(6, .null), (0, .ref h0), (1, .int p0), (2, .int p1), (3, .int p2), (4, .int p3), (5, .int p4)]) hx hb dX11_shift_5 hl (by decide) rfl (fun ls hl => ?_)
    refine lv_aload_n hx hb dX11_shift_7 rfl (lv_at hl 1 rfl) ?_
    refine lv_iload_n hx hb dX11_shift_8 rfl (lv_at hl 4 rfl) ?_
    have hPc := hP.sub (ws' := [(h0, .inr (11, [.ref h8, .int 0, .ref h9, .ref h10, .ref h11, .ref h12, .ref h13, .ref h14, .ref h15, .ref h16, .ref h17, .int 0, .ref h18, .ref h1])), (h1, .inl (cOShelf, 6, .inr (.inr (.inr (.inr (va_up (va_up (va_up (va_up (va_up (va_up (fun _ => none) (0 : Int32).toNatClampNeg (some h2)) (1 : Int32).toNatClampNeg (some h3)) (2 : Int32).toNatClampNeg (some h4)) (3 : Int32).toNatClampNeg (some h5)) (4 : Int32).toNatClampNeg (some h6)) (5 : Int32).toNatClampNeg (some h7)))))))]) [6, 7] rfl
    have hDc := hD.sub (ws' := [(h0, .inr (11, [.ref h8, .int 0, .ref h9, .ref h10, .ref h11, .ref h12, .ref h13, .ref h14, .ref h15, .ref h16, .ref h17, .int 0, .ref h18, .ref h1])), (h1, .inl (cOShelf, 6, .inr (.inr (.inr (.inr (va_up (va_up (va_up (va_up (va_up (va_up (fun _ => none) (0 : Int32).toNatClampNeg (some h2)) (1 : Int32).toNatClampNeg (some h3)) (2 : Int32).toNatClampNeg (some h4)) (3 : Int32).toNatClampNeg (some h5)) (4 : Int32).toNatClampNeg (some h6)) (5 : Int32).toNatClampNeg (some h7)))))))]) [6, 7] (by decide) rfl
    have hKc := hK.sub (tys' := [(cOShelf, .object "KinkStreet$Shelf")]) [0] rfl
    have hFc := va_free (wc := [(h0, .inr (11, [.ref h8, .int 0, .ref h9, .ref h10, .ref h11, .ref h12, .ref h13, .ref h14, .ref h15, .ref h16, .ref h17, .int 0, .ref h18, .ref h1])), (h1, .inl (cOShelf, 6, .inr (.inr (.inr (.inr (va_up (va_up (va_up (va_up (va_up (va_up (fun _ => none) (0 : Int32).toNatClampNeg (some h2)) (1 : Int32).toNatClampNeg (some h3)) (2 : Int32).toNatClampNeg (some h4)) (3 : Int32).toNatClampNeg (some h5)) (4 : Int32).toNatClampNeg (some h6)) (5 : Int32).toNatClampNeg (some h7)))))))]) hD hS hA [6, 7] rfl
    refine va_callq (va_runV (As := [.int p2]) (rest := []) ⟨hx, hb, hml, hown, hts⟩ (k_X11_knownShelf_0 l dC dI h0 h1 h8 h9 h10 h11 h12 h13 h14 h15 h16 h17 h18 h2 h3 h4 h5 h6 h7 cOShelf H.size p2) (cwV 1 hts gX11_shift_X11_knownShelf rfl rfl rfl (by decide +kernel) ⟨Nat.le_of_ble_eq_true rfl, Nat.le_of_ble_eq_true rfl⟩) ⟨fun a U g mk q => by obtain ⟨q0, q1, qP, qK, qD⟩ := q; exact ⟨q0, q1, qP, va_K.moved (u := U) (U := U.calling g mk a) (Vm.Alike.refl U.vm) qK, qD⟩, va_recv hKc hPc (ci := 11) (q0 := 0) rfl rfl, fun U hU hW => ⟨rfl, by rw [hU], by rw [hU]; exact hPc, va_K.moved hW.alike hKc, hDc.weaken (fun _ _ _ _ => trivial)⟩⟩ rfl rfl hl.1 rfl (lv_room (Nat.le_of_ble_eq_true rfl)) dX11_shift_9 ⟨Nat.le_of_ble_eq_true rfl, Nat.le_of_ble_eq_true rfl⟩) hS (fun q _ h => hFc q h) hFc (fun r_3 u t H1 locs ht hvm hw hB hz1 hk1 hS => ?_)
    obtain ⟨hP1, hK1, hD1⟩ := hB
    rw [ht] at hP1
    have hK1 := va_K.moved hvm.symm hK1
    obtain ⟨hP, hD⟩ := va_join (wr := [(h2, .inr (8, [.ref h19, .int (-1), .int 0, .int 0])), (h3, .inr (8, [.ref h20, .int (-1), .int 0, .int 0])), (h4, .inr (8, [.ref h21, .int (-1), .int 0, .int 0])), (h5, .inr (8, [.ref h22, .int (-1), .int 0, .int 0])), (h6, .inr (8, [.ref h23, .int (-1), .int 0, .int 0])), (h7, .inr (8, [.ref h24, .int (-1), .int 0, .int 0]))]) (w1 := [(h0, .inr (11, [.ref h8, .int 0, .ref h9, .ref h10, .ref h11, .ref h12, .ref h13, .ref h14, .ref h15, .ref h16, .ref h17, .int 0, .ref h18, .ref h1])), (h1, .inl (cOShelf, 6, .inr (.inr (.inr (.inr (va_up (va_up (va_up (va_up (va_up (va_up (fun _ => none) (0 : Int32).toNatClampNeg (some h2)) (1 : Int32).toNatClampNeg (some h3)) (2 : Int32).toNatClampNeg (some h4)) (3 : Int32).toNatClampNeg (some h5)) (4 : Int32).toNatClampNeg (some h6)) (5 : Int32).toNatClampNeg (some h7)))))))]) hP hD [6, 7] [0, 1, 2, 3, 4, 5] rfl rfl (by decide) (by decide) hk1 hFc hP1 hD1
    generalize H1 = H at hP hS ⊢
    have hP : va_P (dC, dI) vwCl [(h2, .inr (8, [.ref h19, .int (-1), .int 0, .int 0])), (h3, .inr (8, [.ref h20, .int (-1), .int 0, .int 0])), (h4, .inr (8, [.ref h21, .int (-1), .int 0, .int 0])), (h5, .inr (8, [.ref h22, .int (-1), .int 0, .int 0])), (h6, .inr (8, [.ref h23, .int (-1), .int 0, .int 0])), (h7, .inr (8, [.ref h24, .int (-1), .int 0, .int 0])), (h0, .inr (11, [.ref h8, .int 0, .ref h9, .ref h10, .ref h11, .ref h12, .ref h13, .ref h14, .ref h15, .ref h16, .ref h17, .int 0, .ref h18, .ref h1])), (h1, .inl (cOShelf, 6, .inr (.inr (.inr (.inr (va_up (va_up (va_up (va_up (va_up (va_up (fun _ => none) (0 : Int32).toNatClampNeg (some h2)) (1 : Int32).toNatClampNeg (some h3)) (2 : Int32).toNatClampNeg (some h4)) (3 : Int32).toNatClampNeg (some h5)) (4 : Int32).toNatClampNeg (some h6)) (5 : Int32).toNatClampNeg (some h7)))))))] H := hP
    have hD : va_D A [(h2, .inr (8, [.ref h19, .int (-1), .int 0, .int 0])), (h3, .inr (8, [.ref h20, .int (-1), .int 0, .int 0])), (h4, .inr (8, [.ref h21, .int (-1), .int 0, .int 0])), (h5, .inr (8, [.ref h22, .int (-1), .int 0, .int 0])), (h6, .inr (8, [.ref h23, .int (-1), .int 0, .int 0])), (h7, .inr (8, [.ref h24, .int (-1), .int 0, .int 0])), (h0, .inr (11, [.ref h8, .int 0, .ref h9, .ref h10, .ref h11, .ref h12, .ref h13, .ref h14, .ref h15, .ref h16, .ref h17, .int 0, .ref h18, .ref h1])), (h1, .inl (cOShelf, 6, .inr (.inr (.inr (.inr (va_up (va_up (va_up (va_up (va_up (va_up (fun _ => none) (0 : Int32).toNatClampNeg (some h2)) (1 : Int32).toNatClampNeg (some h3)) (2 : Int32).toNatClampNeg (some h4)) (3 : Int32).toNatClampNeg (some h5)) (4 : Int32).toNatClampNeg (some h6)) (5 : Int32).toNatClampNeg (some h7)))))))] := hD
    rcases hw with ⟨t_3_0, rfl⟩ | ⟨t_3_0, t_3_1, rfl⟩ | ⟨t_3_0, t_3_1, t_3_2, rfl⟩ | ⟨t_3_0, t_3_1, t_3_2, rfl⟩ | ⟨t_3_0, t_3_1, t_3_2, rfl⟩ | ⟨t_3_0, t_3_1, t_3_2, rfl⟩ | ⟨t_3_0, t_3_1, t_3_2, rfl⟩ | ⟨t_3_0, t_3_1, t_3_2, rfl⟩
    · skip
      refine W.eq (g2 := F0 m 12 ls [.null]) rfl ?_
      refine lv_astoreN (lv' := [(7, .null), (6, .null), (0, .ref h0), (1, .int p0), (2, .int p1), (3, .int p2), (4, .int p3), (5, .int p4)]) hx hb dX11_shift_12 hl (by decide) rfl (fun ls hl => ?_)
      refine lv_aloadN hx hb dX11_shift_14 (lv_at hl 1 rfl) ?_
      refine lv_ifnullN (tgt := 24) hx hb dX11_shift_16 (by decide) ?_
      refine lv_iconst (v := (-1)) hx hb dX11_shift_24 (by decide) ?_
      have hP9 := hP.sub (ws' := []) [] rfl
      have hD9 := hD.sub (ws' := []) [] (by decide) rfl
      have hK9 := hK.sub (tys' := []) [] rfl
      exact W.iret (v := (-1)) hx hb hr (fun t ht hW => ⟨⟨(-1), (), rfl, by first | rfl | ((repeat' split) <;> first | rfl | (exfalso; omega) | (exact Int32.toInt_inj.mp (by show ((-1) : Int) = _; omega))), by rw [ht]; exact hP9, va_K.moved hW.alike hK9, hD9⟩, hS.F ht⟩) hS.2.2 dX11_shift_25
    · skip
      refine W.eq (g2 := F0 m 12 ls [.null]) rfl ?_
      refine lv_astoreN (lv' := [(7, .null), (6, .null), (0, .ref h0), (1, .int p0), (2, .int p1), (3, .int p2), (4, .int p3), (5, .int p4)]) hx hb dX11_shift_12 hl (by decide) rfl (fun ls hl => ?_)
      refine lv_aloadN hx hb dX11_shift_14 (lv_at hl 1 rfl) ?_
      refine lv_ifnullN (tgt := 24) hx hb dX11_shift_16 (by decide) ?_
      refine lv_iconst (v := (-1)) hx hb dX11_shift_24 (by decide) ?_
      have hP9 := hP.sub (ws' := []) [] rfl
      have hD9 := hD.sub (ws' := []) [] (by decide) rfl
      have hK9 := hK.sub (tys' := []) [] rfl
      exact W.iret (v := (-1)) hx hb hr (fun t ht hW => ⟨⟨(-1), (), rfl, by first | rfl | ((repeat' split) <;> first | rfl | (exfalso; omega) | (exact Int32.toInt_inj.mp (by show ((-1) : Int) = _; omega))), by rw [ht]; exact hP9, va_K.moved hW.alike hK9, hD9⟩, hS.F ht⟩) hS.2.2 dX11_shift_25
    · skip
      refine W.eq (g2 := F0 m 12 ls [.ref h2]) rfl ?_
      refine lv_astore (lv' := [(7, .ref h2), (6, .null), (0, .ref h0), (1, .int p0), (2, .int p1), (3, .int p2), (4, .int p3), (5, .int p4)]) hx hb dX11_shift_12 hl (by decide) rfl (fun ls hl => ?_)
      refine lv_aloadN hx hb dX11_shift_14 (lv_at hl 1 rfl) ?_
      refine lv_ifnullN (tgt := 24) hx hb dX11_shift_16 (by decide) ?_
      refine lv_iconst (v := (-1)) hx hb dX11_shift_24 (by decide) ?_
      have hP9 := hP.sub (ws' := []) [] rfl
      have hD9 := hD.sub (ws' := []) [] (by decide) rfl
      have hK9 := hK.sub (tys' := []) [] rfl
      exact W.iret (v := (-1)) hx hb hr (fun t ht hW => ⟨⟨(-1), (), rfl, by first | rfl | ((repeat' split) <;> first | rfl | (exfalso; omega) | (exact Int32.toInt_inj.mp (by show ((-1) : Int) = _; omega))), by rw [ht]; exact hP9, va_K.moved hW.alike hK9, hD9⟩, hS.F ht⟩) hS.2.2 dX11_shift_25
    · skip
      refine W.eq (g2 := F0 m 12 ls [.ref h3]) rfl ?_
      refine lv_astore (lv' := [(7, .ref h3), (6, .null), (0, .ref h0), (1, .int p0), (2, .int p1), (3, .int p2), (4, .int p3), (5, .int p4)]) hx hb dX11_shift_12 hl (by decide) rfl (fun ls hl => ?_)
      refine lv_aloadN hx hb dX11_shift_14 (lv_at hl 1 rfl) ?_
      refine lv_ifnullN (tgt := 24) hx hb dX11_shift_16 (by decide) ?_
      refine lv_iconst (v := (-1)) hx hb dX11_shift_24 (by decide) ?_
      have hP9 := hP.sub (ws' := []) [] rfl
      have hD9 := hD.sub (ws' := []) [] (by decide) rfl
      have hK9 := hK.sub (tys' := []) [] rfl
      exact W.iret (v := (-1)) hx hb hr (fun t ht hW => ⟨⟨(-1), (), rfl, by first | rfl | ((repeat' split) <;> first | rfl | (exfalso; omega) | (exact Int32.toInt_inj.mp (by show ((-1) : Int) = _; omega))), by rw [ht]; exact hP9, va_K.moved hW.alike hK9, hD9⟩, hS.F ht⟩) hS.2.2 dX11_shift_25
    · skip
      refine W.eq (g2 := F0 m 12 ls [.ref h4]) rfl ?_
      refine lv_astore (lv' := [(7, .ref h4), (6, .null), (0, .ref h0), (1, .int p0), (2, .int p1), (3, .int p2), (4, .int p3), (5, .int p4)]) hx hb dX11_shift_12 hl (by decide) rfl (fun ls hl => ?_)
      refine lv_aloadN hx hb dX11_shift_14 (lv_at hl 1 rfl) ?_
      refine lv_ifnullN (tgt := 24) hx hb dX11_shift_16 (by decide) ?_
      refine lv_iconst (v := (-1)) hx hb dX11_shift_24 (by decide) ?_
      have hP9 := hP.sub (ws' := []) [] rfl
      have hD9 := hD.sub (ws' := []) [] (by decide) rfl
      have hK9 := hK.sub (tys' := []) [] rfl
      exact W.iret (v := (-1)) hx hb hr (fun t ht hW => ⟨⟨(-1), (), rfl, by first | rfl | ((repeat' split) <;> first | rfl | (exfalso; omega) | (exact Int32.toInt_inj.mp (by show ((-1) : Int) = _; omega))), by rw [ht]; exact hP9, va_K.moved hW.alike hK9, hD9⟩, hS.F ht⟩) hS.2.2 dX11_shift_25
    · skip
      refine W.eq (g2 := F0 m 12 ls [.ref h5]) rfl ?_
      refine lv_astore (lv' := [(7, .ref h5), (6, .null), (0, .ref h0), (1, .int p0), (2, .int p1), (3, .int p2), (4, .int p3), (5, .int p4)]) hx hb dX11_shift_12 hl (by decide) rfl (fun ls hl => ?_)
      refine lv_aloadN hx hb dX11_shift_14 (lv_at hl 1 rfl) ?_
      refine lv_ifnullN (tgt := 24) hx hb dX11_shift_16 (by decide) ?_
      refine lv_iconst (v := (-1)) hx hb dX11_shift_24 (by decide) ?_
      have hP9 := hP.sub (ws' := []) [] rfl
      have hD9 := hD.sub (ws' := []) [] (by decide) rfl
      have hK9 := hK.sub (tys' := []) [] rfl
      exact W.iret (v := (-1)) hx hb hr (fun t ht hW => ⟨⟨(-1), (), rfl, by first | rfl | ((repeat' split) <;> first | rfl | (exfalso; omega) | (exact Int32.toInt_inj.mp (by show ((-1) : Int) = _; omega))), by rw [ht]; exact hP9, va_K.moved hW.alike hK9, hD9⟩, hS.F ht⟩) hS.2.2 dX11_shift_25
    · skip
      refine W.eq (g2 := F0 m 12 ls [.ref h6]) rfl ?_
      refine lv_astore (lv' := [(7, .ref h6), (6, .null), (0, .ref h0), (1, .int p0), (2, .int p1), (3, .int p2), (4, .int p3), (5, .int p4)]) hx hb dX11_shift_12 hl (by decide) rfl (fun ls hl => ?_)
      refine lv_aloadN hx hb dX11_shift_14 (lv_at hl 1 rfl) ?_
      refine lv_ifnullN (tgt := 24) hx hb dX11_shift_16 (by decide) ?_
      refine lv_iconst (v := (-1)) hx hb dX11_shift_24 (by decide) ?_
      have hP9 := hP.sub (ws' := []) [] rfl
      have hD9 := hD.sub (ws' := []) [] (by decide) rfl
      have hK9 := hK.sub (tys' := []) [] rfl
      exact W.iret (v := (-1)) hx hb hr (fun t ht hW => ⟨⟨(-1), (), rfl, by first | rfl | ((repeat' split) <;> first | rfl | (exfalso; omega) | (exact Int32.toInt_inj.mp (by show ((-1) : Int) = _; omega))), by rw [ht]; exact hP9, va_K.moved hW.alike hK9, hD9⟩, hS.F ht⟩) hS.2.2 dX11_shift_25
    · skip
      refine W.eq (g2 := F0 m 12 ls [.ref h7]) rfl ?_
      refine lv_astore (lv' := [(7, .ref h7), (6, .null), (0, .ref h0), (1, .int p0), (2, .int p1), (3, .int p2), (4, .int p3), (5, .int p4)]) hx hb dX11_shift_12 hl (by decide) rfl (fun ls hl => ?_)
      refine lv_aloadN hx hb dX11_shift_14 (lv_at hl 1 rfl) ?_
      refine lv_ifnullN (tgt := 24) hx hb dX11_shift_16 (by decide) ?_
      refine lv_iconst (v := (-1)) hx hb dX11_shift_24 (by decide) ?_
      have hP9 := hP.sub (ws' := []) [] rfl
      have hD9 := hD.sub (ws' := []) [] (by decide) rfl
      have hK9 := hK.sub (tys' := []) [] rfl
      exact W.iret (v := (-1)) hx hb hr (fun t ht hW => ⟨⟨(-1), (), rfl, by first | rfl | ((repeat' split) <;> first | rfl | (exfalso; omega) | (exact Int32.toInt_inj.mp (by show ((-1) : Int) = _; omega))), by rw [ht]; exact hP9, va_K.moved hW.alike hK9, hD9⟩, hS.F ht⟩) hS.2.2 dX11_shift_25
  · skip
    refine W.eq (g2 := F0 m 5 ls [.ref h2]) rfl ?_
    refine lv_astore (lv' := [(6, .ref h2), (0, .ref h0), (1, .int p0), (2, .int p1), (3, .int p2), (4, .int p3), (5, .int p4)]) hx hb dX11_shift_5 hl (by decide) rfl (fun ls hl => ?_)
    refine lv_aload_n hx hb dX11_shift_7 rfl (lv_at hl 1 rfl) ?_
    refine lv_iload_n hx hb dX11_shift_8 rfl (lv_at hl 4 rfl) ?_
    have hPc := hP.sub (ws' := [(h0, .inr (11, [.ref h8, .int 0, .ref h9, .ref h10, .ref h11, .ref h12, .ref h13, .ref h14, .ref h15, .ref h16, .ref h17, .int 0, .ref h18, .ref h1])), (h1, .inl (cOShelf, 6, .inr (.inr (.inr (.inr (va_up (va_up (va_up (va_up (va_up (va_up (fun _ => none) (0 : Int32).toNatClampNeg (some h2)) (1 : Int32).toNatClampNeg (some h3)) (2 : Int32).toNatClampNeg (some h4)) (3 : Int32).toNatClampNeg (some h5)) (4 : Int32).toNatClampNeg (some h6)) (5 : Int32).toNatClampNeg (some h7)))))))]) [6, 7] rfl
    have hDc := hD.sub (ws' := [(h0, .inr (11, [.ref h8, .int 0, .ref h9, .ref h10, .ref h11, .ref h12, .ref h13, .ref h14, .ref h15, .ref h16, .ref h17, .int 0, .ref h18, .ref h1])), (h1, .inl (cOShelf, 6, .inr (.inr (.inr (.inr (va_up (va_up (va_up (va_up (va_up (va_up (fun _ => none) (0 : Int32).toNatClampNeg (some h2)) (1 : Int32).toNatClampNeg (some h3)) (2 : Int32).toNatClampNeg (some h4)) (3 : Int32).toNatClampNeg (some h5)) (4 : Int32).toNatClampNeg (some h6)) (5 : Int32).toNatClampNeg (some h7)))))))]) [6, 7] (by decide) rfl
    have hKc := hK.sub (tys' := [(cOShelf, .object "KinkStreet$Shelf")]) [0] rfl
    have hFc := va_free (wc := [(h0, .inr (11, [.ref h8, .int 0, .ref h9, .ref h10, .ref h11, .ref h12, .ref h13, .ref h14, .ref h15, .ref h16, .ref h17, .int 0, .ref h18, .ref h1])), (h1, .inl (cOShelf, 6, .inr (.inr (.inr (.inr (va_up (va_up (va_up (va_up (va_up (va_up (fun _ => none) (0 : Int32).toNatClampNeg (some h2)) (1 : Int32).toNatClampNeg (some h3)) (2 : Int32).toNatClampNeg (some h4)) (3 : Int32).toNatClampNeg (some h5)) (4 : Int32).toNatClampNeg (some h6)) (5 : Int32).toNatClampNeg (some h7)))))))]) hD hS hA [6, 7] rfl
    refine va_callq (va_runV (As := [.int p2]) (rest := []) ⟨hx, hb, hml, hown, hts⟩ (k_X11_knownShelf_0 l dC dI h0 h1 h8 h9 h10 h11 h12 h13 h14 h15 h16 h17 h18 h2 h3 h4 h5 h6 h7 cOShelf H.size p2) (cwV 1 hts gX11_shift_X11_knownShelf rfl rfl rfl (by decide +kernel) ⟨Nat.le_of_ble_eq_true rfl, Nat.le_of_ble_eq_true rfl⟩) ⟨fun a U g mk q => by obtain ⟨q0, q1, qP, qK, qD⟩ := q; exact ⟨q0, q1, qP, va_K.moved (u := U) (U := U.calling g mk a) (Vm.Alike.refl U.vm) qK, qD⟩, va_recv hKc hPc (ci := 11) (q0 := 0) rfl rfl, fun U hU hW => ⟨rfl, by rw [hU], by rw [hU]; exact hPc, va_K.moved hW.alike hKc, hDc.weaken (fun _ _ _ _ => trivial)⟩⟩ rfl rfl hl.1 rfl (lv_room (Nat.le_of_ble_eq_true rfl)) dX11_shift_9 ⟨Nat.le_of_ble_eq_true rfl, Nat.le_of_ble_eq_true rfl⟩) hS (fun q _ h => hFc q h) hFc (fun r_4 u t H1 locs ht hvm hw hB hz1 hk1 hS => ?_)
    obtain ⟨hP1, hK1, hD1⟩ := hB
    rw [ht] at hP1
    have hK1 := va_K.moved hvm.symm hK1
    obtain ⟨hP, hD⟩ := va_join (wr := [(h2, .inr (8, [.ref h19, .int (-1), .int 0, .int 0])), (h3, .inr (8, [.ref h20, .int (-1), .int 0, .int 0])), (h4, .inr (8, [.ref h21, .int (-1), .int 0, .int 0])), (h5, .inr (8, [.ref h22, .int (-1), .int 0, .int 0])), (h6, .inr (8, [.ref h23, .int (-1), .int 0, .int 0])), (h7, .inr (8, [.ref h24, .int (-1), .int 0, .int 0]))]) (w1 := [(h0, .inr (11, [.ref h8, .int 0, .ref h9, .ref h10, .ref h11, .ref h12, .ref h13, .ref h14, .ref h15, .ref h16, .ref h17, .int 0, .ref h18, .ref h1])), (h1, .inl (cOShelf, 6, .inr (.inr (.inr (.inr (va_up (va_up (va_up (va_up (va_up (va_up (fun _ => none) (0 : Int32).toNatClampNeg (some h2)) (1 : Int32).toNatClampNeg (some h3)) (2 : Int32).toNatClampNeg (some h4)) (3 : Int32).toNatClampNeg (some h5)) (4 : Int32).toNatClampNeg (some h6)) (5 : Int32).toNatClampNeg (some h7)))))))]) hP hD [6, 7] [0, 1, 2, 3, 4, 5] rfl rfl (by decide) (by decide) hk1 hFc hP1 hD1
    generalize H1 = H at hP hS ⊢
    have hP : va_P (dC, dI) vwCl [(h2, .inr (8, [.ref h19, .int (-1), .int 0, .int 0])), (h3, .inr (8, [.ref h20, .int (-1), .int 0, .int 0])), (h4, .inr (8, [.ref h21, .int (-1), .int 0, .int 0])), (h5, .inr (8, [.ref h22, .int (-1), .int 0, .int 0])), (h6, .inr (8, [.ref h23, .int (-1), .int 0, .int 0])), (h7, .inr (8, [.ref h24, .int (-1), .int 0, .int 0])), (h0, .inr (11, [.ref h8, .int 0, .ref h9, .ref h10, .ref h11, .ref h12, .ref h13, .ref h14, .ref h15, .ref h16, .ref h17, .int 0, .ref h18, .ref h1])), (h1, .inl (cOShelf, 6, .inr (.inr (.inr (.inr (va_up (va_up (va_up (va_up (va_up (va_up (fun _ => none) (0 : Int32).toNatClampNeg (some h2)) (1 : Int32).toNatClampNeg (some h3)) (2 : Int32).toNatClampNeg (some h4)) (3 : Int32).toNatClampNeg (some h5)) (4 : Int32).toNatClampNeg (some h6)) (5 : Int32).toNatClampNeg (some h7)))))))] H := hP
    have hD : va_D A [(h2, .inr (8, [.ref h19, .int (-1), .int 0, .int 0])), (h3, .inr (8, [.ref h20, .int (-1), .int 0, .int 0])), (h4, .inr (8, [.ref h21, .int (-1), .int 0, .int 0])), (h5, .inr (8, [.ref h22, .int (-1), .int 0, .int 0])), (h6, .inr (8, [.ref h23, .int (-1), .int 0, .int 0])), (h7, .inr (8, [.ref h24, .int (-1), .int 0, .int 0])), (h0, .inr (11, [.ref h8, .int 0, .ref h9, .ref h10, .ref h11, .ref h12, .ref h13, .ref h14, .ref h15, .ref h16, .ref h17, .int 0, .ref h18, .ref h1])), (h1, .inl (cOShelf, 6, .inr (.inr (.inr (.inr (va_up (va_up (va_up (va_up (va_up (va_up (fun _ => none) (0 : Int32).toNatClampNeg (some h2)) (1 : Int32).toNatClampNeg (some h3)) (2 : Int32).toNatClampNeg (some h4)) (3 : Int32).toNatClampNeg (some h5)) (4 : Int32).toNatClampNeg (some h6)) (5 : Int32).toNatClampNeg (some h7)))))))] := hD
    rcases hw with ⟨t_4_0, rfl⟩ | ⟨t_4_0, t_4_1, rfl⟩ | ⟨t_4_0, t_4_1, t_4_2, rfl⟩ | ⟨t_4_0, t_4_1, t_4_2, rfl⟩ | ⟨t_4_0, t_4_1, t_4_2, rfl⟩ | ⟨t_4_0, t_4_1, t_4_2, rfl⟩ | ⟨t_4_0, t_4_1, t_4_2, rfl⟩ | ⟨t_4_0, t_4_1, t_4_2, rfl⟩
    · skip
      refine W.eq (g2 := F0 m 12 ls [.null]) rfl ?_
      refine lv_astoreN (lv' := [(7, .null), (6, .ref h2), (0, .ref h0), (1, .int p0), (2, .int p1), (3, .int p2), (4, .int p3), (5, .int p4)]) hx hb dX11_shift_12 hl (by decide) rfl (fun ls hl => ?_)
      refine lv_aload hx hb dX11_shift_14 (lv_at hl 1 rfl) ?_
      refine lv_ifnull hx hb dX11_shift_16 ?_
      refine lv_aloadN hx hb dX11_shift_19 (lv_at hl 0 rfl) ?_
      refine lv_ifnonnullN hx hb dX11_shift_21 ?_
      refine lv_iconst (v := (-1)) hx hb dX11_shift_24 (by decide) ?_
      have hP9 := hP.sub (ws' := []) [] rfl
      have hD9 := hD.sub (ws' := []) [] (by decide) rfl
      have hK9 := hK.sub (tys' := []) [] rfl
      exact W.iret (v := (-1)) hx hb hr (fun t ht hW => ⟨⟨(-1), (), rfl, by first | rfl | ((repeat' split) <;> first | rfl | (exfalso; omega) | (exact Int32.toInt_inj.mp (by show ((-1) : Int) = _; omega))), by rw [ht]; exact hP9, va_K.moved hW.alike hK9, hD9⟩, hS.F ht⟩) hS.2.2 dX11_shift_25
    · skip
      refine W.eq (g2 := F0 m 12 ls [.null]) rfl ?_
      refine lv_astoreN (lv' := [(7, .null), (6, .ref h2), (0, .ref h0), (1, .int p0), (2, .int p1), (3, .int p2), (4, .int p3), (5, .int p4)]) hx hb dX11_shift_12 hl (by decide) rfl (fun ls hl => ?_)
      refine lv_aload hx hb dX11_shift_14 (lv_at hl 1 rfl) ?_
      refine lv_ifnull hx hb dX11_shift_16 ?_
      refine lv_aloadN hx hb dX11_shift_19 (lv_at hl 0 rfl) ?_
      refine lv_ifnonnullN hx hb dX11_shift_21 ?_
      refine lv_iconst (v := (-1)) hx hb dX11_shift_24 (by decide) ?_
      have hP9 := hP.sub (ws' := []) [] rfl
      have hD9 := hD.sub (ws' := []) [] (by decide) rfl
      have hK9 := hK.sub (tys' := []) [] rfl
      exact W.iret (v := (-1)) hx hb hr (fun t ht hW => ⟨⟨(-1), (), rfl, by first | rfl | ((repeat' split) <;> first | rfl | (exfalso; omega) | (exact Int32.toInt_inj.mp (by show ((-1) : Int) = _; omega))), by rw [ht]; exact hP9, va_K.moved hW.alike hK9, hD9⟩, hS.F ht⟩) hS.2.2 dX11_shift_25
    · skip
      refine W.eq (g2 := F0 m 12 ls [.ref h2]) rfl ?_
      refine lv_astore (lv' := [(7, .ref h2), (6, .ref h2), (0, .ref h0), (1, .int p0), (2, .int p1), (3, .int p2), (4, .int p3), (5, .int p4)]) hx hb dX11_shift_12 hl (by decide) rfl (fun ls hl => ?_)
      refine lv_aload hx hb dX11_shift_14 (lv_at hl 1 rfl) ?_
      refine lv_ifnull hx hb dX11_shift_16 ?_
      refine lv_aload hx hb dX11_shift_19 (lv_at hl 0 rfl) ?_
      refine lv_ifnonnull (tgt := 26) hx hb dX11_shift_21 (by decide) ?_
      refine lv_aload hx hb dX11_shift_26 (lv_at hl 1 rfl) ?_
      have hPc := hP.sub (ws' := [(h2, .inr (8, [.ref h19, .int (-1), .int 0, .int 0]))]) [0] rfl
      have hDc := hD.sub (ws' := [(h2, .inr (8, [.ref h19, .int (-1), .int 0, .int 0]))]) [0] (by decide) rfl
      have hKc := hK.sub (tys' := []) [] rfl
      have hFc := va_free (wc := [(h2, .inr (8, [.ref h19, .int (-1), .int 0, .int 0]))]) hD hS hA [0] rfl
      refine va_calli (va_runV (As := []) (rest := []) ⟨hx, hb, hml, hown, hts⟩ (k_X8_isEmpty_0 l dC dI h2 h19 H.size) (cwV 0 hts gX11_shift_X8_isEmpty rfl rfl rfl (by decide +kernel) ⟨Nat.le_of_ble_eq_true rfl, Nat.le_of_ble_eq_true rfl⟩) ⟨fun a U g mk q => by obtain ⟨q0, q1, qP, qK, qD⟩ := q; exact ⟨q0, q1, qP, va_K.moved (u := U) (U := U.calling g mk a) (Vm.Alike.refl U.vm) qK, qD⟩, va_recv hKc hPc (ci := 8) (q0 := 0) rfl rfl, fun U hU hW => ⟨rfl, by rw [hU], by rw [hU]; exact hPc, va_K.moved hW.alike hKc, hDc.weaken (fun _ _ _ _ => trivial)⟩⟩ rfl rfl hl.1 rfl (lv_room (Nat.le_of_ble_eq_true rfl)) dX11_shift_28 ⟨Nat.le_of_ble_eq_true rfl, Nat.le_of_ble_eq_true rfl⟩) hS (fun q _ h => hFc q h) hFc (fun r_5 u t H1 locs ht hvm hw hB hz1 hk1 hS => ?_)
      obtain ⟨hP1, hK1, hD1⟩ := hB
      rw [ht] at hP1
      have hK1 := va_K.moved hvm.symm hK1
      obtain ⟨hP, hD⟩ := va_join (wr := [(h3, .inr (8, [.ref h20, .int (-1), .int 0, .int 0])), (h4, .inr (8, [.ref h21, .int (-1), .int 0, .int 0])), (h5, .inr (8, [.ref h22, .int (-1), .int 0, .int 0])), (h6, .inr (8, [.ref h23, .int (-1), .int 0, .int 0])), (h7, .inr (8, [.ref h24, .int (-1), .int 0, .int 0])), (h0, .inr (11, [.ref h8, .int 0, .ref h9, .ref h10, .ref h11, .ref h12, .ref h13, .ref h14, .ref h15, .ref h16, .ref h17, .int 0, .ref h18, .ref h1])), (h1, .inl (cOShelf, 6, .inr (.inr (.inr (.inr (va_up (va_up (va_up (va_up (va_up (va_up (fun _ => none) (0 : Int32).toNatClampNeg (some h2)) (1 : Int32).toNatClampNeg (some h3)) (2 : Int32).toNatClampNeg (some h4)) (3 : Int32).toNatClampNeg (some h5)) (4 : Int32).toNatClampNeg (some h6)) (5 : Int32).toNatClampNeg (some h7)))))))]) (w1 := [(h2, .inr (8, [.ref h19, .int (-1), .int 0, .int 0]))]) hP hD [0] [1, 2, 3, 4, 5, 6, 7] rfl rfl (by decide) (by decide) hk1 hFc hP1 hD1
      generalize H1 = H at hP hS ⊢
      have hP : va_P (dC, dI) vwCl [(h3, .inr (8, [.ref h20, .int (-1), .int 0, .int 0])), (h4, .inr (8, [.ref h21, .int (-1), .int 0, .int 0])), (h5, .inr (8, [.ref h22, .int (-1), .int 0, .int 0])), (h6, .inr (8, [.ref h23, .int (-1), .int 0, .int 0])), (h7, .inr (8, [.ref h24, .int (-1), .int 0, .int 0])), (h0, .inr (11, [.ref h8, .int 0, .ref h9, .ref h10, .ref h11, .ref h12, .ref h13, .ref h14, .ref h15, .ref h16, .ref h17, .int 0, .ref h18, .ref h1])), (h1, .inl (cOShelf, 6, .inr (.inr (.inr (.inr (va_up (va_up (va_up (va_up (va_up (va_up (fun _ => none) (0 : Int32).toNatClampNeg (some h2)) (1 : Int32).toNatClampNeg (some h3)) (2 : Int32).toNatClampNeg (some h4)) (3 : Int32).toNatClampNeg (some h5)) (4 : Int32).toNatClampNeg (some h6)) (5 : Int32).toNatClampNeg (some h7))))))), (h2, .inr (8, [.ref h19, .int (-1), .int 0, .int 0]))] H := hP
      have hD : va_D A [(h3, .inr (8, [.ref h20, .int (-1), .int 0, .int 0])), (h4, .inr (8, [.ref h21, .int (-1), .int 0, .int 0])), (h5, .inr (8, [.ref h22, .int (-1), .int 0, .int 0])), (h6, .inr (8, [.ref h23, .int (-1), .int 0, .int 0])), (h7, .inr (8, [.ref h24, .int (-1), .int 0, .int 0])), (h0, .inr (11, [.ref h8, .int 0, .ref h9, .ref h10, .ref h11, .ref h12, .ref h13, .ref h14, .ref h15, .ref h16, .ref h17, .int 0, .ref h18, .ref h1])), (h1, .inl (cOShelf, 6, .inr (.inr (.inr (.inr (va_up (va_up (va_up (va_up (va_up (va_up (fun _ => none) (0 : Int32).toNatClampNeg (some h2)) (1 : Int32).toNatClampNeg (some h3)) (2 : Int32).toNatClampNeg (some h4)) (3 : Int32).toNatClampNeg (some h5)) (4 : Int32).toNatClampNeg (some h6)) (5 : Int32).toNatClampNeg (some h7))))))), (h2, .inr (8, [.ref h19, .int (-1), .int 0, .int 0]))] := hD
      obtain rfl := hw
      refine lv_if_ne (tgt := 42) hx hb dX11_shift_31 (by decide) (fun _ => ?_) (fun c => absurd c (by decide))
      refine lv_bipush (v := (-11)) hx hb dX11_shift_42 (by decide) ?_
      have hP9 := hP.sub (ws' := []) [] rfl
      have hD9 := hD.sub (ws' := []) [] (by decide) rfl
      have hK9 := hK.sub (tys' := []) [] rfl
      exact W.iret (v := (-11)) hx hb hr (fun t ht hW => ⟨⟨(-11), (), rfl, by first | rfl | ((repeat' split) <;> first | rfl | (exfalso; omega) | (exact Int32.toInt_inj.mp (by show ((-11) : Int) = _; omega))), by rw [ht]; exact hP9, va_K.moved hW.alike hK9, hD9⟩, hS.F ht⟩) hS.2.2 dX11_shift_44
    · skip
      refine W.eq (g2 := F0 m 12 ls [.ref h3]) rfl ?_
      refine lv_astore (lv' := [(7, .ref h3), (6, .ref h2), (0, .ref h0), (1, .int p0), (2, .int p1), (3, .int p2), (4, .int p3), (5, .int p4)]) hx hb dX11_shift_12 hl (by decide) rfl (fun ls hl => ?_)
      refine lv_aload hx hb dX11_shift_14 (lv_at hl 1 rfl) ?_
      refine lv_ifnull hx hb dX11_shift_16 ?_
      refine lv_aload hx hb dX11_shift_19 (lv_at hl 0 rfl) ?_
      refine lv_ifnonnull (tgt := 26) hx hb dX11_shift_21 (by decide) ?_
      refine lv_aload hx hb dX11_shift_26 (lv_at hl 1 rfl) ?_
      have hPc := hP.sub (ws' := [(h2, .inr (8, [.ref h19, .int (-1), .int 0, .int 0]))]) [0] rfl
      have hDc := hD.sub (ws' := [(h2, .inr (8, [.ref h19, .int (-1), .int 0, .int 0]))]) [0] (by decide) rfl
      have hKc := hK.sub (tys' := []) [] rfl
      have hFc := va_free (wc := [(h2, .inr (8, [.ref h19, .int (-1), .int 0, .int 0]))]) hD hS hA [0] rfl
      refine va_calli (va_runV (As := []) (rest := []) ⟨hx, hb, hml, hown, hts⟩ (k_X8_isEmpty_0 l dC dI h2 h19 H.size) (cwV 0 hts gX11_shift_X8_isEmpty rfl rfl rfl (by decide +kernel) ⟨Nat.le_of_ble_eq_true rfl, Nat.le_of_ble_eq_true rfl⟩) ⟨fun a U g mk q => by obtain ⟨q0, q1, qP, qK, qD⟩ := q; exact ⟨q0, q1, qP, va_K.moved (u := U) (U := U.calling g mk a) (Vm.Alike.refl U.vm) qK, qD⟩, va_recv hKc hPc (ci := 8) (q0 := 0) rfl rfl, fun U hU hW => ⟨rfl, by rw [hU], by rw [hU]; exact hPc, va_K.moved hW.alike hKc, hDc.weaken (fun _ _ _ _ => trivial)⟩⟩ rfl rfl hl.1 rfl (lv_room (Nat.le_of_ble_eq_true rfl)) dX11_shift_28 ⟨Nat.le_of_ble_eq_true rfl, Nat.le_of_ble_eq_true rfl⟩) hS (fun q _ h => hFc q h) hFc (fun r_6 u t H1 locs ht hvm hw hB hz1 hk1 hS => ?_)
      obtain ⟨hP1, hK1, hD1⟩ := hB
      rw [ht] at hP1
      have hK1 := va_K.moved hvm.symm hK1
      obtain ⟨hP, hD⟩ := va_join (wr := [(h3, .inr (8, [.ref h20, .int (-1), .int 0, .int 0])), (h4, .inr (8, [.ref h21, .int (-1), .int 0, .int 0])), (h5, .inr (8, [.ref h22, .int (-1), .int 0, .int 0])), (h6, .inr (8, [.ref h23, .int (-1), .int 0, .int 0])), (h7, .inr (8, [.ref h24, .int (-1), .int 0, .int 0])), (h0, .inr (11, [.ref h8, .int 0, .ref h9, .ref h10, .ref h11, .ref h12, .ref h13, .ref h14, .ref h15, .ref h16, .ref h17, .int 0, .ref h18, .ref h1])), (h1, .inl (cOShelf, 6, .inr (.inr (.inr (.inr (va_up (va_up (va_up (va_up (va_up (va_up (fun _ => none) (0 : Int32).toNatClampNeg (some h2)) (1 : Int32).toNatClampNeg (some h3)) (2 : Int32).toNatClampNeg (some h4)) (3 : Int32).toNatClampNeg (some h5)) (4 : Int32).toNatClampNeg (some h6)) (5 : Int32).toNatClampNeg (some h7)))))))]) (w1 := [(h2, .inr (8, [.ref h19, .int (-1), .int 0, .int 0]))]) hP hD [0] [1, 2, 3, 4, 5, 6, 7] rfl rfl (by decide) (by decide) hk1 hFc hP1 hD1
      generalize H1 = H at hP hS ⊢
      have hP : va_P (dC, dI) vwCl [(h3, .inr (8, [.ref h20, .int (-1), .int 0, .int 0])), (h4, .inr (8, [.ref h21, .int (-1), .int 0, .int 0])), (h5, .inr (8, [.ref h22, .int (-1), .int 0, .int 0])), (h6, .inr (8, [.ref h23, .int (-1), .int 0, .int 0])), (h7, .inr (8, [.ref h24, .int (-1), .int 0, .int 0])), (h0, .inr (11, [.ref h8, .int 0, .ref h9, .ref h10, .ref h11, .ref h12, .ref h13, .ref h14, .ref h15, .ref h16, .ref h17, .int 0, .ref h18, .ref h1])), (h1, .inl (cOShelf, 6, .inr (.inr (.inr (.inr (va_up (va_up (va_up (va_up (va_up (va_up (fun _ => none) (0 : Int32).toNatClampNeg (some h2)) (1 : Int32).toNatClampNeg (some h3)) (2 : Int32).toNatClampNeg (some h4)) (3 : Int32).toNatClampNeg (some h5)) (4 : Int32).toNatClampNeg (some h6)) (5 : Int32).toNatClampNeg (some h7))))))), (h2, .inr (8, [.ref h19, .int (-1), .int 0, .int 0]))] H := hP
      have hD : va_D A [(h3, .inr (8, [.ref h20, .int (-1), .int 0, .int 0])), (h4, .inr (8, [.ref h21, .int (-1), .int 0, .int 0])), (h5, .inr (8, [.ref h22, .int (-1), .int 0, .int 0])), (h6, .inr (8, [.ref h23, .int (-1), .int 0, .int 0])), (h7, .inr (8, [.ref h24, .int (-1), .int 0, .int 0])), (h0, .inr (11, [.ref h8, .int 0, .ref h9, .ref h10, .ref h11, .ref h12, .ref h13, .ref h14, .ref h15, .ref h16, .ref h17, .int 0, .ref h18, .ref h1])), (h1, .inl (cOShelf, 6, .inr (.inr (.inr (.inr (va_up (va_up (va_up (va_up (va_up (va_up (fun _ => none) (0 : Int32).toNatClampNeg (some h2)) (1 : Int32).toNatClampNeg (some h3)) (2 : Int32).toNatClampNeg (some h4)) (3 : Int32).toNatClampNeg (some h5)) (4 : Int32).toNatClampNeg (some h6)) (5 : Int32).toNatClampNeg (some h7))))))), (h2, .inr (8, [.ref h19, .int (-1), .int 0, .int 0]))] := hD
      obtain rfl := hw
      refine lv_if_ne (tgt := 42) hx hb dX11_shift_31 (by decide) (fun _ => ?_) (fun c => absurd c (by decide))
      refine lv_bipush (v := (-11)) hx hb dX11_shift_42 (by decide) ?_
      have hP9 := hP.sub (ws' := []) [] rfl
      have hD9 := hD.sub (ws' := []) [] (by decide) rfl
      have hK9 := hK.sub (tys' := []) [] rfl
      exact W.iret (v := (-11)) hx hb hr (fun t ht hW => ⟨⟨(-11), (), rfl, by first | rfl | ((repeat' split) <;> first | rfl | (exfalso; omega) | (exact Int32.toInt_inj.mp (by show ((-11) : Int) = _; omega))), by rw [ht]; exact hP9, va_K.moved hW.alike hK9, hD9⟩, hS.F ht⟩) hS.2.2 dX11_shift_44
    · skip
      refine W.eq (g2 := F0 m 12 ls [.ref h4]) rfl ?_
      refine lv_astore (lv' := [(7, .ref h4), (6, .ref h2), (0, .ref h0), (1, .int p0), (2, .int p1), (3, .int p2), (4, .int p3), (5, .int p4)]) hx hb dX11_shift_12 hl (by decide) rfl (fun ls hl => ?_)
      refine lv_aload hx hb dX11_shift_14 (lv_at hl 1 rfl) ?_
      refine lv_ifnull hx hb dX11_shift_16 ?_
      refine lv_aload hx hb dX11_shift_19 (lv_at hl 0 rfl) ?_
      refine lv_ifnonnull (tgt := 26) hx hb dX11_shift_21 (by decide) ?_
      refine lv_aload hx hb dX11_shift_26 (lv_at hl 1 rfl) ?_
      have hPc := hP.sub (ws' := [(h2, .inr (8, [.ref h19, .int (-1), .int 0, .int 0]))]) [0] rfl
      have hDc := hD.sub (ws' := [(h2, .inr (8, [.ref h19, .int (-1), .int 0, .int 0]))]) [0] (by decide) rfl
      have hKc := hK.sub (tys' := []) [] rfl
      have hFc := va_free (wc := [(h2, .inr (8, [.ref h19, .int (-1), .int 0, .int 0]))]) hD hS hA [0] rfl
      refine va_calli (va_runV (As := []) (rest := []) ⟨hx, hb, hml, hown, hts⟩ (k_X8_isEmpty_0 l dC dI h2 h19 H.size) (cwV 0 hts gX11_shift_X8_isEmpty rfl rfl rfl (by decide +kernel) ⟨Nat.le_of_ble_eq_true rfl, Nat.le_of_ble_eq_true rfl⟩) ⟨fun a U g mk q => by obtain ⟨q0, q1, qP, qK, qD⟩ := q; exact ⟨q0, q1, qP, va_K.moved (u := U) (U := U.calling g mk a) (Vm.Alike.refl U.vm) qK, qD⟩, va_recv hKc hPc (ci := 8) (q0 := 0) rfl rfl, fun U hU hW => ⟨rfl, by rw [hU], by rw [hU]; exact hPc, va_K.moved hW.alike hKc, hDc.weaken (fun _ _ _ _ => trivial)⟩⟩ rfl rfl hl.1 rfl (lv_room (Nat.le_of_ble_eq_true rfl)) dX11_shift_28 ⟨Nat.le_of_ble_eq_true rfl, Nat.le_of_ble_eq_true rfl⟩) hS (fun q _ h => hFc q h) hFc (fun r_7 u t H1 locs ht hvm hw hB hz1 hk1 hS => ?_)
      obtain ⟨hP1, hK1, hD1⟩ := hB
      rw [ht] at hP1
      have hK1 := va_K.moved hvm.symm hK1
      obtain ⟨hP, hD⟩ := va_join (wr := [(h3, .inr (8, [.ref h20, .int (-1), .int 0, .int 0])), (h4, .inr (8, [.ref h21, .int (-1), .int 0, .int 0])), (h5, .inr (8, [.ref h22, .int (-1), .int 0, .int 0])), (h6, .inr (8, [.ref h23, .int (-1), .int 0, .int 0])), (h7, .inr (8, [.ref h24, .int (-1), .int 0, .int 0])), (h0, .inr (11, [.ref h8, .int 0, .ref h9, .ref h10, .ref h11, .ref h12, .ref h13, .ref h14, .ref h15, .ref h16, .ref h17, .int 0, .ref h18, .ref h1])), (h1, .inl (cOShelf, 6, .inr (.inr (.inr (.inr (va_up (va_up (va_up (va_up (va_up (va_up (fun _ => none) (0 : Int32).toNatClampNeg (some h2)) (1 : Int32).toNatClampNeg (some h3)) (2 : Int32).toNatClampNeg (some h4)) (3 : Int32).toNatClampNeg (some h5)) (4 : Int32).toNatClampNeg (some h6)) (5 : Int32).toNatClampNeg (some h7)))))))]) (w1 := [(h2, .inr (8, [.ref h19, .int (-1), .int 0, .int 0]))]) hP hD [0] [1, 2, 3, 4, 5, 6, 7] rfl rfl (by decide) (by decide) hk1 hFc hP1 hD1
      generalize H1 = H at hP hS ⊢
      have hP : va_P (dC, dI) vwCl [(h3, .inr (8, [.ref h20, .int (-1), .int 0, .int 0])), (h4, .inr (8, [.ref h21, .int (-1), .int 0, .int 0])), (h5, .inr (8, [.ref h22, .int (-1), .int 0, .int 0])), (h6, .inr (8, [.ref h23, .int (-1), .int 0, .int 0])), (h7, .inr (8, [.ref h24, .int (-1), .int 0, .int 0])), (h0, .inr (11, [.ref h8, .int 0, .ref h9, .ref h10, .ref h11, .ref h12, .ref h13, .ref h14, .ref h15, .ref h16, .ref h17, .int 0, .ref h18, .ref h1])), (h1, .inl (cOShelf, 6, .inr (.inr (.inr (.inr (va_up (va_up (va_up (va_up (va_up (va_up (fun _ => none) (0 : Int32).toNatClampNeg (some h2)) (1 : Int32).toNatClampNeg (some h3)) (2 : Int32).toNatClampNeg (some h4)) (3 : Int32).toNatClampNeg (some h5)) (4 : Int32).toNatClampNeg (some h6)) (5 : Int32).toNatClampNeg (some h7))))))), (h2, .inr (8, [.ref h19, .int (-1), .int 0, .int 0]))] H := hP
      have hD : va_D A [(h3, .inr (8, [.ref h20, .int (-1), .int 0, .int 0])), (h4, .inr (8, [.ref h21, .int (-1), .int 0, .int 0])), (h5, .inr (8, [.ref h22, .int (-1), .int 0, .int 0])), (h6, .inr (8, [.ref h23, .int (-1), .int 0, .int 0])), (h7, .inr (8, [.ref h24, .int (-1), .int 0, .int 0])), (h0, .inr (11, [.ref h8, .int 0, .ref h9, .ref h10, .ref h11, .ref h12, .ref h13, .ref h14, .ref h15, .ref h16, .ref h17, .int 0, .ref h18, .ref h1])), (h1, .inl (cOShelf, 6, .inr (.inr (.inr (.inr (va_up (va_up (va_up (va_up (va_up (va_up (fun _ => none) (0 : Int32).toNatClampNeg (some h2)) (1 : Int32).toNatClampNeg (some h3)) (2 : Int32).toNatClampNeg (some h4)) (3 : Int32).toNatClampNeg (some h5)) (4 : Int32).toNatClampNeg (some h6)) (5 : Int32).toNatClampNeg (some h7))))))), (h2, .inr (8, [.ref h19, .int (-1), .int 0, .int 0]))] := hD
      obtain rfl := hw
      refine lv_if_ne (tgt := 42) hx hb dX11_shift_31 (by decide) (fun _ => ?_) (fun c => absurd c (by decide))
      refine lv_bipush (v := (-11)) hx hb dX11_shift_42 (by decide) ?_
      have hP9 := hP.sub (ws' := []) [] rfl
      have hD9 := hD.sub (ws' := []) [] (by decide) rfl
      have hK9 := hK.sub (tys' := []) [] rfl
      exact W.iret (v := (-11)) hx hb hr (fun t ht hW => ⟨⟨(-11), (), rfl, by first | rfl | ((repeat' split) <;> first | rfl | (exfalso; omega) | (exact Int32.toInt_inj.mp (by show ((-11) : Int) = _; omega))), by rw [ht]; exact hP9, va_K.moved hW.alike hK9, hD9⟩, hS.F ht⟩) hS.2.2 dX11_shift_44
    · skip
      refine W.eq (g2 := F0 m 12 ls [.ref h5]) rfl ?_
      refine lv_astore (lv' := [(7, .ref h5), (6, .ref h2), (0, .ref h0), (1, .int p0), (2, .int p1), (3, .int p2), (4, .int p3), (5, .int p4)]) hx hb dX11_shift_12 hl (by decide) rfl (fun ls hl => ?_)
      refine lv_aload hx hb dX11_shift_14 (lv_at hl 1 rfl) ?_
      refine lv_ifnull hx hb dX11_shift_16 ?_
      refine lv_aload hx hb dX11_shift_19 (lv_at hl 0 rfl) ?_
      refine lv_ifnonnull (tgt := 26) hx hb dX11_shift_21 (by decide) ?_
      refine lv_aload hx hb dX11_shift_26 (lv_at hl 1 rfl) ?_
      have hPc := hP.sub (ws' := [(h2, .inr (8, [.ref h19, .int (-1), .int 0, .int 0]))]) [0] rfl
      have hDc := hD.sub (ws' := [(h2, .inr (8, [.ref h19, .int (-1), .int 0, .int 0]))]) [0] (by decide) rfl
      have hKc := hK.sub (tys' := []) [] rfl
      have hFc := va_free (wc := [(h2, .inr (8, [.ref h19, .int (-1), .int 0, .int 0]))]) hD hS hA [0] rfl
      refine va_calli (va_runV (As := []) (rest := []) ⟨hx, hb, hml, hown, hts⟩ (k_X8_isEmpty_0 l dC dI h2 h19 H.size) (cwV 0 hts gX11_shift_X8_isEmpty rfl rfl rfl (by decide +kernel) ⟨Nat.le_of_ble_eq_true rfl, Nat.le_of_ble_eq_true rfl⟩) ⟨fun a U g mk q => by obtain ⟨q0, q1, qP, qK, qD⟩ := q; exact ⟨q0, q1, qP, va_K.moved (u := U) (U := U.calling g mk a) (Vm.Alike.refl U.vm) qK, qD⟩, va_recv hKc hPc (ci := 8) (q0 := 0) rfl rfl, fun U hU hW => ⟨rfl, by rw [hU], by rw [hU]; exact hPc, va_K.moved hW.alike hKc, hDc.weaken (fun _ _ _ _ => trivial)⟩⟩ rfl rfl hl.1 rfl (lv_room (Nat.le_of_ble_eq_true rfl)) dX11_shift_28 ⟨Nat.le_of_ble_eq_true rfl, Nat.le_of_ble_eq_true rfl⟩) hS (fun q _ h => hFc q h) hFc (fun r_8 u t H1 locs ht hvm hw hB hz1 hk1 hS => ?_)
      obtain ⟨hP1, hK1, hD1⟩ := hB
      rw [ht] at hP1
      have hK1 := va_K.moved hvm.symm hK1
      obtain ⟨hP, hD⟩ := va_join (wr := [(h3, .inr (8, [.ref h20, .int (-1), .int 0, .int 0])), (h4, .inr (8, [.ref h21, .int (-1), .int 0, .int 0])), (h5, .inr (8, [.ref h22, .int (-1), .int 0, .int 0])), (h6, .inr (8, [.ref h23, .int (-1), .int 0, .int 0])), (h7, .inr (8, [.ref h24, .int (-1), .int 0, .int 0])), (h0, .inr (11, [.ref h8, .int 0, .ref h9, .ref h10, .ref h11, .ref h12, .ref h13, .ref h14, .ref h15, .ref h16, .ref h17, .int 0, .ref h18, .ref h1])), (h1, .inl (cOShelf, 6, .inr (.inr (.inr (.inr (va_up (va_up (va_up (va_up (va_up (va_up (fun _ => none) (0 : Int32).toNatClampNeg (some h2)) (1 : Int32).toNatClampNeg (some h3)) (2 : Int32).toNatClampNeg (some h4)) (3 : Int32).toNatClampNeg (some h5)) (4 : Int32).toNatClampNeg (some h6)) (5 : Int32).toNatClampNeg (some h7)))))))]) (w1 := [(h2, .inr (8, [.ref h19, .int (-1), .int 0, .int 0]))]) hP hD [0] [1, 2, 3, 4, 5, 6, 7] rfl rfl (by decide) (by decide) hk1 hFc hP1 hD1
      generalize H1 = H at hP hS ⊢
      have hP : va_P (dC, dI) vwCl [(h3, .inr (8, [.ref h20, .int (-1), .int 0, .int 0])), (h4, .inr (8, [.ref h21, .int (-1), .int 0, .int 0])), (h5, .inr (8, [.ref h22, .int (-1), .int 0, .int 0])), (h6, .inr (8, [.ref h23, .int (-1), .int 0, .int 0])), (h7, .inr (8, [.ref h24, .int (-1), .int 0, .int 0])), (h0, .inr (11, [.ref h8, .int 0, .ref h9, .ref h10, .ref h11, .ref h12, .ref h13, .ref h14, .ref h15, .ref h16, .ref h17, .int 0, .ref h18, .ref h1])), (h1, .inl (cOShelf, 6, .inr (.inr (.inr (.inr (va_up (va_up (va_up (va_up (va_up (va_up (fun _ => none) (0 : Int32).toNatClampNeg (some h2)) (1 : Int32).toNatClampNeg (some h3)) (2 : Int32).toNatClampNeg (some h4)) (3 : Int32).toNatClampNeg (some h5)) (4 : Int32).toNatClampNeg (some h6)) (5 : Int32).toNatClampNeg (some h7))))))), (h2, .inr (8, [.ref h19, .int (-1), .int 0, .int 0]))] H := hP
      have hD : va_D A [(h3, .inr (8, [.ref h20, .int (-1), .int 0, .int 0])), (h4, .inr (8, [.ref h21, .int (-1), .int 0, .int 0])), (h5, .inr (8, [.ref h22, .int (-1), .int 0, .int 0])), (h6, .inr (8, [.ref h23, .int (-1), .int 0, .int 0])), (h7, .inr (8, [.ref h24, .int (-1), .int 0, .int 0])), (h0, .inr (11, [.ref h8, .int 0, .ref h9, .ref h10, .ref h11, .ref h12, .ref h13, .ref h14, .ref h15, .ref h16, .ref h17, .int 0, .ref h18, .ref h1])), (h1, .inl (cOShelf, 6, .inr (.inr (.inr (.inr (va_up (va_up (va_up (va_up (va_up (va_up (fun _ => none) (0 : Int32).toNatClampNeg (some h2)) (1 : Int32).toNatClampNeg (some h3)) (2 : Int32).toNatClampNeg (some h4)) (3 : Int32).toNatClampNeg (some h5)) (4 : Int32).toNatClampNeg (some h6)) (5 : Int32).toNatClampNeg (some h7))))))), (h2, .inr (8, [.ref h19, .int (-1), .int 0, .int 0]))] := hD
      obtain rfl := hw
      refine lv_if_ne (tgt := 42) hx hb dX11_shift_31 (by decide) (fun _ => ?_) (fun c => absurd c (by decide))
      refine lv_bipush (v := (-11)) hx hb dX11_shift_42 (by decide) ?_
      have hP9 := hP.sub (ws' := []) [] rfl
      have hD9 := hD.sub (ws' := []) [] (by decide) rfl
      have hK9 := hK.sub (tys' := []) [] rfl
      exact W.iret (v := (-11)) hx hb hr (fun t ht hW => ⟨⟨(-11), (), rfl, by first | rfl | ((repeat' split) <;> first | rfl | (exfalso; omega) | (exact Int32.toInt_inj.mp (by show ((-11) : Int) = _; omega))), by rw [ht]; exact hP9, va_K.moved hW.alike hK9, hD9⟩, hS.F ht⟩) hS.2.2 dX11_shift_44
    · skip
      refine W.eq (g2 := F0 m 12 ls [.ref h6]) rfl ?_
      refine lv_astore (lv' := [(7, .ref h6), (6, .ref h2), (0, .ref h0), (1, .int p0), (2, .int p1), (3, .int p2), (4, .int p3), (5, .int p4)]) hx hb dX11_shift_12 hl (by decide) rfl (fun ls hl => ?_)
      refine lv_aload hx hb dX11_shift_14 (lv_at hl 1 rfl) ?_
      refine lv_ifnull hx hb dX11_shift_16 ?_
      refine lv_aload hx hb dX11_shift_19 (lv_at hl 0 rfl) ?_
      refine lv_ifnonnull (tgt := 26) hx hb dX11_shift_21 (by decide) ?_
      refine lv_aload hx hb dX11_shift_26 (lv_at hl 1 rfl) ?_
      have hPc := hP.sub (ws' := [(h2, .inr (8, [.ref h19, .int (-1), .int 0, .int 0]))]) [0] rfl
      have hDc := hD.sub (ws' := [(h2, .inr (8, [.ref h19, .int (-1), .int 0, .int 0]))]) [0] (by decide) rfl
      have hKc := hK.sub (tys' := []) [] rfl
      have hFc := va_free (wc := [(h2, .inr (8, [.ref h19, .int (-1), .int 0, .int 0]))]) hD hS hA [0] rfl
      refine va_calli (va_runV (As := []) (rest := []) ⟨hx, hb, hml, hown, hts⟩ (k_X8_isEmpty_0 l dC dI h2 h19 H.size) (cwV 0 hts gX11_shift_X8_isEmpty rfl rfl rfl (by decide +kernel) ⟨Nat.le_of_ble_eq_true rfl, Nat.le_of_ble_eq_true rfl⟩) ⟨fun a U g mk q => by obtain ⟨q0, q1, qP, qK, qD⟩ := q; exact ⟨q0, q1, qP, va_K.moved (u := U) (U := U.calling g mk a) (Vm.Alike.refl U.vm) qK, qD⟩, va_recv hKc hPc (ci := 8) (q0 := 0) rfl rfl, fun U hU hW => ⟨rfl, by rw [hU], by rw [hU]; exact hPc, va_K.moved hW.alike hKc, hDc.weaken (fun _ _ _ _ => trivial)⟩⟩ rfl rfl hl.1 rfl (lv_room (Nat.le_of_ble_eq_true rfl)) dX11_shift_28 ⟨Nat.le_of_ble_eq_true rfl, Nat.le_of_ble_eq_true rfl⟩) hS (fun q _ h => hFc q h) hFc (fun r_9 u t H1 locs ht hvm hw hB hz1 hk1 hS => ?_)
      obtain ⟨hP1, hK1, hD1⟩ := hB
      rw [ht] at hP1
      have hK1 := va_K.moved hvm.symm hK1
      obtain ⟨hP, hD⟩ := va_join (wr := [(h3, .inr (8, [.ref h20, .int (-1), .int 0, .int 0])), (h4, .inr (8, [.ref h21, .int (-1), .int 0, .int 0])), (h5, .inr (8, [.ref h22, .int (-1), .int 0, .int 0])), (h6, .inr (8, [.ref h23, .int (-1), .int 0, .int 0])), (h7, .inr (8, [.ref h24, .int (-1), .int 0, .int 0])), (h0, .inr (11, [.ref h8, .int 0, .ref h9, .ref h10, .ref h11, .ref h12, .ref h13, .ref h14, .ref h15, .ref h16, .ref h17, .int 0, .ref h18, .ref h1])), (h1, .inl (cOShelf, 6, .inr (.inr (.inr (.inr (va_up (va_up (va_up (va_up (va_up (va_up (fun _ => none) (0 : Int32).toNatClampNeg (some h2)) (1 : Int32).toNatClampNeg (some h3)) (2 : Int32).toNatClampNeg (some h4)) (3 : Int32).toNatClampNeg (some h5)) (4 : Int32).toNatClampNeg (some h6)) (5 : Int32).toNatClampNeg (some h7)))))))]) (w1 := [(h2, .inr (8, [.ref h19, .int (-1), .int 0, .int 0]))]) hP hD [0] [1, 2, 3, 4, 5, 6, 7] rfl rfl (by decide) (by decide) hk1 hFc hP1 hD1
      generalize H1 = H at hP hS ⊢
      have hP : va_P (dC, dI) vwCl [(h3, .inr (8, [.ref h20, .int (-1), .int 0, .int 0])), (h4, .inr (8, [.ref h21, .int (-1), .int 0, .int 0])), (h5, .inr (8, [.ref h22, .int (-1), .int 0, .int 0])), (h6, .inr (8, [.ref h23, .int (-1), .int 0, .int 0])), (h7, .inr (8, [.ref h24, .int (-1), .int 0, .int 0])), (h0, .inr (11, [.ref h8, .int 0, .ref h9, .ref h10, .ref h11, .ref h12, .ref h13, .ref h14, .ref h15, .ref h16, .ref h17, .int 0, .ref h18, .ref h1])), (h1, .inl (cOShelf, 6, .inr (.inr (.inr (.inr (va_up (va_up (va_up (va_up (va_up (va_up (fun _ => none) (0 : Int32).toNatClampNeg (some h2)) (1 : Int32).toNatClampNeg (some h3)) (2 : Int32).toNatClampNeg (some h4)) (3 : Int32).toNatClampNeg (some h5)) (4 : Int32).toNatClampNeg (some h6)) (5 : Int32).toNatClampNeg (some h7))))))), (h2, .inr (8, [.ref h19, .int (-1), .int 0, .int 0]))] H := hP
      have hD : va_D A [(h3, .inr (8, [.ref h20, .int (-1), .int 0, .int 0])), (h4, .inr (8, [.ref h21, .int (-1), .int 0, .int 0])), (h5, .inr (8, [.ref h22, .int (-1), .int 0, .int 0])), (h6, .inr (8, [.ref h23, .int (-1), .int 0, .int 0])), (h7, .inr (8, [.ref h24, .int (-1), .int 0, .int 0])), (h0, .inr (11, [.ref h8, .int 0, .ref h9, .ref h10, .ref h11, .ref h12, .ref h13, .ref h14, .ref h15, .ref h16, .ref h17, .int 0, .ref h18, .ref h1])), (h1, .inl (cOShelf, 6, .inr (.inr (.inr (.inr (va_up (va_up (va_up (va_up (va_up (va_up (fun _ => none) (0 : Int32).toNatClampNeg (some h2)) (1 : Int32).toNatClampNeg (some h3)) (2 : Int32).toNatClampNeg (some h4)) (3 : Int32).toNatClampNeg (some h5)) (4 : Int32).toNatClampNeg (some h6)) (5 : Int32).toNatClampNeg (some h7))))))), (h2, .inr (8, [.ref h19, .int (-1), .int 0, .int 0]))] := hD
      obtain rfl := hw
      refine lv_if_ne (tgt := 42) hx hb dX11_shift_31 (by decide) (fun _ => ?_) (fun c => absurd c (by decide))
      refine lv_bipush (v := (-11)) hx hb dX11_shift_42 (by decide) ?_
      have hP9 := hP.sub (ws' := []) [] rfl
      have hD9 := hD.sub (ws' := []) [] (by decide) rfl
      have hK9 := hK.sub (tys' := []) [] rfl
      exact W.iret (v := (-11)) hx hb hr (fun t ht hW => ⟨⟨(-11), (), rfl, by first | rfl | ((repeat' split) <;> first | rfl | (exfalso; omega) | (exact Int32.toInt_inj.mp (by show ((-11) : Int) = _; omega))), by rw [ht]; exact hP9, va_K.moved hW.alike hK9, hD9⟩, hS.F ht⟩) hS.2.2 dX11_shift_44
    · skip
      refine W.eq (g2 := F0 m 12 ls [.ref h7]) rfl ?_
      refine lv_astore (lv' := [(7, .ref h7), (6, .ref h2), (0, .ref h0), (1, .int p0), (2, .int p1), (3, .int p2), (4, .int p3), (5, .int p4)]) hx hb dX11_shift_12 hl (by decide) rfl (fun ls hl => ?_)
      refine lv_aload hx hb dX11_shift_14 (lv_at hl 1 rfl) ?_
      refine lv_ifnull hx hb dX11_shift_16 ?_
      refine lv_aload hx hb dX11_shift_19 (lv_at hl 0 rfl) ?_
      refine lv_ifnonnull (tgt := 26) hx hb dX11_shift_21 (by decide) ?_
      refine lv_aload hx hb dX11_shift_26 (lv_at hl 1 rfl) ?_
      have hPc := hP.sub (ws' := [(h2, .inr (8, [.ref h19, .int (-1), .int 0, .int 0]))]) [0] rfl
      have hDc := hD.sub (ws' := [(h2, .inr (8, [.ref h19, .int (-1), .int 0, .int 0]))]) [0] (by decide) rfl
      have hKc := hK.sub (tys' := []) [] rfl
      have hFc := va_free (wc := [(h2, .inr (8, [.ref h19, .int (-1), .int 0, .int 0]))]) hD hS hA [0] rfl
      refine va_calli (va_runV (As := []) (rest := []) ⟨hx, hb, hml, hown, hts⟩ (k_X8_isEmpty_0 l dC dI h2 h19 H.size) (cwV 0 hts gX11_shift_X8_isEmpty rfl rfl rfl (by decide +kernel) ⟨Nat.le_of_ble_eq_true rfl, Nat.le_of_ble_eq_true rfl⟩) ⟨fun a U g mk q => by obtain ⟨q0, q1, qP, qK, qD⟩ := q; exact ⟨q0, q1, qP, va_K.moved (u := U) (U := U.calling g mk a) (Vm.Alike.refl U.vm) qK, qD⟩, va_recv hKc hPc (ci := 8) (q0 := 0) rfl rfl, fun U hU hW => ⟨rfl, by rw [hU], by rw [hU]; exact hPc, va_K.moved hW.alike hKc, hDc.weaken (fun _ _ _ _ => trivial)⟩⟩ rfl rfl hl.1 rfl (lv_room (Nat.le_of_ble_eq_true rfl)) dX11_shift_28 ⟨Nat.le_of_ble_eq_true rfl, Nat.le_of_ble_eq_true rfl⟩) hS (fun q _ h => hFc q h) hFc (fun r_10 u t H1 locs ht hvm hw hB hz1 hk1 hS => ?_)
      obtain ⟨hP1, hK1, hD1⟩ := hB
      rw [ht] at hP1
      have hK1 := va_K.moved hvm.symm hK1
      obtain ⟨hP, hD⟩ := va_join (wr := [(h3, .inr (8, [.ref h20, .int (-1), .int 0, .int 0])), (h4, .inr (8, [.ref h21, .int (-1), .int 0, .int 0])), (h5, .inr (8, [.ref h22, .int (-1), .int 0, .int 0])), (h6, .inr (8, [.ref h23, .int (-1), .int 0, .int 0])), (h7, .inr (8, [.ref h24, .int (-1), .int 0, .int 0])), (h0, .inr (11, [.ref h8, .int 0, .ref h9, .ref h10, .ref h11, .ref h12, .ref h13, .ref h14, .ref h15, .ref h16, .ref h17, .int 0, .ref h18, .ref h1])), (h1, .inl (cOShelf, 6, .inr (.inr (.inr (.inr (va_up (va_up (va_up (va_up (va_up (va_up (fun _ => none) (0 : Int32).toNatClampNeg (some h2)) (1 : Int32).toNatClampNeg (some h3)) (2 : Int32).toNatClampNeg (some h4)) (3 : Int32).toNatClampNeg (some h5)) (4 : Int32).toNatClampNeg (some h6)) (5 : Int32).toNatClampNeg (some h7)))))))]) (w1 := [(h2, .inr (8, [.ref h19, .int (-1), .int 0, .int 0]))]) hP hD [0] [1, 2, 3, 4, 5, 6, 7] rfl rfl (by decide) (by decide) hk1 hFc hP1 hD1
      generalize H1 = H at hP hS ⊢
      have hP : va_P (dC, dI) vwCl [(h3, .inr (8, [.ref h20, .int (-1), .int 0, .int 0])), (h4, .inr (8, [.ref h21, .int (-1), .int 0, .int 0])), (h5, .inr (8, [.ref h22, .int (-1), .int 0, .int 0])), (h6, .inr (8, [.ref h23, .int (-1), .int 0, .int 0])), (h7, .inr (8, [.ref h24, .int (-1), .int 0, .int 0])), (h0, .inr (11, [.ref h8, .int 0, .ref h9, .ref h10, .ref h11, .ref h12, .ref h13, .ref h14, .ref h15, .ref h16, .ref h17, .int 0, .ref h18, .ref h1])), (h1, .inl (cOShelf, 6, .inr (.inr (.inr (.inr (va_up (va_up (va_up (va_up (va_up (va_up (fun _ => none) (0 : Int32).toNatClampNeg (some h2)) (1 : Int32).toNatClampNeg (some h3)) (2 : Int32).toNatClampNeg (some h4)) (3 : Int32).toNatClampNeg (some h5)) (4 : Int32).toNatClampNeg (some h6)) (5 : Int32).toNatClampNeg (some h7))))))), (h2, .inr (8, [.ref h19, .int (-1), .int 0, .int 0]))] H := hP
      have hD : va_D A [(h3, .inr (8, [.ref h20, .int (-1), .int 0, .int 0])), (h4, .inr (8, [.ref h21, .int (-1), .int 0, .int 0])), (h5, .inr (8, [.ref h22, .int (-1), .int 0, .int 0])), (h6, .inr (8, [.ref h23, .int (-1), .int 0, .int 0])), (h7, .inr (8, [.ref h24, .int (-1), .int 0, .int 0])), (h0, .inr (11, [.ref h8, .int 0, .ref h9, .ref h10, .ref h11, .ref h12, .ref h13, .ref h14, .ref h15, .ref h16, .ref h17, .int 0, .ref h18, .ref h1])), (h1, .inl (cOShelf, 6, .inr (.inr (.inr (.inr (va_up (va_up (va_up (va_up (va_up (va_up (fun _ => none) (0 : Int32).toNatClampNeg (some h2)) (1 : Int32).toNatClampNeg (some h3)) (2 : Int32).toNatClampNeg (some h4)) (3 : Int32).toNatClampNeg (some h5)) (4 : Int32).toNatClampNeg (some h6)) (5 : Int32).toNatClampNeg (some h7))))))), (h2, .inr (8, [.ref h19, .int (-1), .int 0, .int 0]))] := hD
      obtain rfl := hw
      refine lv_if_ne (tgt := 42) hx hb dX11_shift_31 (by decide) (fun _ => ?_) (fun c => absurd c (by decide))
      refine lv_bipush (v := (-11)) hx hb dX11_shift_42 (by decide) ?_
      have hP9 := hP.sub (ws' := []) [] rfl
      have hD9 := hD.sub (ws' := []) [] (by decide) rfl
      have hK9 := hK.sub (tys' := []) [] rfl
      exact W.iret (v := (-11)) hx hb hr (fun t ht hW => ⟨⟨(-11), (), rfl, by first | rfl | ((repeat' split) <;> first | rfl | (exfalso; omega) | (exact Int32.toInt_inj.mp (by show ((-11) : Int) = _; omega))), by rw [ht]; exact hP9, va_K.moved hW.alike hK9, hD9⟩, hS.F ht⟩) hS.2.2 dX11_shift_44
  · skip
    refine W.eq (g2 := F0 m 5 ls [.ref h3]) rfl ?_
    refine lv_astore (lv' := [(6, .ref h3), (0, .ref h0), (1, .int p0), (2, .int p1), (3, .int p2), (4, .int p3), (5, .int p4)]) hx hb dX11_shift_5 hl (by decide) rfl (fun ls hl => ?_)
    refine lv_aload_n hx hb dX11_shift_7 rfl (lv_at hl 1 rfl) ?_
    refine lv_iload_n hx hb dX11_shift_8 rfl (lv_at hl 4 rfl) ?_
    have hPc := hP.sub (ws' := [(h0, .inr (11, [.ref h8, .int 0, .ref h9, .ref h10, .ref h11, .ref h12, .ref h13, .ref h14, .ref h15, .ref h16, .ref h17, .int 0, .ref h18, .ref h1])), (h1, .inl (cOShelf, 6, .inr (.inr (.inr (.inr (va_up (va_up (va_up (va_up (va_up (va_up (fun _ => none) (0 : Int32).toNatClampNeg (some h2)) (1 : Int32).toNatClampNeg (some h3)) (2 : Int32).toNatClampNeg (some h4)) (3 : Int32).toNatClampNeg (some h5)) (4 : Int32).toNatClampNeg (some h6)) (5 : Int32).toNatClampNeg (some h7)))))))]) [6, 7] rfl
    have hDc := hD.sub (ws' := [(h0, .inr (11, [.ref h8, .int 0, .ref h9, .ref h10, .ref h11, .ref h12, .ref h13, .ref h14, .ref h15, .ref h16, .ref h17, .int 0, .ref h18, .ref h1])), (h1, .inl (cOShelf, 6, .inr (.inr (.inr (.inr (va_up (va_up (va_up (va_up (va_up (va_up (fun _ => none) (0 : Int32).toNatClampNeg (some h2)) (1 : Int32).toNatClampNeg (some h3)) (2 : Int32).toNatClampNeg (some h4)) (3 : Int32).toNatClampNeg (some h5)) (4 : Int32).toNatClampNeg (some h6)) (5 : Int32).toNatClampNeg (some h7)))))))]) [6, 7] (by decide) rfl
    have hKc := hK.sub (tys' := [(cOShelf, .object "KinkStreet$Shelf")]) [0] rfl
    have hFc := va_free (wc := [(h0, .inr (11, [.ref h8, .int 0, .ref h9, .ref h10, .ref h11, .ref h12, .ref h13, .ref h14, .ref h15, .ref h16, .ref h17, .int 0, .ref h18, .ref h1])), (h1, .inl (cOShelf, 6, .inr (.inr (.inr (.inr (va_up (va_up (va_up (va_up (va_up (va_up (fun _ => none) (0 : Int32).toNatClampNeg (some h2)) (1 : Int32).toNatClampNeg (some h3)) (2 : Int32).toNatClampNeg (some h4)) (3 : Int32).toNatClampNeg (some h5)) (4 : Int32).toNatClampNeg (some h6)) (5 : Int32).toNatClampNeg (some h7)))))))]) hD hS hA [6, 7] rfl
    refine va_callq (va_runV (As := [.int p2]) (rest := []) ⟨hx, hb, hml, hown, hts⟩ (k_X11_knownShelf_0 l dC dI h0 h1 h8 h9 h10 h11 h12 h13 h14 h15 h16 h17 h18 h2 h3 h4 h5 h6 h7 cOShelf H.size p2) (cwV 1 hts gX11_shift_X11_knownShelf rfl rfl rfl (by decide +kernel) ⟨Nat.le_of_ble_eq_true rfl, Nat.le_of_ble_eq_true rfl⟩) ⟨fun a U g mk q => by obtain ⟨q0, q1, qP, qK, qD⟩ := q; exact ⟨q0, q1, qP, va_K.moved (u := U) (U := U.calling g mk a) (Vm.Alike.refl U.vm) qK, qD⟩, va_recv hKc hPc (ci := 11) (q0 := 0) rfl rfl, fun U hU hW => ⟨rfl, by rw [hU], by rw [hU]; exact hPc, va_K.moved hW.alike hKc, hDc.weaken (fun _ _ _ _ => trivial)⟩⟩ rfl rfl hl.1 rfl (lv_room (Nat.le_of_ble_eq_true rfl)) dX11_shift_9 ⟨Nat.le_of_ble_eq_true rfl, Nat.le_of_ble_eq_true rfl⟩) hS (fun q _ h => hFc q h) hFc (fun r_11 u t H1 locs ht hvm hw hB hz1 hk1 hS => ?_)
    obtain ⟨hP1, hK1, hD1⟩ := hB
    rw [ht] at hP1
    have hK1 := va_K.moved hvm.symm hK1
    obtain ⟨hP, hD⟩ := va_join (wr := [(h2, .inr (8, [.ref h19, .int (-1), .int 0, .int 0])), (h3, .inr (8, [.ref h20, .int (-1), .int 0, .int 0])), (h4, .inr (8, [.ref h21, .int (-1), .int 0, .int 0])), (h5, .inr (8, [.ref h22, .int (-1), .int 0, .int 0])), (h6, .inr (8, [.ref h23, .int (-1), .int 0, .int 0])), (h7, .inr (8, [.ref h24, .int (-1), .int 0, .int 0]))]) (w1 := [(h0, .inr (11, [.ref h8, .int 0, .ref h9, .ref h10, .ref h11, .ref h12, .ref h13, .ref h14, .ref h15, .ref h16, .ref h17, .int 0, .ref h18, .ref h1])), (h1, .inl (cOShelf, 6, .inr (.inr (.inr (.inr (va_up (va_up (va_up (va_up (va_up (va_up (fun _ => none) (0 : Int32).toNatClampNeg (some h2)) (1 : Int32).toNatClampNeg (some h3)) (2 : Int32).toNatClampNeg (some h4)) (3 : Int32).toNatClampNeg (some h5)) (4 : Int32).toNatClampNeg (some h6)) (5 : Int32).toNatClampNeg (some h7)))))))]) hP hD [6, 7] [0, 1, 2, 3, 4, 5] rfl rfl (by decide) (by decide) hk1 hFc hP1 hD1
    generalize H1 = H at hP hS ⊢
    have hP : va_P (dC, dI) vwCl [(h2, .inr (8, [.ref h19, .int (-1), .int 0, .int 0])), (h3, .inr (8, [.ref h20, .int (-1), .int 0, .int 0])), (h4, .inr (8, [.ref h21, .int (-1), .int 0, .int 0])), (h5, .inr (8, [.ref h22, .int (-1), .int 0, .int 0])), (h6, .inr (8, [.ref h23, .int (-1), .int 0, .int 0])), (h7, .inr (8, [.ref h24, .int (-1), .int 0, .int 0])), (h0, .inr (11, [.ref h8, .int 0, .ref h9, .ref h10, .ref h11, .ref h12, .ref h13, .ref h14, .ref h15, .ref h16, .ref h17, .int 0, .ref h18, .ref h1])), (h1, .inl (cOShelf, 6, .inr (.inr (.inr (.inr (va_up (va_up (va_up (va_up (va_up (va_up (fun _ => none) (0 : Int32).toNatClampNeg (some h2)) (1 : Int32).toNatClampNeg (some h3)) (2 : Int32).toNatClampNeg (some h4)) (3 : Int32).toNatClampNeg (some h5)) (4 : Int32).toNatClampNeg (some h6)) (5 : Int32).toNatClampNeg (some h7)))))))] H := hP
    have hD : va_D A [(h2, .inr (8, [.ref h19, .int (-1), .int 0, .int 0])), (h3, .inr (8, [.ref h20, .int (-1), .int 0, .int 0])), (h4, .inr (8, [.ref h21, .int (-1), .int 0, .int 0])), (h5, .inr (8, [.ref h22, .int (-1), .int 0, .int 0])), (h6, .inr (8, [.ref h23, .int (-1), .int 0, .int 0])), (h7, .inr (8, [.ref h24, .int (-1), .int 0, .int 0])), (h0, .inr (11, [.ref h8, .int 0, .ref h9, .ref h10, .ref h11, .ref h12, .ref h13, .ref h14, .ref h15, .ref h16, .ref h17, .int 0, .ref h18, .ref h1])), (h1, .inl (cOShelf, 6, .inr (.inr (.inr (.inr (va_up (va_up (va_up (va_up (va_up (va_up (fun _ => none) (0 : Int32).toNatClampNeg (some h2)) (1 : Int32).toNatClampNeg (some h3)) (2 : Int32).toNatClampNeg (some h4)) (3 : Int32).toNatClampNeg (some h5)) (4 : Int32).toNatClampNeg (some h6)) (5 : Int32).toNatClampNeg (some h7)))))))] := hD
    rcases hw with ⟨t_11_0, rfl⟩ | ⟨t_11_0, t_11_1, rfl⟩ | ⟨t_11_0, t_11_1, t_11_2, rfl⟩ | ⟨t_11_0, t_11_1, t_11_2, rfl⟩ | ⟨t_11_0, t_11_1, t_11_2, rfl⟩ | ⟨t_11_0, t_11_1, t_11_2, rfl⟩ | ⟨t_11_0, t_11_1, t_11_2, rfl⟩ | ⟨t_11_0, t_11_1, t_11_2, rfl⟩
    · skip
      refine W.eq (g2 := F0 m 12 ls [.null]) rfl ?_
      refine lv_astoreN (lv' := [(7, .null), (6, .ref h3), (0, .ref h0), (1, .int p0), (2, .int p1), (3, .int p2), (4, .int p3), (5, .int p4)]) hx hb dX11_shift_12 hl (by decide) rfl (fun ls hl => ?_)
      refine lv_aload hx hb dX11_shift_14 (lv_at hl 1 rfl) ?_
      refine lv_ifnull hx hb dX11_shift_16 ?_
      refine lv_aloadN hx hb dX11_shift_19 (lv_at hl 0 rfl) ?_
      refine lv_ifnonnullN hx hb dX11_shift_21 ?_
      refine lv_iconst (v := (-1)) hx hb dX11_shift_24 (by decide) ?_
      have hP9 := hP.sub (ws' := []) [] rfl
      have hD9 := hD.sub (ws' := []) [] (by decide) rfl
      have hK9 := hK.sub (tys' := []) [] rfl
      exact W.iret (v := (-1)) hx hb hr (fun t ht hW => ⟨⟨(-1), (), rfl, by first | rfl | ((repeat' split) <;> first | rfl | (exfalso; omega) | (exact Int32.toInt_inj.mp (by show ((-1) : Int) = _; omega))), by rw [ht]; exact hP9, va_K.moved hW.alike hK9, hD9⟩, hS.F ht⟩) hS.2.2 dX11_shift_25
    · skip
      refine W.eq (g2 := F0 m 12 ls [.null]) rfl ?_
      refine lv_astoreN (lv' := [(7, .null), (6, .ref h3), (0, .ref h0), (1, .int p0), (2, .int p1), (3, .int p2), (4, .int p3), (5, .int p4)]) hx hb dX11_shift_12 hl (by decide) rfl (fun ls hl => ?_)
      refine lv_aload hx hb dX11_shift_14 (lv_at hl 1 rfl) ?_
      refine lv_ifnull hx hb dX11_shift_16 ?_
      refine lv_aloadN hx hb dX11_shift_19 (lv_at hl 0 rfl) ?_
      refine lv_ifnonnullN hx hb dX11_shift_21 ?_
      refine lv_iconst (v := (-1)) hx hb dX11_shift_24 (by decide) ?_
      have hP9 := hP.sub (ws' := []) [] rfl
      have hD9 := hD.sub (ws' := []) [] (by decide) rfl
      have hK9 := hK.sub (tys' := []) [] rfl
      exact W.iret (v := (-1)) hx hb hr (fun t ht hW => ⟨⟨(-1), (), rfl, by first | rfl | ((repeat' split) <;> first | rfl | (exfalso; omega) | (exact Int32.toInt_inj.mp (by show ((-1) : Int) = _; omega))), by rw [ht]; exact hP9, va_K.moved hW.alike hK9, hD9⟩, hS.F ht⟩) hS.2.2 dX11_shift_25
    · skip
      refine W.eq (g2 := F0 m 12 ls [.ref h2]) rfl ?_
      refine lv_astore (lv' := [(7, .ref h2), (6, .ref h3), (0, .ref h0), (1, .int p0), (2, .int p1), (3, .int p2), (4, .int p3), (5, .int p4)]) hx hb dX11_shift_12 hl (by decide) rfl (fun ls hl => ?_)
      refine lv_aload hx hb dX11_shift_14 (lv_at hl 1 rfl) ?_
      refine lv_ifnull hx hb dX11_shift_16 ?_
      refine lv_aload hx hb dX11_shift_19 (lv_at hl 0 rfl) ?_
      refine lv_ifnonnull (tgt := 26) hx hb dX11_shift_21 (by decide) ?_
      refine lv_aload hx hb dX11_shift_26 (lv_at hl 1 rfl) ?_
      have hPc := hP.sub (ws' := [(h3, .inr (8, [.ref h20, .int (-1), .int 0, .int 0]))]) [1] rfl
      have hDc := hD.sub (ws' := [(h3, .inr (8, [.ref h20, .int (-1), .int 0, .int 0]))]) [1] (by decide) rfl
      have hKc := hK.sub (tys' := []) [] rfl
      have hFc := va_free (wc := [(h3, .inr (8, [.ref h20, .int (-1), .int 0, .int 0]))]) hD hS hA [1] rfl
      refine va_calli (va_runV (As := []) (rest := []) ⟨hx, hb, hml, hown, hts⟩ (k_X8_isEmpty_0 l dC dI h3 h20 H.size) (cwV 0 hts gX11_shift_X8_isEmpty rfl rfl rfl (by decide +kernel) ⟨Nat.le_of_ble_eq_true rfl, Nat.le_of_ble_eq_true rfl⟩) ⟨fun a U g mk q => by obtain ⟨q0, q1, qP, qK, qD⟩ := q; exact ⟨q0, q1, qP, va_K.moved (u := U) (U := U.calling g mk a) (Vm.Alike.refl U.vm) qK, qD⟩, va_recv hKc hPc (ci := 8) (q0 := 0) rfl rfl, fun U hU hW => ⟨rfl, by rw [hU], by rw [hU]; exact hPc, va_K.moved hW.alike hKc, hDc.weaken (fun _ _ _ _ => trivial)⟩⟩ rfl rfl hl.1 rfl (lv_room (Nat.le_of_ble_eq_true rfl)) dX11_shift_28 ⟨Nat.le_of_ble_eq_true rfl, Nat.le_of_ble_eq_true rfl⟩) hS (fun q _ h => hFc q h) hFc (fun r_12 u t H1 locs ht hvm hw hB hz1 hk1 hS => ?_)
      obtain ⟨hP1, hK1, hD1⟩ := hB
      rw [ht] at hP1
      have hK1 := va_K.moved hvm.symm hK1
      obtain ⟨hP, hD⟩ := va_join (wr := [(h2, .inr (8, [.ref h19, .int (-1), .int 0, .int 0])), (h4, .inr (8, [.ref h21, .int (-1), .int 0, .int 0])), (h5, .inr (8, [.ref h22, .int (-1), .int 0, .int 0])), (h6, .inr (8, [.ref h23, .int (-1), .int 0, .int 0])), (h7, .inr (8, [.ref h24, .int (-1), .int 0, .int 0])), (h0, .inr (11, [.ref h8, .int 0, .ref h9, .ref h10, .ref h11, .ref h12, .ref h13, .ref h14, .ref h15, .ref h16, .ref h17, .int 0, .ref h18, .ref h1])), (h1, .inl (cOShelf, 6, .inr (.inr (.inr (.inr (va_up (va_up (va_up (va_up (va_up (va_up (fun _ => none) (0 : Int32).toNatClampNeg (some h2)) (1 : Int32).toNatClampNeg (some h3)) (2 : Int32).toNatClampNeg (some h4)) (3 : Int32).toNatClampNeg (some h5)) (4 : Int32).toNatClampNeg (some h6)) (5 : Int32).toNatClampNeg (some h7)))))))]) (w1 := [(h3, .inr (8, [.ref h20, .int (-1), .int 0, .int 0]))]) hP hD [1] [0, 2, 3, 4, 5, 6, 7] rfl rfl (by decide) (by decide) hk1 hFc hP1 hD1
      generalize H1 = H at hP hS ⊢
      have hP : va_P (dC, dI) vwCl [(h2, .inr (8, [.ref h19, .int (-1), .int 0, .int 0])), (h4, .inr (8, [.ref h21, .int (-1), .int 0, .int 0])), (h5, .inr (8, [.ref h22, .int (-1), .int 0, .int 0])), (h6, .inr (8, [.ref h23, .int (-1), .int 0, .int 0])), (h7, .inr (8, [.ref h24, .int (-1), .int 0, .int 0])), (h0, .inr (11, [.ref h8, .int 0, .ref h9, .ref h10, .ref h11, .ref h12, .ref h13, .ref h14, .ref h15, .ref h16, .ref h17, .int 0, .ref h18, .ref h1])), (h1, .inl (cOShelf, 6, .inr (.inr (.inr (.inr (va_up (va_up (va_up (va_up (va_up (va_up (fun _ => none) (0 : Int32).toNatClampNeg (some h2)) (1 : Int32).toNatClampNeg (some h3)) (2 : Int32).toNatClampNeg (some h4)) (3 : Int32).toNatClampNeg (some h5)) (4 : Int32).toNatClampNeg (some h6)) (5 : Int32).toNatClampNeg (some h7))))))), (h3, .inr (8, [.ref h20, .int (-1), .int 0, .int 0]))] H := hP
      have hD : va_D A [(h2, .inr (8, [.ref h19, .int (-1), .int 0, .int 0])), (h4, .inr (8, [.ref h21, .int (-1), .int 0, .int 0])), (h5, .inr (8, [.ref h22, .int (-1), .int 0, .int 0])), (h6, .inr (8, [.ref h23, .int (-1), .int 0, .int 0])), (h7, .inr (8, [.ref h24, .int (-1), .int 0, .int 0])), (h0, .inr (11, [.ref h8, .int 0, .ref h9, .ref h10, .ref h11, .ref h12, .ref h13, .ref h14, .ref h15, .ref h16, .ref h17, .int 0, .ref h18, .ref h1])), (h1, .inl (cOShelf, 6, .inr (.inr (.inr (.inr (va_up (va_up (va_up (va_up (va_up (va_up (fun _ => none) (0 : Int32).toNatClampNeg (some h2)) (1 : Int32).toNatClampNeg (some h3)) (2 : Int32).toNatClampNeg (some h4)) (3 : Int32).toNatClampNeg (some h5)) (4 : Int32).toNatClampNeg (some h6)) (5 : Int32).toNatClampNeg (some h7))))))), (h3, .inr (8, [.ref h20, .int (-1), .int 0, .int 0]))] := hD
      obtain rfl := hw
      refine lv_if_ne (tgt := 42) hx hb dX11_shift_31 (by decide) (fun _ => ?_) (fun c => absurd c (by decide))
      refine lv_bipush (v := (-11)) hx hb dX11_shift_42 (by decide) ?_
      have hP9 := hP.sub (ws' := []) [] rfl
      have hD9 := hD.sub (ws' := []) [] (by decide) rfl
      have hK9 := hK.sub (tys' := []) [] rfl
      exact W.iret (v := (-11)) hx hb hr (fun t ht hW => ⟨⟨(-11), (), rfl, by first | rfl | ((repeat' split) <;> first | rfl | (exfalso; omega) | (exact Int32.toInt_inj.mp (by show ((-11) : Int) = _; omega))), by rw [ht]; exact hP9, va_K.moved hW.alike hK9, hD9⟩, hS.F ht⟩) hS.2.2 dX11_shift_44
    · skip
      refine W.eq (g2 := F0 m 12 ls [.ref h3]) rfl ?_
      refine lv_astore (lv' := [(7, .ref h3), (6, .ref h3), (0, .ref h0), (1, .int p0), (2, .int p1), (3, .int p2), (4, .int p3), (5, .int p4)]) hx hb dX11_shift_12 hl (by decide) rfl (fun ls hl => ?_)
      refine lv_aload hx hb dX11_shift_14 (lv_at hl 1 rfl) ?_
      refine lv_ifnull hx hb dX11_shift_16 ?_
      refine lv_aload hx hb dX11_shift_19 (lv_at hl 0 rfl) ?_
      refine lv_ifnonnull (tgt := 26) hx hb dX11_shift_21 (by decide) ?_
      refine lv_aload hx hb dX11_shift_26 (lv_at hl 1 rfl) ?_
      have hPc := hP.sub (ws' := [(h3, .inr (8, [.ref h20, .int (-1), .int 0, .int 0]))]) [1] rfl
      have hDc := hD.sub (ws' := [(h3, .inr (8, [.ref h20, .int (-1), .int 0, .int 0]))]) [1] (by decide) rfl
      have hKc := hK.sub (tys' := []) [] rfl
      have hFc := va_free (wc := [(h3, .inr (8, [.ref h20, .int (-1), .int 0, .int 0]))]) hD hS hA [1] rfl
      refine va_calli (va_runV (As := []) (rest := []) ⟨hx, hb, hml, hown, hts⟩ (k_X8_isEmpty_0 l dC dI h3 h20 H.size) (cwV 0 hts gX11_shift_X8_isEmpty rfl rfl rfl (by decide +kernel) ⟨Nat.le_of_ble_eq_true rfl, Nat.le_of_ble_eq_true rfl⟩) ⟨fun a U g mk q => by obtain ⟨q0, q1, qP, qK, qD⟩ := q; exact ⟨q0, q1, qP, va_K.moved (u := U) (U := U.calling g mk a) (Vm.Alike.refl U.vm) qK, qD⟩, va_recv hKc hPc (ci := 8) (q0 := 0) rfl rfl, fun U hU hW => ⟨rfl, by rw [hU], by rw [hU]; exact hPc, va_K.moved hW.alike hKc, hDc.weaken (fun _ _ _ _ => trivial)⟩⟩ rfl rfl hl.1 rfl (lv_room (Nat.le_of_ble_eq_true rfl)) dX11_shift_28 ⟨Nat.le_of_ble_eq_true rfl, Nat.le_of_ble_eq_true rfl⟩) hS (fun q _ h => hFc q h) hFc (fun r_13 u t H1 locs ht hvm hw hB hz1 hk1 hS => ?_)
      obtain ⟨hP1, hK1, hD1⟩ := hB
      rw [ht] at hP1
      have hK1 := va_K.moved hvm.symm hK1
      obtain ⟨hP, hD⟩ := va_join (wr := [(h2, .inr (8, [.ref h19, .int (-1), .int 0, .int 0])), (h4, .inr (8, [.ref h21, .int (-1), .int 0, .int 0])), (h5, .inr (8, [.ref h22, .int (-1), .int 0, .int 0])), (h6, .inr (8, [.ref h23, .int (-1), .int 0, .int 0])), (h7, .inr (8, [.ref h24, .int (-1), .int 0, .int 0])), (h0, .inr (11, [.ref h8, .int 0, .ref h9, .ref h10, .ref h11, .ref h12, .ref h13, .ref h14, .ref h15, .ref h16, .ref h17, .int 0, .ref h18, .ref h1])), (h1, .inl (cOShelf, 6, .inr (.inr (.inr (.inr (va_up (va_up (va_up (va_up (va_up (va_up (fun _ => none) (0 : Int32).toNatClampNeg (some h2)) (1 : Int32).toNatClampNeg (some h3)) (2 : Int32).toNatClampNeg (some h4)) (3 : Int32).toNatClampNeg (some h5)) (4 : Int32).toNatClampNeg (some h6)) (5 : Int32).toNatClampNeg (some h7)))))))]) (w1 := [(h3, .inr (8, [.ref h20, .int (-1), .int 0, .int 0]))]) hP hD [1] [0, 2, 3, 4, 5, 6, 7] rfl rfl (by decide) (by decide) hk1 hFc hP1 hD1
      generalize H1 = H at hP hS ⊢
      have hP : va_P (dC, dI) vwCl [(h2, .inr (8, [.ref h19, .int (-1), .int 0, .int 0])), (h4, .inr (8, [.ref h21, .int (-1), .int 0, .int 0])), (h5, .inr (8, [.ref h22, .int (-1), .int 0, .int 0])), (h6, .inr (8, [.ref h23, .int (-1), .int 0, .int 0])), (h7, .inr (8, [.ref h24, .int (-1), .int 0, .int 0])), (h0, .inr (11, [.ref h8, .int 0, .ref h9, .ref h10, .ref h11, .ref h12, .ref h13, .ref h14, .ref h15, .ref h16, .ref h17, .int 0, .ref h18, .ref h1])), (h1, .inl (cOShelf, 6, .inr (.inr (.inr (.inr (va_up (va_up (va_up (va_up (va_up (va_up (fun _ => none) (0 : Int32).toNatClampNeg (some h2)) (1 : Int32).toNatClampNeg (some h3)) (2 : Int32).toNatClampNeg (some h4)) (3 : Int32).toNatClampNeg (some h5)) (4 : Int32).toNatClampNeg (some h6)) (5 : Int32).toNatClampNeg (some h7))))))), (h3, .inr (8, [.ref h20, .int (-1), .int 0, .int 0]))] H := hP
      have hD : va_D A [(h2, .inr (8, [.ref h19, .int (-1), .int 0, .int 0])), (h4, .inr (8, [.ref h21, .int (-1), .int 0, .int 0])), (h5, .inr (8, [.ref h22, .int (-1), .int 0, .int 0])), (h6, .inr (8, [.ref h23, .int (-1), .int 0, .int 0])), (h7, .inr (8, [.ref h24, .int (-1), .int 0, .int 0])), (h0, .inr (11, [.ref h8, .int 0, .ref h9, .ref h10, .ref h11, .ref h12, .ref h13, .ref h14, .ref h15, .ref h16, .ref h17, .int 0, .ref h18, .ref h1])), (h1, .inl (cOShelf, 6, .inr (.inr (.inr (.inr (va_up (va_up (va_up (va_up (va_up (va_up (fun _ => none) (0 : Int32).toNatClampNeg (some h2)) (1 : Int32).toNatClampNeg (some h3)) (2 : Int32).toNatClampNeg (some h4)) (3 : Int32).toNatClampNeg (some h5)) (4 : Int32).toNatClampNeg (some h6)) (5 : Int32).toNatClampNeg (some h7))))))), (h3, .inr (8, [.ref h20, .int (-1), .int 0, .int 0]))] := hD
      obtain rfl := hw
      refine lv_if_ne (tgt := 42) hx hb dX11_shift_31 (by decide) (fun _ => ?_) (fun c => absurd c (by decide))
      refine lv_bipush (v := (-11)) hx hb dX11_shift_42 (by decide) ?_
      have hP9 := hP.sub (ws' := []) [] rfl
      have hD9 := hD.sub (ws' := []) [] (by decide) rfl
      have hK9 := hK.sub (tys' := []) [] rfl
      exact W.iret (v := (-11)) hx hb hr (fun t ht hW => ⟨⟨(-11), (), rfl, by first | rfl | ((repeat' split) <;> first | rfl | (exfalso; omega) | (exact Int32.toInt_inj.mp (by show ((-11) : Int) = _; omega))), by rw [ht]; exact hP9, va_K.moved hW.alike hK9, hD9⟩, hS.F ht⟩) hS.2.2 dX11_shift_44
    · skip
      refine W.eq (g2 := F0 m 12 ls [.ref h4]) rfl ?_
      refine lv_astore (lv' := [(7, .ref h4), (6, .ref h3), (0, .ref h0), (1, .int p0), (2, .int p1), (3, .int p2), (4, .int p3), (5, .int p4)]) hx hb dX11_shift_12 hl (by decide) rfl (fun ls hl => ?_)
      refine lv_aload hx hb dX11_shift_14 (lv_at hl 1 rfl) ?_
      refine lv_ifnull hx hb dX11_shift_16 ?_
      refine lv_aload hx hb dX11_shift_19 (lv_at hl 0 rfl) ?_
      refine lv_ifnonnull (tgt := 26) hx hb dX11_shift_21 (by decide) ?_
      refine lv_aload hx hb dX11_shift_26 (lv_at hl 1 rfl) ?_
      have hPc := hP.sub (ws' := [(h3, .inr (8, [.ref h20, .int (-1), .int 0, .int 0]))]) [1] rfl
      have hDc := hD.sub (ws' := [(h3, .inr (8, [.ref h20, .int (-1), .int 0, .int 0]))]) [1] (by decide) rfl
      have hKc := hK.sub (tys' := []) [] rfl
      have hFc := va_free (wc := [(h3, .inr (8, [.ref h20, .int (-1), .int 0, .int 0]))]) hD hS hA [1] rfl
      refine va_calli (va_runV (As := []) (rest := []) ⟨hx, hb, hml, hown, hts⟩ (k_X8_isEmpty_0 l dC dI h3 h20 H.size) (cwV 0 hts gX11_shift_X8_isEmpty rfl rfl rfl (by decide +kernel) ⟨Nat.le_of_ble_eq_true rfl, Nat.le_of_ble_eq_true rfl⟩) ⟨fun a U g mk q => by obtain ⟨q0, q1, qP, qK, qD⟩ := q; exact ⟨q0, q1, qP, va_K.moved (u := U) (U := U.calling g mk a) (Vm.Alike.refl U.vm) qK, qD⟩, va_recv hKc hPc (ci := 8) (q0 := 0) rfl rfl, fun U hU hW => ⟨rfl, by rw [hU], by rw [hU]; exact hPc, va_K.moved hW.alike hKc, hDc.weaken (fun _ _ _ _ => trivial)⟩⟩ rfl rfl hl.1 rfl (lv_room (Nat.le_of_ble_eq_true rfl)) dX11_shift_28 ⟨Nat.le_of_ble_eq_true rfl, Nat.le_of_ble_eq_true rfl⟩) hS (fun q _ h => hFc q h) hFc (fun r_14 u t H1 locs ht hvm hw hB hz1 hk1 hS => ?_)
      obtain ⟨hP1, hK1, hD1⟩ := hB
      rw [ht] at hP1
      have hK1 := va_K.moved hvm.symm hK1
      obtain ⟨hP, hD⟩ := va_join (wr := [(h2, .inr (8, [.ref h19, .int (-1), .int 0, .int 0])), (h4, .inr (8, [.ref h21, .int (-1), .int 0, .int 0])), (h5, .inr (8, [.ref h22, .int (-1), .int 0, .int 0])), (h6, .inr (8, [.ref h23, .int (-1), .int 0, .int 0])), (h7, .inr (8, [.ref h24, .int (-1), .int 0, .int 0])), (h0, .inr (11, [.ref h8, .int 0, .ref h9, .ref h10, .ref h11, .ref h12, .ref h13, .ref h14, .ref h15, .ref h16, .ref h17, .int 0, .ref h18, .ref h1])), (h1, .inl (cOShelf, 6, .inr (.inr (.inr (.inr (va_up (va_up (va_up (va_up (va_up (va_up (fun _ => none) (0 : Int32).toNatClampNeg (some h2)) (1 : Int32).toNatClampNeg (some h3)) (2 : Int32).toNatClampNeg (some h4)) (3 : Int32).toNatClampNeg (some h5)) (4 : Int32).toNatClampNeg (some h6)) (5 : Int32).toNatClampNeg (some h7)))))))]) (w1 := [(h3, .inr (8, [.ref h20, .int (-1), .int 0, .int 0]))]) hP hD [1] [0, 2, 3, 4, 5, 6, 7] rfl rfl (by decide) (by decide) hk1 hFc hP1 hD1
      generalize H1 = H at hP hS ⊢
      have hP : va_P (dC, dI) vwCl [(h2, .inr (8, [.ref h19, .int (-1), .int 0, .int 0])), (h4, .inr (8, [.ref h21, .int (-1), .int 0, .int 0])), (h5, .inr (8, [.ref h22, .int (-1), .int 0, .int 0])), (h6, .inr (8, [.ref h23, .int (-1), .int 0, .int 0])), (h7, .inr (8, [.ref h24, .int (-1), .int 0, .int 0])), (h0, .inr (11, [.ref h8, .int 0, .ref h9, .ref h10, .ref h11, .ref h12, .ref h13, .ref h14, .ref h15, .ref h16, .ref h17, .int 0, .ref h18, .ref h1])), (h1, .inl (cOShelf, 6, .inr (.inr (.inr (.inr (va_up (va_up (va_up (va_up (va_up (va_up (fun _ => none) (0 : Int32).toNatClampNeg (some h2)) (1 : Int32).toNatClampNeg (some h3)) (2 : Int32).toNatClampNeg (some h4)) (3 : Int32).toNatClampNeg (some h5)) (4 : Int32).toNatClampNeg (some h6)) (5 : Int32).toNatClampNeg (some h7))))))), (h3, .inr (8, [.ref h20, .int (-1), .int 0, .int 0]))] H := hP
      have hD : va_D A [(h2, .inr (8, [.ref h19, .int (-1), .int 0, .int 0])), (h4, .inr (8, [.ref h21, .int (-1), .int 0, .int 0])), (h5, .inr (8, [.ref h22, .int (-1), .int 0, .int 0])), (h6, .inr (8, [.ref h23, .int (-1), .int 0, .int 0])), (h7, .inr (8, [.ref h24, .int (-1), .int 0, .int 0])), (h0, .inr (11, [.ref h8, .int 0, .ref h9, .ref h10, .ref h11, .ref h12, .ref h13, .ref h14, .ref h15, .ref h16, .ref h17, .int 0, .ref h18, .ref h1])), (h1, .inl (cOShelf, 6, .inr (.inr (.inr (.inr (va_up (va_up (va_up (va_up (va_up (va_up (fun _ => none) (0 : Int32).toNatClampNeg (some h2)) (1 : Int32).toNatClampNeg (some h3)) (2 : Int32).toNatClampNeg (some h4)) (3 : Int32).toNatClampNeg (some h5)) (4 : Int32).toNatClampNeg (some h6)) (5 : Int32).toNatClampNeg (some h7))))))), (h3, .inr (8, [.ref h20, .int (-1), .int 0, .int 0]))] := hD
      obtain rfl := hw
      refine lv_if_ne (tgt := 42) hx hb dX11_shift_31 (by decide) (fun _ => ?_) (fun c => absurd c (by decide))
      refine lv_bipush (v := (-11)) hx hb dX11_shift_42 (by decide) ?_
      have hP9 := hP.sub (ws' := []) [] rfl
      have hD9 := hD.sub (ws' := []) [] (by decide) rfl
      have hK9 := hK.sub (tys' := []) [] rfl
      exact W.iret (v := (-11)) hx hb hr (fun t ht hW => ⟨⟨(-11), (), rfl, by first | rfl | ((repeat' split) <;> first | rfl | (exfalso; omega) | (exact Int32.toInt_inj.mp (by show ((-11) : Int) = _; omega))), by rw [ht]; exact hP9, va_K.moved hW.alike hK9, hD9⟩, hS.F ht⟩) hS.2.2 dX11_shift_44
    · skip
      refine W.eq (g2 := F0 m 12 ls [.ref h5]) rfl ?_
      refine lv_astore (lv' := [(7, .ref h5), (6, .ref h3), (0, .ref h0), (1, .int p0), (2, .int p1), (3, .int p2), (4, .int p3), (5, .int p4)]) hx hb dX11_shift_12 hl (by decide) rfl (fun ls hl => ?_)
      refine lv_aload hx hb dX11_shift_14 (lv_at hl 1 rfl) ?_
      refine lv_ifnull hx hb dX11_shift_16 ?_
      refine lv_aload hx hb dX11_shift_19 (lv_at hl 0 rfl) ?_
      refine lv_ifnonnull (tgt := 26) hx hb dX11_shift_21 (by decide) ?_
      refine lv_aload hx hb dX11_shift_26 (lv_at hl 1 rfl) ?_
      have hPc := hP.sub (ws' := [(h3, .inr (8, [.ref h20, .int (-1), .int 0, .int 0]))]) [1] rfl
      have hDc := hD.sub (ws' := [(h3, .inr (8, [.ref h20, .int (-1), .int 0, .int 0]))]) [1] (by decide) rfl
      have hKc := hK.sub (tys' := []) [] rfl
      have hFc := va_free (wc := [(h3, .inr (8, [.ref h20, .int (-1), .int 0, .int 0]))]) hD hS hA [1] rfl
      refine va_calli (va_runV (As := []) (rest := []) ⟨hx, hb, hml, hown, hts⟩ (k_X8_isEmpty_0 l dC dI h3 h20 H.size) (cwV 0 hts gX11_shift_X8_isEmpty rfl rfl rfl (by decide +kernel) ⟨Nat.le_of_ble_eq_true rfl, Nat.le_of_ble_eq_true rfl⟩) ⟨fun a U g mk q => by obtain ⟨q0, q1, qP, qK, qD⟩ := q; exact ⟨q0, q1, qP, va_K.moved (u := U) (U := U.calling g mk a) (Vm.Alike.refl U.vm) qK, qD⟩, va_recv hKc hPc (ci := 8) (q0 := 0) rfl rfl, fun U hU hW => ⟨rfl, by rw [hU], by rw [hU]; exact hPc, va_K.moved hW.alike hKc, hDc.weaken (fun _ _ _ _ => trivial)⟩⟩ rfl rfl hl.1 rfl (lv_room (Nat.le_of_ble_eq_true rfl)) dX11_shift_28 ⟨Nat.le_of_ble_eq_true rfl, Nat.le_of_ble_eq_true rfl⟩) hS (fun q _ h => hFc q h) hFc (fun r_15 u t H1 locs ht hvm hw hB hz1 hk1 hS => ?_)
      obtain ⟨hP1, hK1, hD1⟩ := hB
      rw [ht] at hP1
      have hK1 := va_K.moved hvm.symm hK1
      obtain ⟨hP, hD⟩ := va_join (wr := [(h2, .inr (8, [.ref h19, .int (-1), .int 0, .int 0])), (h4, .inr (8, [.ref h21, .int (-1), .int 0, .int 0])), (h5, .inr (8, [.ref h22, .int (-1), .int 0, .int 0])), (h6, .inr (8, [.ref h23, .int (-1), .int 0, .int 0])), (h7, .inr (8, [.ref h24, .int (-1), .int 0, .int 0])), (h0, .inr (11, [.ref h8, .int 0, .ref h9, .ref h10, .ref h11, .ref h12, .ref h13, .ref h14, .ref h15, .ref h16, .ref h17, .int 0, .ref h18, .ref h1])), (h1, .inl (cOShelf, 6, .inr (.inr (.inr (.inr (va_up (va_up (va_up (va_up (va_up (va_up (fun _ => none) (0 : Int32).toNatClampNeg (some h2)) (1 : Int32).toNatClampNeg (some h3)) (2 : Int32).toNatClampNeg (some h4)) (3 : Int32).toNatClampNeg (some h5)) (4 : Int32).toNatClampNeg (some h6)) (5 : Int32).toNatClampNeg (some h7)))))))]) (w1 := [(h3, .inr (8, [.ref h20, .int (-1), .int 0, .int 0]))]) hP hD [1] [0, 2, 3, 4, 5, 6, 7] rfl rfl (by decide) (by decide) hk1 hFc hP1 hD1
      generalize H1 = H at hP hS ⊢
      have hP : va_P (dC, dI) vwCl [(h2, .inr (8, [.ref h19, .int (-1), .int 0, .int 0])), (h4, .inr (8, [.ref h21, .int (-1), .int 0, .int 0])), (h5, .inr (8, [.ref h22, .int (-1), .int 0, .int 0])), (h6, .inr (8, [.ref h23, .int (-1), .int 0, .int 0])), (h7, .inr (8, [.ref h24, .int (-1), .int 0, .int 0])), (h0, .inr (11, [.ref h8, .int 0, .ref h9, .ref h10, .ref h11, .ref h12, .ref h13, .ref h14, .ref h15, .ref h16, .ref h17, .int 0, .ref h18, .ref h1])), (h1, .inl (cOShelf, 6, .inr (.inr (.inr (.inr (va_up (va_up (va_up (va_up (va_up (va_up (fun _ => none) (0 : Int32).toNatClampNeg (some h2)) (1 : Int32).toNatClampNeg (some h3)) (2 : Int32).toNatClampNeg (some h4)) (3 : Int32).toNatClampNeg (some h5)) (4 : Int32).toNatClampNeg (some h6)) (5 : Int32).toNatClampNeg (some h7))))))), (h3, .inr (8, [.ref h20, .int (-1), .int 0, .int 0]))] H := hP
      have hD : va_D A [(h2, .inr (8, [.ref h19, .int (-1), .int 0, .int 0])), (h4, .inr (8, [.ref h21, .int (-1), .int 0, .int 0])), (h5, .inr (8, [.ref h22, .int (-1), .int 0, .int 0])), (h6, .inr (8, [.ref h23, .int (-1), .int 0, .int 0])), (h7, .inr (8, [.ref h24, .int (-1), .int 0, .int 0])), (h0, .inr (11, [.ref h8, .int 0, .ref h9, .ref h10, .ref h11, .ref h12, .ref h13, .ref h14, .ref h15, .ref h16, .ref h17, .int 0, .ref h18, .ref h1])), (h1, .inl (cOShelf, 6, .inr (.inr (.inr (.inr (va_up (va_up (va_up (va_up (va_up (va_up (fun _ => none) (0 : Int32).toNatClampNeg (some h2)) (1 : Int32).toNatClampNeg (some h3)) (2 : Int32).toNatClampNeg (some h4)) (3 : Int32).toNatClampNeg (some h5)) (4 : Int32).toNatClampNeg (some h6)) (5 : Int32).toNatClampNeg (some h7))))))), (h3, .inr (8, [.ref h20, .int (-1), .int 0, .int 0]))] := hD
      obtain rfl := hw
      refine lv_if_ne (tgt := 42) hx hb dX11_shift_31 (by decide) (fun _ => ?_) (fun c => absurd c (by decide))
      refine lv_bipush (v := (-11)) hx hb dX11_shift_42 (by decide) ?_
      have hP9 := hP.sub (ws' := []) [] rfl
      have hD9 := hD.sub (ws' := []) [] (by decide) rfl
      have hK9 := hK.sub (tys' := []) [] rfl
      exact W.iret (v := (-11)) hx hb hr (fun t ht hW => ⟨⟨(-11), (), rfl, by first | rfl | ((repeat' split) <;> first | rfl | (exfalso; omega) | (exact Int32.toInt_inj.mp (by show ((-11) : Int) = _; omega))), by rw [ht]; exact hP9, va_K.moved hW.alike hK9, hD9⟩, hS.F ht⟩) hS.2.2 dX11_shift_44
    · skip
      refine W.eq (g2 := F0 m 12 ls [.ref h6]) rfl ?_
      refine lv_astore (lv' := [(7, .ref h6), (6, .ref h3), (0, .ref h0), (1, .int p0), (2, .int p1), (3, .int p2), (4, .int p3), (5, .int p4)]) hx hb dX11_shift_12 hl (by decide) rfl (fun ls hl => ?_)
      refine lv_aload hx hb dX11_shift_14 (lv_at hl 1 rfl) ?_
      refine lv_ifnull hx hb dX11_shift_16 ?_
      refine lv_aload hx hb dX11_shift_19 (lv_at hl 0 rfl) ?_
      refine lv_ifnonnull (tgt := 26) hx hb dX11_shift_21 (by decide) ?_
      refine lv_aload hx hb dX11_shift_26 (lv_at hl 1 rfl) ?_
      have hPc := hP.sub (ws' := [(h3, .inr (8, [.ref h20, .int (-1), .int 0, .int 0]))]) [1] rfl
      have hDc := hD.sub (ws' := [(h3, .inr (8, [.ref h20, .int (-1), .int 0, .int 0]))]) [1] (by decide) rfl
      have hKc := hK.sub (tys' := []) [] rfl
      have hFc := va_free (wc := [(h3, .inr (8, [.ref h20, .int (-1), .int 0, .int 0]))]) hD hS hA [1] rfl
      refine va_calli (va_runV (As := []) (rest := []) ⟨hx, hb, hml, hown, hts⟩ (k_X8_isEmpty_0 l dC dI h3 h20 H.size) (cwV 0 hts gX11_shift_X8_isEmpty rfl rfl rfl (by decide +kernel) ⟨Nat.le_of_ble_eq_true rfl, Nat.le_of_ble_eq_true rfl⟩) ⟨fun a U g mk q => by obtain ⟨q0, q1, qP, qK, qD⟩ := q; exact ⟨q0, q1, qP, va_K.moved (u := U) (U := U.calling g mk a) (Vm.Alike.refl U.vm) qK, qD⟩, va_recv hKc hPc (ci := 8) (q0 := 0) rfl rfl, fun U hU hW => ⟨rfl, by rw [hU], by rw [hU]; exact hPc, va_K.moved hW.alike hKc, hDc.weaken (fun _ _ _ _ => trivial)⟩⟩ rfl rfl hl.1 rfl (lv_room (Nat.le_of_ble_eq_true rfl)) dX11_shift_28 ⟨Nat.le_of_ble_eq_true rfl, Nat.le_of_ble_eq_true rfl⟩) hS (fun q _ h => hFc q h) hFc (fun r_16 u t H1 locs ht hvm hw hB hz1 hk1 hS => ?_)
      obtain ⟨hP1, hK1, hD1⟩ := hB
      rw [ht] at hP1
      have hK1 := va_K.moved hvm.symm hK1
      obtain ⟨hP, hD⟩ := va_join (wr := [(h2, .inr (8, [.ref h19, .int (-1), .int 0, .int 0])), (h4, .inr (8, [.ref h21, .int (-1), .int 0, .int 0])), (h5, .inr (8, [.ref h22, .int (-1), .int 0, .int 0])), (h6, .inr (8, [.ref h23, .int (-1), .int 0, .int 0])), (h7, .inr (8, [.ref h24, .int (-1), .int 0, .int 0])), (h0, .inr (11, [.ref h8, .int 0, .ref h9, .ref h10, .ref h11, .ref h12, .ref h13, .ref h14, .ref h15, .ref h16, .ref h17, .int 0, .ref h18, .ref h1])), (h1, .inl (cOShelf, 6, .inr (.inr (.inr (.inr (va_up (va_up (va_up (va_up (va_up (va_up (fun _ => none) (0 : Int32).toNatClampNeg (some h2)) (1 : Int32).toNatClampNeg (some h3)) (2 : Int32).toNatClampNeg (some h4)) (3 : Int32).toNatClampNeg (some h5)) (4 : Int32).toNatClampNeg (some h6)) (5 : Int32).toNatClampNeg (some h7)))))))]) (w1 := [(h3, .inr (8, [.ref h20, .int (-1), .int 0, .int 0]))]) hP hD [1] [0, 2, 3, 4, 5, 6, 7] rfl rfl (by decide) (by decide) hk1 hFc hP1 hD1
      generalize H1 = H at hP hS ⊢
      have hP : va_P (dC, dI) vwCl [(h2, .inr (8, [.ref h19, .int (-1), .int 0, .int 0])), (h4, .inr (8, [.ref h21, .int (-1), .int 0, .int 0])), (h5, .inr (8, [.ref h22, .int (-1), .int 0, .int 0])), (h6, .inr (8, [.ref h23, .int (-1), .int 0, .int 0])), (h7, .inr (8, [.ref h24, .int (-1), .int 0, .int 0])), (h0, .inr (11, [.ref h8, .int 0, .ref h9, .ref h10, .ref h11, .ref h12, .ref h13, .ref h14, .ref h15, .ref h16, .ref h17, .int 0, .ref h18, .ref h1])), (h1, .inl (cOShelf, 6, .inr (.inr (.inr (.inr (va_up (va_up (va_up (va_up (va_up (va_up (fun _ => none) (0 : Int32).toNatClampNeg (some h2)) (1 : Int32).toNatClampNeg (some h3)) (2 : Int32).toNatClampNeg (some h4)) (3 : Int32).toNatClampNeg (some h5)) (4 : Int32).toNatClampNeg (some h6)) (5 : Int32).toNatClampNeg (some h7))))))), (h3, .inr (8, [.ref h20, .int (-1), .int 0, .int 0]))] H := hP
      have hD : va_D A [(h2, .inr (8, [.ref h19, .int (-1), .int 0, .int 0])), (h4, .inr (8, [.ref h21, .int (-1), .int 0, .int 0])), (h5, .inr (8, [.ref h22, .int (-1), .int 0, .int 0])), (h6, .inr (8, [.ref h23, .int (-1), .int 0, .int 0])), (h7, .inr (8, [.ref h24, .int (-1), .int 0, .int 0])), (h0, .inr (11, [.ref h8, .int 0, .ref h9, .ref h10, .ref h11, .ref h12, .ref h13, .ref h14, .ref h15, .ref h16, .ref h17, .int 0, .ref h18, .ref h1])), (h1, .inl (cOShelf, 6, .inr (.inr (.inr (.inr (va_up (va_up (va_up (va_up (va_up (va_up (fun _ => none) (0 : Int32).toNatClampNeg (some h2)) (1 : Int32).toNatClampNeg (some h3)) (2 : Int32).toNatClampNeg (some h4)) (3 : Int32).toNatClampNeg (some h5)) (4 : Int32).toNatClampNeg (some h6)) (5 : Int32).toNatClampNeg (some h7))))))), (h3, .inr (8, [.ref h20, .int (-1), .int 0, .int 0]))] := hD
      obtain rfl := hw
      refine lv_if_ne (tgt := 42) hx hb dX11_shift_31 (by decide) (fun _ => ?_) (fun c => absurd c (by decide))
      refine lv_bipush (v := (-11)) hx hb dX11_shift_42 (by decide) ?_
      have hP9 := hP.sub (ws' := []) [] rfl
      have hD9 := hD.sub (ws' := []) [] (by decide) rfl
      have hK9 := hK.sub (tys' := []) [] rfl
      exact W.iret (v := (-11)) hx hb hr (fun t ht hW => ⟨⟨(-11), (), rfl, by first | rfl | ((repeat' split) <;> first | rfl | (exfalso; omega) | (exact Int32.toInt_inj.mp (by show ((-11) : Int) = _; omega))), by rw [ht]; exact hP9, va_K.moved hW.alike hK9, hD9⟩, hS.F ht⟩) hS.2.2 dX11_shift_44
    · skip
      refine W.eq (g2 := F0 m 12 ls [.ref h7]) rfl ?_
      refine lv_astore (lv' := [(7, .ref h7), (6, .ref h3), (0, .ref h0), (1, .int p0), (2, .int p1), (3, .int p2), (4, .int p3), (5, .int p4)]) hx hb dX11_shift_12 hl (by decide) rfl (fun ls hl => ?_)
      refine lv_aload hx hb dX11_shift_14 (lv_at hl 1 rfl) ?_
      refine lv_ifnull hx hb dX11_shift_16 ?_
      refine lv_aload hx hb dX11_shift_19 (lv_at hl 0 rfl) ?_
      refine lv_ifnonnull (tgt := 26) hx hb dX11_shift_21 (by decide) ?_
      refine lv_aload hx hb dX11_shift_26 (lv_at hl 1 rfl) ?_
      have hPc := hP.sub (ws' := [(h3, .inr (8, [.ref h20, .int (-1), .int 0, .int 0]))]) [1] rfl
      have hDc := hD.sub (ws' := [(h3, .inr (8, [.ref h20, .int (-1), .int 0, .int 0]))]) [1] (by decide) rfl
      have hKc := hK.sub (tys' := []) [] rfl
      have hFc := va_free (wc := [(h3, .inr (8, [.ref h20, .int (-1), .int 0, .int 0]))]) hD hS hA [1] rfl
      refine va_calli (va_runV (As := []) (rest := []) ⟨hx, hb, hml, hown, hts⟩ (k_X8_isEmpty_0 l dC dI h3 h20 H.size) (cwV 0 hts gX11_shift_X8_isEmpty rfl rfl rfl (by decide +kernel) ⟨Nat.le_of_ble_eq_true rfl, Nat.le_of_ble_eq_true rfl⟩) ⟨fun a U g mk q => by obtain ⟨q0, q1, qP, qK, qD⟩ := q; exact ⟨q0, q1, qP, va_K.moved (u := U) (U := U.calling g mk a) (Vm.Alike.refl U.vm) qK, qD⟩, va_recv hKc hPc (ci := 8) (q0 := 0) rfl rfl, fun U hU hW => ⟨rfl, by rw [hU], by rw [hU]; exact hPc, va_K.moved hW.alike hKc, hDc.weaken (fun _ _ _ _ => trivial)⟩⟩ rfl rfl hl.1 rfl (lv_room (Nat.le_of_ble_eq_true rfl)) dX11_shift_28 ⟨Nat.le_of_ble_eq_true rfl, Nat.le_of_ble_eq_true rfl⟩) hS (fun q _ h => hFc q h) hFc (fun r_17 u t H1 locs ht hvm hw hB hz1 hk1 hS => ?_)
      obtain ⟨hP1, hK1, hD1⟩ := hB
      rw [ht] at hP1
      have hK1 := va_K.moved hvm.symm hK1
      obtain ⟨hP, hD⟩ := va_join (wr := [(h2, .inr (8, [.ref h19, .int (-1), .int 0, .int 0])), (h4, .inr (8, [.ref h21, .int (-1), .int 0, .int 0])), (h5, .inr (8, [.ref h22, .int (-1), .int 0, .int 0])), (h6, .inr (8, [.ref h23, .int (-1), .int 0, .int 0])), (h7, .inr (8, [.ref h24, .int (-1), .int 0, .int 0])), (h0, .inr (11, [.ref h8, .int 0, .ref h9, .ref h10, .ref h11, .ref h12, .ref h13, .ref h14, .ref h15, .ref h16, .ref h17, .int 0, .ref h18, .ref h1])), (h1, .inl (cOShelf, 6, .inr (.inr (.inr (.inr (va_up (va_up (va_up (va_up (va_up (va_up (fun _ => none) (0 : Int32).toNatClampNeg (some h2)) (1 : Int32).toNatClampNeg (some h3)) (2 : Int32).toNatClampNeg (some h4)) (3 : Int32).toNatClampNeg (some h5)) (4 : Int32).toNatClampNeg (some h6)) (5 : Int32).toNatClampNeg (some h7)))))))]) (w1 := [(h3, .inr (8, [.ref h20, .int (-1), .int 0, .int 0]))]) hP hD [1] [0, 2, 3, 4, 5, 6, 7] rfl rfl (by decide) (by decide) hk1 hFc hP1 hD1
      generalize H1 = H at hP hS ⊢
      have hP : va_P (dC, dI) vwCl [(h2, .inr (8, [.ref h19, .int (-1), .int 0, .int 0])), (h4, .inr (8, [.ref h21, .int (-1), .int 0, .int 0])), (h5, .inr (8, [.ref h22, .int (-1), .int 0, .int 0])), (h6, .inr (8, [.ref h23, .int (-1), .int 0, .int 0])), (h7, .inr (8, [.ref h24, .int (-1), .int 0, .int 0])), (h0, .inr (11, [.ref h8, .int 0, .ref h9, .ref h10, .ref h11, .ref h12, .ref h13, .ref h14, .ref h15, .ref h16, .ref h17, .int 0, .ref h18, .ref h1])), (h1, .inl (cOShelf, 6, .inr (.inr (.inr (.inr (va_up (va_up (va_up (va_up (va_up (va_up (fun _ => none) (0 : Int32).toNatClampNeg (some h2)) (1 : Int32).toNatClampNeg (some h3)) (2 : Int32).toNatClampNeg (some h4)) (3 : Int32).toNatClampNeg (some h5)) (4 : Int32).toNatClampNeg (some h6)) (5 : Int32).toNatClampNeg (some h7))))))), (h3, .inr (8, [.ref h20, .int (-1), .int 0, .int 0]))] H := hP
      have hD : va_D A [(h2, .inr (8, [.ref h19, .int (-1), .int 0, .int 0])), (h4, .inr (8, [.ref h21, .int (-1), .int 0, .int 0])), (h5, .inr (8, [.ref h22, .int (-1), .int 0, .int 0])), (h6, .inr (8, [.ref h23, .int (-1), .int 0, .int 0])), (h7, .inr (8, [.ref h24, .int (-1), .int 0, .int 0])), (h0, .inr (11, [.ref h8, .int 0, .ref h9, .ref h10, .ref h11, .ref h12, .ref h13, .ref h14, .ref h15, .ref h16, .ref h17, .int 0, .ref h18, .ref h1])), (h1, .inl (cOShelf, 6, .inr (.inr (.inr (.inr (va_up (va_up (va_up (va_up (va_up (va_up (fun _ => none) (0 : Int32).toNatClampNeg (some h2)) (1 : Int32).toNatClampNeg (some h3)) (2 : Int32).toNatClampNeg (some h4)) (3 : Int32).toNatClampNeg (some h5)) (4 : Int32).toNatClampNeg (some h6)) (5 : Int32).toNatClampNeg (some h7))))))), (h3, .inr (8, [.ref h20, .int (-1), .int 0, .int 0]))] := hD
      obtain rfl := hw
      refine lv_if_ne (tgt := 42) hx hb dX11_shift_31 (by decide) (fun _ => ?_) (fun c => absurd c (by decide))
      refine lv_bipush (v := (-11)) hx hb dX11_shift_42 (by decide) ?_
      have hP9 := hP.sub (ws' := []) [] rfl
      have hD9 := hD.sub (ws' := []) [] (by decide) rfl
      have hK9 := hK.sub (tys' := []) [] rfl
      exact W.iret (v := (-11)) hx hb hr (fun t ht hW => ⟨⟨(-11), (), rfl, by first | rfl | ((repeat' split) <;> first | rfl | (exfalso; omega) | (exact Int32.toInt_inj.mp (by show ((-11) : Int) = _; omega))), by rw [ht]; exact hP9, va_K.moved hW.alike hK9, hD9⟩, hS.F ht⟩) hS.2.2 dX11_shift_44
  · skip
    refine W.eq (g2 := F0 m 5 ls [.ref h4]) rfl ?_
    refine lv_astore (lv' := [(6, .ref h4), (0, .ref h0), (1, .int p0), (2, .int p1), (3, .int p2), (4, .int p3), (5, .int p4)]) hx hb dX11_shift_5 hl (by decide) rfl (fun ls hl => ?_)
    refine lv_aload_n hx hb dX11_shift_7 rfl (lv_at hl 1 rfl) ?_
    refine lv_iload_n hx hb dX11_shift_8 rfl (lv_at hl 4 rfl) ?_
    have hPc := hP.sub (ws' := [(h0, .inr (11, [.ref h8, .int 0, .ref h9, .ref h10, .ref h11, .ref h12, .ref h13, .ref h14, .ref h15, .ref h16, .ref h17, .int 0, .ref h18, .ref h1])), (h1, .inl (cOShelf, 6, .inr (.inr (.inr (.inr (va_up (va_up (va_up (va_up (va_up (va_up (fun _ => none) (0 : Int32).toNatClampNeg (some h2)) (1 : Int32).toNatClampNeg (some h3)) (2 : Int32).toNatClampNeg (some h4)) (3 : Int32).toNatClampNeg (some h5)) (4 : Int32).toNatClampNeg (some h6)) (5 : Int32).toNatClampNeg (some h7)))))))]) [6, 7] rfl
    have hDc := hD.sub (ws' := [(h0, .inr (11, [.ref h8, .int 0, .ref h9, .ref h10, .ref h11, .ref h12, .ref h13, .ref h14, .ref h15, .ref h16, .ref h17, .int 0, .ref h18, .ref h1])), (h1, .inl (cOShelf, 6, .inr (.inr (.inr (.inr (va_up (va_up (va_up (va_up (va_up (va_up (fun _ => none) (0 : Int32).toNatClampNeg (some h2)) (1 : Int32).toNatClampNeg (some h3)) (2 : Int32).toNatClampNeg (some h4)) (3 : Int32).toNatClampNeg (some h5)) (4 : Int32).toNatClampNeg (some h6)) (5 : Int32).toNatClampNeg (some h7)))))))]) [6, 7] (by decide) rfl
    have hKc := hK.sub (tys' := [(cOShelf, .object "KinkStreet$Shelf")]) [0] rfl
    have hFc := va_free (wc := [(h0, .inr (11, [.ref h8, .int 0, .ref h9, .ref h10, .ref h11, .ref h12, .ref h13, .ref h14, .ref h15, .ref h16, .ref h17, .int 0, .ref h18, .ref h1])), (h1, .inl (cOShelf, 6, .inr (.inr (.inr (.inr (va_up (va_up (va_up (va_up (va_up (va_up (fun _ => none) (0 : Int32).toNatClampNeg (some h2)) (1 : Int32).toNatClampNeg (some h3)) (2 : Int32).toNatClampNeg (some h4)) (3 : Int32).toNatClampNeg (some h5)) (4 : Int32).toNatClampNeg (some h6)) (5 : Int32).toNatClampNeg (some h7)))))))]) hD hS hA [6, 7] rfl
    refine va_callq (va_runV (As := [.int p2]) (rest := []) ⟨hx, hb, hml, hown, hts⟩ (k_X11_knownShelf_0 l dC dI h0 h1 h8 h9 h10 h11 h12 h13 h14 h15 h16 h17 h18 h2 h3 h4 h5 h6 h7 cOShelf H.size p2) (cwV 1 hts gX11_shift_X11_knownShelf rfl rfl rfl (by decide +kernel) ⟨Nat.le_of_ble_eq_true rfl, Nat.le_of_ble_eq_true rfl⟩) ⟨fun a U g mk q => by obtain ⟨q0, q1, qP, qK, qD⟩ := q; exact ⟨q0, q1, qP, va_K.moved (u := U) (U := U.calling g mk a) (Vm.Alike.refl U.vm) qK, qD⟩, va_recv hKc hPc (ci := 11) (q0 := 0) rfl rfl, fun U hU hW => ⟨rfl, by rw [hU], by rw [hU]; exact hPc, va_K.moved hW.alike hKc, hDc.weaken (fun _ _ _ _ => trivial)⟩⟩ rfl rfl hl.1 rfl (lv_room (Nat.le_of_ble_eq_true rfl)) dX11_shift_9 ⟨Nat.le_of_ble_eq_true rfl, Nat.le_of_ble_eq_true rfl⟩) hS (fun q _ h => hFc q h) hFc (fun r_18 u t H1 locs ht hvm hw hB hz1 hk1 hS => ?_)
    obtain ⟨hP1, hK1, hD1⟩ := hB
    rw [ht] at hP1
    have hK1 := va_K.moved hvm.symm hK1
    obtain ⟨hP, hD⟩ := va_join (wr := [(h2, .inr (8, [.ref h19, .int (-1), .int 0, .int 0])), (h3, .inr (8, [.ref h20, .int (-1), .int 0, .int 0])), (h4, .inr (8, [.ref h21, .int (-1), .int 0, .int 0])), (h5, .inr (8, [.ref h22, .int (-1), .int 0, .int 0])), (h6, .inr (8, [.ref h23, .int (-1), .int 0, .int 0])), (h7, .inr (8, [.ref h24, .int (-1), .int 0, .int 0]))]) (w1 := [(h0, .inr (11, [.ref h8, .int 0, .ref h9, .ref h10, .ref h11, .ref h12, .ref h13, .ref h14, .ref h15, .ref h16, .ref h17, .int 0, .ref h18, .ref h1])), (h1, .inl (cOShelf, 6, .inr (.inr (.inr (.inr (va_up (va_up (va_up (va_up (va_up (va_up (fun _ => none) (0 : Int32).toNatClampNeg (some h2)) (1 : Int32).toNatClampNeg (some h3)) (2 : Int32).toNatClampNeg (some h4)) (3 : Int32).toNatClampNeg (some h5)) (4 : Int32).toNatClampNeg (some h6)) (5 : Int32).toNatClampNeg (some h7)))))))]) hP hD [6, 7] [0, 1, 2, 3, 4, 5] rfl rfl (by decide) (by decide) hk1 hFc hP1 hD1
    generalize H1 = H at hP hS ⊢
    have hP : va_P (dC, dI) vwCl [(h2, .inr (8, [.ref h19, .int (-1), .int 0, .int 0])), (h3, .inr (8, [.ref h20, .int (-1), .int 0, .int 0])), (h4, .inr (8, [.ref h21, .int (-1), .int 0, .int 0])), (h5, .inr (8, [.ref h22, .int (-1), .int 0, .int 0])), (h6, .inr (8, [.ref h23, .int (-1), .int 0, .int 0])), (h7, .inr (8, [.ref h24, .int (-1), .int 0, .int 0])), (h0, .inr (11, [.ref h8, .int 0, .ref h9, .ref h10, .ref h11, .ref h12, .ref h13, .ref h14, .ref h15, .ref h16, .ref h17, .int 0, .ref h18, .ref h1])), (h1, .inl (cOShelf, 6, .inr (.inr (.inr (.inr (va_up (va_up (va_up (va_up (va_up (va_up (fun _ => none) (0 : Int32).toNatClampNeg (some h2)) (1 : Int32).toNatClampNeg (some h3)) (2 : Int32).toNatClampNeg (some h4)) (3 : Int32).toNatClampNeg (some h5)) (4 : Int32).toNatClampNeg (some h6)) (5 : Int32).toNatClampNeg (some h7)))))))] H := hP
    have hD : va_D A [(h2, .inr (8, [.ref h19, .int (-1), .int 0, .int 0])), (h3, .inr (8, [.ref h20, .int (-1), .int 0, .int 0])), (h4, .inr (8, [.ref h21, .int (-1), .int 0, .int 0])), (h5, .inr (8, [.ref h22, .int (-1), .int 0, .int 0])), (h6, .inr (8, [.ref h23, .int (-1), .int 0, .int 0])), (h7, .inr (8, [.ref h24, .int (-1), .int 0, .int 0])), (h0, .inr (11, [.ref h8, .int 0, .ref h9, .ref h10, .ref h11, .ref h12, .ref h13, .ref h14, .ref h15, .ref h16, .ref h17, .int 0, .ref h18, .ref h1])), (h1, .inl (cOShelf, 6, .inr (.inr (.inr (.inr (va_up (va_up (va_up (va_up (va_up (va_up (fun _ => none) (0 : Int32).toNatClampNeg (some h2)) (1 : Int32).toNatClampNeg (some h3)) (2 : Int32).toNatClampNeg (some h4)) (3 : Int32).toNatClampNeg (some h5)) (4 : Int32).toNatClampNeg (some h6)) (5 : Int32).toNatClampNeg (some h7)))))))] := hD
    rcases hw with ⟨t_18_0, rfl⟩ | ⟨t_18_0, t_18_1, rfl⟩ | ⟨t_18_0, t_18_1, t_18_2, rfl⟩ | ⟨t_18_0, t_18_1, t_18_2, rfl⟩ | ⟨t_18_0, t_18_1, t_18_2, rfl⟩ | ⟨t_18_0, t_18_1, t_18_2, rfl⟩ | ⟨t_18_0, t_18_1, t_18_2, rfl⟩ | ⟨t_18_0, t_18_1, t_18_2, rfl⟩
    · skip
      refine W.eq (g2 := F0 m 12 ls [.null]) rfl ?_
      refine lv_astoreN (lv' := [(7, .null), (6, .ref h4), (0, .ref h0), (1, .int p0), (2, .int p1), (3, .int p2), (4, .int p3), (5, .int p4)]) hx hb dX11_shift_12 hl (by decide) rfl (fun ls hl => ?_)
      refine lv_aload hx hb dX11_shift_14 (lv_at hl 1 rfl) ?_
      refine lv_ifnull hx hb dX11_shift_16 ?_
      refine lv_aloadN hx hb dX11_shift_19 (lv_at hl 0 rfl) ?_
      refine lv_ifnonnullN hx hb dX11_shift_21 ?_
      refine lv_iconst (v := (-1)) hx hb dX11_shift_24 (by decide) ?_
      have hP9 := hP.sub (ws' := []) [] rfl
      have hD9 := hD.sub (ws' := []) [] (by decide) rfl
      have hK9 := hK.sub (tys' := []) [] rfl
      exact W.iret (v := (-1)) hx hb hr (fun t ht hW => ⟨⟨(-1), (), rfl, by first | rfl | ((repeat' split) <;> first | rfl | (exfalso; omega) | (exact Int32.toInt_inj.mp (by show ((-1) : Int) = _; omega))), by rw [ht]; exact hP9, va_K.moved hW.alike hK9, hD9⟩, hS.F ht⟩) hS.2.2 dX11_shift_25
    · skip
      refine W.eq (g2 := F0 m 12 ls [.null]) rfl ?_
      refine lv_astoreN (lv' := [(7, .null), (6, .ref h4), (0, .ref h0), (1, .int p0), (2, .int p1), (3, .int p2), (4, .int p3), (5, .int p4)]) hx hb dX11_shift_12 hl (by decide) rfl (fun ls hl => ?_)
      refine lv_aload hx hb dX11_shift_14 (lv_at hl 1 rfl) ?_
      refine lv_ifnull hx hb dX11_shift_16 ?_
      refine lv_aloadN hx hb dX11_shift_19 (lv_at hl 0 rfl) ?_
      refine lv_ifnonnullN hx hb dX11_shift_21 ?_
      refine lv_iconst (v := (-1)) hx hb dX11_shift_24 (by decide) ?_
      have hP9 := hP.sub (ws' := []) [] rfl
      have hD9 := hD.sub (ws' := []) [] (by decide) rfl
      have hK9 := hK.sub (tys' := []) [] rfl
      exact W.iret (v := (-1)) hx hb hr (fun t ht hW => ⟨⟨(-1), (), rfl, by first | rfl | ((repeat' split) <;> first | rfl | (exfalso; omega) | (exact Int32.toInt_inj.mp (by show ((-1) : Int) = _; omega))), by rw [ht]; exact hP9, va_K.moved hW.alike hK9, hD9⟩, hS.F ht⟩) hS.2.2 dX11_shift_25
    · skip
      refine W.eq (g2 := F0 m 12 ls [.ref h2]) rfl ?_
      refine lv_astore (lv' := [(7, .ref h2), (6, .ref h4), (0, .ref h0), (1, .int p0), (2, .int p1), (3, .int p2), (4, .int p3), (5, .int p4)]) hx hb dX11_shift_12 hl (by decide) rfl (fun ls hl => ?_)
      refine lv_aload hx hb dX11_shift_14 (lv_at hl 1 rfl) ?_
      refine lv_ifnull hx hb dX11_shift_16 ?_
      refine lv_aload hx hb dX11_shift_19 (lv_at hl 0 rfl) ?_
      refine lv_ifnonnull (tgt := 26) hx hb dX11_shift_21 (by decide) ?_
      refine lv_aload hx hb dX11_shift_26 (lv_at hl 1 rfl) ?_
      have hPc := hP.sub (ws' := [(h4, .inr (8, [.ref h21, .int (-1), .int 0, .int 0]))]) [2] rfl
      have hDc := hD.sub (ws' := [(h4, .inr (8, [.ref h21, .int (-1), .int 0, .int 0]))]) [2] (by decide) rfl
      have hKc := hK.sub (tys' := []) [] rfl
      have hFc := va_free (wc := [(h4, .inr (8, [.ref h21, .int (-1), .int 0, .int 0]))]) hD hS hA [2] rfl
      refine va_calli (va_runV (As := []) (rest := []) ⟨hx, hb, hml, hown, hts⟩ (k_X8_isEmpty_0 l dC dI h4 h21 H.size) (cwV 0 hts gX11_shift_X8_isEmpty rfl rfl rfl (by decide +kernel) ⟨Nat.le_of_ble_eq_true rfl, Nat.le_of_ble_eq_true rfl⟩) ⟨fun a U g mk q => by obtain ⟨q0, q1, qP, qK, qD⟩ := q; exact ⟨q0, q1, qP, va_K.moved (u := U) (U := U.calling g mk a) (Vm.Alike.refl U.vm) qK, qD⟩, va_recv hKc hPc (ci := 8) (q0 := 0) rfl rfl, fun U hU hW => ⟨rfl, by rw [hU], by rw [hU]; exact hPc, va_K.moved hW.alike hKc, hDc.weaken (fun _ _ _ _ => trivial)⟩⟩ rfl rfl hl.1 rfl (lv_room (Nat.le_of_ble_eq_true rfl)) dX11_shift_28 ⟨Nat.le_of_ble_eq_true rfl, Nat.le_of_ble_eq_true rfl⟩) hS (fun q _ h => hFc q h) hFc (fun r_19 u t H1 locs ht hvm hw hB hz1 hk1 hS => ?_)
      obtain ⟨hP1, hK1, hD1⟩ := hB
      rw [ht] at hP1
      have hK1 := va_K.moved hvm.symm hK1
      obtain ⟨hP, hD⟩ := va_join (wr := [(h2, .inr (8, [.ref h19, .int (-1), .int 0, .int 0])), (h3, .inr (8, [.ref h20, .int (-1), .int 0, .int 0])), (h5, .inr (8, [.ref h22, .int (-1), .int 0, .int 0])), (h6, .inr (8, [.ref h23, .int (-1), .int 0, .int 0])), (h7, .inr (8, [.ref h24, .int (-1), .int 0, .int 0])), (h0, .inr (11, [.ref h8, .int 0, .ref h9, .ref h10, .ref h11, .ref h12, .ref h13, .ref h14, .ref h15, .ref h16, .ref h17, .int 0, .ref h18, .ref h1])), (h1, .inl (cOShelf, 6, .inr (.inr (.inr (.inr (va_up (va_up (va_up (va_up (va_up (va_up (fun _ => none) (0 : Int32).toNatClampNeg (some h2)) (1 : Int32).toNatClampNeg (some h3)) (2 : Int32).toNatClampNeg (some h4)) (3 : Int32).toNatClampNeg (some h5)) (4 : Int32).toNatClampNeg (some h6)) (5 : Int32).toNatClampNeg (some h7)))))))]) (w1 := [(h4, .inr (8, [.ref h21, .int (-1), .int 0, .int 0]))]) hP hD [2] [0, 1, 3, 4, 5, 6, 7] rfl rfl (by decide) (by decide) hk1 hFc hP1 hD1
      generalize H1 = H at hP hS ⊢
      have hP : va_P (dC, dI) vwCl [(h2, .inr (8, [.ref h19, .int (-1), .int 0, .int 0])), (h3, .inr (8, [.ref h20, .int (-1), .int 0, .int 0])), (h5, .inr (8, [.ref h22, .int (-1), .int 0, .int 0])), (h6, .inr (8, [.ref h23, .int (-1), .int 0, .int 0])), (h7, .inr (8, [.ref h24, .int (-1), .int 0, .int 0])), (h0, .inr (11, [.ref h8, .int 0, .ref h9, .ref h10, .ref h11, .ref h12, .ref h13, .ref h14, .ref h15, .ref h16, .ref h17, .int 0, .ref h18, .ref h1])), (h1, .inl (cOShelf, 6, .inr (.inr (.inr (.inr (va_up (va_up (va_up (va_up (va_up (va_up (fun _ => none) (0 : Int32).toNatClampNeg (some h2)) (1 : Int32).toNatClampNeg (some h3)) (2 : Int32).toNatClampNeg (some h4)) (3 : Int32).toNatClampNeg (some h5)) (4 : Int32).toNatClampNeg (some h6)) (5 : Int32).toNatClampNeg (some h7))))))), (h4, .inr (8, [.ref h21, .int (-1), .int 0, .int 0]))] H := hP
      have hD : va_D A [(h2, .inr (8, [.ref h19, .int (-1), .int 0, .int 0])), (h3, .inr (8, [.ref h20, .int (-1), .int 0, .int 0])), (h5, .inr (8, [.ref h22, .int (-1), .int 0, .int 0])), (h6, .inr (8, [.ref h23, .int (-1), .int 0, .int 0])), (h7, .inr (8, [.ref h24, .int (-1), .int 0, .int 0])), (h0, .inr (11, [.ref h8, .int 0, .ref h9, .ref h10, .ref h11, .ref h12, .ref h13, .ref h14, .ref h15, .ref h16, .ref h17, .int 0, .ref h18, .ref h1])), (h1, .inl (cOShelf, 6, .inr (.inr (.inr (.inr (va_up (va_up (va_up (va_up (va_up (va_up (fun _ => none) (0 : Int32).toNatClampNeg (some h2)) (1 : Int32).toNatClampNeg (some h3)) (2 : Int32).toNatClampNeg (some h4)) (3 : Int32).toNatClampNeg (some h5)) (4 : Int32).toNatClampNeg (some h6)) (5 : Int32).toNatClampNeg (some h7))))))), (h4, .inr (8, [.ref h21, .int (-1), .int 0, .int 0]))] := hD
      obtain rfl := hw
      refine lv_if_ne (tgt := 42) hx hb dX11_shift_31 (by decide) (fun _ => ?_) (fun c => absurd c (by decide))
      refine lv_bipush (v := (-11)) hx hb dX11_shift_42 (by decide) ?_
      have hP9 := hP.sub (ws' := []) [] rfl
      have hD9 := hD.sub (ws' := []) [] (by decide) rfl
      have hK9 := hK.sub (tys' := []) [] rfl
      exact W.iret (v := (-11)) hx hb hr (fun t ht hW => ⟨⟨(-11), (), rfl, by first | rfl | ((repeat' split) <;> first | rfl | (exfalso; omega) | (exact Int32.toInt_inj.mp (by show ((-11) : Int) = _; omega))), by rw [ht]; exact hP9, va_K.moved hW.alike hK9, hD9⟩, hS.F ht⟩) hS.2.2 dX11_shift_44
    · skip
      refine W.eq (g2 := F0 m 12 ls [.ref h3]) rfl ?_
      refine lv_astore (lv' := [(7, .ref h3), (6, .ref h4), (0, .ref h0), (1, .int p0), (2, .int p1), (3, .int p2), (4, .int p3), (5, .int p4)]) hx hb dX11_shift_12 hl (by decide) rfl (fun ls hl => ?_)
      refine lv_aload hx hb dX11_shift_14 (lv_at hl 1 rfl) ?_
      refine lv_ifnull hx hb dX11_shift_16 ?_
      refine lv_aload hx hb dX11_shift_19 (lv_at hl 0 rfl) ?_
      refine lv_ifnonnull (tgt := 26) hx hb dX11_shift_21 (by decide) ?_
      refine lv_aload hx hb dX11_shift_26 (lv_at hl 1 rfl) ?_
      have hPc := hP.sub (ws' := [(h4, .inr (8, [.ref h21, .int (-1), .int 0, .int 0]))]) [2] rfl
      have hDc := hD.sub (ws' := [(h4, .inr (8, [.ref h21, .int (-1), .int 0, .int 0]))]) [2] (by decide) rfl
      have hKc := hK.sub (tys' := []) [] rfl
      have hFc := va_free (wc := [(h4, .inr (8, [.ref h21, .int (-1), .int 0, .int 0]))]) hD hS hA [2] rfl
      refine va_calli (va_runV (As := []) (rest := []) ⟨hx, hb, hml, hown, hts⟩ (k_X8_isEmpty_0 l dC dI h4 h21 H.size) (cwV 0 hts gX11_shift_X8_isEmpty rfl rfl rfl (by decide +kernel) ⟨Nat.le_of_ble_eq_true rfl, Nat.le_of_ble_eq_true rfl⟩) ⟨fun a U g mk q => by obtain ⟨q0, q1, qP, qK, qD⟩ := q; exact ⟨q0, q1, qP, va_K.moved (u := U) (U := U.calling g mk a) (Vm.Alike.refl U.vm) qK, qD⟩, va_recv hKc hPc (ci := 8) (q0 := 0) rfl rfl, fun U hU hW => ⟨rfl, by rw [hU], by rw [hU]; exact hPc, va_K.moved hW.alike hKc, hDc.weaken (fun _ _ _ _ => trivial)⟩⟩ rfl rfl hl.1 rfl (lv_room (Nat.le_of_ble_eq_true rfl)) dX11_shift_28 ⟨Nat.le_of_ble_eq_true rfl, Nat.le_of_ble_eq_true rfl⟩) hS (fun q _ h => hFc q h) hFc (fun r_20 u t H1 locs ht hvm hw hB hz1 hk1 hS => ?_)
      obtain ⟨hP1, hK1, hD1⟩ := hB
      rw [ht] at hP1
      have hK1 := va_K.moved hvm.symm hK1
      obtain ⟨hP, hD⟩ := va_join (wr := [(h2, .inr (8, [.ref h19, .int (-1), .int 0, .int 0])), (h3, .inr (8, [.ref h20, .int (-1), .int 0, .int 0])), (h5, .inr (8, [.ref h22, .int (-1), .int 0, .int 0])), (h6, .inr (8, [.ref h23, .int (-1), .int 0, .int 0])), (h7, .inr (8, [.ref h24, .int (-1), .int 0, .int 0])), (h0, .inr (11, [.ref h8, .int 0, .ref h9, .ref h10, .ref h11, .ref h12, .ref h13, .ref h14, .ref h15, .ref h16, .ref h17, .int 0, .ref h18, .ref h1])), (h1, .inl (cOShelf, 6, .inr (.inr (.inr (.inr (va_up (va_up (va_up (va_up (va_up (va_up (fun _ => none) (0 : Int32).toNatClampNeg (some h2)) (1 : Int32).toNatClampNeg (some h3)) (2 : Int32).toNatClampNeg (some h4)) (3 : Int32).toNatClampNeg (some h5)) (4 : Int32).toNatClampNeg (some h6)) (5 : Int32).toNatClampNeg (some h7)))))))]) (w1 := [(h4, .inr (8, [.ref h21, .int (-1), .int 0, .int 0]))]) hP hD [2] [0, 1, 3, 4, 5, 6, 7] rfl rfl (by decide) (by decide) hk1 hFc hP1 hD1
      generalize H1 = H at hP hS ⊢
      have hP : va_P (dC, dI) vwCl [(h2, .inr (8, [.ref h19, .int (-1), .int 0, .int 0])), (h3, .inr (8, [.ref h20, .int (-1), .int 0, .int 0])), (h5, .inr (8, [.ref h22, .int (-1), .int 0, .int 0])), (h6, .inr (8, [.ref h23, .int (-1), .int 0, .int 0])), (h7, .inr (8, [.ref h24, .int (-1), .int 0, .int 0])), (h0, .inr (11, [.ref h8, .int 0, .ref h9, .ref h10, .ref h11, .ref h12, .ref h13, .ref h14, .ref h15, .ref h16, .ref h17, .int 0, .ref h18, .ref h1])), (h1, .inl (cOShelf, 6, .inr (.inr (.inr (.inr (va_up (va_up (va_up (va_up (va_up (va_up (fun _ => none) (0 : Int32).toNatClampNeg (some h2)) (1 : Int32).toNatClampNeg (some h3)) (2 : Int32).toNatClampNeg (some h4)) (3 : Int32).toNatClampNeg (some h5)) (4 : Int32).toNatClampNeg (some h6)) (5 : Int32).toNatClampNeg (some h7))))))), (h4, .inr (8, [.ref h21, .int (-1), .int 0, .int 0]))] H := hP
      have hD : va_D A [(h2, .inr (8, [.ref h19, .int (-1), .int 0, .int 0])), (h3, .inr (8, [.ref h20, .int (-1), .int 0, .int 0])), (h5, .inr (8, [.ref h22, .int (-1), .int 0, .int 0])), (h6, .inr (8, [.ref h23, .int (-1), .int 0, .int 0])), (h7, .inr (8, [.ref h24, .int (-1), .int 0, .int 0])), (h0, .inr (11, [.ref h8, .int 0, .ref h9, .ref h10, .ref h11, .ref h12, .ref h13, .ref h14, .ref h15, .ref h16, .ref h17, .int 0, .ref h18, .ref h1])), (h1, .inl (cOShelf, 6, .inr (.inr (.inr (.inr (va_up (va_up (va_up (va_up (va_up (va_up (fun _ => none) (0 : Int32).toNatClampNeg (some h2)) (1 : Int32).toNatClampNeg (some h3)) (2 : Int32).toNatClampNeg (some h4)) (3 : Int32).toNatClampNeg (some h5)) (4 : Int32).toNatClampNeg (some h6)) (5 : Int32).toNatClampNeg (some h7))))))), (h4, .inr (8, [.ref h21, .int (-1), .int 0, .int 0]))] := hD
      obtain rfl := hw
      refine lv_if_ne (tgt := 42) hx hb dX11_shift_31 (by decide) (fun _ => ?_) (fun c => absurd c (by decide))
      refine lv_bipush (v := (-11)) hx hb dX11_shift_42 (by decide) ?_
      have hP9 := hP.sub (ws' := []) [] rfl
      have hD9 := hD.sub (ws' := []) [] (by decide) rfl
      have hK9 := hK.sub (tys' := []) [] rfl
      exact W.iret (v := (-11)) hx hb hr (fun t ht hW => ⟨⟨(-11), (), rfl, by first | rfl | ((repeat' split) <;> first | rfl | (exfalso; omega) | (exact Int32.toInt_inj.mp (by show ((-11) : Int) = _; omega))), by rw [ht]; exact hP9, va_K.moved hW.alike hK9, hD9⟩, hS.F ht⟩) hS.2.2 dX11_shift_44
    · skip
      refine W.eq (g2 := F0 m 12 ls [.ref h4]) rfl ?_
      refine lv_astore (lv' := [(7, .ref h4), (6, .ref h4), (0, .ref h0), (1, .int p0), (2, .int p1), (3, .int p2), (4, .int p3), (5, .int p4)]) hx hb dX11_shift_12 hl (by decide) rfl (fun ls hl => ?_)
      refine lv_aload hx hb dX11_shift_14 (lv_at hl 1 rfl) ?_
      refine lv_ifnull hx hb dX11_shift_16 ?_
      refine lv_aload hx hb dX11_shift_19 (lv_at hl 0 rfl) ?_
      refine lv_ifnonnull (tgt := 26) hx hb dX11_shift_21 (by decide) ?_
      refine lv_aload hx hb dX11_shift_26 (lv_at hl 1 rfl) ?_
      have hPc := hP.sub (ws' := [(h4, .inr (8, [.ref h21, .int (-1), .int 0, .int 0]))]) [2] rfl
      have hDc := hD.sub (ws' := [(h4, .inr (8, [.ref h21, .int (-1), .int 0, .int 0]))]) [2] (by decide) rfl
      have hKc := hK.sub (tys' := []) [] rfl
      have hFc := va_free (wc := [(h4, .inr (8, [.ref h21, .int (-1), .int 0, .int 0]))]) hD hS hA [2] rfl
      refine va_calli (va_runV (As := []) (rest := []) ⟨hx, hb, hml, hown, hts⟩ (k_X8_isEmpty_0 l dC dI h4 h21 H.size) (cwV 0 hts gX11_shift_X8_isEmpty rfl rfl rfl (by decide +kernel) ⟨Nat.le_of_ble_eq_true rfl, Nat.le_of_ble_eq_true rfl⟩) ⟨fun a U g mk q => by obtain ⟨q0, q1, qP, qK, qD⟩ := q; exact ⟨q0, q1, qP, va_K.moved (u := U) (U := U.calling g mk a) (Vm.Alike.refl U.vm) qK, qD⟩, va_recv hKc hPc (ci := 8) (q0 := 0) rfl rfl, fun U hU hW => ⟨rfl, by rw [hU], by rw [hU]; exact hPc, va_K.moved hW.alike hKc, hDc.weaken (fun _ _ _ _ => trivial)⟩⟩ rfl rfl hl.1 rfl (lv_room (Nat.le_of_ble_eq_true rfl)) dX11_shift_28 ⟨Nat.le_of_ble_eq_true rfl, Nat.le_of_ble_eq_true rfl⟩) hS (fun q _ h => hFc q h) hFc (fun r_21 u t H1 locs ht hvm hw hB hz1 hk1 hS => ?_)
      obtain ⟨hP1, hK1, hD1⟩ := hB
      rw [ht] at hP1
      have hK1 := va_K.moved hvm.symm hK1
      obtain ⟨hP, hD⟩ := va_join (wr := [(h2, .inr (8, [.ref h19, .int (-1), .int 0, .int 0])), (h3, .inr (8, [.ref h20, .int (-1), .int 0, .int 0])), (h5, .inr (8, [.ref h22, .int (-1), .int 0, .int 0])), (h6, .inr (8, [.ref h23, .int (-1), .int 0, .int 0])), (h7, .inr (8, [.ref h24, .int (-1), .int 0, .int 0])), (h0, .inr (11, [.ref h8, .int 0, .ref h9, .ref h10, .ref h11, .ref h12, .ref h13, .ref h14, .ref h15, .ref h16, .ref h17, .int 0, .ref h18, .ref h1])), (h1, .inl (cOShelf, 6, .inr (.inr (.inr (.inr (va_up (va_up (va_up (va_up (va_up (va_up (fun _ => none) (0 : Int32).toNatClampNeg (some h2)) (1 : Int32).toNatClampNeg (some h3)) (2 : Int32).toNatClampNeg (some h4)) (3 : Int32).toNatClampNeg (some h5)) (4 : Int32).toNatClampNeg (some h6)) (5 : Int32).toNatClampNeg (some h7)))))))]) (w1 := [(h4, .inr (8, [.ref h21, .int (-1), .int 0, .int 0]))]) hP hD [2] [0, 1, 3, 4, 5, 6, 7] rfl rfl (by decide) (by decide) hk1 hFc hP1 hD1
      generalize H1 = H at hP hS ⊢
      have hP : va_P (dC, dI) vwCl [(h2, .inr (8, [.ref h19, .int (-1), .int 0, .int 0])), (h3, .inr (8, [.ref h20, .int (-1), .int 0, .int 0])), (h5, .inr (8, [.ref h22, .int (-1), .int 0, .int 0])), (h6, .inr (8, [.ref h23, .int (-1), .int 0, .int 0])), (h7, .inr (8, [.ref h24, .int (-1), .int 0, .int 0])), (h0, .inr (11, [.ref h8, .int 0, .ref h9, .ref h10, .ref h11, .ref h12, .ref h13, .ref h14, .ref h15, .ref h16, .ref h17, .int 0, .ref h18, .ref h1])), (h1, .inl (cOShelf, 6, .inr (.inr (.inr (.inr (va_up (va_up (va_up (va_up (va_up (va_up (fun _ => none) (0 : Int32).toNatClampNeg (some h2)) (1 : Int32).toNatClampNeg (some h3)) (2 : Int32).toNatClampNeg (some h4)) (3 : Int32).toNatClampNeg (some h5)) (4 : Int32).toNatClampNeg (some h6)) (5 : Int32).toNatClampNeg (some h7))))))), (h4, .inr (8, [.ref h21, .int (-1), .int 0, .int 0]))] H := hP
      have hD : va_D A [(h2, .inr (8, [.ref h19, .int (-1), .int 0, .int 0])), (h3, .inr (8, [.ref h20, .int (-1), .int 0, .int 0])), (h5, .inr (8, [.ref h22, .int (-1), .int 0, .int 0])), (h6, .inr (8, [.ref h23, .int (-1), .int 0, .int 0])), (h7, .inr (8, [.ref h24, .int (-1), .int 0, .int 0])), (h0, .inr (11, [.ref h8, .int 0, .ref h9, .ref h10, .ref h11, .ref h12, .ref h13, .ref h14, .ref h15, .ref h16, .ref h17, .int 0, .ref h18, .ref h1])), (h1, .inl (cOShelf, 6, .inr (.inr (.inr (.inr (va_up (va_up (va_up (va_up (va_up (va_up (fun _ => none) (0 : Int32).toNatClampNeg (some h2)) (1 : Int32).toNatClampNeg (some h3)) (2 : Int32).toNatClampNeg (some h4)) (3 : Int32).toNatClampNeg (some h5)) (4 : Int32).toNatClampNeg (some h6)) (5 : Int32).toNatClampNeg (some h7))))))), (h4, .inr (8, [.ref h21, .int (-1), .int 0, .int 0]))] := hD
      obtain rfl := hw
      refine lv_if_ne (tgt := 42) hx hb dX11_shift_31 (by decide) (fun _ => ?_) (fun c => absurd c (by decide))
      refine lv_bipush (v := (-11)) hx hb dX11_shift_42 (by decide) ?_
      have hP9 := hP.sub (ws' := []) [] rfl
      have hD9 := hD.sub (ws' := []) [] (by decide) rfl
      have hK9 := hK.sub (tys' := []) [] rfl
      exact W.iret (v := (-11)) hx hb hr (fun t ht hW => ⟨⟨(-11), (), rfl, by first | rfl | ((repeat' split) <;> first | rfl | (exfalso; omega) | (exact Int32.toInt_inj.mp (by show ((-11) : Int) = _; omega))), by rw [ht]; exact hP9, va_K.moved hW.alike hK9, hD9⟩, hS.F ht⟩) hS.2.2 dX11_shift_44
    · skip
      refine W.eq (g2 := F0 m 12 ls [.ref h5]) rfl ?_
      refine lv_astore (lv' := [(7, .ref h5), (6, .ref h4), (0, .ref h0), (1, .int p0), (2, .int p1), (3, .int p2), (4, .int p3), (5, .int p4)]) hx hb dX11_shift_12 hl (by decide) rfl (fun ls hl => ?_)
      refine lv_aload hx hb dX11_shift_14 (lv_at hl 1 rfl) ?_
      refine lv_ifnull hx hb dX11_shift_16 ?_
      refine lv_aload hx hb dX11_shift_19 (lv_at hl 0 rfl) ?_
      refine lv_ifnonnull (tgt := 26) hx hb dX11_shift_21 (by decide) ?_
      refine lv_aload hx hb dX11_shift_26 (lv_at hl 1 rfl) ?_
      have hPc := hP.sub (ws' := [(h4, .inr (8, [.ref h21, .int (-1), .int 0, .int 0]))]) [2] rfl
      have hDc := hD.sub (ws' := [(h4, .inr (8, [.ref h21, .int (-1), .int 0, .int 0]))]) [2] (by decide) rfl
      have hKc := hK.sub (tys' := []) [] rfl
      have hFc := va_free (wc := [(h4, .inr (8, [.ref h21, .int (-1), .int 0, .int 0]))]) hD hS hA [2] rfl
      refine va_calli (va_runV (As := []) (rest := []) ⟨hx, hb, hml, hown, hts⟩ (k_X8_isEmpty_0 l dC dI h4 h21 H.size) (cwV 0 hts gX11_shift_X8_isEmpty rfl rfl rfl (by decide +kernel) ⟨Nat.le_of_ble_eq_true rfl, Nat.le_of_ble_eq_true rfl⟩) ⟨fun a U g mk q => by obtain ⟨q0, q1, qP, qK, qD⟩ := q; exact ⟨q0, q1, qP, va_K.moved (u := U) (U := U.calling g mk a) (Vm.Alike.refl U.vm) qK, qD⟩, va_recv hKc hPc (ci := 8) (q0 := 0) rfl rfl, fun U hU hW => ⟨rfl, by rw [hU], by rw [hU]; exact hPc, va_K.moved hW.alike hKc, hDc.weaken (fun _ _ _ _ => trivial)⟩⟩ rfl rfl hl.1 rfl (lv_room (Nat.le_of_ble_eq_true rfl)) dX11_shift_28 ⟨Nat.le_of_ble_eq_true rfl, Nat.le_of_ble_eq_true rfl⟩) hS (fun q _ h => hFc q h) hFc (fun r_22 u t H1 locs ht hvm hw hB hz1 hk1 hS => ?_)
      obtain ⟨hP1, hK1, hD1⟩ := hB
      rw [ht] at hP1
      have hK1 := va_K.moved hvm.symm hK1
      obtain ⟨hP, hD⟩ := va_join (wr := [(h2, .inr (8, [.ref h19, .int (-1), .int 0, .int 0])), (h3, .inr (8, [.ref h20, .int (-1), .int 0, .int 0])), (h5, .inr (8, [.ref h22, .int (-1), .int 0, .int 0])), (h6, .inr (8, [.ref h23, .int (-1), .int 0, .int 0])), (h7, .inr (8, [.ref h24, .int (-1), .int 0, .int 0])), (h0, .inr (11, [.ref h8, .int 0, .ref h9, .ref h10, .ref h11, .ref h12, .ref h13, .ref h14, .ref h15, .ref h16, .ref h17, .int 0, .ref h18, .ref h1])), (h1, .inl (cOShelf, 6, .inr (.inr (.inr (.inr (va_up (va_up (va_up (va_up (va_up (va_up (fun _ => none) (0 : Int32).toNatClampNeg (some h2)) (1 : Int32).toNatClampNeg (some h3)) (2 : Int32).toNatClampNeg (some h4)) (3 : Int32).toNatClampNeg (some h5)) (4 : Int32).toNatClampNeg (some h6)) (5 : Int32).toNatClampNeg (some h7)))))))]) (w1 := [(h4, .inr (8, [.ref h21, .int (-1), .int 0, .int 0]))]) hP hD [2] [0, 1, 3, 4, 5, 6, 7] rfl rfl (by decide) (by decide) hk1 hFc hP1 hD1
      generalize H1 = H at hP hS ⊢
      have hP : va_P (dC, dI) vwCl [(h2, .inr (8, [.ref h19, .int (-1), .int 0, .int 0])), (h3, .inr (8, [.ref h20, .int (-1), .int 0, .int 0])), (h5, .inr (8, [.ref h22, .int (-1), .int 0, .int 0])), (h6, .inr (8, [.ref h23, .int (-1), .int 0, .int 0])), (h7, .inr (8, [.ref h24, .int (-1), .int 0, .int 0])), (h0, .inr (11, [.ref h8, .int 0, .ref h9, .ref h10, .ref h11, .ref h12, .ref h13, .ref h14, .ref h15, .ref h16, .ref h17, .int 0, .ref h18, .ref h1])), (h1, .inl (cOShelf, 6, .inr (.inr (.inr (.inr (va_up (va_up (va_up (va_up (va_up (va_up (fun _ => none) (0 : Int32).toNatClampNeg (some h2)) (1 : Int32).toNatClampNeg (some h3)) (2 : Int32).toNatClampNeg (some h4)) (3 : Int32).toNatClampNeg (some h5)) (4 : Int32).toNatClampNeg (some h6)) (5 : Int32).toNatClampNeg (some h7))))))), (h4, .inr (8, [.ref h21, .int (-1), .int 0, .int 0]))] H := hP
      have hD : va_D A [(h2, .inr (8, [.ref h19, .int (-1), .int 0, .int 0])), (h3, .inr (8, [.ref h20, .int (-1), .int 0, .int 0])), (h5, .inr (8, [.ref h22, .int (-1), .int 0, .int 0])), (h6, .inr (8, [.ref h23, .int (-1), .int 0, .int 0])), (h7, .inr (8, [.ref h24, .int (-1), .int 0, .int 0])), (h0, .inr (11, [.ref h8, .int 0, .ref h9, .ref h10, .ref h11, .ref h12, .ref h13, .ref h14, .ref h15, .ref h16, .ref h17, .int 0, .ref h18, .ref h1])), (h1, .inl (cOShelf, 6, .inr (.inr (.inr (.inr (va_up (va_up (va_up (va_up (va_up (va_up (fun _ => none) (0 : Int32).toNatClampNeg (some h2)) (1 : Int32).toNatClampNeg (some h3)) (2 : Int32).toNatClampNeg (some h4)) (3 : Int32).toNatClampNeg (some h5)) (4 : Int32).toNatClampNeg (some h6)) (5 : Int32).toNatClampNeg (some h7))))))), (h4, .inr (8, [.ref h21, .int (-1), .int 0, .int 0]))] := hD
      obtain rfl := hw
      refine lv_if_ne (tgt := 42) hx hb dX11_shift_31 (by decide) (fun _ => ?_) (fun c => absurd c (by decide))
      refine lv_bipush (v := (-11)) hx hb dX11_shift_42 (by decide) ?_
      have hP9 := hP.sub (ws' := []) [] rfl
      have hD9 := hD.sub (ws' := []) [] (by decide) rfl
      have hK9 := hK.sub (tys' := []) [] rfl
      exact W.iret (v := (-11)) hx hb hr (fun t ht hW => ⟨⟨(-11), (), rfl, by first | rfl | ((repeat' split) <;> first | rfl | (exfalso; omega) | (exact Int32.toInt_inj.mp (by show ((-11) : Int) = _; omega))), by rw [ht]; exact hP9, va_K.moved hW.alike hK9, hD9⟩, hS.F ht⟩) hS.2.2 dX11_shift_44
    · skip
      refine W.eq (g2 := F0 m 12 ls [.ref h6]) rfl ?_
      refine lv_astore (lv' := [(7, .ref h6), (6, .ref h4), (0, .ref h0), (1, .int p0), (2, .int p1), (3, .int p2), (4, .int p3), (5, .int p4)]) hx hb dX11_shift_12 hl (by decide) rfl (fun ls hl => ?_)
      refine lv_aload hx hb dX11_shift_14 (lv_at hl 1 rfl) ?_
      refine lv_ifnull hx hb dX11_shift_16 ?_
      refine lv_aload hx hb dX11_shift_19 (lv_at hl 0 rfl) ?_
      refine lv_ifnonnull (tgt := 26) hx hb dX11_shift_21 (by decide) ?_
      refine lv_aload hx hb dX11_shift_26 (lv_at hl 1 rfl) ?_
      have hPc := hP.sub (ws' := [(h4, .inr (8, [.ref h21, .int (-1), .int 0, .int 0]))]) [2] rfl
      have hDc := hD.sub (ws' := [(h4, .inr (8, [.ref h21, .int (-1), .int 0, .int 0]))]) [2] (by decide) rfl
      have hKc := hK.sub (tys' := []) [] rfl
      have hFc := va_free (wc := [(h4, .inr (8, [.ref h21, .int (-1), .int 0, .int 0]))]) hD hS hA [2] rfl
      refine va_calli (va_runV (As := []) (rest := []) ⟨hx, hb, hml, hown, hts⟩ (k_X8_isEmpty_0 l dC dI h4 h21 H.size) (cwV 0 hts gX11_shift_X8_isEmpty rfl rfl rfl (by decide +kernel) ⟨Nat.le_of_ble_eq_true rfl, Nat.le_of_ble_eq_true rfl⟩) ⟨fun a U g mk q => by obtain ⟨q0, q1, qP, qK, qD⟩ := q; exact ⟨q0, q1, qP, va_K.moved (u := U) (U := U.calling g mk a) (Vm.Alike.refl U.vm) qK, qD⟩, va_recv hKc hPc (ci := 8) (q0 := 0) rfl rfl, fun U hU hW => ⟨rfl, by rw [hU], by rw [hU]; exact hPc, va_K.moved hW.alike hKc, hDc.weaken (fun _ _ _ _ => trivial)⟩⟩ rfl rfl hl.1 rfl (lv_room (Nat.le_of_ble_eq_true rfl)) dX11_shift_28 ⟨Nat.le_of_ble_eq_true rfl, Nat.le_of_ble_eq_true rfl⟩) hS (fun q _ h => hFc q h) hFc (fun r_23 u t H1 locs ht hvm hw hB hz1 hk1 hS => ?_)
      obtain ⟨hP1, hK1, hD1⟩ := hB
      rw [ht] at hP1
      have hK1 := va_K.moved hvm.symm hK1
      obtain ⟨hP, hD⟩ := va_join (wr := [(h2, .inr (8, [.ref h19, .int (-1), .int 0, .int 0])), (h3, .inr (8, [.ref h20, .int (-1), .int 0, .int 0])), (h5, .inr (8, [.ref h22, .int (-1), .int 0, .int 0])), (h6, .inr (8, [.ref h23, .int (-1), .int 0, .int 0])), (h7, .inr (8, [.ref h24, .int (-1), .int 0, .int 0])), (h0, .inr (11, [.ref h8, .int 0, .ref h9, .ref h10, .ref h11, .ref h12, .ref h13, .ref h14, .ref h15, .ref h16, .ref h17, .int 0, .ref h18, .ref h1])), (h1, .inl (cOShelf, 6, .inr (.inr (.inr (.inr (va_up (va_up (va_up (va_up (va_up (va_up (fun _ => none) (0 : Int32).toNatClampNeg (some h2)) (1 : Int32).toNatClampNeg (some h3)) (2 : Int32).toNatClampNeg (some h4)) (3 : Int32).toNatClampNeg (some h5)) (4 : Int32).toNatClampNeg (some h6)) (5 : Int32).toNatClampNeg (some h7)))))))]) (w1 := [(h4, .inr (8, [.ref h21, .int (-1), .int 0, .int 0]))]) hP hD [2] [0, 1, 3, 4, 5, 6, 7] rfl rfl (by decide) (by decide) hk1 hFc hP1 hD1
      generalize H1 = H at hP hS ⊢
      have hP : va_P (dC, dI) vwCl [(h2, .inr (8, [.ref h19, .int (-1), .int 0, .int 0])), (h3, .inr (8, [.ref h20, .int (-1), .int 0, .int 0])), (h5, .inr (8, [.ref h22, .int (-1), .int 0, .int 0])), (h6, .inr (8, [.ref h23, .int (-1), .int 0, .int 0])), (h7, .inr (8, [.ref h24, .int (-1), .int 0, .int 0])), (h0, .inr (11, [.ref h8, .int 0, .ref h9, .ref h10, .ref h11, .ref h12, .ref h13, .ref h14, .ref h15, .ref h16, .ref h17, .int 0, .ref h18, .ref h1])), (h1, .inl (cOShelf, 6, .inr (.inr (.inr (.inr (va_up (va_up (va_up (va_up (va_up (va_up (fun _ => none) (0 : Int32).toNatClampNeg (some h2)) (1 : Int32).toNatClampNeg (some h3)) (2 : Int32).toNatClampNeg (some h4)) (3 : Int32).toNatClampNeg (some h5)) (4 : Int32).toNatClampNeg (some h6)) (5 : Int32).toNatClampNeg (some h7))))))), (h4, .inr (8, [.ref h21, .int (-1), .int 0, .int 0]))] H := hP
      have hD : va_D A [(h2, .inr (8, [.ref h19, .int (-1), .int 0, .int 0])), (h3, .inr (8, [.ref h20, .int (-1), .int 0, .int 0])), (h5, .inr (8, [.ref h22, .int (-1), .int 0, .int 0])), (h6, .inr (8, [.ref h23, .int (-1), .int 0, .int 0])), (h7, .inr (8, [.ref h24, .int (-1), .int 0, .int 0])), (h0, .inr (11, [.ref h8, .int 0, .ref h9, .ref h10, .ref h11, .ref h12, .ref h13, .ref h14, .ref h15, .ref h16, .ref h17, .int 0, .ref h18, .ref h1])), (h1, .inl (cOShelf, 6, .inr (.inr (.inr (.inr (va_up (va_up (va_up (va_up (va_up (va_up (fun _ => none) (0 : Int32).toNatClampNeg (some h2)) (1 : Int32).toNatClampNeg (some h3)) (2 : Int32).toNatClampNeg (some h4)) (3 : Int32).toNatClampNeg (some h5)) (4 : Int32).toNatClampNeg (some h6)) (5 : Int32).toNatClampNeg (some h7))))))), (h4, .inr (8, [.ref h21, .int (-1), .int 0, .int 0]))] := hD
      obtain rfl := hw
      refine lv_if_ne (tgt := 42) hx hb dX11_shift_31 (by decide) (fun _ => ?_) (fun c => absurd c (by decide))
      refine lv_bipush (v := (-11)) hx hb dX11_shift_42 (by decide) ?_
      have hP9 := hP.sub (ws' := []) [] rfl
      have hD9 := hD.sub (ws' := []) [] (by decide) rfl
      have hK9 := hK.sub (tys' := []) [] rfl
      exact W.iret (v := (-11)) hx hb hr (fun t ht hW => ⟨⟨(-11), (), rfl, by first | rfl | ((repeat' split) <;> first | rfl | (exfalso; omega) | (exact Int32.toInt_inj.mp (by show ((-11) : Int) = _; omega))), by rw [ht]; exact hP9, va_K.moved hW.alike hK9, hD9⟩, hS.F ht⟩) hS.2.2 dX11_shift_44
    · skip
      refine W.eq (g2 := F0 m 12 ls [.ref h7]) rfl ?_
      refine lv_astore (lv' := [(7, .ref h7), (6, .ref h4), (0, .ref h0), (1, .int p0), (2, .int p1), (3, .int p2), (4, .int p3), (5, .int p4)]) hx hb dX11_shift_12 hl (by decide) rfl (fun ls hl => ?_)
      refine lv_aload hx hb dX11_shift_14 (lv_at hl 1 rfl) ?_
      refine lv_ifnull hx hb dX11_shift_16 ?_
      refine lv_aload hx hb dX11_shift_19 (lv_at hl 0 rfl) ?_
      refine lv_ifnonnull (tgt := 26) hx hb dX11_shift_21 (by decide) ?_
      refine lv_aload hx hb dX11_shift_26 (lv_at hl 1 rfl) ?_
      have hPc := hP.sub (ws' := [(h4, .inr (8, [.ref h21, .int (-1), .int 0, .int 0]))]) [2] rfl
      have hDc := hD.sub (ws' := [(h4, .inr (8, [.ref h21, .int (-1), .int 0, .int 0]))]) [2] (by decide) rfl
      have hKc := hK.sub (tys' := []) [] rfl
      have hFc := va_free (wc := [(h4, .inr (8, [.ref h21, .int (-1), .int 0, .int 0]))]) hD hS hA [2] rfl
      refine va_calli (va_runV (As := []) (rest := []) ⟨hx, hb, hml, hown, hts⟩ (k_X8_isEmpty_0 l dC dI h4 h21 H.size) (cwV 0 hts gX11_shift_X8_isEmpty rfl rfl rfl (by decide +kernel) ⟨Nat.le_of_ble_eq_true rfl, Nat.le_of_ble_eq_true rfl⟩) ⟨fun a U g mk q => by obtain ⟨q0, q1, qP, qK, qD⟩ := q; exact ⟨q0, q1, qP, va_K.moved (u := U) (U := U.calling g mk a) (Vm.Alike.refl U.vm) qK, qD⟩, va_recv hKc hPc (ci := 8) (q0 := 0) rfl rfl, fun U hU hW => ⟨rfl, by rw [hU], by rw [hU]; exact hPc, va_K.moved hW.alike hKc, hDc.weaken (fun _ _ _ _ => trivial)⟩⟩ rfl rfl hl.1 rfl (lv_room (Nat.le_of_ble_eq_true rfl)) dX11_shift_28 ⟨Nat.le_of_ble_eq_true rfl, Nat.le_of_ble_eq_true rfl⟩) hS (fun q _ h => hFc q h) hFc (fun r_24 u t H1 locs ht hvm hw hB hz1 hk1 hS => ?_)
      obtain ⟨hP1, hK1, hD1⟩ := hB
      rw [ht] at hP1
      have hK1 := va_K.moved hvm.symm hK1
      obtain ⟨hP, hD⟩ := va_join (wr := [(h2, .inr (8, [.ref h19, .int (-1), .int 0, .int 0])), (h3, .inr (8, [.ref h20, .int (-1), .int 0, .int 0])), (h5, .inr (8, [.ref h22, .int (-1), .int 0, .int 0])), (h6, .inr (8, [.ref h23, .int (-1), .int 0, .int 0])), (h7, .inr (8, [.ref h24, .int (-1), .int 0, .int 0])), (h0, .inr (11, [.ref h8, .int 0, .ref h9, .ref h10, .ref h11, .ref h12, .ref h13, .ref h14, .ref h15, .ref h16, .ref h17, .int 0, .ref h18, .ref h1])), (h1, .inl (cOShelf, 6, .inr (.inr (.inr (.inr (va_up (va_up (va_up (va_up (va_up (va_up (fun _ => none) (0 : Int32).toNatClampNeg (some h2)) (1 : Int32).toNatClampNeg (some h3)) (2 : Int32).toNatClampNeg (some h4)) (3 : Int32).toNatClampNeg (some h5)) (4 : Int32).toNatClampNeg (some h6)) (5 : Int32).toNatClampNeg (some h7)))))))]) (w1 := [(h4, .inr (8, [.ref h21, .int (-1), .int 0, .int 0]))]) hP hD [2] [0, 1, 3, 4, 5, 6, 7] rfl rfl (by decide) (by decide) hk1 hFc hP1 hD1
      generalize H1 = H at hP hS ⊢
      have hP : va_P (dC, dI) vwCl [(h2, .inr (8, [.ref h19, .int (-1), .int 0, .int 0])), (h3, .inr (8, [.ref h20, .int (-1), .int 0, .int 0])), (h5, .inr (8, [.ref h22, .int (-1), .int 0, .int 0])), (h6, .inr (8, [.ref h23, .int (-1), .int 0, .int 0])), (h7, .inr (8, [.ref h24, .int (-1), .int 0, .int 0])), (h0, .inr (11, [.ref h8, .int 0, .ref h9, .ref h10, .ref h11, .ref h12, .ref h13, .ref h14, .ref h15, .ref h16, .ref h17, .int 0, .ref h18, .ref h1])), (h1, .inl (cOShelf, 6, .inr (.inr (.inr (.inr (va_up (va_up (va_up (va_up (va_up (va_up (fun _ => none) (0 : Int32).toNatClampNeg (some h2)) (1 : Int32).toNatClampNeg (some h3)) (2 : Int32).toNatClampNeg (some h4)) (3 : Int32).toNatClampNeg (some h5)) (4 : Int32).toNatClampNeg (some h6)) (5 : Int32).toNatClampNeg (some h7))))))), (h4, .inr (8, [.ref h21, .int (-1), .int 0, .int 0]))] H := hP
      have hD : va_D A [(h2, .inr (8, [.ref h19, .int (-1), .int 0, .int 0])), (h3, .inr (8, [.ref h20, .int (-1), .int 0, .int 0])), (h5, .inr (8, [.ref h22, .int (-1), .int 0, .int 0])), (h6, .inr (8, [.ref h23, .int (-1), .int 0, .int 0])), (h7, .inr (8, [.ref h24, .int (-1), .int 0, .int 0])), (h0, .inr (11, [.ref h8, .int 0, .ref h9, .ref h10, .ref h11, .ref h12, .ref h13, .ref h14, .ref h15, .ref h16, .ref h17, .int 0, .ref h18, .ref h1])), (h1, .inl (cOShelf, 6, .inr (.inr (.inr (.inr (va_up (va_up (va_up (va_up (va_up (va_up (fun _ => none) (0 : Int32).toNatClampNeg (some h2)) (1 : Int32).toNatClampNeg (some h3)) (2 : Int32).toNatClampNeg (some h4)) (3 : Int32).toNatClampNeg (some h5)) (4 : Int32).toNatClampNeg (some h6)) (5 : Int32).toNatClampNeg (some h7))))))), (h4, .inr (8, [.ref h21, .int (-1), .int 0, .int 0]))] := hD
      obtain rfl := hw
      refine lv_if_ne (tgt := 42) hx hb dX11_shift_31 (by decide) (fun _ => ?_) (fun c => absurd c (by decide))
      refine lv_bipush (v := (-11)) hx hb dX11_shift_42 (by decide) ?_
      have hP9 := hP.sub (ws' := []) [] rfl
      have hD9 := hD.sub (ws' := []) [] (by decide) rfl
      have hK9 := hK.sub (tys' := []) [] rfl
      exact W.iret (v := (-11)) hx hb hr (fun t ht hW => ⟨⟨(-11), (), rfl, by first | rfl | ((repeat' split) <;> first | rfl | (exfalso; omega) | (exact Int32.toInt_inj.mp (by show ((-11) : Int) = _; omega))), by rw [ht]; exact hP9, va_K.moved hW.alike hK9, hD9⟩, hS.F ht⟩) hS.2.2 dX11_shift_44
  · skip
    refine W.eq (g2 := F0 m 5 ls [.ref h5]) rfl ?_
    refine lv_astore (lv' := [(6, .ref h5), (0, .ref h0), (1, .int p0), (2, .int p1), (3, .int p2), (4, .int p3), (5, .int p4)]) hx hb dX11_shift_5 hl (by decide) rfl (fun ls hl => ?_)
    refine lv_aload_n hx hb dX11_shift_7 rfl (lv_at hl 1 rfl) ?_
    refine lv_iload_n hx hb dX11_shift_8 rfl (lv_at hl 4 rfl) ?_
    have hPc := hP.sub (ws' := [(h0, .inr (11, [.ref h8, .int 0, .ref h9, .ref h10, .ref h11, .ref h12, .ref h13, .ref h14, .ref h15, .ref h16, .ref h17, .int 0, .ref h18, .ref h1])), (h1, .inl (cOShelf, 6, .inr (.inr (.inr (.inr (va_up (va_up (va_up (va_up (va_up (va_up (fun _ => none) (0 : Int32).toNatClampNeg (some h2)) (1 : Int32).toNatClampNeg (some h3)) (2 : Int32).toNatClampNeg (some h4)) (3 : Int32).toNatClampNeg (some h5)) (4 : Int32).toNatClampNeg (some h6)) (5 : Int32).toNatClampNeg (some h7)))))))]) [6, 7] rfl
    have hDc := hD.sub (ws' := [(h0, .inr (11, [.ref h8, .int 0, .ref h9, .ref h10, .ref h11, .ref h12, .ref h13, .ref h14, .ref h15, .ref h16, .ref h17, .int 0, .ref h18, .ref h1])), (h1, .inl (cOShelf, 6, .inr (.inr (.inr (.inr (va_up (va_up (va_up (va_up (va_up (va_up (fun _ => none) (0 : Int32).toNatClampNeg (some h2)) (1 : Int32).toNatClampNeg (some h3)) (2 : Int32).toNatClampNeg (some h4)) (3 : Int32).toNatClampNeg (some h5)) (4 : Int32).toNatClampNeg (some h6)) (5 : Int32).toNatClampNeg (some h7)))))))]) [6, 7] (by decide) rfl
    have hKc := hK.sub (tys' := [(cOShelf, .object "KinkStreet$Shelf")]) [0] rfl
    have hFc := va_free (wc := [(h0, .inr (11, [.ref h8, .int 0, .ref h9, .ref h10, .ref h11, .ref h12, .ref h13, .ref h14, .ref h15, .ref h16, .ref h17, .int 0, .ref h18, .ref h1])), (h1, .inl (cOShelf, 6, .inr (.inr (.inr (.inr (va_up (va_up (va_up (va_up (va_up (va_up (fun _ => none) (0 : Int32).toNatClampNeg (some h2)) (1 : Int32).toNatClampNeg (some h3)) (2 : Int32).toNatClampNeg (some h4)) (3 : Int32).toNatClampNeg (some h5)) (4 : Int32).toNatClampNeg (some h6)) (5 : Int32).toNatClampNeg (some h7)))))))]) hD hS hA [6, 7] rfl
    refine va_callq (va_runV (As := [.int p2]) (rest := []) ⟨hx, hb, hml, hown, hts⟩ (k_X11_knownShelf_0 l dC dI h0 h1 h8 h9 h10 h11 h12 h13 h14 h15 h16 h17 h18 h2 h3 h4 h5 h6 h7 cOShelf H.size p2) (cwV 1 hts gX11_shift_X11_knownShelf rfl rfl rfl (by decide +kernel) ⟨Nat.le_of_ble_eq_true rfl, Nat.le_of_ble_eq_true rfl⟩) ⟨fun a U g mk q => by obtain ⟨q0, q1, qP, qK, qD⟩ := q; exact ⟨q0, q1, qP, va_K.moved (u := U) (U := U.calling g mk a) (Vm.Alike.refl U.vm) qK, qD⟩, va_recv hKc hPc (ci := 11) (q0 := 0) rfl rfl, fun U hU hW => ⟨rfl, by rw [hU], by rw [hU]; exact hPc, va_K.moved hW.alike hKc, hDc.weaken (fun _ _ _ _ => trivial)⟩⟩ rfl rfl hl.1 rfl (lv_room (Nat.le_of_ble_eq_true rfl)) dX11_shift_9 ⟨Nat.le_of_ble_eq_true rfl, Nat.le_of_ble_eq_true rfl⟩) hS (fun q _ h => hFc q h) hFc (fun r_25 u t H1 locs ht hvm hw hB hz1 hk1 hS => ?_)
    obtain ⟨hP1, hK1, hD1⟩ := hB
    rw [ht] at hP1
    have hK1 := va_K.moved hvm.symm hK1
    obtain ⟨hP, hD⟩ := va_join (wr := [(h2, .inr (8, [.ref h19, .int (-1), .int 0, .int 0])), (h3, .inr (8, [.ref h20, .int (-1), .int 0, .int 0])), (h4, .inr (8, [.ref h21, .int (-1), .int 0, .int 0])), (h5, .inr (8, [.ref h22, .int (-1), .int 0, .int 0])), (h6, .inr (8, [.ref h23, .int (-1), .int 0, .int 0])), (h7, .inr (8, [.ref h24, .int (-1), .int 0, .int 0]))]) (w1 := [(h0, .inr (11, [.ref h8, .int 0, .ref h9, .ref h10, .ref h11, .ref h12, .ref h13, .ref h14, .ref h15, .ref h16, .ref h17, .int 0, .ref h18, .ref h1])), (h1, .inl (cOShelf, 6, .inr (.inr (.inr (.inr (va_up (va_up (va_up (va_up (va_up (va_up (fun _ => none) (0 : Int32).toNatClampNeg (some h2)) (1 : Int32).toNatClampNeg (some h3)) (2 : Int32).toNatClampNeg (some h4)) (3 : Int32).toNatClampNeg (some h5)) (4 : Int32).toNatClampNeg (some h6)) (5 : Int32).toNatClampNeg (some h7)))))))]) hP hD [6, 7] [0, 1, 2, 3, 4, 5] rfl rfl (by decide) (by decide) hk1 hFc hP1 hD1
    generalize H1 = H at hP hS ⊢
    have hP : va_P (dC, dI) vwCl [(h2, .inr (8, [.ref h19, .int (-1), .int 0, .int 0])), (h3, .inr (8, [.ref h20, .int (-1), .int 0, .int 0])), (h4, .inr (8, [.ref h21, .int (-1), .int 0, .int 0])), (h5, .inr (8, [.ref h22, .int (-1), .int 0, .int 0])), (h6, .inr (8, [.ref h23, .int (-1), .int 0, .int 0])), (h7, .inr (8, [.ref h24, .int (-1), .int 0, .int 0])), (h0, .inr (11, [.ref h8, .int 0, .ref h9, .ref h10, .ref h11, .ref h12, .ref h13, .ref h14, .ref h15, .ref h16, .ref h17, .int 0, .ref h18, .ref h1])), (h1, .inl (cOShelf, 6, .inr (.inr (.inr (.inr (va_up (va_up (va_up (va_up (va_up (va_up (fun _ => none) (0 : Int32).toNatClampNeg (some h2)) (1 : Int32).toNatClampNeg (some h3)) (2 : Int32).toNatClampNeg (some h4)) (3 : Int32).toNatClampNeg (some h5)) (4 : Int32).toNatClampNeg (some h6)) (5 : Int32).toNatClampNeg (some h7)))))))] H := hP
    have hD : va_D A [(h2, .inr (8, [.ref h19, .int (-1), .int 0, .int 0])), (h3, .inr (8, [.ref h20, .int (-1), .int 0, .int 0])), (h4, .inr (8, [.ref h21, .int (-1), .int 0, .int 0])), (h5, .inr (8, [.ref h22, .int (-1), .int 0, .int 0])), (h6, .inr (8, [.ref h23, .int (-1), .int 0, .int 0])), (h7, .inr (8, [.ref h24, .int (-1), .int 0, .int 0])), (h0, .inr (11, [.ref h8, .int 0, .ref h9, .ref h10, .ref h11, .ref h12, .ref h13, .ref h14, .ref h15, .ref h16, .ref h17, .int 0, .ref h18, .ref h1])), (h1, .inl (cOShelf, 6, .inr (.inr (.inr (.inr (va_up (va_up (va_up (va_up (va_up (va_up (fun _ => none) (0 : Int32).toNatClampNeg (some h2)) (1 : Int32).toNatClampNeg (some h3)) (2 : Int32).toNatClampNeg (some h4)) (3 : Int32).toNatClampNeg (some h5)) (4 : Int32).toNatClampNeg (some h6)) (5 : Int32).toNatClampNeg (some h7)))))))] := hD
    rcases hw with ⟨t_25_0, rfl⟩ | ⟨t_25_0, t_25_1, rfl⟩ | ⟨t_25_0, t_25_1, t_25_2, rfl⟩ | ⟨t_25_0, t_25_1, t_25_2, rfl⟩ | ⟨t_25_0, t_25_1, t_25_2, rfl⟩ | ⟨t_25_0, t_25_1, t_25_2, rfl⟩ | ⟨t_25_0, t_25_1, t_25_2, rfl⟩ | ⟨t_25_0, t_25_1, t_25_2, rfl⟩
    · skip
      refine W.eq (g2 := F0 m 12 ls [.null]) rfl ?_
      refine lv_astoreN (lv' := [(7, .null), (6, .ref h5), (0, .ref h0), (1, .int p0), (2, .int p1), (3, .int p2), (4, .int p3), (5, .int p4)]) hx hb dX11_shift_12 hl (by decide) rfl (fun ls hl => ?_)
      refine lv_aload hx hb dX11_shift_14 (lv_at hl 1 rfl) ?_
      refine lv_ifnull hx hb dX11_shift_16 ?_
      refine lv_aloadN hx hb dX11_shift_19 (lv_at hl 0 rfl) ?_
      refine lv_ifnonnullN hx hb dX11_shift_21 ?_
      refine lv_iconst (v := (-1)) hx hb dX11_shift_24 (by decide) ?_
      have hP9 := hP.sub (ws' := []) [] rfl
      have hD9 := hD.sub (ws' := []) [] (by decide) rfl
      have hK9 := hK.sub (tys' := []) [] rfl
      exact W.iret (v := (-1)) hx hb hr (fun t ht hW => ⟨⟨(-1), (), rfl, by first | rfl | ((repeat' split) <;> first | rfl | (exfalso; omega) | (exact Int32.toInt_inj.mp (by show ((-1) : Int) = _; omega))), by rw [ht]; exact hP9, va_K.moved hW.alike hK9, hD9⟩, hS.F ht⟩) hS.2.2 dX11_shift_25
    · skip
      refine W.eq (g2 := F0 m 12 ls [.null]) rfl ?_
      refine lv_astoreN (lv' := [(7, .null), (6, .ref h5), (0, .ref h0), (1, .int p0), (2, .int p1), (3, .int p2), (4, .int p3), (5, .int p4)]) hx hb dX11_shift_12 hl (by decide) rfl (fun ls hl => ?_)
      refine lv_aload hx hb dX11_shift_14 (lv_at hl 1 rfl) ?_
      refine lv_ifnull hx hb dX11_shift_16 ?_
      refine lv_aloadN hx hb dX11_shift_19 (lv_at hl 0 rfl) ?_
      refine lv_ifnonnullN hx hb dX11_shift_21 ?_
      refine lv_iconst (v := (-1)) hx hb dX11_shift_24 (by decide) ?_
      have hP9 := hP.sub (ws' := []) [] rfl
      have hD9 := hD.sub (ws' := []) [] (by decide) rfl
      have hK9 := hK.sub (tys' := []) [] rfl
      exact W.iret (v := (-1)) hx hb hr (fun t ht hW => ⟨⟨(-1), (), rfl, by first | rfl | ((repeat' split) <;> first | rfl | (exfalso; omega) | (exact Int32.toInt_inj.mp (by show ((-1) : Int) = _; omega))), by rw [ht]; exact hP9, va_K.moved hW.alike hK9, hD9⟩, hS.F ht⟩) hS.2.2 dX11_shift_25
    · skip
      refine W.eq (g2 := F0 m 12 ls [.ref h2]) rfl ?_
      refine lv_astore (lv' := [(7, .ref h2), (6, .ref h5), (0, .ref h0), (1, .int p0), (2, .int p1), (3, .int p2), (4, .int p3), (5, .int p4)]) hx hb dX11_shift_12 hl (by decide) rfl (fun ls hl => ?_)
      refine lv_aload hx hb dX11_shift_14 (lv_at hl 1 rfl) ?_
      refine lv_ifnull hx hb dX11_shift_16 ?_
      refine lv_aload hx hb dX11_shift_19 (lv_at hl 0 rfl) ?_
      refine lv_ifnonnull (tgt := 26) hx hb dX11_shift_21 (by decide) ?_
      refine lv_aload hx hb dX11_shift_26 (lv_at hl 1 rfl) ?_
      have hPc := hP.sub (ws' := [(h5, .inr (8, [.ref h22, .int (-1), .int 0, .int 0]))]) [3] rfl
      have hDc := hD.sub (ws' := [(h5, .inr (8, [.ref h22, .int (-1), .int 0, .int 0]))]) [3] (by decide) rfl
      have hKc := hK.sub (tys' := []) [] rfl
      have hFc := va_free (wc := [(h5, .inr (8, [.ref h22, .int (-1), .int 0, .int 0]))]) hD hS hA [3] rfl
      refine va_calli (va_runV (As := []) (rest := []) ⟨hx, hb, hml, hown, hts⟩ (k_X8_isEmpty_0 l dC dI h5 h22 H.size) (cwV 0 hts gX11_shift_X8_isEmpty rfl rfl rfl (by decide +kernel) ⟨Nat.le_of_ble_eq_true rfl, Nat.le_of_ble_eq_true rfl⟩) ⟨fun a U g mk q => by obtain ⟨q0, q1, qP, qK, qD⟩ := q; exact ⟨q0, q1, qP, va_K.moved (u := U) (U := U.calling g mk a) (Vm.Alike.refl U.vm) qK, qD⟩, va_recv hKc hPc (ci := 8) (q0 := 0) rfl rfl, fun U hU hW => ⟨rfl, by rw [hU], by rw [hU]; exact hPc, va_K.moved hW.alike hKc, hDc.weaken (fun _ _ _ _ => trivial)⟩⟩ rfl rfl hl.1 rfl (lv_room (Nat.le_of_ble_eq_true rfl)) dX11_shift_28 ⟨Nat.le_of_ble_eq_true rfl, Nat.le_of_ble_eq_true rfl⟩) hS (fun q _ h => hFc q h) hFc (fun r_26 u t H1 locs ht hvm hw hB hz1 hk1 hS => ?_)
      obtain ⟨hP1, hK1, hD1⟩ := hB
      rw [ht] at hP1
      have hK1 := va_K.moved hvm.symm hK1
      obtain ⟨hP, hD⟩ := va_join (wr := [(h2, .inr (8, [.ref h19, .int (-1), .int 0, .int 0])), (h3, .inr (8, [.ref h20, .int (-1), .int 0, .int 0])), (h4, .inr (8, [.ref h21, .int (-1), .int 0, .int 0])), (h6, .inr (8, [.ref h23, .int (-1), .int 0, .int 0])), (h7, .inr (8, [.ref h24, .int (-1), .int 0, .int 0])), (h0, .inr (11, [.ref h8, .int 0, .ref h9, .ref h10, .ref h11, .ref h12, .ref h13, .ref h14, .ref h15, .ref h16, .ref h17, .int 0, .ref h18, .ref h1])), (h1, .inl (cOShelf, 6, .inr (.inr (.inr (.inr (va_up (va_up (va_up (va_up (va_up (va_up (fun _ => none) (0 : Int32).toNatClampNeg (some h2)) (1 : Int32).toNatClampNeg (some h3)) (2 : Int32).toNatClampNeg (some h4)) (3 : Int32).toNatClampNeg (some h5)) (4 : Int32).toNatClampNeg (some h6)) (5 : Int32).toNatClampNeg (some h7)))))))]) (w1 := [(h5, .inr (8, [.ref h22, .int (-1), .int 0, .int 0]))]) hP hD [3] [0, 1, 2, 4, 5, 6, 7] rfl rfl (by decide) (by decide) hk1 hFc hP1 hD1
      generalize H1 = H at hP hS ⊢
      have hP : va_P (dC, dI) vwCl [(h2, .inr (8, [.ref h19, .int (-1), .int 0, .int 0])), (h3, .inr (8, [.ref h20, .int (-1), .int 0, .int 0])), (h4, .inr (8, [.ref h21, .int (-1), .int 0, .int 0])), (h6, .inr (8, [.ref h23, .int (-1), .int 0, .int 0])), (h7, .inr (8, [.ref h24, .int (-1), .int 0, .int 0])), (h0, .inr (11, [.ref h8, .int 0, .ref h9, .ref h10, .ref h11, .ref h12, .ref h13, .ref h14, .ref h15, .ref h16, .ref h17, .int 0, .ref h18, .ref h1])), (h1, .inl (cOShelf, 6, .inr (.inr (.inr (.inr (va_up (va_up (va_up (va_up (va_up (va_up (fun _ => none) (0 : Int32).toNatClampNeg (some h2)) (1 : Int32).toNatClampNeg (some h3)) (2 : Int32).toNatClampNeg (some h4)) (3 : Int32).toNatClampNeg (some h5)) (4 : Int32).toNatClampNeg (some h6)) (5 : Int32).toNatClampNeg (some h7))))))), (h5, .inr (8, [.ref h22, .int (-1), .int 0, .int 0]))] H := hP
      have hD : va_D A [(h2, .inr (8, [.ref h19, .int (-1), .int 0, .int 0])), (h3, .inr (8, [.ref h20, .int (-1), .int 0, .int 0])), (h4, .inr (8, [.ref h21, .int (-1), .int 0, .int 0])), (h6, .inr (8, [.ref h23, .int (-1), .int 0, .int 0])), (h7, .inr (8, [.ref h24, .int (-1), .int 0, .int 0])), (h0, .inr (11, [.ref h8, .int 0, .ref h9, .ref h10, .ref h11, .ref h12, .ref h13, .ref h14, .ref h15, .ref h16, .ref h17, .int 0, .ref h18, .ref h1])), (h1, .inl (cOShelf, 6, .inr (.inr (.inr (.inr (va_up (va_up (va_up (va_up (va_up (va_up (fun _ => none) (0 : Int32).toNatClampNeg (some h2)) (1 : Int32).toNatClampNeg (some h3)) (2 : Int32).toNatClampNeg (some h4)) (3 : Int32).toNatClampNeg (some h5)) (4 : Int32).toNatClampNeg (some h6)) (5 : Int32).toNatClampNeg (some h7))))))), (h5, .inr (8, [.ref h22, .int (-1), .int 0, .int 0]))] := hD
      obtain rfl := hw
      refine lv_if_ne (tgt := 42) hx hb dX11_shift_31 (by decide) (fun _ => ?_) (fun c => absurd c (by decide))
      refine lv_bipush (v := (-11)) hx hb dX11_shift_42 (by decide) ?_
      have hP9 := hP.sub (ws' := []) [] rfl
      have hD9 := hD.sub (ws' := []) [] (by decide) rfl
      have hK9 := hK.sub (tys' := []) [] rfl
      exact W.iret (v := (-11)) hx hb hr (fun t ht hW => ⟨⟨(-11), (), rfl, by first | rfl | ((repeat' split) <;> first | rfl | (exfalso; omega) | (exact Int32.toInt_inj.mp (by show ((-11) : Int) = _; omega))), by rw [ht]; exact hP9, va_K.moved hW.alike hK9, hD9⟩, hS.F ht⟩) hS.2.2 dX11_shift_44
    · skip
      refine W.eq (g2 := F0 m 12 ls [.ref h3]) rfl ?_
      refine lv_astore (lv' := [(7, .ref h3), (6, .ref h5), (0, .ref h0), (1, .int p0), (2, .int p1), (3, .int p2), (4, .int p3), (5, .int p4)]) hx hb dX11_shift_12 hl (by decide) rfl (fun ls hl => ?_)
      refine lv_aload hx hb dX11_shift_14 (lv_at hl 1 rfl) ?_
      refine lv_ifnull hx hb dX11_shift_16 ?_
      refine lv_aload hx hb dX11_shift_19 (lv_at hl 0 rfl) ?_
      refine lv_ifnonnull (tgt := 26) hx hb dX11_shift_21 (by decide) ?_
      refine lv_aload hx hb dX11_shift_26 (lv_at hl 1 rfl) ?_
      have hPc := hP.sub (ws' := [(h5, .inr (8, [.ref h22, .int (-1), .int 0, .int 0]))]) [3] rfl
      have hDc := hD.sub (ws' := [(h5, .inr (8, [.ref h22, .int (-1), .int 0, .int 0]))]) [3] (by decide) rfl
      have hKc := hK.sub (tys' := []) [] rfl
      have hFc := va_free (wc := [(h5, .inr (8, [.ref h22, .int (-1), .int 0, .int 0]))]) hD hS hA [3] rfl
      refine va_calli (va_runV (As := []) (rest := []) ⟨hx, hb, hml, hown, hts⟩ (k_X8_isEmpty_0 l dC dI h5 h22 H.size) (cwV 0 hts gX11_shift_X8_isEmpty rfl rfl rfl (by decide +kernel) ⟨Nat.le_of_ble_eq_true rfl, Nat.le_of_ble_eq_true rfl⟩) ⟨fun a U g mk q => by obtain ⟨q0, q1, qP, qK, qD⟩ := q; exact ⟨q0, q1, qP, va_K.moved (u := U) (U := U.calling g mk a) (Vm.Alike.refl U.vm) qK, qD⟩, va_recv hKc hPc (ci := 8) (q0 := 0) rfl rfl, fun U hU hW => ⟨rfl, by rw [hU], by rw [hU]; exact hPc, va_K.moved hW.alike hKc, hDc.weaken (fun _ _ _ _ => trivial)⟩⟩ rfl rfl hl.1 rfl (lv_room (Nat.le_of_ble_eq_true rfl)) dX11_shift_28 ⟨Nat.le_of_ble_eq_true rfl, Nat.le_of_ble_eq_true rfl⟩) hS (fun q _ h => hFc q h) hFc (fun r_27 u t H1 locs ht hvm hw hB hz1 hk1 hS => ?_)
      obtain ⟨hP1, hK1, hD1⟩ := hB
      rw [ht] at hP1
      have hK1 := va_K.moved hvm.symm hK1
      obtain ⟨hP, hD⟩ := va_join (wr := [(h2, .inr (8, [.ref h19, .int (-1), .int 0, .int 0])), (h3, .inr (8, [.ref h20, .int (-1), .int 0, .int 0])), (h4, .inr (8, [.ref h21, .int (-1), .int 0, .int 0])), (h6, .inr (8, [.ref h23, .int (-1), .int 0, .int 0])), (h7, .inr (8, [.ref h24, .int (-1), .int 0, .int 0])), (h0, .inr (11, [.ref h8, .int 0, .ref h9, .ref h10, .ref h11, .ref h12, .ref h13, .ref h14, .ref h15, .ref h16, .ref h17, .int 0, .ref h18, .ref h1])), (h1, .inl (cOShelf, 6, .inr (.inr (.inr (.inr (va_up (va_up (va_up (va_up (va_up (va_up (fun _ => none) (0 : Int32).toNatClampNeg (some h2)) (1 : Int32).toNatClampNeg (some h3)) (2 : Int32).toNatClampNeg (some h4)) (3 : Int32).toNatClampNeg (some h5)) (4 : Int32).toNatClampNeg (some h6)) (5 : Int32).toNatClampNeg (some h7)))))))]) (w1 := [(h5, .inr (8, [.ref h22, .int (-1), .int 0, .int 0]))]) hP hD [3] [0, 1, 2, 4, 5, 6, 7] rfl rfl (by decide) (by decide) hk1 hFc hP1 hD1
      generalize H1 = H at hP hS ⊢
      have hP : va_P (dC, dI) vwCl [(h2, .inr (8, [.ref h19, .int (-1), .int 0, .int 0])), (h3, .inr (8, [.ref h20, .int (-1), .int 0, .int 0])), (h4, .inr (8, [.ref h21, .int (-1), .int 0, .int 0])), (h6, .inr (8, [.ref h23, .int (-1), .int 0, .int 0])), (h7, .inr (8, [.ref h24, .int (-1), .int 0, .int 0])), (h0, .inr (11, [.ref h8, .int 0, .ref h9, .ref h10, .ref h11, .ref h12, .ref h13, .ref h14, .ref h15, .ref h16, .ref h17, .int 0, .ref h18, .ref h1])), (h1, .inl (cOShelf, 6, .inr (.inr (.inr (.inr (va_up (va_up (va_up (va_up (va_up (va_up (fun _ => none) (0 : Int32).toNatClampNeg (some h2)) (1 : Int32).toNatClampNeg (some h3)) (2 : Int32).toNatClampNeg (some h4)) (3 : Int32).toNatClampNeg (some h5)) (4 : Int32).toNatClampNeg (some h6)) (5 : Int32).toNatClampNeg (some h7))))))), (h5, .inr (8, [.ref h22, .int (-1), .int 0, .int 0]))] H := hP
      have hD : va_D A [(h2, .inr (8, [.ref h19, .int (-1), .int 0, .int 0])), (h3, .inr (8, [.ref h20, .int (-1), .int 0, .int 0])), (h4, .inr (8, [.ref h21, .int (-1), .int 0, .int 0])), (h6, .inr (8, [.ref h23, .int (-1), .int 0, .int 0])), (h7, .inr (8, [.ref h24, .int (-1), .int 0, .int 0])), (h0, .inr (11, [.ref h8, .int 0, .ref h9, .ref h10, .ref h11, .ref h12, .ref h13, .ref h14, .ref h15, .ref h16, .ref h17, .int 0, .ref h18, .ref h1])), (h1, .inl (cOShelf, 6, .inr (.inr (.inr (.inr (va_up (va_up (va_up (va_up (va_up (va_up (fun _ => none) (0 : Int32).toNatClampNeg (some h2)) (1 : Int32).toNatClampNeg (some h3)) (2 : Int32).toNatClampNeg (some h4)) (3 : Int32).toNatClampNeg (some h5)) (4 : Int32).toNatClampNeg (some h6)) (5 : Int32).toNatClampNeg (some h7))))))), (h5, .inr (8, [.ref h22, .int (-1), .int 0, .int 0]))] := hD
      obtain rfl := hw
      refine lv_if_ne (tgt := 42) hx hb dX11_shift_31 (by decide) (fun _ => ?_) (fun c => absurd c (by decide))
      refine lv_bipush (v := (-11)) hx hb dX11_shift_42 (by decide) ?_
      have hP9 := hP.sub (ws' := []) [] rfl
      have hD9 := hD.sub (ws' := []) [] (by decide) rfl
      have hK9 := hK.sub (tys' := []) [] rfl
      exact W.iret (v := (-11)) hx hb hr (fun t ht hW => ⟨⟨(-11), (), rfl, by first | rfl | ((repeat' split) <;> first | rfl | (exfalso; omega) | (exact Int32.toInt_inj.mp (by show ((-11) : Int) = _; omega))), by rw [ht]; exact hP9, va_K.moved hW.alike hK9, hD9⟩, hS.F ht⟩) hS.2.2 dX11_shift_44
    · skip
      refine W.eq (g2 := F0 m 12 ls [.ref h4]) rfl ?_
      refine lv_astore (lv' := [(7, .ref h4), (6, .ref h5), (0, .ref h0), (1, .int p0), (2, .int p1), (3, .int p2), (4, .int p3), (5, .int p4)]) hx hb dX11_shift_12 hl (by decide) rfl (fun ls hl => ?_)
      refine lv_aload hx hb dX11_shift_14 (lv_at hl 1 rfl) ?_
      refine lv_ifnull hx hb dX11_shift_16 ?_
      refine lv_aload hx hb dX11_shift_19 (lv_at hl 0 rfl) ?_
      refine lv_ifnonnull (tgt := 26) hx hb dX11_shift_21 (by decide) ?_
      refine lv_aload hx hb dX11_shift_26 (lv_at hl 1 rfl) ?_
      have hPc := hP.sub (ws' := [(h5, .inr (8, [.ref h22, .int (-1), .int 0, .int 0]))]) [3] rfl
      have hDc := hD.sub (ws' := [(h5, .inr (8, [.ref h22, .int (-1), .int 0, .int 0]))]) [3] (by decide) rfl
      have hKc := hK.sub (tys' := []) [] rfl
      have hFc := va_free (wc := [(h5, .inr (8, [.ref h22, .int (-1), .int 0, .int 0]))]) hD hS hA [3] rfl
      refine va_calli (va_runV (As := []) (rest := []) ⟨hx, hb, hml, hown, hts⟩ (k_X8_isEmpty_0 l dC dI h5 h22 H.size) (cwV 0 hts gX11_shift_X8_isEmpty rfl rfl rfl (by decide +kernel) ⟨Nat.le_of_ble_eq_true rfl, Nat.le_of_ble_eq_true rfl⟩) ⟨fun a U g mk q => by obtain ⟨q0, q1, qP, qK, qD⟩ := q; exact ⟨q0, q1, qP, va_K.moved (u := U) (U := U.calling g mk a) (Vm.Alike.refl U.vm) qK, qD⟩, va_recv hKc hPc (ci := 8) (q0 := 0) rfl rfl, fun U hU hW => ⟨rfl, by rw [hU], by rw [hU]; exact hPc, va_K.moved hW.alike hKc, hDc.weaken (fun _ _ _ _ => trivial)⟩⟩ rfl rfl hl.1 rfl (lv_room (Nat.le_of_ble_eq_true rfl)) dX11_shift_28 ⟨Nat.le_of_ble_eq_true rfl, Nat.le_of_ble_eq_true rfl⟩) hS (fun q _ h => hFc q h) hFc (fun r_28 u t H1 locs ht hvm hw hB hz1 hk1 hS => ?_)
      obtain ⟨hP1, hK1, hD1⟩ := hB
      rw [ht] at hP1
      have hK1 := va_K.moved hvm.symm hK1
      obtain ⟨hP, hD⟩ := va_join (wr := [(h2, .inr (8, [.ref h19, .int (-1), .int 0, .int 0])), (h3, .inr (8, [.ref h20, .int (-1), .int 0, .int 0])), (h4, .inr (8, [.ref h21, .int (-1), .int 0, .int 0])), (h6, .inr (8, [.ref h23, .int (-1), .int 0, .int 0])), (h7, .inr (8, [.ref h24, .int (-1), .int 0, .int 0])), (h0, .inr (11, [.ref h8, .int 0, .ref h9, .ref h10, .ref h11, .ref h12, .ref h13, .ref h14, .ref h15, .ref h16, .ref h17, .int 0, .ref h18, .ref h1])), (h1, .inl (cOShelf, 6, .inr (.inr (.inr (.inr (va_up (va_up (va_up (va_up (va_up (va_up (fun _ => none) (0 : Int32).toNatClampNeg (some h2)) (1 : Int32).toNatClampNeg (some h3)) (2 : Int32).toNatClampNeg (some h4)) (3 : Int32).toNatClampNeg (some h5)) (4 : Int32).toNatClampNeg (some h6)) (5 : Int32).toNatClampNeg (some h7)))))))]) (w1 := [(h5, .inr (8, [.ref h22, .int (-1), .int 0, .int 0]))]) hP hD [3] [0, 1, 2, 4, 5, 6, 7] rfl rfl (by decide) (by decide) hk1 hFc hP1 hD1
      generalize H1 = H at hP hS ⊢
      have hP : va_P (dC, dI) vwCl [(h2, .inr (8, [.ref h19, .int (-1), .int 0, .int 0])), (h3, .inr (8, [.ref h20, .int (-1), .int 0, .int 0])), (h4, .inr (8, [.ref h21, .int (-1), .int 0, .int 0])), (h6, .inr (8, [.ref h23, .int (-1), .int 0, .int 0])), (h7, .inr (8, [.ref h24, .int (-1), .int 0, .int 0])), (h0, .inr (11, [.ref h8, .int 0, .ref h9, .ref h10, .ref h11, .ref h12, .ref h13, .ref h14, .ref h15, .ref h16, .ref h17, .int 0, .ref h18, .ref h1])), (h1, .inl (cOShelf, 6, .inr (.inr (.inr (.inr (va_up (va_up (va_up (va_up (va_up (va_up (fun _ => none) (0 : Int32).toNatClampNeg (some h2)) (1 : Int32).toNatClampNeg (some h3)) (2 : Int32).toNatClampNeg (some h4)) (3 : Int32).toNatClampNeg (some h5)) (4 : Int32).toNatClampNeg (some h6)) (5 : Int32).toNatClampNeg (some h7))))))), (h5, .inr (8, [.ref h22, .int (-1), .int 0, .int 0]))] H := hP
      have hD : va_D A [(h2, .inr (8, [.ref h19, .int (-1), .int 0, .int 0])), (h3, .inr (8, [.ref h20, .int (-1), .int 0, .int 0])), (h4, .inr (8, [.ref h21, .int (-1), .int 0, .int 0])), (h6, .inr (8, [.ref h23, .int (-1), .int 0, .int 0])), (h7, .inr (8, [.ref h24, .int (-1), .int 0, .int 0])), (h0, .inr (11, [.ref h8, .int 0, .ref h9, .ref h10, .ref h11, .ref h12, .ref h13, .ref h14, .ref h15, .ref h16, .ref h17, .int 0, .ref h18, .ref h1])), (h1, .inl (cOShelf, 6, .inr (.inr (.inr (.inr (va_up (va_up (va_up (va_up (va_up (va_up (fun _ => none) (0 : Int32).toNatClampNeg (some h2)) (1 : Int32).toNatClampNeg (some h3)) (2 : Int32).toNatClampNeg (some h4)) (3 : Int32).toNatClampNeg (some h5)) (4 : Int32).toNatClampNeg (some h6)) (5 : Int32).toNatClampNeg (some h7))))))), (h5, .inr (8, [.ref h22, .int (-1), .int 0, .int 0]))] := hD
      obtain rfl := hw
      refine lv_if_ne (tgt := 42) hx hb dX11_shift_31 (by decide) (fun _ => ?_) (fun c => absurd c (by decide))
      refine lv_bipush (v := (-11)) hx hb dX11_shift_42 (by decide) ?_
      have hP9 := hP.sub (ws' := []) [] rfl
      have hD9 := hD.sub (ws' := []) [] (by decide) rfl
      have hK9 := hK.sub (tys' := []) [] rfl
      exact W.iret (v := (-11)) hx hb hr (fun t ht hW => ⟨⟨(-11), (), rfl, by first | rfl | ((repeat' split) <;> first | rfl | (exfalso; omega) | (exact Int32.toInt_inj.mp (by show ((-11) : Int) = _; omega))), by rw [ht]; exact hP9, va_K.moved hW.alike hK9, hD9⟩, hS.F ht⟩) hS.2.2 dX11_shift_44
    · skip
      refine W.eq (g2 := F0 m 12 ls [.ref h5]) rfl ?_
      refine lv_astore (lv' := [(7, .ref h5), (6, .ref h5), (0, .ref h0), (1, .int p0), (2, .int p1), (3, .int p2), (4, .int p3), (5, .int p4)]) hx hb dX11_shift_12 hl (by decide) rfl (fun ls hl => ?_)
      refine lv_aload hx hb dX11_shift_14 (lv_at hl 1 rfl) ?_
      refine lv_ifnull hx hb dX11_shift_16 ?_
      refine lv_aload hx hb dX11_shift_19 (lv_at hl 0 rfl) ?_
      refine lv_ifnonnull (tgt := 26) hx hb dX11_shift_21 (by decide) ?_
      refine lv_aload hx hb dX11_shift_26 (lv_at hl 1 rfl) ?_
      have hPc := hP.sub (ws' := [(h5, .inr (8, [.ref h22, .int (-1), .int 0, .int 0]))]) [3] rfl
      have hDc := hD.sub (ws' := [(h5, .inr (8, [.ref h22, .int (-1), .int 0, .int 0]))]) [3] (by decide) rfl
      have hKc := hK.sub (tys' := []) [] rfl
      have hFc := va_free (wc := [(h5, .inr (8, [.ref h22, .int (-1), .int 0, .int 0]))]) hD hS hA [3] rfl
      refine va_calli (va_runV (As := []) (rest := []) ⟨hx, hb, hml, hown, hts⟩ (k_X8_isEmpty_0 l dC dI h5 h22 H.size) (cwV 0 hts gX11_shift_X8_isEmpty rfl rfl rfl (by decide +kernel) ⟨Nat.le_of_ble_eq_true rfl, Nat.le_of_ble_eq_true rfl⟩) ⟨fun a U g mk q => by obtain ⟨q0, q1, qP, qK, qD⟩ := q; exact ⟨q0, q1, qP, va_K.moved (u := U) (U := U.calling g mk a) (Vm.Alike.refl U.vm) qK, qD⟩, va_recv hKc hPc (ci := 8) (q0 := 0) rfl rfl, fun U hU hW => ⟨rfl, by rw [hU], by rw [hU]; exact hPc, va_K.moved hW.alike hKc, hDc.weaken (fun _ _ _ _ => trivial)⟩⟩ rfl rfl hl.1 rfl (lv_room (Nat.le_of_ble_eq_true rfl)) dX11_shift_28 ⟨Nat.le_of_ble_eq_true rfl, Nat.le_of_ble_eq_true rfl⟩) hS (fun q _ h => hFc q h) hFc (fun r_29 u t H1 locs ht hvm hw hB hz1 hk1 hS => ?_)
      obtain ⟨hP1, hK1, hD1⟩ := hB
      rw [ht] at hP1
      have hK1 := va_K.moved hvm.symm hK1
      obtain ⟨hP, hD⟩ := va_join (wr := [(h2, .inr (8, [.ref h19, .int (-1), .int 0, .int 0])), (h3, .inr (8, [.ref h20, .int (-1), .int 0, .int 0])), (h4, .inr (8, [.ref h21, .int (-1), .int 0, .int 0])), (h6, .inr (8, [.ref h23, .int (-1), .int 0, .int 0])), (h7, .inr (8, [.ref h24, .int (-1), .int 0, .int 0])), (h0, .inr (11, [.ref h8, .int 0, .ref h9, .ref h10, .ref h11, .ref h12, .ref h13, .ref h14, .ref h15, .ref h16, .ref h17, .int 0, .ref h18, .ref h1])), (h1, .inl (cOShelf, 6, .inr (.inr (.inr (.inr (va_up (va_up (va_up (va_up (va_up (va_up (fun _ => none) (0 : Int32).toNatClampNeg (some h2)) (1 : Int32).toNatClampNeg (some h3)) (2 : Int32).toNatClampNeg (some h4)) (3 : Int32).toNatClampNeg (some h5)) (4 : Int32).toNatClampNeg (some h6)) (5 : Int32).toNatClampNeg (some h7)))))))]) (w1 := [(h5, .inr (8, [.ref h22, .int (-1), .int 0, .int 0]))]) hP hD [3] [0, 1, 2, 4, 5, 6, 7] rfl rfl (by decide) (by decide) hk1 hFc hP1 hD1
      generalize H1 = H at hP hS ⊢
      have hP : va_P (dC, dI) vwCl [(h2, .inr (8, [.ref h19, .int (-1), .int 0, .int 0])), (h3, .inr (8, [.ref h20, .int (-1), .int 0, .int 0])), (h4, .inr (8, [.ref h21, .int (-1), .int 0, .int 0])), (h6, .inr (8, [.ref h23, .int (-1), .int 0, .int 0])), (h7, .inr (8, [.ref h24, .int (-1), .int 0, .int 0])), (h0, .inr (11, [.ref h8, .int 0, .ref h9, .ref h10, .ref h11, .ref h12, .ref h13, .ref h14, .ref h15, .ref h16, .ref h17, .int 0, .ref h18, .ref h1])), (h1, .inl (cOShelf, 6, .inr (.inr (.inr (.inr (va_up (va_up (va_up (va_up (va_up (va_up (fun _ => none) (0 : Int32).toNatClampNeg (some h2)) (1 : Int32).toNatClampNeg (some h3)) (2 : Int32).toNatClampNeg (some h4)) (3 : Int32).toNatClampNeg (some h5)) (4 : Int32).toNatClampNeg (some h6)) (5 : Int32).toNatClampNeg (some h7))))))), (h5, .inr (8, [.ref h22, .int (-1), .int 0, .int 0]))] H := hP
      have hD : va_D A [(h2, .inr (8, [.ref h19, .int (-1), .int 0, .int 0])), (h3, .inr (8, [.ref h20, .int (-1), .int 0, .int 0])), (h4, .inr (8, [.ref h21, .int (-1), .int 0, .int 0])), (h6, .inr (8, [.ref h23, .int (-1), .int 0, .int 0])), (h7, .inr (8, [.ref h24, .int (-1), .int 0, .int 0])), (h0, .inr (11, [.ref h8, .int 0, .ref h9, .ref h10, .ref h11, .ref h12, .ref h13, .ref h14, .ref h15, .ref h16, .ref h17, .int 0, .ref h18, .ref h1])), (h1, .inl (cOShelf, 6, .inr (.inr (.inr (.inr (va_up (va_up (va_up (va_up (va_up (va_up (fun _ => none) (0 : Int32).toNatClampNeg (some h2)) (1 : Int32).toNatClampNeg (some h3)) (2 : Int32).toNatClampNeg (some h4)) (3 : Int32).toNatClampNeg (some h5)) (4 : Int32).toNatClampNeg (some h6)) (5 : Int32).toNatClampNeg (some h7))))))), (h5, .inr (8, [.ref h22, .int (-1), .int 0, .int 0]))] := hD
      obtain rfl := hw
      refine lv_if_ne (tgt := 42) hx hb dX11_shift_31 (by decide) (fun _ => ?_) (fun c => absurd c (by decide))
      refine lv_bipush (v := (-11)) hx hb dX11_shift_42 (by decide) ?_
      have hP9 := hP.sub (ws' := []) [] rfl
      have hD9 := hD.sub (ws' := []) [] (by decide) rfl
      have hK9 := hK.sub (tys' := []) [] rfl
      exact W.iret (v := (-11)) hx hb hr (fun t ht hW => ⟨⟨(-11), (), rfl, by first | rfl | ((repeat' split) <;> first | rfl | (exfalso; omega) | (exact Int32.toInt_inj.mp (by show ((-11) : Int) = _; omega))), by rw [ht]; exact hP9, va_K.moved hW.alike hK9, hD9⟩, hS.F ht⟩) hS.2.2 dX11_shift_44
    · skip
      refine W.eq (g2 := F0 m 12 ls [.ref h6]) rfl ?_
      refine lv_astore (lv' := [(7, .ref h6), (6, .ref h5), (0, .ref h0), (1, .int p0), (2, .int p1), (3, .int p2), (4, .int p3), (5, .int p4)]) hx hb dX11_shift_12 hl (by decide) rfl (fun ls hl => ?_)
      refine lv_aload hx hb dX11_shift_14 (lv_at hl 1 rfl) ?_
      refine lv_ifnull hx hb dX11_shift_16 ?_
      refine lv_aload hx hb dX11_shift_19 (lv_at hl 0 rfl) ?_
      refine lv_ifnonnull (tgt := 26) hx hb dX11_shift_21 (by decide) ?_
      refine lv_aload hx hb dX11_shift_26 (lv_at hl 1 rfl) ?_
      have hPc := hP.sub (ws' := [(h5, .inr (8, [.ref h22, .int (-1), .int 0, .int 0]))]) [3] rfl
      have hDc := hD.sub (ws' := [(h5, .inr (8, [.ref h22, .int (-1), .int 0, .int 0]))]) [3] (by decide) rfl
      have hKc := hK.sub (tys' := []) [] rfl
      have hFc := va_free (wc := [(h5, .inr (8, [.ref h22, .int (-1), .int 0, .int 0]))]) hD hS hA [3] rfl
      refine va_calli (va_runV (As := []) (rest := []) ⟨hx, hb, hml, hown, hts⟩ (k_X8_isEmpty_0 l dC dI h5 h22 H.size) (cwV 0 hts gX11_shift_X8_isEmpty rfl rfl rfl (by decide +kernel) ⟨Nat.le_of_ble_eq_true rfl, Nat.le_of_ble_eq_true rfl⟩) ⟨fun a U g mk q => by obtain ⟨q0, q1, qP, qK, qD⟩ := q; exact ⟨q0, q1, qP, va_K.moved (u := U) (U := U.calling g mk a) (Vm.Alike.refl U.vm) qK, qD⟩, va_recv hKc hPc (ci := 8) (q0 := 0) rfl rfl, fun U hU hW => ⟨rfl, by rw [hU], by rw [hU]; exact hPc, va_K.moved hW.alike hKc, hDc.weaken (fun _ _ _ _ => trivial)⟩⟩ rfl rfl hl.1 rfl (lv_room (Nat.le_of_ble_eq_true rfl)) dX11_shift_28 ⟨Nat.le_of_ble_eq_true rfl, Nat.le_of_ble_eq_true rfl⟩) hS (fun q _ h => hFc q h) hFc (fun r_30 u t H1 locs ht hvm hw hB hz1 hk1 hS => ?_)
      obtain ⟨hP1, hK1, hD1⟩ := hB
      rw [ht] at hP1
      have hK1 := va_K.moved hvm.symm hK1
      obtain ⟨hP, hD⟩ := va_join (wr := [(h2, .inr (8, [.ref h19, .int (-1), .int 0, .int 0])), (h3, .inr (8, [.ref h20, .int (-1), .int 0, .int 0])), (h4, .inr (8, [.ref h21, .int (-1), .int 0, .int 0])), (h6, .inr (8, [.ref h23, .int (-1), .int 0, .int 0])), (h7, .inr (8, [.ref h24, .int (-1), .int 0, .int 0])), (h0, .inr (11, [.ref h8, .int 0, .ref h9, .ref h10, .ref h11, .ref h12, .ref h13, .ref h14, .ref h15, .ref h16, .ref h17, .int 0, .ref h18, .ref h1])), (h1, .inl (cOShelf, 6, .inr (.inr (.inr (.inr (va_up (va_up (va_up (va_up (va_up (va_up (fun _ => none) (0 : Int32).toNatClampNeg (some h2)) (1 : Int32).toNatClampNeg (some h3)) (2 : Int32).toNatClampNeg (some h4)) (3 : Int32).toNatClampNeg (some h5)) (4 : Int32).toNatClampNeg (some h6)) (5 : Int32).toNatClampNeg (some h7)))))))]) (w1 := [(h5, .inr (8, [.ref h22, .int (-1), .int 0, .int 0]))]) hP hD [3] [0, 1, 2, 4, 5, 6, 7] rfl rfl (by decide) (by decide) hk1 hFc hP1 hD1
      generalize H1 = H at hP hS ⊢
      have hP : va_P (dC, dI) vwCl [(h2, .inr (8, [.ref h19, .int (-1), .int 0, .int 0])), (h3, .inr (8, [.ref h20, .int (-1), .int 0, .int 0])), (h4, .inr (8, [.ref h21, .int (-1), .int 0, .int 0])), (h6, .inr (8, [.ref h23, .int (-1), .int 0, .int 0])), (h7, .inr (8, [.ref h24, .int (-1), .int 0, .int 0])), (h0, .inr (11, [.ref h8, .int 0, .ref h9, .ref h10, .ref h11, .ref h12, .ref h13, .ref h14, .ref h15, .ref h16, .ref h17, .int 0, .ref h18, .ref h1])), (h1, .inl (cOShelf, 6, .inr (.inr (.inr (.inr (va_up (va_up (va_up (va_up (va_up (va_up (fun _ => none) (0 : Int32).toNatClampNeg (some h2)) (1 : Int32).toNatClampNeg (some h3)) (2 : Int32).toNatClampNeg (some h4)) (3 : Int32).toNatClampNeg (some h5)) (4 : Int32).toNatClampNeg (some h6)) (5 : Int32).toNatClampNeg (some h7))))))), (h5, .inr (8, [.ref h22, .int (-1), .int 0, .int 0]))] H := hP
      have hD : va_D A [(h2, .inr (8, [.ref h19, .int (-1), .int 0, .int 0])), (h3, .inr (8, [.ref h20, .int (-1), .int 0, .int 0])), (h4, .inr (8, [.ref h21, .int (-1), .int 0, .int 0])), (h6, .inr (8, [.ref h23, .int (-1), .int 0, .int 0])), (h7, .inr (8, [.ref h24, .int (-1), .int 0, .int 0])), (h0, .inr (11, [.ref h8, .int 0, .ref h9, .ref h10, .ref h11, .ref h12, .ref h13, .ref h14, .ref h15, .ref h16, .ref h17, .int 0, .ref h18, .ref h1])), (h1, .inl (cOShelf, 6, .inr (.inr (.inr (.inr (va_up (va_up (va_up (va_up (va_up (va_up (fun _ => none) (0 : Int32).toNatClampNeg (some h2)) (1 : Int32).toNatClampNeg (some h3)) (2 : Int32).toNatClampNeg (some h4)) (3 : Int32).toNatClampNeg (some h5)) (4 : Int32).toNatClampNeg (some h6)) (5 : Int32).toNatClampNeg (some h7))))))), (h5, .inr (8, [.ref h22, .int (-1), .int 0, .int 0]))] := hD
      obtain rfl := hw
      refine lv_if_ne (tgt := 42) hx hb dX11_shift_31 (by decide) (fun _ => ?_) (fun c => absurd c (by decide))
      refine lv_bipush (v := (-11)) hx hb dX11_shift_42 (by decide) ?_
      have hP9 := hP.sub (ws' := []) [] rfl
      have hD9 := hD.sub (ws' := []) [] (by decide) rfl
      have hK9 := hK.sub (tys' := []) [] rfl
      exact W.iret (v := (-11)) hx hb hr (fun t ht hW => ⟨⟨(-11), (), rfl, by first | rfl | ((repeat' split) <;> first | rfl | (exfalso; omega) | (exact Int32.toInt_inj.mp (by show ((-11) : Int) = _; omega))), by rw [ht]; exact hP9, va_K.moved hW.alike hK9, hD9⟩, hS.F ht⟩) hS.2.2 dX11_shift_44
    · skip
      refine W.eq (g2 := F0 m 12 ls [.ref h7]) rfl ?_
      refine lv_astore (lv' := [(7, .ref h7), (6, .ref h5), (0, .ref h0), (1, .int p0), (2, .int p1), (3, .int p2), (4, .int p3), (5, .int p4)]) hx hb dX11_shift_12 hl (by decide) rfl (fun ls hl => ?_)
      refine lv_aload hx hb dX11_shift_14 (lv_at hl 1 rfl) ?_
      refine lv_ifnull hx hb dX11_shift_16 ?_
      refine lv_aload hx hb dX11_shift_19 (lv_at hl 0 rfl) ?_
      refine lv_ifnonnull (tgt := 26) hx hb dX11_shift_21 (by decide) ?_
      refine lv_aload hx hb dX11_shift_26 (lv_at hl 1 rfl) ?_
      have hPc := hP.sub (ws' := [(h5, .inr (8, [.ref h22, .int (-1), .int 0, .int 0]))]) [3] rfl
      have hDc := hD.sub (ws' := [(h5, .inr (8, [.ref h22, .int (-1), .int 0, .int 0]))]) [3] (by decide) rfl
      have hKc := hK.sub (tys' := []) [] rfl
      have hFc := va_free (wc := [(h5, .inr (8, [.ref h22, .int (-1), .int 0, .int 0]))]) hD hS hA [3] rfl
      refine va_calli (va_runV (As := []) (rest := []) ⟨hx, hb, hml, hown, hts⟩ (k_X8_isEmpty_0 l dC dI h5 h22 H.size) (cwV 0 hts gX11_shift_X8_isEmpty rfl rfl rfl (by decide +kernel) ⟨Nat.le_of_ble_eq_true rfl, Nat.le_of_ble_eq_true rfl⟩) ⟨fun a U g mk q => by obtain ⟨q0, q1, qP, qK, qD⟩ := q; exact ⟨q0, q1, qP, va_K.moved (u := U) (U := U.calling g mk a) (Vm.Alike.refl U.vm) qK, qD⟩, va_recv hKc hPc (ci := 8) (q0 := 0) rfl rfl, fun U hU hW => ⟨rfl, by rw [hU], by rw [hU]; exact hPc, va_K.moved hW.alike hKc, hDc.weaken (fun _ _ _ _ => trivial)⟩⟩ rfl rfl hl.1 rfl (lv_room (Nat.le_of_ble_eq_true rfl)) dX11_shift_28 ⟨Nat.le_of_ble_eq_true rfl, Nat.le_of_ble_eq_true rfl⟩) hS (fun q _ h => hFc q h) hFc (fun r_31 u t H1 locs ht hvm hw hB hz1 hk1 hS => ?_)
      obtain ⟨hP1, hK1, hD1⟩ := hB
      rw [ht] at hP1
      have hK1 := va_K.moved hvm.symm hK1
      obtain ⟨hP, hD⟩ := va_join (wr := [(h2, .inr (8, [.ref h19, .int (-1), .int 0, .int 0])), (h3, .inr (8, [.ref h20, .int (-1), .int 0, .int 0])), (h4, .inr (8, [.ref h21, .int (-1), .int 0, .int 0])), (h6, .inr (8, [.ref h23, .int (-1), .int 0, .int 0])), (h7, .inr (8, [.ref h24, .int (-1), .int 0, .int 0])), (h0, .inr (11, [.ref h8, .int 0, .ref h9, .ref h10, .ref h11, .ref h12, .ref h13, .ref h14, .ref h15, .ref h16, .ref h17, .int 0, .ref h18, .ref h1])), (h1, .inl (cOShelf, 6, .inr (.inr (.inr (.inr (va_up (va_up (va_up (va_up (va_up (va_up (fun _ => none) (0 : Int32).toNatClampNeg (some h2)) (1 : Int32).toNatClampNeg (some h3)) (2 : Int32).toNatClampNeg (some h4)) (3 : Int32).toNatClampNeg (some h5)) (4 : Int32).toNatClampNeg (some h6)) (5 : Int32).toNatClampNeg (some h7)))))))]) (w1 := [(h5, .inr (8, [.ref h22, .int (-1), .int 0, .int 0]))]) hP hD [3] [0, 1, 2, 4, 5, 6, 7] rfl rfl (by decide) (by decide) hk1 hFc hP1 hD1
      generalize H1 = H at hP hS ⊢
      have hP : va_P (dC, dI) vwCl [(h2, .inr (8, [.ref h19, .int (-1), .int 0, .int 0])), (h3, .inr (8, [.ref h20, .int (-1), .int 0, .int 0])), (h4, .inr (8, [.ref h21, .int (-1), .int 0, .int 0])), (h6, .inr (8, [.ref h23, .int (-1), .int 0, .int 0])), (h7, .inr (8, [.ref h24, .int (-1), .int 0, .int 0])), (h0, .inr (11, [.ref h8, .int 0, .ref h9, .ref h10, .ref h11, .ref h12, .ref h13, .ref h14, .ref h15, .ref h16, .ref h17, .int 0, .ref h18, .ref h1])), (h1, .inl (cOShelf, 6, .inr (.inr (.inr (.inr (va_up (va_up (va_up (va_up (va_up (va_up (fun _ => none) (0 : Int32).toNatClampNeg (some h2)) (1 : Int32).toNatClampNeg (some h3)) (2 : Int32).toNatClampNeg (some h4)) (3 : Int32).toNatClampNeg (some h5)) (4 : Int32).toNatClampNeg (some h6)) (5 : Int32).toNatClampNeg (some h7))))))), (h5, .inr (8, [.ref h22, .int (-1), .int 0, .int 0]))] H := hP
      have hD : va_D A [(h2, .inr (8, [.ref h19, .int (-1), .int 0, .int 0])), (h3, .inr (8, [.ref h20, .int (-1), .int 0, .int 0])), (h4, .inr (8, [.ref h21, .int (-1), .int 0, .int 0])), (h6, .inr (8, [.ref h23, .int (-1), .int 0, .int 0])), (h7, .inr (8, [.ref h24, .int (-1), .int 0, .int 0])), (h0, .inr (11, [.ref h8, .int 0, .ref h9, .ref h10, .ref h11, .ref h12, .ref h13, .ref h14, .ref h15, .ref h16, .ref h17, .int 0, .ref h18, .ref h1])), (h1, .inl (cOShelf, 6, .inr (.inr (.inr (.inr (va_up (va_up (va_up (va_up (va_up (va_up (fun _ => none) (0 : Int32).toNatClampNeg (some h2)) (1 : Int32).toNatClampNeg (some h3)) (2 : Int32).toNatClampNeg (some h4)) (3 : Int32).toNatClampNeg (some h5)) (4 : Int32).toNatClampNeg (some h6)) (5 : Int32).toNatClampNeg (some h7))))))), (h5, .inr (8, [.ref h22, .int (-1), .int 0, .int 0]))] := hD
      obtain rfl := hw
      refine lv_if_ne (tgt := 42) hx hb dX11_shift_31 (by decide) (fun _ => ?_) (fun c => absurd c (by decide))
      refine lv_bipush (v := (-11)) hx hb dX11_shift_42 (by decide) ?_
      have hP9 := hP.sub (ws' := []) [] rfl
      have hD9 := hD.sub (ws' := []) [] (by decide) rfl
      have hK9 := hK.sub (tys' := []) [] rfl
      exact W.iret (v := (-11)) hx hb hr (fun t ht hW => ⟨⟨(-11), (), rfl, by first | rfl | ((repeat' split) <;> first | rfl | (exfalso; omega) | (exact Int32.toInt_inj.mp (by show ((-11) : Int) = _; omega))), by rw [ht]; exact hP9, va_K.moved hW.alike hK9, hD9⟩, hS.F ht⟩) hS.2.2 dX11_shift_44
  · skip
    refine W.eq (g2 := F0 m 5 ls [.ref h6]) rfl ?_
    refine lv_astore (lv' := [(6, .ref h6), (0, .ref h0), (1, .int p0), (2, .int p1), (3, .int p2), (4, .int p3), (5, .int p4)]) hx hb dX11_shift_5 hl (by decide) rfl (fun ls hl => ?_)
    refine lv_aload_n hx hb dX11_shift_7 rfl (lv_at hl 1 rfl) ?_
    refine lv_iload_n hx hb dX11_shift_8 rfl (lv_at hl 4 rfl) ?_
    have hPc := hP.sub (ws' := [(h0, .inr (11, [.ref h8, .int 0, .ref h9, .ref h10, .ref h11, .ref h12, .ref h13, .ref h14, .ref h15, .ref h16, .ref h17, .int 0, .ref h18, .ref h1])), (h1, .inl (cOShelf, 6, .inr (.inr (.inr (.inr (va_up (va_up (va_up (va_up (va_up (va_up (fun _ => none) (0 : Int32).toNatClampNeg (some h2)) (1 : Int32).toNatClampNeg (some h3)) (2 : Int32).toNatClampNeg (some h4)) (3 : Int32).toNatClampNeg (some h5)) (4 : Int32).toNatClampNeg (some h6)) (5 : Int32).toNatClampNeg (some h7)))))))]) [6, 7] rfl
    have hDc := hD.sub (ws' := [(h0, .inr (11, [.ref h8, .int 0, .ref h9, .ref h10, .ref h11, .ref h12, .ref h13, .ref h14, .ref h15, .ref h16, .ref h17, .int 0, .ref h18, .ref h1])), (h1, .inl (cOShelf, 6, .inr (.inr (.inr (.inr (va_up (va_up (va_up (va_up (va_up (va_up (fun _ => none) (0 : Int32).toNatClampNeg (some h2)) (1 : Int32).toNatClampNeg (some h3)) (2 : Int32).toNatClampNeg (some h4)) (3 : Int32).toNatClampNeg (some h5)) (4 : Int32).toNatClampNeg (some h6)) (5 : Int32).toNatClampNeg (some h7)))))))]) [6, 7] (by decide) rfl
    have hKc := hK.sub (tys' := [(cOShelf, .object "KinkStreet$Shelf")]) [0] rfl
    have hFc := va_free (wc := [(h0, .inr (11, [.ref h8, .int 0, .ref h9, .ref h10, .ref h11, .ref h12, .ref h13, .ref h14, .ref h15, .ref h16, .ref h17, .int 0, .ref h18, .ref h1])), (h1, .inl (cOShelf, 6, .inr (.inr (.inr (.inr (va_up (va_up (va_up (va_up (va_up (va_up (fun _ => none) (0 : Int32).toNatClampNeg (some h2)) (1 : Int32).toNatClampNeg (some h3)) (2 : Int32).toNatClampNeg (some h4)) (3 : Int32).toNatClampNeg (some h5)) (4 : Int32).toNatClampNeg (some h6)) (5 : Int32).toNatClampNeg (some h7)))))))]) hD hS hA [6, 7] rfl
    refine va_callq (va_runV (As := [.int p2]) (rest := []) ⟨hx, hb, hml, hown, hts⟩ (k_X11_knownShelf_0 l dC dI h0 h1 h8 h9 h10 h11 h12 h13 h14 h15 h16 h17 h18 h2 h3 h4 h5 h6 h7 cOShelf H.size p2) (cwV 1 hts gX11_shift_X11_knownShelf rfl rfl rfl (by decide +kernel) ⟨Nat.le_of_ble_eq_true rfl, Nat.le_of_ble_eq_true rfl⟩) ⟨fun a U g mk q => by obtain ⟨q0, q1, qP, qK, qD⟩ := q; exact ⟨q0, q1, qP, va_K.moved (u := U) (U := U.calling g mk a) (Vm.Alike.refl U.vm) qK, qD⟩, va_recv hKc hPc (ci := 11) (q0 := 0) rfl rfl, fun U hU hW => ⟨rfl, by rw [hU], by rw [hU]; exact hPc, va_K.moved hW.alike hKc, hDc.weaken (fun _ _ _ _ => trivial)⟩⟩ rfl rfl hl.1 rfl (lv_room (Nat.le_of_ble_eq_true rfl)) dX11_shift_9 ⟨Nat.le_of_ble_eq_true rfl, Nat.le_of_ble_eq_true rfl⟩) hS (fun q _ h => hFc q h) hFc (fun r_32 u t H1 locs ht hvm hw hB hz1 hk1 hS => ?_)
    obtain ⟨hP1, hK1, hD1⟩ := hB
    rw [ht] at hP1
    have hK1 := va_K.moved hvm.symm hK1
    obtain ⟨hP, hD⟩ := va_join (wr := [(h2, .inr (8, [.ref h19, .int (-1), .int 0, .int 0])), (h3, .inr (8, [.ref h20, .int (-1), .int 0, .int 0])), (h4, .inr (8, [.ref h21, .int (-1), .int 0, .int 0])), (h5, .inr (8, [.ref h22, .int (-1), .int 0, .int 0])), (h6, .inr (8, [.ref h23, .int (-1), .int 0, .int 0])), (h7, .inr (8, [.ref h24, .int (-1), .int 0, .int 0]))]) (w1 := [(h0, .inr (11, [.ref h8, .int 0, .ref h9, .ref h10, .ref h11, .ref h12, .ref h13, .ref h14, .ref h15, .ref h16, .ref h17, .int 0, .ref h18, .ref h1])), (h1, .inl (cOShelf, 6, .inr (.inr (.inr (.inr (va_up (va_up (va_up (va_up (va_up (va_up (fun _ => none) (0 : Int32).toNatClampNeg (some h2)) (1 : Int32).toNatClampNeg (some h3)) (2 : Int32).toNatClampNeg (some h4)) (3 : Int32).toNatClampNeg (some h5)) (4 : Int32).toNatClampNeg (some h6)) (5 : Int32).toNatClampNeg (some h7)))))))]) hP hD [6, 7] [0, 1, 2, 3, 4, 5] rfl rfl (by decide) (by decide) hk1 hFc hP1 hD1
    generalize H1 = H at hP hS ⊢
    have hP : va_P (dC, dI) vwCl [(h2, .inr (8, [.ref h19, .int (-1), .int 0, .int 0])), (h3, .inr (8, [.ref h20, .int (-1), .int 0, .int 0])), (h4, .inr (8, [.ref h21, .int (-1), .int 0, .int 0])), (h5, .inr (8, [.ref h22, .int (-1), .int 0, .int 0])), (h6, .inr (8, [.ref h23, .int (-1), .int 0, .int 0])), (h7, .inr (8, [.ref h24, .int (-1), .int 0, .int 0])), (h0, .inr (11, [.ref h8, .int 0, .ref h9, .ref h10, .ref h11, .ref h12, .ref h13, .ref h14, .ref h15, .ref h16, .ref h17, .int 0, .ref h18, .ref h1])), (h1, .inl (cOShelf, 6, .inr (.inr (.inr (.inr (va_up (va_up (va_up (va_up (va_up (va_up (fun _ => none) (0 : Int32).toNatClampNeg (some h2)) (1 : Int32).toNatClampNeg (some h3)) (2 : Int32).toNatClampNeg (some h4)) (3 : Int32).toNatClampNeg (some h5)) (4 : Int32).toNatClampNeg (some h6)) (5 : Int32).toNatClampNeg (some h7)))))))] H := hP
    have hD : va_D A [(h2, .inr (8, [.ref h19, .int (-1), .int 0, .int 0])), (h3, .inr (8, [.ref h20, .int (-1), .int 0, .int 0])), (h4, .inr (8, [.ref h21, .int (-1), .int 0, .int 0])), (h5, .inr (8, [.ref h22, .int (-1), .int 0, .int 0])), (h6, .inr (8, [.ref h23, .int (-1), .int 0, .int 0])), (h7, .inr (8, [.ref h24, .int (-1), .int 0, .int 0])), (h0, .inr (11, [.ref h8, .int 0, .ref h9, .ref h10, .ref h11, .ref h12, .ref h13, .ref h14, .ref h15, .ref h16, .ref h17, .int 0, .ref h18, .ref h1])), (h1, .inl (cOShelf, 6, .inr (.inr (.inr (.inr (va_up (va_up (va_up (va_up (va_up (va_up (fun _ => none) (0 : Int32).toNatClampNeg (some h2)) (1 : Int32).toNatClampNeg (some h3)) (2 : Int32).toNatClampNeg (some h4)) (3 : Int32).toNatClampNeg (some h5)) (4 : Int32).toNatClampNeg (some h6)) (5 : Int32).toNatClampNeg (some h7)))))))] := hD
    rcases hw with ⟨t_32_0, rfl⟩ | ⟨t_32_0, t_32_1, rfl⟩ | ⟨t_32_0, t_32_1, t_32_2, rfl⟩ | ⟨t_32_0, t_32_1, t_32_2, rfl⟩ | ⟨t_32_0, t_32_1, t_32_2, rfl⟩ | ⟨t_32_0, t_32_1, t_32_2, rfl⟩ | ⟨t_32_0, t_32_1, t_32_2, rfl⟩ | ⟨t_32_0, t_32_1, t_32_2, rfl⟩
    · skip
      refine W.eq (g2 := F0 m 12 ls [.null]) rfl ?_
      refine lv_astoreN (lv' := [(7, .null), (6, .ref h6), (0, .ref h0), (1, .int p0), (2, .int p1), (3, .int p2), (4, .int p3), (5, .int p4)]) hx hb dX11_shift_12 hl (by decide) rfl (fun ls hl => ?_)
      refine lv_aload hx hb dX11_shift_14 (lv_at hl 1 rfl) ?_
      refine lv_ifnull hx hb dX11_shift_16 ?_
      refine lv_aloadN hx hb dX11_shift_19 (lv_at hl 0 rfl) ?_
      refine lv_ifnonnullN hx hb dX11_shift_21 ?_
      refine lv_iconst (v := (-1)) hx hb dX11_shift_24 (by decide) ?_
      have hP9 := hP.sub (ws' := []) [] rfl
      have hD9 := hD.sub (ws' := []) [] (by decide) rfl
      have hK9 := hK.sub (tys' := []) [] rfl
      exact W.iret (v := (-1)) hx hb hr (fun t ht hW => ⟨⟨(-1), (), rfl, by first | rfl | ((repeat' split) <;> first | rfl | (exfalso; omega) | (exact Int32.toInt_inj.mp (by show ((-1) : Int) = _; omega))), by rw [ht]; exact hP9, va_K.moved hW.alike hK9, hD9⟩, hS.F ht⟩) hS.2.2 dX11_shift_25
    · skip
      refine W.eq (g2 := F0 m 12 ls [.null]) rfl ?_
      refine lv_astoreN (lv' := [(7, .null), (6, .ref h6), (0, .ref h0), (1, .int p0), (2, .int p1), (3, .int p2), (4, .int p3), (5, .int p4)]) hx hb dX11_shift_12 hl (by decide) rfl (fun ls hl => ?_)
      refine lv_aload hx hb dX11_shift_14 (lv_at hl 1 rfl) ?_
      refine lv_ifnull hx hb dX11_shift_16 ?_
      refine lv_aloadN hx hb dX11_shift_19 (lv_at hl 0 rfl) ?_
      refine lv_ifnonnullN hx hb dX11_shift_21 ?_
      refine lv_iconst (v := (-1)) hx hb dX11_shift_24 (by decide) ?_
      have hP9 := hP.sub (ws' := []) [] rfl
      have hD9 := hD.sub (ws' := []) [] (by decide) rfl
      have hK9 := hK.sub (tys' := []) [] rfl
      exact W.iret (v := (-1)) hx hb hr (fun t ht hW => ⟨⟨(-1), (), rfl, by first | rfl | ((repeat' split) <;> first | rfl | (exfalso; omega) | (exact Int32.toInt_inj.mp (by show ((-1) : Int) = _; omega))), by rw [ht]; exact hP9, va_K.moved hW.alike hK9, hD9⟩, hS.F ht⟩) hS.2.2 dX11_shift_25
    · skip
      refine W.eq (g2 := F0 m 12 ls [.ref h2]) rfl ?_
      refine lv_astore (lv' := [(7, .ref h2), (6, .ref h6), (0, .ref h0), (1, .int p0), (2, .int p1), (3, .int p2), (4, .int p3), (5, .int p4)]) hx hb dX11_shift_12 hl (by decide) rfl (fun ls hl => ?_)
      refine lv_aload hx hb dX11_shift_14 (lv_at hl 1 rfl) ?_
      refine lv_ifnull hx hb dX11_shift_16 ?_
      refine lv_aload hx hb dX11_shift_19 (lv_at hl 0 rfl) ?_
      refine lv_ifnonnull (tgt := 26) hx hb dX11_shift_21 (by decide) ?_
      refine lv_aload hx hb dX11_shift_26 (lv_at hl 1 rfl) ?_
      have hPc := hP.sub (ws' := [(h6, .inr (8, [.ref h23, .int (-1), .int 0, .int 0]))]) [4] rfl
      have hDc := hD.sub (ws' := [(h6, .inr (8, [.ref h23, .int (-1), .int 0, .int 0]))]) [4] (by decide) rfl
      have hKc := hK.sub (tys' := []) [] rfl
      have hFc := va_free (wc := [(h6, .inr (8, [.ref h23, .int (-1), .int 0, .int 0]))]) hD hS hA [4] rfl
      refine va_calli (va_runV (As := []) (rest := []) ⟨hx, hb, hml, hown, hts⟩ (k_X8_isEmpty_0 l dC dI h6 h23 H.size) (cwV 0 hts gX11_shift_X8_isEmpty rfl rfl rfl (by decide +kernel) ⟨Nat.le_of_ble_eq_true rfl, Nat.le_of_ble_eq_true rfl⟩) ⟨fun a U g mk q => by obtain ⟨q0, q1, qP, qK, qD⟩ := q; exact ⟨q0, q1, qP, va_K.moved (u := U) (U := U.calling g mk a) (Vm.Alike.refl U.vm) qK, qD⟩, va_recv hKc hPc (ci := 8) (q0 := 0) rfl rfl, fun U hU hW => ⟨rfl, by rw [hU], by rw [hU]; exact hPc, va_K.moved hW.alike hKc, hDc.weaken (fun _ _ _ _ => trivial)⟩⟩ rfl rfl hl.1 rfl (lv_room (Nat.le_of_ble_eq_true rfl)) dX11_shift_28 ⟨Nat.le_of_ble_eq_true rfl, Nat.le_of_ble_eq_true rfl⟩) hS (fun q _ h => hFc q h) hFc (fun r_33 u t H1 locs ht hvm hw hB hz1 hk1 hS => ?_)
      obtain ⟨hP1, hK1, hD1⟩ := hB
      rw [ht] at hP1
      have hK1 := va_K.moved hvm.symm hK1
      obtain ⟨hP, hD⟩ := va_join (wr := [(h2, .inr (8, [.ref h19, .int (-1), .int 0, .int 0])), (h3, .inr (8, [.ref h20, .int (-1), .int 0, .int 0])), (h4, .inr (8, [.ref h21, .int (-1), .int 0, .int 0])), (h5, .inr (8, [.ref h22, .int (-1), .int 0, .int 0])), (h7, .inr (8, [.ref h24, .int (-1), .int 0, .int 0])), (h0, .inr (11, [.ref h8, .int 0, .ref h9, .ref h10, .ref h11, .ref h12, .ref h13, .ref h14, .ref h15, .ref h16, .ref h17, .int 0, .ref h18, .ref h1])), (h1, .inl (cOShelf, 6, .inr (.inr (.inr (.inr (va_up (va_up (va_up (va_up (va_up (va_up (fun _ => none) (0 : Int32).toNatClampNeg (some h2)) (1 : Int32).toNatClampNeg (some h3)) (2 : Int32).toNatClampNeg (some h4)) (3 : Int32).toNatClampNeg (some h5)) (4 : Int32).toNatClampNeg (some h6)) (5 : Int32).toNatClampNeg (some h7)))))))]) (w1 := [(h6, .inr (8, [.ref h23, .int (-1), .int 0, .int 0]))]) hP hD [4] [0, 1, 2, 3, 5, 6, 7] rfl rfl (by decide) (by decide) hk1 hFc hP1 hD1
      generalize H1 = H at hP hS ⊢
      have hP : va_P (dC, dI) vwCl [(h2, .inr (8, [.ref h19, .int (-1), .int 0, .int 0])), (h3, .inr (8, [.ref h20, .int (-1), .int 0, .int 0])), (h4, .inr (8, [.ref h21, .int (-1), .int 0, .int 0])), (h5, .inr (8, [.ref h22, .int (-1), .int 0, .int 0])), (h7, .inr (8, [.ref h24, .int (-1), .int 0, .int 0])), (h0, .inr (11, [.ref h8, .int 0, .ref h9, .ref h10, .ref h11, .ref h12, .ref h13, .ref h14, .ref h15, .ref h16, .ref h17, .int 0, .ref h18, .ref h1])), (h1, .inl (cOShelf, 6, .inr (.inr (.inr (.inr (va_up (va_up (va_up (va_up (va_up (va_up (fun _ => none) (0 : Int32).toNatClampNeg (some h2)) (1 : Int32).toNatClampNeg (some h3)) (2 : Int32).toNatClampNeg (some h4)) (3 : Int32).toNatClampNeg (some h5)) (4 : Int32).toNatClampNeg (some h6)) (5 : Int32).toNatClampNeg (some h7))))))), (h6, .inr (8, [.ref h23, .int (-1), .int 0, .int 0]))] H := hP
      have hD : va_D A [(h2, .inr (8, [.ref h19, .int (-1), .int 0, .int 0])), (h3, .inr (8, [.ref h20, .int (-1), .int 0, .int 0])), (h4, .inr (8, [.ref h21, .int (-1), .int 0, .int 0])), (h5, .inr (8, [.ref h22, .int (-1), .int 0, .int 0])), (h7, .inr (8, [.ref h24, .int (-1), .int 0, .int 0])), (h0, .inr (11, [.ref h8, .int 0, .ref h9, .ref h10, .ref h11, .ref h12, .ref h13, .ref h14, .ref h15, .ref h16, .ref h17, .int 0, .ref h18, .ref h1])), (h1, .inl (cOShelf, 6, .inr (.inr (.inr (.inr (va_up (va_up (va_up (va_up (va_up (va_up (fun _ => none) (0 : Int32).toNatClampNeg (some h2)) (1 : Int32).toNatClampNeg (some h3)) (2 : Int32).toNatClampNeg (some h4)) (3 : Int32).toNatClampNeg (some h5)) (4 : Int32).toNatClampNeg (some h6)) (5 : Int32).toNatClampNeg (some h7))))))), (h6, .inr (8, [.ref h23, .int (-1), .int 0, .int 0]))] := hD
      obtain rfl := hw
      refine lv_if_ne (tgt := 42) hx hb dX11_shift_31 (by decide) (fun _ => ?_) (fun c => absurd c (by decide))
      refine lv_bipush (v := (-11)) hx hb dX11_shift_42 (by decide) ?_
      have hP9 := hP.sub (ws' := []) [] rfl
      have hD9 := hD.sub (ws' := []) [] (by decide) rfl
      have hK9 := hK.sub (tys' := []) [] rfl
      exact W.iret (v := (-11)) hx hb hr (fun t ht hW => ⟨⟨(-11), (), rfl, by first | rfl | ((repeat' split) <;> first | rfl | (exfalso; omega) | (exact Int32.toInt_inj.mp (by show ((-11) : Int) = _; omega))), by rw [ht]; exact hP9, va_K.moved hW.alike hK9, hD9⟩, hS.F ht⟩) hS.2.2 dX11_shift_44
    · skip
      refine W.eq (g2 := F0 m 12 ls [.ref h3]) rfl ?_
      refine lv_astore (lv' := [(7, .ref h3), (6, .ref h6), (0, .ref h0), (1, .int p0), (2, .int p1), (3, .int p2), (4, .int p3), (5, .int p4)]) hx hb dX11_shift_12 hl (by decide) rfl (fun ls hl => ?_)
      refine lv_aload hx hb dX11_shift_14 (lv_at hl 1 rfl) ?_
      refine lv_ifnull hx hb dX11_shift_16 ?_
      refine lv_aload hx hb dX11_shift_19 (lv_at hl 0 rfl) ?_
      refine lv_ifnonnull (tgt := 26) hx hb dX11_shift_21 (by decide) ?_
      refine lv_aload hx hb dX11_shift_26 (lv_at hl 1 rfl) ?_
      have hPc := hP.sub (ws' := [(h6, .inr (8, [.ref h23, .int (-1), .int 0, .int 0]))]) [4] rfl
      have hDc := hD.sub (ws' := [(h6, .inr (8, [.ref h23, .int (-1), .int 0, .int 0]))]) [4] (by decide) rfl
      have hKc := hK.sub (tys' := []) [] rfl
      have hFc := va_free (wc := [(h6, .inr (8, [.ref h23, .int (-1), .int 0, .int 0]))]) hD hS hA [4] rfl
      refine va_calli (va_runV (As := []) (rest := []) ⟨hx, hb, hml, hown, hts⟩ (k_X8_isEmpty_0 l dC dI h6 h23 H.size) (cwV 0 hts gX11_shift_X8_isEmpty rfl rfl rfl (by decide +kernel) ⟨Nat.le_of_ble_eq_true rfl, Nat.le_of_ble_eq_true rfl⟩) ⟨fun a U g mk q => by obtain ⟨q0, q1, qP, qK, qD⟩ := q; exact ⟨q0, q1, qP, va_K.moved (u := U) (U := U.calling g mk a) (Vm.Alike.refl U.vm) qK, qD⟩, va_recv hKc hPc (ci := 8) (q0 := 0) rfl rfl, fun U hU hW => ⟨rfl, by rw [hU], by rw [hU]; exact hPc, va_K.moved hW.alike hKc, hDc.weaken (fun _ _ _ _ => trivial)⟩⟩ rfl rfl hl.1 rfl (lv_room (Nat.le_of_ble_eq_true rfl)) dX11_shift_28 ⟨Nat.le_of_ble_eq_true rfl, Nat.le_of_ble_eq_true rfl⟩) hS (fun q _ h => hFc q h) hFc (fun r_34 u t H1 locs ht hvm hw hB hz1 hk1 hS => ?_)
      obtain ⟨hP1, hK1, hD1⟩ := hB
      rw [ht] at hP1
      have hK1 := va_K.moved hvm.symm hK1
      obtain ⟨hP, hD⟩ := va_join (wr := [(h2, .inr (8, [.ref h19, .int (-1), .int 0, .int 0])), (h3, .inr (8, [.ref h20, .int (-1), .int 0, .int 0])), (h4, .inr (8, [.ref h21, .int (-1), .int 0, .int 0])), (h5, .inr (8, [.ref h22, .int (-1), .int 0, .int 0])), (h7, .inr (8, [.ref h24, .int (-1), .int 0, .int 0])), (h0, .inr (11, [.ref h8, .int 0, .ref h9, .ref h10, .ref h11, .ref h12, .ref h13, .ref h14, .ref h15, .ref h16, .ref h17, .int 0, .ref h18, .ref h1])), (h1, .inl (cOShelf, 6, .inr (.inr (.inr (.inr (va_up (va_up (va_up (va_up (va_up (va_up (fun _ => none) (0 : Int32).toNatClampNeg (some h2)) (1 : Int32).toNatClampNeg (some h3)) (2 : Int32).toNatClampNeg (some h4)) (3 : Int32).toNatClampNeg (some h5)) (4 : Int32).toNatClampNeg (some h6)) (5 : Int32).toNatClampNeg (some h7)))))))]) (w1 := [(h6, .inr (8, [.ref h23, .int (-1), .int 0, .int 0]))]) hP hD [4] [0, 1, 2, 3, 5, 6, 7] rfl rfl (by decide) (by decide) hk1 hFc hP1 hD1
      generalize H1 = H at hP hS ⊢
      have hP : va_P (dC, dI) vwCl [(h2, .inr (8, [.ref h19, .int (-1), .int 0, .int 0])), (h3, .inr (8, [.ref h20, .int (-1), .int 0, .int 0])), (h4, .inr (8, [.ref h21, .int (-1), .int 0, .int 0])), (h5, .inr (8, [.ref h22, .int (-1), .int 0, .int 0])), (h7, .inr (8, [.ref h24, .int (-1), .int 0, .int 0])), (h0, .inr (11, [.ref h8, .int 0, .ref h9, .ref h10, .ref h11, .ref h12, .ref h13, .ref h14, .ref h15, .ref h16, .ref h17, .int 0, .ref h18, .ref h1])), (h1, .inl (cOShelf, 6, .inr (.inr (.inr (.inr (va_up (va_up (va_up (va_up (va_up (va_up (fun _ => none) (0 : Int32).toNatClampNeg (some h2)) (1 : Int32).toNatClampNeg (some h3)) (2 : Int32).toNatClampNeg (some h4)) (3 : Int32).toNatClampNeg (some h5)) (4 : Int32).toNatClampNeg (some h6)) (5 : Int32).toNatClampNeg (some h7))))))), (h6, .inr (8, [.ref h23, .int (-1), .int 0, .int 0]))] H := hP
      have hD : va_D A [(h2, .inr (8, [.ref h19, .int (-1), .int 0, .int 0])), (h3, .inr (8, [.ref h20, .int (-1), .int 0, .int 0])), (h4, .inr (8, [.ref h21, .int (-1), .int 0, .int 0])), (h5, .inr (8, [.ref h22, .int (-1), .int 0, .int 0])), (h7, .inr (8, [.ref h24, .int (-1), .int 0, .int 0])), (h0, .inr (11, [.ref h8, .int 0, .ref h9, .ref h10, .ref h11, .ref h12, .ref h13, .ref h14, .ref h15, .ref h16, .ref h17, .int 0, .ref h18, .ref h1])), (h1, .inl (cOShelf, 6, .inr (.inr (.inr (.inr (va_up (va_up (va_up (va_up (va_up (va_up (fun _ => none) (0 : Int32).toNatClampNeg (some h2)) (1 : Int32).toNatClampNeg (some h3)) (2 : Int32).toNatClampNeg (some h4)) (3 : Int32).toNatClampNeg (some h5)) (4 : Int32).toNatClampNeg (some h6)) (5 : Int32).toNatClampNeg (some h7))))))), (h6, .inr (8, [.ref h23, .int (-1), .int 0, .int 0]))] := hD
      obtain rfl := hw
      refine lv_if_ne (tgt := 42) hx hb dX11_shift_31 (by decide) (fun _ => ?_) (fun c => absurd c (by decide))
      refine lv_bipush (v := (-11)) hx hb dX11_shift_42 (by decide) ?_
      have hP9 := hP.sub (ws' := []) [] rfl
      have hD9 := hD.sub (ws' := []) [] (by decide) rfl
      have hK9 := hK.sub (tys' := []) [] rfl
      exact W.iret (v := (-11)) hx hb hr (fun t ht hW => ⟨⟨(-11), (), rfl, by first | rfl | ((repeat' split) <;> first | rfl | (exfalso; omega) | (exact Int32.toInt_inj.mp (by show ((-11) : Int) = _; omega))), by rw [ht]; exact hP9, va_K.moved hW.alike hK9, hD9⟩, hS.F ht⟩) hS.2.2 dX11_shift_44
    · skip
      refine W.eq (g2 := F0 m 12 ls [.ref h4]) rfl ?_
      refine lv_astore (lv' := [(7, .ref h4), (6, .ref h6), (0, .ref h0), (1, .int p0), (2, .int p1), (3, .int p2), (4, .int p3), (5, .int p4)]) hx hb dX11_shift_12 hl (by decide) rfl (fun ls hl => ?_)
      refine lv_aload hx hb dX11_shift_14 (lv_at hl 1 rfl) ?_
      refine lv_ifnull hx hb dX11_shift_16 ?_
      refine lv_aload hx hb dX11_shift_19 (lv_at hl 0 rfl) ?_
      refine lv_ifnonnull (tgt := 26) hx hb dX11_shift_21 (by decide) ?_
      refine lv_aload hx hb dX11_shift_26 (lv_at hl 1 rfl) ?_
      have hPc := hP.sub (ws' := [(h6, .inr (8, [.ref h23, .int (-1), .int 0, .int 0]))]) [4] rfl
      have hDc := hD.sub (ws' := [(h6, .inr (8, [.ref h23, .int (-1), .int 0, .int 0]))]) [4] (by decide) rfl
      have hKc := hK.sub (tys' := []) [] rfl
      have hFc := va_free (wc := [(h6, .inr (8, [.ref h23, .int (-1), .int 0, .int 0]))]) hD hS hA [4] rfl
      refine va_calli (va_runV (As := []) (rest := []) ⟨hx, hb, hml, hown, hts⟩ (k_X8_isEmpty_0 l dC dI h6 h23 H.size) (cwV 0 hts gX11_shift_X8_isEmpty rfl rfl rfl (by decide +kernel) ⟨Nat.le_of_ble_eq_true rfl, Nat.le_of_ble_eq_true rfl⟩) ⟨fun a U g mk q => by obtain ⟨q0, q1, qP, qK, qD⟩ := q; exact ⟨q0, q1, qP, va_K.moved (u := U) (U := U.calling g mk a) (Vm.Alike.refl U.vm) qK, qD⟩, va_recv hKc hPc (ci := 8) (q0 := 0) rfl rfl, fun U hU hW => ⟨rfl, by rw [hU], by rw [hU]; exact hPc, va_K.moved hW.alike hKc, hDc.weaken (fun _ _ _ _ => trivial)⟩⟩ rfl rfl hl.1 rfl (lv_room (Nat.le_of_ble_eq_true rfl)) dX11_shift_28 ⟨Nat.le_of_ble_eq_true rfl, Nat.le_of_ble_eq_true rfl⟩) hS (fun q _ h => hFc q h) hFc (fun r_35 u t H1 locs ht hvm hw hB hz1 hk1 hS => ?_)
      obtain ⟨hP1, hK1, hD1⟩ := hB
      rw [ht] at hP1
      have hK1 := va_K.moved hvm.symm hK1
      obtain ⟨hP, hD⟩ := va_join (wr := [(h2, .inr (8, [.ref h19, .int (-1), .int 0, .int 0])), (h3, .inr (8, [.ref h20, .int (-1), .int 0, .int 0])), (h4, .inr (8, [.ref h21, .int (-1), .int 0, .int 0])), (h5, .inr (8, [.ref h22, .int (-1), .int 0, .int 0])), (h7, .inr (8, [.ref h24, .int (-1), .int 0, .int 0])), (h0, .inr (11, [.ref h8, .int 0, .ref h9, .ref h10, .ref h11, .ref h12, .ref h13, .ref h14, .ref h15, .ref h16, .ref h17, .int 0, .ref h18, .ref h1])), (h1, .inl (cOShelf, 6, .inr (.inr (.inr (.inr (va_up (va_up (va_up (va_up (va_up (va_up (fun _ => none) (0 : Int32).toNatClampNeg (some h2)) (1 : Int32).toNatClampNeg (some h3)) (2 : Int32).toNatClampNeg (some h4)) (3 : Int32).toNatClampNeg (some h5)) (4 : Int32).toNatClampNeg (some h6)) (5 : Int32).toNatClampNeg (some h7)))))))]) (w1 := [(h6, .inr (8, [.ref h23, .int (-1), .int 0, .int 0]))]) hP hD [4] [0, 1, 2, 3, 5, 6, 7] rfl rfl (by decide) (by decide) hk1 hFc hP1 hD1
      generalize H1 = H at hP hS ⊢
      have hP : va_P (dC, dI) vwCl [(h2, .inr (8, [.ref h19, .int (-1), .int 0, .int 0])), (h3, .inr (8, [.ref h20, .int (-1), .int 0, .int 0])), (h4, .inr (8, [.ref h21, .int (-1), .int 0, .int 0])), (h5, .inr (8, [.ref h22, .int (-1), .int 0, .int 0])), (h7, .inr (8, [.ref h24, .int (-1), .int 0, .int 0])), (h0, .inr (11, [.ref h8, .int 0, .ref h9, .ref h10, .ref h11, .ref h12, .ref h13, .ref h14, .ref h15, .ref h16, .ref h17, .int 0, .ref h18, .ref h1])), (h1, .inl (cOShelf, 6, .inr (.inr (.inr (.inr (va_up (va_up (va_up (va_up (va_up (va_up (fun _ => none) (0 : Int32).toNatClampNeg (some h2)) (1 : Int32).toNatClampNeg (some h3)) (2 : Int32).toNatClampNeg (some h4)) (3 : Int32).toNatClampNeg (some h5)) (4 : Int32).toNatClampNeg (some h6)) (5 : Int32).toNatClampNeg (some h7))))))), (h6, .inr (8, [.ref h23, .int (-1), .int 0, .int 0]))] H := hP
      have hD : va_D A [(h2, .inr (8, [.ref h19, .int (-1), .int 0, .int 0])), (h3, .inr (8, [.ref h20, .int (-1), .int 0, .int 0])), (h4, .inr (8, [.ref h21, .int (-1), .int 0, .int 0])), (h5, .inr (8, [.ref h22, .int (-1), .int 0, .int 0])), (h7, .inr (8, [.ref h24, .int (-1), .int 0, .int 0])), (h0, .inr (11, [.ref h8, .int 0, .ref h9, .ref h10, .ref h11, .ref h12, .ref h13, .ref h14, .ref h15, .ref h16, .ref h17, .int 0, .ref h18, .ref h1])), (h1, .inl (cOShelf, 6, .inr (.inr (.inr (.inr (va_up (va_up (va_up (va_up (va_up (va_up (fun _ => none) (0 : Int32).toNatClampNeg (some h2)) (1 : Int32).toNatClampNeg (some h3)) (2 : Int32).toNatClampNeg (some h4)) (3 : Int32).toNatClampNeg (some h5)) (4 : Int32).toNatClampNeg (some h6)) (5 : Int32).toNatClampNeg (some h7))))))), (h6, .inr (8, [.ref h23, .int (-1), .int 0, .int 0]))] := hD
      obtain rfl := hw
      refine lv_if_ne (tgt := 42) hx hb dX11_shift_31 (by decide) (fun _ => ?_) (fun c => absurd c (by decide))
      refine lv_bipush (v := (-11)) hx hb dX11_shift_42 (by decide) ?_
      have hP9 := hP.sub (ws' := []) [] rfl
      have hD9 := hD.sub (ws' := []) [] (by decide) rfl
      have hK9 := hK.sub (tys' := []) [] rfl
      exact W.iret (v := (-11)) hx hb hr (fun t ht hW => ⟨⟨(-11), (), rfl, by first | rfl | ((repeat' split) <;> first | rfl | (exfalso; omega) | (exact Int32.toInt_inj.mp (by show ((-11) : Int) = _; omega))), by rw [ht]; exact hP9, va_K.moved hW.alike hK9, hD9⟩, hS.F ht⟩) hS.2.2 dX11_shift_44
    · skip
      refine W.eq (g2 := F0 m 12 ls [.ref h5]) rfl ?_
      refine lv_astore (lv' := [(7, .ref h5), (6, .ref h6), (0, .ref h0), (1, .int p0), (2, .int p1), (3, .int p2), (4, .int p3), (5, .int p4)]) hx hb dX11_shift_12 hl (by decide) rfl (fun ls hl => ?_)
      refine lv_aload hx hb dX11_shift_14 (lv_at hl 1 rfl) ?_
      refine lv_ifnull hx hb dX11_shift_16 ?_
      refine lv_aload hx hb dX11_shift_19 (lv_at hl 0 rfl) ?_
      refine lv_ifnonnull (tgt := 26) hx hb dX11_shift_21 (by decide) ?_
      refine lv_aload hx hb dX11_shift_26 (lv_at hl 1 rfl) ?_
      have hPc := hP.sub (ws' := [(h6, .inr (8, [.ref h23, .int (-1), .int 0, .int 0]))]) [4] rfl
      have hDc := hD.sub (ws' := [(h6, .inr (8, [.ref h23, .int (-1), .int 0, .int 0]))]) [4] (by decide) rfl
      have hKc := hK.sub (tys' := []) [] rfl
      have hFc := va_free (wc := [(h6, .inr (8, [.ref h23, .int (-1), .int 0, .int 0]))]) hD hS hA [4] rfl
      refine va_calli (va_runV (As := []) (rest := []) ⟨hx, hb, hml, hown, hts⟩ (k_X8_isEmpty_0 l dC dI h6 h23 H.size) (cwV 0 hts gX11_shift_X8_isEmpty rfl rfl rfl (by decide +kernel) ⟨Nat.le_of_ble_eq_true rfl, Nat.le_of_ble_eq_true rfl⟩) ⟨fun a U g mk q => by obtain ⟨q0, q1, qP, qK, qD⟩ := q; exact ⟨q0, q1, qP, va_K.moved (u := U) (U := U.calling g mk a) (Vm.Alike.refl U.vm) qK, qD⟩, va_recv hKc hPc (ci := 8) (q0 := 0) rfl rfl, fun U hU hW => ⟨rfl, by rw [hU], by rw [hU]; exact hPc, va_K.moved hW.alike hKc, hDc.weaken (fun _ _ _ _ => trivial)⟩⟩ rfl rfl hl.1 rfl (lv_room (Nat.le_of_ble_eq_true rfl)) dX11_shift_28 ⟨Nat.le_of_ble_eq_true rfl, Nat.le_of_ble_eq_true rfl⟩) hS (fun q _ h => hFc q h) hFc (fun r_36 u t H1 locs ht hvm hw hB hz1 hk1 hS => ?_)
      obtain ⟨hP1, hK1, hD1⟩ := hB
      rw [ht] at hP1
      have hK1 := va_K.moved hvm.symm hK1
      obtain ⟨hP, hD⟩ := va_join (wr := [(h2, .inr (8, [.ref h19, .int (-1), .int 0, .int 0])), (h3, .inr (8, [.ref h20, .int (-1), .int 0, .int 0])), (h4, .inr (8, [.ref h21, .int (-1), .int 0, .int 0])), (h5, .inr (8, [.ref h22, .int (-1), .int 0, .int 0])), (h7, .inr (8, [.ref h24, .int (-1), .int 0, .int 0])), (h0, .inr (11, [.ref h8, .int 0, .ref h9, .ref h10, .ref h11, .ref h12, .ref h13, .ref h14, .ref h15, .ref h16, .ref h17, .int 0, .ref h18, .ref h1])), (h1, .inl (cOShelf, 6, .inr (.inr (.inr (.inr (va_up (va_up (va_up (va_up (va_up (va_up (fun _ => none) (0 : Int32).toNatClampNeg (some h2)) (1 : Int32).toNatClampNeg (some h3)) (2 : Int32).toNatClampNeg (some h4)) (3 : Int32).toNatClampNeg (some h5)) (4 : Int32).toNatClampNeg (some h6)) (5 : Int32).toNatClampNeg (some h7)))))))]) (w1 := [(h6, .inr (8, [.ref h23, .int (-1), .int 0, .int 0]))]) hP hD [4] [0, 1, 2, 3, 5, 6, 7] rfl rfl (by decide) (by decide) hk1 hFc hP1 hD1
      generalize H1 = H at hP hS ⊢
      have hP : va_P (dC, dI) vwCl [(h2, .inr (8, [.ref h19, .int (-1), .int 0, .int 0])), (h3, .inr (8, [.ref h20, .int (-1), .int 0, .int 0])), (h4, .inr (8, [.ref h21, .int (-1), .int 0, .int 0])), (h5, .inr (8, [.ref h22, .int (-1), .int 0, .int 0])), (h7, .inr (8, [.ref h24, .int (-1), .int 0, .int 0])), (h0, .inr (11, [.ref h8, .int 0, .ref h9, .ref h10, .ref h11, .ref h12, .ref h13, .ref h14, .ref h15, .ref h16, .ref h17, .int 0, .ref h18, .ref h1])), (h1, .inl (cOShelf, 6, .inr (.inr (.inr (.inr (va_up (va_up (va_up (va_up (va_up (va_up (fun _ => none) (0 : Int32).toNatClampNeg (some h2)) (1 : Int32).toNatClampNeg (some h3)) (2 : Int32).toNatClampNeg (some h4)) (3 : Int32).toNatClampNeg (some h5)) (4 : Int32).toNatClampNeg (some h6)) (5 : Int32).toNatClampNeg (some h7))))))), (h6, .inr (8, [.ref h23, .int (-1), .int 0, .int 0]))] H := hP
      have hD : va_D A [(h2, .inr (8, [.ref h19, .int (-1), .int 0, .int 0])), (h3, .inr (8, [.ref h20, .int (-1), .int 0, .int 0])), (h4, .inr (8, [.ref h21, .int (-1), .int 0, .int 0])), (h5, .inr (8, [.ref h22, .int (-1), .int 0, .int 0])), (h7, .inr (8, [.ref h24, .int (-1), .int 0, .int 0])), (h0, .inr (11, [.ref h8, .int 0, .ref h9, .ref h10, .ref h11, .ref h12, .ref h13, .ref h14, .ref h15, .ref h16, .ref h17, .int 0, .ref h18, .ref h1])), (h1, .inl (cOShelf, 6, .inr (.inr (.inr (.inr (va_up (va_up (va_up (va_up (va_up (va_up (fun _ => none) (0 : Int32).toNatClampNeg (some h2)) (1 : Int32).toNatClampNeg (some h3)) (2 : Int32).toNatClampNeg (some h4)) (3 : Int32).toNatClampNeg (some h5)) (4 : Int32).toNatClampNeg (some h6)) (5 : Int32).toNatClampNeg (some h7))))))), (h6, .inr (8, [.ref h23, .int (-1), .int 0, .int 0]))] := hD
      obtain rfl := hw
      refine lv_if_ne (tgt := 42) hx hb dX11_shift_31 (by decide) (fun _ => ?_) (fun c => absurd c (by decide))
      refine lv_bipush (v := (-11)) hx hb dX11_shift_42 (by decide) ?_
      have hP9 := hP.sub (ws' := []) [] rfl
      have hD9 := hD.sub (ws' := []) [] (by decide) rfl
      have hK9 := hK.sub (tys' := []) [] rfl
      exact W.iret (v := (-11)) hx hb hr (fun t ht hW => ⟨⟨(-11), (), rfl, by first | rfl | ((repeat' split) <;> first | rfl | (exfalso; omega) | (exact Int32.toInt_inj.mp (by show ((-11) : Int) = _; omega))), by rw [ht]; exact hP9, va_K.moved hW.alike hK9, hD9⟩, hS.F ht⟩) hS.2.2 dX11_shift_44
    · skip
      refine W.eq (g2 := F0 m 12 ls [.ref h6]) rfl ?_
      refine lv_astore (lv' := [(7, .ref h6), (6, .ref h6), (0, .ref h0), (1, .int p0), (2, .int p1), (3, .int p2), (4, .int p3), (5, .int p4)]) hx hb dX11_shift_12 hl (by decide) rfl (fun ls hl => ?_)
      refine lv_aload hx hb dX11_shift_14 (lv_at hl 1 rfl) ?_
      refine lv_ifnull hx hb dX11_shift_16 ?_
      refine lv_aload hx hb dX11_shift_19 (lv_at hl 0 rfl) ?_
      refine lv_ifnonnull (tgt := 26) hx hb dX11_shift_21 (by decide) ?_
      refine lv_aload hx hb dX11_shift_26 (lv_at hl 1 rfl) ?_
      have hPc := hP.sub (ws' := [(h6, .inr (8, [.ref h23, .int (-1), .int 0, .int 0]))]) [4] rfl
      have hDc := hD.sub (ws' := [(h6, .inr (8, [.ref h23, .int (-1), .int 0, .int 0]))]) [4] (by decide) rfl
      have hKc := hK.sub (tys' := []) [] rfl
      have hFc := va_free (wc := [(h6, .inr (8, [.ref h23, .int (-1), .int 0, .int 0]))]) hD hS hA [4] rfl
      refine va_calli (va_runV (As := []) (rest := []) ⟨hx, hb, hml, hown, hts⟩ (k_X8_isEmpty_0 l dC dI h6 h23 H.size) (cwV 0 hts gX11_shift_X8_isEmpty rfl rfl rfl (by decide +kernel) ⟨Nat.le_of_ble_eq_true rfl, Nat.le_of_ble_eq_true rfl⟩) ⟨fun a U g mk q => by obtain ⟨q0, q1, qP, qK, qD⟩ := q; exact ⟨q0, q1, qP, va_K.moved (u := U) (U := U.calling g mk a) (Vm.Alike.refl U.vm) qK, qD⟩, va_recv hKc hPc (ci := 8) (q0 := 0) rfl rfl, fun U hU hW => ⟨rfl, by rw [hU], by rw [hU]; exact hPc, va_K.moved hW.alike hKc, hDc.weaken (fun _ _ _ _ => trivial)⟩⟩ rfl rfl hl.1 rfl (lv_room (Nat.le_of_ble_eq_true rfl)) dX11_shift_28 ⟨Nat.le_of_ble_eq_true rfl, Nat.le_of_ble_eq_true rfl⟩) hS (fun q _ h => hFc q h) hFc (fun r_37 u t H1 locs ht hvm hw hB hz1 hk1 hS => ?_)
      obtain ⟨hP1, hK1, hD1⟩ := hB
      rw [ht] at hP1
      have hK1 := va_K.moved hvm.symm hK1
      obtain ⟨hP, hD⟩ := va_join (wr := [(h2, .inr (8, [.ref h19, .int (-1), .int 0, .int 0])), (h3, .inr (8, [.ref h20, .int (-1), .int 0, .int 0])), (h4, .inr (8, [.ref h21, .int (-1), .int 0, .int 0])), (h5, .inr (8, [.ref h22, .int (-1), .int 0, .int 0])), (h7, .inr (8, [.ref h24, .int (-1), .int 0, .int 0])), (h0, .inr (11, [.ref h8, .int 0, .ref h9, .ref h10, .ref h11, .ref h12, .ref h13, .ref h14, .ref h15, .ref h16, .ref h17, .int 0, .ref h18, .ref h1])), (h1, .inl (cOShelf, 6, .inr (.inr (.inr (.inr (va_up (va_up (va_up (va_up (va_up (va_up (fun _ => none) (0 : Int32).toNatClampNeg (some h2)) (1 : Int32).toNatClampNeg (some h3)) (2 : Int32).toNatClampNeg (some h4)) (3 : Int32).toNatClampNeg (some h5)) (4 : Int32).toNatClampNeg (some h6)) (5 : Int32).toNatClampNeg (some h7)))))))]) (w1 := [(h6, .inr (8, [.ref h23, .int (-1), .int 0, .int 0]))]) hP hD [4] [0, 1, 2, 3, 5, 6, 7] rfl rfl (by decide) (by decide) hk1 hFc hP1 hD1
      generalize H1 = H at hP hS ⊢
      have hP : va_P (dC, dI) vwCl [(h2, .inr (8, [.ref h19, .int (-1), .int 0, .int 0])), (h3, .inr (8, [.ref h20, .int (-1), .int 0, .int 0])), (h4, .inr (8, [.ref h21, .int (-1), .int 0, .int 0])), (h5, .inr (8, [.ref h22, .int (-1), .int 0, .int 0])), (h7, .inr (8, [.ref h24, .int (-1), .int 0, .int 0])), (h0, .inr (11, [.ref h8, .int 0, .ref h9, .ref h10, .ref h11, .ref h12, .ref h13, .ref h14, .ref h15, .ref h16, .ref h17, .int 0, .ref h18, .ref h1])), (h1, .inl (cOShelf, 6, .inr (.inr (.inr (.inr (va_up (va_up (va_up (va_up (va_up (va_up (fun _ => none) (0 : Int32).toNatClampNeg (some h2)) (1 : Int32).toNatClampNeg (some h3)) (2 : Int32).toNatClampNeg (some h4)) (3 : Int32).toNatClampNeg (some h5)) (4 : Int32).toNatClampNeg (some h6)) (5 : Int32).toNatClampNeg (some h7))))))), (h6, .inr (8, [.ref h23, .int (-1), .int 0, .int 0]))] H := hP
      have hD : va_D A [(h2, .inr (8, [.ref h19, .int (-1), .int 0, .int 0])), (h3, .inr (8, [.ref h20, .int (-1), .int 0, .int 0])), (h4, .inr (8, [.ref h21, .int (-1), .int 0, .int 0])), (h5, .inr (8, [.ref h22, .int (-1), .int 0, .int 0])), (h7, .inr (8, [.ref h24, .int (-1), .int 0, .int 0])), (h0, .inr (11, [.ref h8, .int 0, .ref h9, .ref h10, .ref h11, .ref h12, .ref h13, .ref h14, .ref h15, .ref h16, .ref h17, .int 0, .ref h18, .ref h1])), (h1, .inl (cOShelf, 6, .inr (.inr (.inr (.inr (va_up (va_up (va_up (va_up (va_up (va_up (fun _ => none) (0 : Int32).toNatClampNeg (some h2)) (1 : Int32).toNatClampNeg (some h3)) (2 : Int32).toNatClampNeg (some h4)) (3 : Int32).toNatClampNeg (some h5)) (4 : Int32).toNatClampNeg (some h6)) (5 : Int32).toNatClampNeg (some h7))))))), (h6, .inr (8, [.ref h23, .int (-1), .int 0, .int 0]))] := hD
      obtain rfl := hw
      refine lv_if_ne (tgt := 42) hx hb dX11_shift_31 (by decide) (fun _ => ?_) (fun c => absurd c (by decide))
      refine lv_bipush (v := (-11)) hx hb dX11_shift_42 (by decide) ?_
      have hP9 := hP.sub (ws' := []) [] rfl
      have hD9 := hD.sub (ws' := []) [] (by decide) rfl
      have hK9 := hK.sub (tys' := []) [] rfl
      exact W.iret (v := (-11)) hx hb hr (fun t ht hW => ⟨⟨(-11), (), rfl, by first | rfl | ((repeat' split) <;> first | rfl | (exfalso; omega) | (exact Int32.toInt_inj.mp (by show ((-11) : Int) = _; omega))), by rw [ht]; exact hP9, va_K.moved hW.alike hK9, hD9⟩, hS.F ht⟩) hS.2.2 dX11_shift_44
    · skip
      refine W.eq (g2 := F0 m 12 ls [.ref h7]) rfl ?_
      refine lv_astore (lv' := [(7, .ref h7), (6, .ref h6), (0, .ref h0), (1, .int p0), (2, .int p1), (3, .int p2), (4, .int p3), (5, .int p4)]) hx hb dX11_shift_12 hl (by decide) rfl (fun ls hl => ?_)
      refine lv_aload hx hb dX11_shift_14 (lv_at hl 1 rfl) ?_
      refine lv_ifnull hx hb dX11_shift_16 ?_
      refine lv_aload hx hb dX11_shift_19 (lv_at hl 0 rfl) ?_
      refine lv_ifnonnull (tgt := 26) hx hb dX11_shift_21 (by decide) ?_
      refine lv_aload hx hb dX11_shift_26 (lv_at hl 1 rfl) ?_
      have hPc := hP.sub (ws' := [(h6, .inr (8, [.ref h23, .int (-1), .int 0, .int 0]))]) [4] rfl
      have hDc := hD.sub (ws' := [(h6, .inr (8, [.ref h23, .int (-1), .int 0, .int 0]))]) [4] (by decide) rfl
      have hKc := hK.sub (tys' := []) [] rfl
      have hFc := va_free (wc := [(h6, .inr (8, [.ref h23, .int (-1), .int 0, .int 0]))]) hD hS hA [4] rfl
      refine va_calli (va_runV (As := []) (rest := []) ⟨hx, hb, hml, hown, hts⟩ (k_X8_isEmpty_0 l dC dI h6 h23 H.size) (cwV 0 hts gX11_shift_X8_isEmpty rfl rfl rfl (by decide +kernel) ⟨Nat.le_of_ble_eq_true rfl, Nat.le_of_ble_eq_true rfl⟩) ⟨fun a U g mk q => by obtain ⟨q0, q1, qP, qK, qD⟩ := q; exact ⟨q0, q1, qP, va_K.moved (u := U) (U := U.calling g mk a) (Vm.Alike.refl U.vm) qK, qD⟩, va_recv hKc hPc (ci := 8) (q0 := 0) rfl rfl, fun U hU hW => ⟨rfl, by rw [hU], by rw [hU]; exact hPc, va_K.moved hW.alike hKc, hDc.weaken (fun _ _ _ _ => trivial)⟩⟩ rfl rfl hl.1 rfl (lv_room (Nat.le_of_ble_eq_true rfl)) dX11_shift_28 ⟨Nat.le_of_ble_eq_true rfl, Nat.le_of_ble_eq_true rfl⟩) hS (fun q _ h => hFc q h) hFc (fun r_38 u t H1 locs ht hvm hw hB hz1 hk1 hS => ?_)
      obtain ⟨hP1, hK1, hD1⟩ := hB
      rw [ht] at hP1
      have hK1 := va_K.moved hvm.symm hK1
      obtain ⟨hP, hD⟩ := va_join (wr := [(h2, .inr (8, [.ref h19, .int (-1), .int 0, .int 0])), (h3, .inr (8, [.ref h20, .int (-1), .int 0, .int 0])), (h4, .inr (8, [.ref h21, .int (-1), .int 0, .int 0])), (h5, .inr (8, [.ref h22, .int (-1), .int 0, .int 0])), (h7, .inr (8, [.ref h24, .int (-1), .int 0, .int 0])), (h0, .inr (11, [.ref h8, .int 0, .ref h9, .ref h10, .ref h11, .ref h12, .ref h13, .ref h14, .ref h15, .ref h16, .ref h17, .int 0, .ref h18, .ref h1])), (h1, .inl (cOShelf, 6, .inr (.inr (.inr (.inr (va_up (va_up (va_up (va_up (va_up (va_up (fun _ => none) (0 : Int32).toNatClampNeg (some h2)) (1 : Int32).toNatClampNeg (some h3)) (2 : Int32).toNatClampNeg (some h4)) (3 : Int32).toNatClampNeg (some h5)) (4 : Int32).toNatClampNeg (some h6)) (5 : Int32).toNatClampNeg (some h7)))))))]) (w1 := [(h6, .inr (8, [.ref h23, .int (-1), .int 0, .int 0]))]) hP hD [4] [0, 1, 2, 3, 5, 6, 7] rfl rfl (by decide) (by decide) hk1 hFc hP1 hD1
      generalize H1 = H at hP hS ⊢
      have hP : va_P (dC, dI) vwCl [(h2, .inr (8, [.ref h19, .int (-1), .int 0, .int 0])), (h3, .inr (8, [.ref h20, .int (-1), .int 0, .int 0])), (h4, .inr (8, [.ref h21, .int (-1), .int 0, .int 0])), (h5, .inr (8, [.ref h22, .int (-1), .int 0, .int 0])), (h7, .inr (8, [.ref h24, .int (-1), .int 0, .int 0])), (h0, .inr (11, [.ref h8, .int 0, .ref h9, .ref h10, .ref h11, .ref h12, .ref h13, .ref h14, .ref h15, .ref h16, .ref h17, .int 0, .ref h18, .ref h1])), (h1, .inl (cOShelf, 6, .inr (.inr (.inr (.inr (va_up (va_up (va_up (va_up (va_up (va_up (fun _ => none) (0 : Int32).toNatClampNeg (some h2)) (1 : Int32).toNatClampNeg (some h3)) (2 : Int32).toNatClampNeg (some h4)) (3 : Int32).toNatClampNeg (some h5)) (4 : Int32).toNatClampNeg (some h6)) (5 : Int32).toNatClampNeg (some h7))))))), (h6, .inr (8, [.ref h23, .int (-1), .int 0, .int 0]))] H := hP
      have hD : va_D A [(h2, .inr (8, [.ref h19, .int (-1), .int 0, .int 0])), (h3, .inr (8, [.ref h20, .int (-1), .int 0, .int 0])), (h4, .inr (8, [.ref h21, .int (-1), .int 0, .int 0])), (h5, .inr (8, [.ref h22, .int (-1), .int 0, .int 0])), (h7, .inr (8, [.ref h24, .int (-1), .int 0, .int 0])), (h0, .inr (11, [.ref h8, .int 0, .ref h9, .ref h10, .ref h11, .ref h12, .ref h13, .ref h14, .ref h15, .ref h16, .ref h17, .int 0, .ref h18, .ref h1])), (h1, .inl (cOShelf, 6, .inr (.inr (.inr (.inr (va_up (va_up (va_up (va_up (va_up (va_up (fun _ => none) (0 : Int32).toNatClampNeg (some h2)) (1 : Int32).toNatClampNeg (some h3)) (2 : Int32).toNatClampNeg (some h4)) (3 : Int32).toNatClampNeg (some h5)) (4 : Int32).toNatClampNeg (some h6)) (5 : Int32).toNatClampNeg (some h7))))))), (h6, .inr (8, [.ref h23, .int (-1), .int 0, .int 0]))] := hD
      obtain rfl := hw
      refine lv_if_ne (tgt := 42) hx hb dX11_shift_31 (by decide) (fun _ => ?_) (fun c => absurd c (by decide))
      refine lv_bipush (v := (-11)) hx hb dX11_shift_42 (by decide) ?_
      have hP9 := hP.sub (ws' := []) [] rfl
      have hD9 := hD.sub (ws' := []) [] (by decide) rfl
      have hK9 := hK.sub (tys' := []) [] rfl
      exact W.iret (v := (-11)) hx hb hr (fun t ht hW => ⟨⟨(-11), (), rfl, by first | rfl | ((repeat' split) <;> first | rfl | (exfalso; omega) | (exact Int32.toInt_inj.mp (by show ((-11) : Int) = _; omega))), by rw [ht]; exact hP9, va_K.moved hW.alike hK9, hD9⟩, hS.F ht⟩) hS.2.2 dX11_shift_44
  · skip
    refine W.eq (g2 := F0 m 5 ls [.ref h7]) rfl ?_
    refine lv_astore (lv' := [(6, .ref h7), (0, .ref h0), (1, .int p0), (2, .int p1), (3, .int p2), (4, .int p3), (5, .int p4)]) hx hb dX11_shift_5 hl (by decide) rfl (fun ls hl => ?_)
    refine lv_aload_n hx hb dX11_shift_7 rfl (lv_at hl 1 rfl) ?_
    refine lv_iload_n hx hb dX11_shift_8 rfl (lv_at hl 4 rfl) ?_
    have hPc := hP.sub (ws' := [(h0, .inr (11, [.ref h8, .int 0, .ref h9, .ref h10, .ref h11, .ref h12, .ref h13, .ref h14, .ref h15, .ref h16, .ref h17, .int 0, .ref h18, .ref h1])), (h1, .inl (cOShelf, 6, .inr (.inr (.inr (.inr (va_up (va_up (va_up (va_up (va_up (va_up (fun _ => none) (0 : Int32).toNatClampNeg (some h2)) (1 : Int32).toNatClampNeg (some h3)) (2 : Int32).toNatClampNeg (some h4)) (3 : Int32).toNatClampNeg (some h5)) (4 : Int32).toNatClampNeg (some h6)) (5 : Int32).toNatClampNeg (some h7)))))))]) [6, 7] rfl
    have hDc := hD.sub (ws' := [(h0, .inr (11, [.ref h8, .int 0, .ref h9, .ref h10, .ref h11, .ref h12, .ref h13, .ref h14, .ref h15, .ref h16, .ref h17, .int 0, .ref h18, .ref h1])), (h1, .inl (cOShelf, 6, .inr (.inr (.inr (.inr (va_up (va_up (va_up (va_up (va_up (va_up (fun _ => none) (0 : Int32).toNatClampNeg (some h2)) (1 : Int32).toNatClampNeg (some h3)) (2 : Int32).toNatClampNeg (some h4)) (3 : Int32).toNatClampNeg (some h5)) (4 : Int32).toNatClampNeg (some h6)) (5 : Int32).toNatClampNeg (some h7)))))))]) [6, 7] (by decide) rfl
    have hKc := hK.sub (tys' := [(cOShelf, .object "KinkStreet$Shelf")]) [0] rfl
    have hFc := va_free (wc := [(h0, .inr (11, [.ref h8, .int 0, .ref h9, .ref h10, .ref h11, .ref h12, .ref h13, .ref h14, .ref h15, .ref h16, .ref h17, .int 0, .ref h18, .ref h1])), (h1, .inl (cOShelf, 6, .inr (.inr (.inr (.inr (va_up (va_up (va_up (va_up (va_up (va_up (fun _ => none) (0 : Int32).toNatClampNeg (some h2)) (1 : Int32).toNatClampNeg (some h3)) (2 : Int32).toNatClampNeg (some h4)) (3 : Int32).toNatClampNeg (some h5)) (4 : Int32).toNatClampNeg (some h6)) (5 : Int32).toNatClampNeg (some h7)))))))]) hD hS hA [6, 7] rfl
    refine va_callq (va_runV (As := [.int p2]) (rest := []) ⟨hx, hb, hml, hown, hts⟩ (k_X11_knownShelf_0 l dC dI h0 h1 h8 h9 h10 h11 h12 h13 h14 h15 h16 h17 h18 h2 h3 h4 h5 h6 h7 cOShelf H.size p2) (cwV 1 hts gX11_shift_X11_knownShelf rfl rfl rfl (by decide +kernel) ⟨Nat.le_of_ble_eq_true rfl, Nat.le_of_ble_eq_true rfl⟩) ⟨fun a U g mk q => by obtain ⟨q0, q1, qP, qK, qD⟩ := q; exact ⟨q0, q1, qP, va_K.moved (u := U) (U := U.calling g mk a) (Vm.Alike.refl U.vm) qK, qD⟩, va_recv hKc hPc (ci := 11) (q0 := 0) rfl rfl, fun U hU hW => ⟨rfl, by rw [hU], by rw [hU]; exact hPc, va_K.moved hW.alike hKc, hDc.weaken (fun _ _ _ _ => trivial)⟩⟩ rfl rfl hl.1 rfl (lv_room (Nat.le_of_ble_eq_true rfl)) dX11_shift_9 ⟨Nat.le_of_ble_eq_true rfl, Nat.le_of_ble_eq_true rfl⟩) hS (fun q _ h => hFc q h) hFc (fun r_39 u t H1 locs ht hvm hw hB hz1 hk1 hS => ?_)
    obtain ⟨hP1, hK1, hD1⟩ := hB
    rw [ht] at hP1
    have hK1 := va_K.moved hvm.symm hK1
    obtain ⟨hP, hD⟩ := va_join (wr := [(h2, .inr (8, [.ref h19, .int (-1), .int 0, .int 0])), (h3, .inr (8, [.ref h20, .int (-1), .int 0, .int 0])), (h4, .inr (8, [.ref h21, .int (-1), .int 0, .int 0])), (h5, .inr (8, [.ref h22, .int (-1), .int 0, .int 0])), (h6, .inr (8, [.ref h23, .int (-1), .int 0, .int 0])), (h7, .inr (8, [.ref h24, .int (-1), .int 0, .int 0]))]) (w1 := [(h0, .inr (11, [.ref h8, .int 0, .ref h9, .ref h10, .ref h11, .ref h12, .ref h13, .ref h14, .ref h15, .ref h16, .ref h17, .int 0, .ref h18, .ref h1])), (h1, .inl (cOShelf, 6, .inr (.inr (.inr (.inr (va_up (va_up (va_up (va_up (va_up (va_up (fun _ => none) (0 : Int32).toNatClampNeg (some h2)) (1 : Int32).toNatClampNeg (some h3)) (2 : Int32).toNatClampNeg (some h4)) (3 : Int32).toNatClampNeg (some h5)) (4 : Int32).toNatClampNeg (some h6)) (5 : Int32).toNatClampNeg (some h7)))))))]) hP hD [6, 7] [0, 1, 2, 3, 4, 5] rfl rfl (by decide) (by decide) hk1 hFc hP1 hD1
    generalize H1 = H at hP hS ⊢
    have hP : va_P (dC, dI) vwCl [(h2, .inr (8, [.ref h19, .int (-1), .int 0, .int 0])), (h3, .inr (8, [.ref h20, .int (-1), .int 0, .int 0])), (h4, .inr (8, [.ref h21, .int (-1), .int 0, .int 0])), (h5, .inr (8, [.ref h22, .int (-1), .int 0, .int 0])), (h6, .inr (8, [.ref h23, .int (-1), .int 0, .int 0])), (h7, .inr (8, [.ref h24, .int (-1), .int 0, .int 0])), (h0, .inr (11, [.ref h8, .int 0, .ref h9, .ref h10, .ref h11, .ref h12, .ref h13, .ref h14, .ref h15, .ref h16, .ref h17, .int 0, .ref h18, .ref h1])), (h1, .inl (cOShelf, 6, .inr (.inr (.inr (.inr (va_up (va_up (va_up (va_up (va_up (va_up (fun _ => none) (0 : Int32).toNatClampNeg (some h2)) (1 : Int32).toNatClampNeg (some h3)) (2 : Int32).toNatClampNeg (some h4)) (3 : Int32).toNatClampNeg (some h5)) (4 : Int32).toNatClampNeg (some h6)) (5 : Int32).toNatClampNeg (some h7)))))))] H := hP
    have hD : va_D A [(h2, .inr (8, [.ref h19, .int (-1), .int 0, .int 0])), (h3, .inr (8, [.ref h20, .int (-1), .int 0, .int 0])), (h4, .inr (8, [.ref h21, .int (-1), .int 0, .int 0])), (h5, .inr (8, [.ref h22, .int (-1), .int 0, .int 0])), (h6, .inr (8, [.ref h23, .int (-1), .int 0, .int 0])), (h7, .inr (8, [.ref h24, .int (-1), .int 0, .int 0])), (h0, .inr (11, [.ref h8, .int 0, .ref h9, .ref h10, .ref h11, .ref h12, .ref h13, .ref h14, .ref h15, .ref h16, .ref h17, .int 0, .ref h18, .ref h1])), (h1, .inl (cOShelf, 6, .inr (.inr (.inr (.inr (va_up (va_up (va_up (va_up (va_up (va_up (fun _ => none) (0 : Int32).toNatClampNeg (some h2)) (1 : Int32).toNatClampNeg (some h3)) (2 : Int32).toNatClampNeg (some h4)) (3 : Int32).toNatClampNeg (some h5)) (4 : Int32).toNatClampNeg (some h6)) (5 : Int32).toNatClampNeg (some h7)))))))] := hD
    rcases hw with ⟨t_39_0, rfl⟩ | ⟨t_39_0, t_39_1, rfl⟩ | ⟨t_39_0, t_39_1, t_39_2, rfl⟩ | ⟨t_39_0, t_39_1, t_39_2, rfl⟩ | ⟨t_39_0, t_39_1, t_39_2, rfl⟩ | ⟨t_39_0, t_39_1, t_39_2, rfl⟩ | ⟨t_39_0, t_39_1, t_39_2, rfl⟩ | ⟨t_39_0, t_39_1, t_39_2, rfl⟩
    · skip
      refine W.eq (g2 := F0 m 12 ls [.null]) rfl ?_
      refine lv_astoreN (lv' := [(7, .null), (6, .ref h7), (0, .ref h0), (1, .int p0), (2, .int p1), (3, .int p2), (4, .int p3), (5, .int p4)]) hx hb dX11_shift_12 hl (by decide) rfl (fun ls hl => ?_)
      refine lv_aload hx hb dX11_shift_14 (lv_at hl 1 rfl) ?_
      refine lv_ifnull hx hb dX11_shift_16 ?_
      refine lv_aloadN hx hb dX11_shift_19 (lv_at hl 0 rfl) ?_
      refine lv_ifnonnullN hx hb dX11_shift_21 ?_
      refine lv_iconst (v := (-1)) hx hb dX11_shift_24 (by decide) ?_
      have hP9 := hP.sub (ws' := []) [] rfl
      have hD9 := hD.sub (ws' := []) [] (by decide) rfl
      have hK9 := hK.sub (tys' := []) [] rfl
      exact W.iret (v := (-1)) hx hb hr (fun t ht hW => ⟨⟨(-1), (), rfl, by first | rfl | ((repeat' split) <;> first | rfl | (exfalso; omega) | (exact Int32.toInt_inj.mp (by show ((-1) : Int) = _; omega))), by rw [ht]; exact hP9, va_K.moved hW.alike hK9, hD9⟩, hS.F ht⟩) hS.2.2 dX11_shift_25
    · skip
      refine W.eq (g2 := F0 m 12 ls [.null]) rfl ?_
      refine lv_astoreN (lv' := [(7, .null), (6, .ref h7), (0, .ref h0), (1, .int p0), (2, .int p1), (3, .int p2), (4, .int p3), (5, .int p4)]) hx hb dX11_shift_12 hl (by decide) rfl (fun ls hl => ?_)
      refine lv_aload hx hb dX11_shift_14 (lv_at hl 1 rfl) ?_
      refine lv_ifnull hx hb dX11_shift_16 ?_
      refine lv_aloadN hx hb dX11_shift_19 (lv_at hl 0 rfl) ?_
      refine lv_ifnonnullN hx hb dX11_shift_21 ?_
      refine lv_iconst (v := (-1)) hx hb dX11_shift_24 (by decide) ?_
      have hP9 := hP.sub (ws' := []) [] rfl
      have hD9 := hD.sub (ws' := []) [] (by decide) rfl
      have hK9 := hK.sub (tys' := []) [] rfl
      exact W.iret (v := (-1)) hx hb hr (fun t ht hW => ⟨⟨(-1), (), rfl, by first | rfl | ((repeat' split) <;> first | rfl | (exfalso; omega) | (exact Int32.toInt_inj.mp (by show ((-1) : Int) = _; omega))), by rw [ht]; exact hP9, va_K.moved hW.alike hK9, hD9⟩, hS.F ht⟩) hS.2.2 dX11_shift_25
    · skip
      refine W.eq (g2 := F0 m 12 ls [.ref h2]) rfl ?_
      refine lv_astore (lv' := [(7, .ref h2), (6, .ref h7), (0, .ref h0), (1, .int p0), (2, .int p1), (3, .int p2), (4, .int p3), (5, .int p4)]) hx hb dX11_shift_12 hl (by decide) rfl (fun ls hl => ?_)
      refine lv_aload hx hb dX11_shift_14 (lv_at hl 1 rfl) ?_
      refine lv_ifnull hx hb dX11_shift_16 ?_
      refine lv_aload hx hb dX11_shift_19 (lv_at hl 0 rfl) ?_
      refine lv_ifnonnull (tgt := 26) hx hb dX11_shift_21 (by decide) ?_
      refine lv_aload hx hb dX11_shift_26 (lv_at hl 1 rfl) ?_
      have hPc := hP.sub (ws' := [(h7, .inr (8, [.ref h24, .int (-1), .int 0, .int 0]))]) [5] rfl
      have hDc := hD.sub (ws' := [(h7, .inr (8, [.ref h24, .int (-1), .int 0, .int 0]))]) [5] (by decide) rfl
      have hKc := hK.sub (tys' := []) [] rfl
      have hFc := va_free (wc := [(h7, .inr (8, [.ref h24, .int (-1), .int 0, .int 0]))]) hD hS hA [5] rfl
      refine va_calli (va_runV (As := []) (rest := []) ⟨hx, hb, hml, hown, hts⟩ (k_X8_isEmpty_0 l dC dI h7 h24 H.size) (cwV 0 hts gX11_shift_X8_isEmpty rfl rfl rfl (by decide +kernel) ⟨Nat.le_of_ble_eq_true rfl, Nat.le_of_ble_eq_true rfl⟩) ⟨fun a U g mk q => by obtain ⟨q0, q1, qP, qK, qD⟩ := q; exact ⟨q0, q1, qP, va_K.moved (u := U) (U := U.calling g mk a) (Vm.Alike.refl U.vm) qK, qD⟩, va_recv hKc hPc (ci := 8) (q0 := 0) rfl rfl, fun U hU hW => ⟨rfl, by rw [hU], by rw [hU]; exact hPc, va_K.moved hW.alike hKc, hDc.weaken (fun _ _ _ _ => trivial)⟩⟩ rfl rfl hl.1 rfl (lv_room (Nat.le_of_ble_eq_true rfl)) dX11_shift_28 ⟨Nat.le_of_ble_eq_true rfl, Nat.le_of_ble_eq_true rfl⟩) hS (fun q _ h => hFc q h) hFc (fun r_40 u t H1 locs ht hvm hw hB hz1 hk1 hS => ?_)
      obtain ⟨hP1, hK1, hD1⟩ := hB
      rw [ht] at hP1
      have hK1 := va_K.moved hvm.symm hK1
      obtain ⟨hP, hD⟩ := va_join (wr := [(h2, .inr (8, [.ref h19, .int (-1), .int 0, .int 0])), (h3, .inr (8, [.ref h20, .int (-1), .int 0, .int 0])), (h4, .inr (8, [.ref h21, .int (-1), .int 0, .int 0])), (h5, .inr (8, [.ref h22, .int (-1), .int 0, .int 0])), (h6, .inr (8, [.ref h23, .int (-1), .int 0, .int 0])), (h0, .inr (11, [.ref h8, .int 0, .ref h9, .ref h10, .ref h11, .ref h12, .ref h13, .ref h14, .ref h15, .ref h16, .ref h17, .int 0, .ref h18, .ref h1])), (h1, .inl (cOShelf, 6, .inr (.inr (.inr (.inr (va_up (va_up (va_up (va_up (va_up (va_up (fun _ => none) (0 : Int32).toNatClampNeg (some h2)) (1 : Int32).toNatClampNeg (some h3)) (2 : Int32).toNatClampNeg (some h4)) (3 : Int32).toNatClampNeg (some h5)) (4 : Int32).toNatClampNeg (some h6)) (5 : Int32).toNatClampNeg (some h7)))))))]) (w1 := [(h7, .inr (8, [.ref h24, .int (-1), .int 0, .int 0]))]) hP hD [5] [0, 1, 2, 3, 4, 6, 7] rfl rfl (by decide) (by decide) hk1 hFc hP1 hD1
      generalize H1 = H at hP hS ⊢
      have hP : va_P (dC, dI) vwCl [(h2, .inr (8, [.ref h19, .int (-1), .int 0, .int 0])), (h3, .inr (8, [.ref h20, .int (-1), .int 0, .int 0])), (h4, .inr (8, [.ref h21, .int (-1), .int 0, .int 0])), (h5, .inr (8, [.ref h22, .int (-1), .int 0, .int 0])), (h6, .inr (8, [.ref h23, .int (-1), .int 0, .int 0])), (h0, .inr (11, [.ref h8, .int 0, .ref h9, .ref h10, .ref h11, .ref h12, .ref h13, .ref h14, .ref h15, .ref h16, .ref h17, .int 0, .ref h18, .ref h1])), (h1, .inl (cOShelf, 6, .inr (.inr (.inr (.inr (va_up (va_up (va_up (va_up (va_up (va_up (fun _ => none) (0 : Int32).toNatClampNeg (some h2)) (1 : Int32).toNatClampNeg (some h3)) (2 : Int32).toNatClampNeg (some h4)) (3 : Int32).toNatClampNeg (some h5)) (4 : Int32).toNatClampNeg (some h6)) (5 : Int32).toNatClampNeg (some h7))))))), (h7, .inr (8, [.ref h24, .int (-1), .int 0, .int 0]))] H := hP
      have hD : va_D A [(h2, .inr (8, [.ref h19, .int (-1), .int 0, .int 0])), (h3, .inr (8, [.ref h20, .int (-1), .int 0, .int 0])), (h4, .inr (8, [.ref h21, .int (-1), .int 0, .int 0])), (h5, .inr (8, [.ref h22, .int (-1), .int 0, .int 0])), (h6, .inr (8, [.ref h23, .int (-1), .int 0, .int 0])), (h0, .inr (11, [.ref h8, .int 0, .ref h9, .ref h10, .ref h11, .ref h12, .ref h13, .ref h14, .ref h15, .ref h16, .ref h17, .int 0, .ref h18, .ref h1])), (h1, .inl (cOShelf, 6, .inr (.inr (.inr (.inr (va_up (va_up (va_up (va_up (va_up (va_up (fun _ => none) (0 : Int32).toNatClampNeg (some h2)) (1 : Int32).toNatClampNeg (some h3)) (2 : Int32).toNatClampNeg (some h4)) (3 : Int32).toNatClampNeg (some h5)) (4 : Int32).toNatClampNeg (some h6)) (5 : Int32).toNatClampNeg (some h7))))))), (h7, .inr (8, [.ref h24, .int (-1), .int 0, .int 0]))] := hD
      obtain rfl := hw
      refine lv_if_ne (tgt := 42) hx hb dX11_shift_31 (by decide) (fun _ => ?_) (fun c => absurd c (by decide))
      refine lv_bipush (v := (-11)) hx hb dX11_shift_42 (by decide) ?_
      have hP9 := hP.sub (ws' := []) [] rfl
      have hD9 := hD.sub (ws' := []) [] (by decide) rfl
      have hK9 := hK.sub (tys' := []) [] rfl
      exact W.iret (v := (-11)) hx hb hr (fun t ht hW => ⟨⟨(-11), (), rfl, by first | rfl | ((repeat' split) <;> first | rfl | (exfalso; omega) | (exact Int32.toInt_inj.mp (by show ((-11) : Int) = _; omega))), by rw [ht]; exact hP9, va_K.moved hW.alike hK9, hD9⟩, hS.F ht⟩) hS.2.2 dX11_shift_44
    · skip
      refine W.eq (g2 := F0 m 12 ls [.ref h3]) rfl ?_
      refine lv_astore (lv' := [(7, .ref h3), (6, .ref h7), (0, .ref h0), (1, .int p0), (2, .int p1), (3, .int p2), (4, .int p3), (5, .int p4)]) hx hb dX11_shift_12 hl (by decide) rfl (fun ls hl => ?_)
      refine lv_aload hx hb dX11_shift_14 (lv_at hl 1 rfl) ?_
      refine lv_ifnull hx hb dX11_shift_16 ?_
      refine lv_aload hx hb dX11_shift_19 (lv_at hl 0 rfl) ?_
      refine lv_ifnonnull (tgt := 26) hx hb dX11_shift_21 (by decide) ?_
      refine lv_aload hx hb dX11_shift_26 (lv_at hl 1 rfl) ?_
      have hPc := hP.sub (ws' := [(h7, .inr (8, [.ref h24, .int (-1), .int 0, .int 0]))]) [5] rfl
      have hDc := hD.sub (ws' := [(h7, .inr (8, [.ref h24, .int (-1), .int 0, .int 0]))]) [5] (by decide) rfl
      have hKc := hK.sub (tys' := []) [] rfl
      have hFc := va_free (wc := [(h7, .inr (8, [.ref h24, .int (-1), .int 0, .int 0]))]) hD hS hA [5] rfl
      refine va_calli (va_runV (As := []) (rest := []) ⟨hx, hb, hml, hown, hts⟩ (k_X8_isEmpty_0 l dC dI h7 h24 H.size) (cwV 0 hts gX11_shift_X8_isEmpty rfl rfl rfl (by decide +kernel) ⟨Nat.le_of_ble_eq_true rfl, Nat.le_of_ble_eq_true rfl⟩) ⟨fun a U g mk q => by obtain ⟨q0, q1, qP, qK, qD⟩ := q; exact ⟨q0, q1, qP, va_K.moved (u := U) (U := U.calling g mk a) (Vm.Alike.refl U.vm) qK, qD⟩, va_recv hKc hPc (ci := 8) (q0 := 0) rfl rfl, fun U hU hW => ⟨rfl, by rw [hU], by rw [hU]; exact hPc, va_K.moved hW.alike hKc, hDc.weaken (fun _ _ _ _ => trivial)⟩⟩ rfl rfl hl.1 rfl (lv_room (Nat.le_of_ble_eq_true rfl)) dX11_shift_28 ⟨Nat.le_of_ble_eq_true rfl, Nat.le_of_ble_eq_true rfl⟩) hS (fun q _ h => hFc q h) hFc (fun r_41 u t H1 locs ht hvm hw hB hz1 hk1 hS => ?_)
      obtain ⟨hP1, hK1, hD1⟩ := hB
      rw [ht] at hP1
      have hK1 := va_K.moved hvm.symm hK1
      obtain ⟨hP, hD⟩ := va_join (wr := [(h2, .inr (8, [.ref h19, .int (-1), .int 0, .int 0])), (h3, .inr (8, [.ref h20, .int (-1), .int 0, .int 0])), (h4, .inr (8, [.ref h21, .int (-1), .int 0, .int 0])), (h5, .inr (8, [.ref h22, .int (-1), .int 0, .int 0])), (h6, .inr (8, [.ref h23, .int (-1), .int 0, .int 0])), (h0, .inr (11, [.ref h8, .int 0, .ref h9, .ref h10, .ref h11, .ref h12, .ref h13, .ref h14, .ref h15, .ref h16, .ref h17, .int 0, .ref h18, .ref h1])), (h1, .inl (cOShelf, 6, .inr (.inr (.inr (.inr (va_up (va_up (va_up (va_up (va_up (va_up (fun _ => none) (0 : Int32).toNatClampNeg (some h2)) (1 : Int32).toNatClampNeg (some h3)) (2 : Int32).toNatClampNeg (some h4)) (3 : Int32).toNatClampNeg (some h5)) (4 : Int32).toNatClampNeg (some h6)) (5 : Int32).toNatClampNeg (some h7)))))))]) (w1 := [(h7, .inr (8, [.ref h24, .int (-1), .int 0, .int 0]))]) hP hD [5] [0, 1, 2, 3, 4, 6, 7] rfl rfl (by decide) (by decide) hk1 hFc hP1 hD1
      generalize H1 = H at hP hS ⊢
      have hP : va_P (dC, dI) vwCl [(h2, .inr (8, [.ref h19, .int (-1), .int 0, .int 0])), (h3, .inr (8, [.ref h20, .int (-1), .int 0, .int 0])), (h4, .inr (8, [.ref h21, .int (-1), .int 0, .int 0])), (h5, .inr (8, [.ref h22, .int (-1), .int 0, .int 0])), (h6, .inr (8, [.ref h23, .int (-1), .int 0, .int 0])), (h0, .inr (11, [.ref h8, .int 0, .ref h9, .ref h10, .ref h11, .ref h12, .ref h13, .ref h14, .ref h15, .ref h16, .ref h17, .int 0, .ref h18, .ref h1])), (h1, .inl (cOShelf, 6, .inr (.inr (.inr (.inr (va_up (va_up (va_up (va_up (va_up (va_up (fun _ => none) (0 : Int32).toNatClampNeg (some h2)) (1 : Int32).toNatClampNeg (some h3)) (2 : Int32).toNatClampNeg (some h4)) (3 : Int32).toNatClampNeg (some h5)) (4 : Int32).toNatClampNeg (some h6)) (5 : Int32).toNatClampNeg (some h7))))))), (h7, .inr (8, [.ref h24, .int (-1), .int 0, .int 0]))] H := hP
      have hD : va_D A [(h2, .inr (8, [.ref h19, .int (-1), .int 0, .int 0])), (h3, .inr (8, [.ref h20, .int (-1), .int 0, .int 0])), (h4, .inr (8, [.ref h21, .int (-1), .int 0, .int 0])), (h5, .inr (8, [.ref h22, .int (-1), .int 0, .int 0])), (h6, .inr (8, [.ref h23, .int (-1), .int 0, .int 0])), (h0, .inr (11, [.ref h8, .int 0, .ref h9, .ref h10, .ref h11, .ref h12, .ref h13, .ref h14, .ref h15, .ref h16, .ref h17, .int 0, .ref h18, .ref h1])), (h1, .inl (cOShelf, 6, .inr (.inr (.inr (.inr (va_up (va_up (va_up (va_up (va_up (va_up (fun _ => none) (0 : Int32).toNatClampNeg (some h2)) (1 : Int32).toNatClampNeg (some h3)) (2 : Int32).toNatClampNeg (some h4)) (3 : Int32).toNatClampNeg (some h5)) (4 : Int32).toNatClampNeg (some h6)) (5 : Int32).toNatClampNeg (some h7))))))), (h7, .inr (8, [.ref h24, .int (-1), .int 0, .int 0]))] := hD
      obtain rfl := hw
      refine lv_if_ne (tgt := 42) hx hb dX11_shift_31 (by decide) (fun _ => ?_) (fun c => absurd c (by decide))
      refine lv_bipush (v := (-11)) hx hb dX11_shift_42 (by decide) ?_
      have hP9 := hP.sub (ws' := []) [] rfl
      have hD9 := hD.sub (ws' := []) [] (by decide) rfl
      have hK9 := hK.sub (tys' := []) [] rfl
      exact W.iret (v := (-11)) hx hb hr (fun t ht hW => ⟨⟨(-11), (), rfl, by first | rfl | ((repeat' split) <;> first | rfl | (exfalso; omega) | (exact Int32.toInt_inj.mp (by show ((-11) : Int) = _; omega))), by rw [ht]; exact hP9, va_K.moved hW.alike hK9, hD9⟩, hS.F ht⟩) hS.2.2 dX11_shift_44
    · skip
      refine W.eq (g2 := F0 m 12 ls [.ref h4]) rfl ?_
      refine lv_astore (lv' := [(7, .ref h4), (6, .ref h7), (0, .ref h0), (1, .int p0), (2, .int p1), (3, .int p2), (4, .int p3), (5, .int p4)]) hx hb dX11_shift_12 hl (by decide) rfl (fun ls hl => ?_)
      refine lv_aload hx hb dX11_shift_14 (lv_at hl 1 rfl) ?_
      refine lv_ifnull hx hb dX11_shift_16 ?_
      refine lv_aload hx hb dX11_shift_19 (lv_at hl 0 rfl) ?_
      refine lv_ifnonnull (tgt := 26) hx hb dX11_shift_21 (by decide) ?_
      refine lv_aload hx hb dX11_shift_26 (lv_at hl 1 rfl) ?_
      have hPc := hP.sub (ws' := [(h7, .inr (8, [.ref h24, .int (-1), .int 0, .int 0]))]) [5] rfl
      have hDc := hD.sub (ws' := [(h7, .inr (8, [.ref h24, .int (-1), .int 0, .int 0]))]) [5] (by decide) rfl
      have hKc := hK.sub (tys' := []) [] rfl
      have hFc := va_free (wc := [(h7, .inr (8, [.ref h24, .int (-1), .int 0, .int 0]))]) hD hS hA [5] rfl
      refine va_calli (va_runV (As := []) (rest := []) ⟨hx, hb, hml, hown, hts⟩ (k_X8_isEmpty_0 l dC dI h7 h24 H.size) (cwV 0 hts gX11_shift_X8_isEmpty rfl rfl rfl (by decide +kernel) ⟨Nat.le_of_ble_eq_true rfl, Nat.le_of_ble_eq_true rfl⟩) ⟨fun a U g mk q => by obtain ⟨q0, q1, qP, qK, qD⟩ := q; exact ⟨q0, q1, qP, va_K.moved (u := U) (U := U.calling g mk a) (Vm.Alike.refl U.vm) qK, qD⟩, va_recv hKc hPc (ci := 8) (q0 := 0) rfl rfl, fun U hU hW => ⟨rfl, by rw [hU], by rw [hU]; exact hPc, va_K.moved hW.alike hKc, hDc.weaken (fun _ _ _ _ => trivial)⟩⟩ rfl rfl hl.1 rfl (lv_room (Nat.le_of_ble_eq_true rfl)) dX11_shift_28 ⟨Nat.le_of_ble_eq_true rfl, Nat.le_of_ble_eq_true rfl⟩) hS (fun q _ h => hFc q h) hFc (fun r_42 u t H1 locs ht hvm hw hB hz1 hk1 hS => ?_)
      obtain ⟨hP1, hK1, hD1⟩ := hB
      rw [ht] at hP1
      have hK1 := va_K.moved hvm.symm hK1
      obtain ⟨hP, hD⟩ := va_join (wr := [(h2, .inr (8, [.ref h19, .int (-1), .int 0, .int 0])), (h3, .inr (8, [.ref h20, .int (-1), .int 0, .int 0])), (h4, .inr (8, [.ref h21, .int (-1), .int 0, .int 0])), (h5, .inr (8, [.ref h22, .int (-1), .int 0, .int 0])), (h6, .inr (8, [.ref h23, .int (-1), .int 0, .int 0])), (h0, .inr (11, [.ref h8, .int 0, .ref h9, .ref h10, .ref h11, .ref h12, .ref h13, .ref h14, .ref h15, .ref h16, .ref h17, .int 0, .ref h18, .ref h1])), (h1, .inl (cOShelf, 6, .inr (.inr (.inr (.inr (va_up (va_up (va_up (va_up (va_up (va_up (fun _ => none) (0 : Int32).toNatClampNeg (some h2)) (1 : Int32).toNatClampNeg (some h3)) (2 : Int32).toNatClampNeg (some h4)) (3 : Int32).toNatClampNeg (some h5)) (4 : Int32).toNatClampNeg (some h6)) (5 : Int32).toNatClampNeg (some h7)))))))]) (w1 := [(h7, .inr (8, [.ref h24, .int (-1), .int 0, .int 0]))]) hP hD [5] [0, 1, 2, 3, 4, 6, 7] rfl rfl (by decide) (by decide) hk1 hFc hP1 hD1
      generalize H1 = H at hP hS ⊢
      have hP : va_P (dC, dI) vwCl [(h2, .inr (8, [.ref h19, .int (-1), .int 0, .int 0])), (h3, .inr (8, [.ref h20, .int (-1), .int 0, .int 0])), (h4, .inr (8, [.ref h21, .int (-1), .int 0, .int 0])), (h5, .inr (8, [.ref h22, .int (-1), .int 0, .int 0])), (h6, .inr (8, [.ref h23, .int (-1), .int 0, .int 0])), (h0, .inr (11, [.ref h8, .int 0, .ref h9, .ref h10, .ref h11, .ref h12, .ref h13, .ref h14, .ref h15, .ref h16, .ref h17, .int 0, .ref h18, .ref h1])), (h1, .inl (cOShelf, 6, .inr (.inr (.inr (.inr (va_up (va_up (va_up (va_up (va_up (va_up (fun _ => none) (0 : Int32).toNatClampNeg (some h2)) (1 : Int32).toNatClampNeg (some h3)) (2 : Int32).toNatClampNeg (some h4)) (3 : Int32).toNatClampNeg (some h5)) (4 : Int32).toNatClampNeg (some h6)) (5 : Int32).toNatClampNeg (some h7))))))), (h7, .inr (8, [.ref h24, .int (-1), .int 0, .int 0]))] H := hP
      have hD : va_D A [(h2, .inr (8, [.ref h19, .int (-1), .int 0, .int 0])), (h3, .inr (8, [.ref h20, .int (-1), .int 0, .int 0])), (h4, .inr (8, [.ref h21, .int (-1), .int 0, .int 0])), (h5, .inr (8, [.ref h22, .int (-1), .int 0, .int 0])), (h6, .inr (8, [.ref h23, .int (-1), .int 0, .int 0])), (h0, .inr (11, [.ref h8, .int 0, .ref h9, .ref h10, .ref h11, .ref h12, .ref h13, .ref h14, .ref h15, .ref h16, .ref h17, .int 0, .ref h18, .ref h1])), (h1, .inl (cOShelf, 6, .inr (.inr (.inr (.inr (va_up (va_up (va_up (va_up (va_up (va_up (fun _ => none) (0 : Int32).toNatClampNeg (some h2)) (1 : Int32).toNatClampNeg (some h3)) (2 : Int32).toNatClampNeg (some h4)) (3 : Int32).toNatClampNeg (some h5)) (4 : Int32).toNatClampNeg (some h6)) (5 : Int32).toNatClampNeg (some h7))))))), (h7, .inr (8, [.ref h24, .int (-1), .int 0, .int 0]))] := hD
      obtain rfl := hw
      refine lv_if_ne (tgt := 42) hx hb dX11_shift_31 (by decide) (fun _ => ?_) (fun c => absurd c (by decide))
      refine lv_bipush (v := (-11)) hx hb dX11_shift_42 (by decide) ?_
      have hP9 := hP.sub (ws' := []) [] rfl
      have hD9 := hD.sub (ws' := []) [] (by decide) rfl
      have hK9 := hK.sub (tys' := []) [] rfl
      exact W.iret (v := (-11)) hx hb hr (fun t ht hW => ⟨⟨(-11), (), rfl, by first | rfl | ((repeat' split) <;> first | rfl | (exfalso; omega) | (exact Int32.toInt_inj.mp (by show ((-11) : Int) = _; omega))), by rw [ht]; exact hP9, va_K.moved hW.alike hK9, hD9⟩, hS.F ht⟩) hS.2.2 dX11_shift_44
    · skip
      refine W.eq (g2 := F0 m 12 ls [.ref h5]) rfl ?_
      refine lv_astore (lv' := [(7, .ref h5), (6, .ref h7), (0, .ref h0), (1, .int p0), (2, .int p1), (3, .int p2), (4, .int p3), (5, .int p4)]) hx hb dX11_shift_12 hl (by decide) rfl (fun ls hl => ?_)
      refine lv_aload hx hb dX11_shift_14 (lv_at hl 1 rfl) ?_
      refine lv_ifnull hx hb dX11_shift_16 ?_
      refine lv_aload hx hb dX11_shift_19 (lv_at hl 0 rfl) ?_
      refine lv_ifnonnull (tgt := 26) hx hb dX11_shift_21 (by decide) ?_
      refine lv_aload hx hb dX11_shift_26 (lv_at hl 1 rfl) ?_
      have hPc := hP.sub (ws' := [(h7, .inr (8, [.ref h24, .int (-1), .int 0, .int 0]))]) [5] rfl
      have hDc := hD.sub (ws' := [(h7, .inr (8, [.ref h24, .int (-1), .int 0, .int 0]))]) [5] (by decide) rfl
      have hKc := hK.sub (tys' := []) [] rfl
      have hFc := va_free (wc := [(h7, .inr (8, [.ref h24, .int (-1), .int 0, .int 0]))]) hD hS hA [5] rfl
      refine va_calli (va_runV (As := []) (rest := []) ⟨hx, hb, hml, hown, hts⟩ (k_X8_isEmpty_0 l dC dI h7 h24 H.size) (cwV 0 hts gX11_shift_X8_isEmpty rfl rfl rfl (by decide +kernel) ⟨Nat.le_of_ble_eq_true rfl, Nat.le_of_ble_eq_true rfl⟩) ⟨fun a U g mk q => by obtain ⟨q0, q1, qP, qK, qD⟩ := q; exact ⟨q0, q1, qP, va_K.moved (u := U) (U := U.calling g mk a) (Vm.Alike.refl U.vm) qK, qD⟩, va_recv hKc hPc (ci := 8) (q0 := 0) rfl rfl, fun U hU hW => ⟨rfl, by rw [hU], by rw [hU]; exact hPc, va_K.moved hW.alike hKc, hDc.weaken (fun _ _ _ _ => trivial)⟩⟩ rfl rfl hl.1 rfl (lv_room (Nat.le_of_ble_eq_true rfl)) dX11_shift_28 ⟨Nat.le_of_ble_eq_true rfl, Nat.le_of_ble_eq_true rfl⟩) hS (fun q _ h => hFc q h) hFc (fun r_43 u t H1 locs ht hvm hw hB hz1 hk1 hS => ?_)
      obtain ⟨hP1, hK1, hD1⟩ := hB
      rw [ht] at hP1
      have hK1 := va_K.moved hvm.symm hK1
      obtain ⟨hP, hD⟩ := va_join (wr := [(h2, .inr (8, [.ref h19, .int (-1), .int 0, .int 0])), (h3, .inr (8, [.ref h20, .int (-1), .int 0, .int 0])), (h4, .inr (8, [.ref h21, .int (-1), .int 0, .int 0])), (h5, .inr (8, [.ref h22, .int (-1), .int 0, .int 0])), (h6, .inr (8, [.ref h23, .int (-1), .int 0, .int 0])), (h0, .inr (11, [.ref h8, .int 0, .ref h9, .ref h10, .ref h11, .ref h12, .ref h13, .ref h14, .ref h15, .ref h16, .ref h17, .int 0, .ref h18, .ref h1])), (h1, .inl (cOShelf, 6, .inr (.inr (.inr (.inr (va_up (va_up (va_up (va_up (va_up (va_up (fun _ => none) (0 : Int32).toNatClampNeg (some h2)) (1 : Int32).toNatClampNeg (some h3)) (2 : Int32).toNatClampNeg (some h4)) (3 : Int32).toNatClampNeg (some h5)) (4 : Int32).toNatClampNeg (some h6)) (5 : Int32).toNatClampNeg (some h7)))))))]) (w1 := [(h7, .inr (8, [.ref h24, .int (-1), .int 0, .int 0]))]) hP hD [5] [0, 1, 2, 3, 4, 6, 7] rfl rfl (by decide) (by decide) hk1 hFc hP1 hD1
      generalize H1 = H at hP hS ⊢
      have hP : va_P (dC, dI) vwCl [(h2, .inr (8, [.ref h19, .int (-1), .int 0, .int 0])), (h3, .inr (8, [.ref h20, .int (-1), .int 0, .int 0])), (h4, .inr (8, [.ref h21, .int (-1), .int 0, .int 0])), (h5, .inr (8, [.ref h22, .int (-1), .int 0, .int 0])), (h6, .inr (8, [.ref h23, .int (-1), .int 0, .int 0])), (h0, .inr (11, [.ref h8, .int 0, .ref h9, .ref h10, .ref h11, .ref h12, .ref h13, .ref h14, .ref h15, .ref h16, .ref h17, .int 0, .ref h18, .ref h1])), (h1, .inl (cOShelf, 6, .inr (.inr (.inr (.inr (va_up (va_up (va_up (va_up (va_up (va_up (fun _ => none) (0 : Int32).toNatClampNeg (some h2)) (1 : Int32).toNatClampNeg (some h3)) (2 : Int32).toNatClampNeg (some h4)) (3 : Int32).toNatClampNeg (some h5)) (4 : Int32).toNatClampNeg (some h6)) (5 : Int32).toNatClampNeg (some h7))))))), (h7, .inr (8, [.ref h24, .int (-1), .int 0, .int 0]))] H := hP
      have hD : va_D A [(h2, .inr (8, [.ref h19, .int (-1), .int 0, .int 0])), (h3, .inr (8, [.ref h20, .int (-1), .int 0, .int 0])), (h4, .inr (8, [.ref h21, .int (-1), .int 0, .int 0])), (h5, .inr (8, [.ref h22, .int (-1), .int 0, .int 0])), (h6, .inr (8, [.ref h23, .int (-1), .int 0, .int 0])), (h0, .inr (11, [.ref h8, .int 0, .ref h9, .ref h10, .ref h11, .ref h12, .ref h13, .ref h14, .ref h15, .ref h16, .ref h17, .int 0, .ref h18, .ref h1])), (h1, .inl (cOShelf, 6, .inr (.inr (.inr (.inr (va_up (va_up (va_up (va_up (va_up (va_up (fun _ => none) (0 : Int32).toNatClampNeg (some h2)) (1 : Int32).toNatClampNeg (some h3)) (2 : Int32).toNatClampNeg (some h4)) (3 : Int32).toNatClampNeg (some h5)) (4 : Int32).toNatClampNeg (some h6)) (5 : Int32).toNatClampNeg (some h7))))))), (h7, .inr (8, [.ref h24, .int (-1), .int 0, .int 0]))] := hD
      obtain rfl := hw
      refine lv_if_ne (tgt := 42) hx hb dX11_shift_31 (by decide) (fun _ => ?_) (fun c => absurd c (by decide))
      refine lv_bipush (v := (-11)) hx hb dX11_shift_42 (by decide) ?_
      have hP9 := hP.sub (ws' := []) [] rfl
      have hD9 := hD.sub (ws' := []) [] (by decide) rfl
      have hK9 := hK.sub (tys' := []) [] rfl
      exact W.iret (v := (-11)) hx hb hr (fun t ht hW => ⟨⟨(-11), (), rfl, by first | rfl | ((repeat' split) <;> first | rfl | (exfalso; omega) | (exact Int32.toInt_inj.mp (by show ((-11) : Int) = _; omega))), by rw [ht]; exact hP9, va_K.moved hW.alike hK9, hD9⟩, hS.F ht⟩) hS.2.2 dX11_shift_44
    · skip
      refine W.eq (g2 := F0 m 12 ls [.ref h6]) rfl ?_
      refine lv_astore (lv' := [(7, .ref h6), (6, .ref h7), (0, .ref h0), (1, .int p0), (2, .int p1), (3, .int p2), (4, .int p3), (5, .int p4)]) hx hb dX11_shift_12 hl (by decide) rfl (fun ls hl => ?_)
      refine lv_aload hx hb dX11_shift_14 (lv_at hl 1 rfl) ?_
      refine lv_ifnull hx hb dX11_shift_16 ?_
      refine lv_aload hx hb dX11_shift_19 (lv_at hl 0 rfl) ?_
      refine lv_ifnonnull (tgt := 26) hx hb dX11_shift_21 (by decide) ?_
      refine lv_aload hx hb dX11_shift_26 (lv_at hl 1 rfl) ?_
      have hPc := hP.sub (ws' := [(h7, .inr (8, [.ref h24, .int (-1), .int 0, .int 0]))]) [5] rfl
      have hDc := hD.sub (ws' := [(h7, .inr (8, [.ref h24, .int (-1), .int 0, .int 0]))]) [5] (by decide) rfl
      have hKc := hK.sub (tys' := []) [] rfl
      have hFc := va_free (wc := [(h7, .inr (8, [.ref h24, .int (-1), .int 0, .int 0]))]) hD hS hA [5] rfl
      refine va_calli (va_runV (As := []) (rest := []) ⟨hx, hb, hml, hown, hts⟩ (k_X8_isEmpty_0 l dC dI h7 h24 H.size) (cwV 0 hts gX11_shift_X8_isEmpty rfl rfl rfl (by decide +kernel) ⟨Nat.le_of_ble_eq_true rfl, Nat.le_of_ble_eq_true rfl⟩) ⟨fun a U g mk q => by obtain ⟨q0, q1, qP, qK, qD⟩ := q; exact ⟨q0, q1, qP, va_K.moved (u := U) (U := U.calling g mk a) (Vm.Alike.refl U.vm) qK, qD⟩, va_recv hKc hPc (ci := 8) (q0 := 0) rfl rfl, fun U hU hW => ⟨rfl, by rw [hU], by rw [hU]; exact hPc, va_K.moved hW.alike hKc, hDc.weaken (fun _ _ _ _ => trivial)⟩⟩ rfl rfl hl.1 rfl (lv_room (Nat.le_of_ble_eq_true rfl)) dX11_shift_28 ⟨Nat.le_of_ble_eq_true rfl, Nat.le_of_ble_eq_true rfl⟩) hS (fun q _ h => hFc q h) hFc (fun r_44 u t H1 locs ht hvm hw hB hz1 hk1 hS => ?_)
      obtain ⟨hP1, hK1, hD1⟩ := hB
      rw [ht] at hP1
      have hK1 := va_K.moved hvm.symm hK1
      obtain ⟨hP, hD⟩ := va_join (wr := [(h2, .inr (8, [.ref h19, .int (-1), .int 0, .int 0])), (h3, .inr (8, [.ref h20, .int (-1), .int 0, .int 0])), (h4, .inr (8, [.ref h21, .int (-1), .int 0, .int 0])), (h5, .inr (8, [.ref h22, .int (-1), .int 0, .int 0])), (h6, .inr (8, [.ref h23, .int (-1), .int 0, .int 0])), (h0, .inr (11, [.ref h8, .int 0, .ref h9, .ref h10, .ref h11, .ref h12, .ref h13, .ref h14, .ref h15, .ref h16, .ref h17, .int 0, .ref h18, .ref h1])), (h1, .inl (cOShelf, 6, .inr (.inr (.inr (.inr (va_up (va_up (va_up (va_up (va_up (va_up (fun _ => none) (0 : Int32).toNatClampNeg (some h2)) (1 : Int32).toNatClampNeg (some h3)) (2 : Int32).toNatClampNeg (some h4)) (3 : Int32).toNatClampNeg (some h5)) (4 : Int32).toNatClampNeg (some h6)) (5 : Int32).toNatClampNeg (some h7)))))))]) (w1 := [(h7, .inr (8, [.ref h24, .int (-1), .int 0, .int 0]))]) hP hD [5] [0, 1, 2, 3, 4, 6, 7] rfl rfl (by decide) (by decide) hk1 hFc hP1 hD1
      generalize H1 = H at hP hS ⊢
      have hP : va_P (dC, dI) vwCl [(h2, .inr (8, [.ref h19, .int (-1), .int 0, .int 0])), (h3, .inr (8, [.ref h20, .int (-1), .int 0, .int 0])), (h4, .inr (8, [.ref h21, .int (-1), .int 0, .int 0])), (h5, .inr (8, [.ref h22, .int (-1), .int 0, .int 0])), (h6, .inr (8, [.ref h23, .int (-1), .int 0, .int 0])), (h0, .inr (11, [.ref h8, .int 0, .ref h9, .ref h10, .ref h11, .ref h12, .ref h13, .ref h14, .ref h15, .ref h16, .ref h17, .int 0, .ref h18, .ref h1])), (h1, .inl (cOShelf, 6, .inr (.inr (.inr (.inr (va_up (va_up (va_up (va_up (va_up (va_up (fun _ => none) (0 : Int32).toNatClampNeg (some h2)) (1 : Int32).toNatClampNeg (some h3)) (2 : Int32).toNatClampNeg (some h4)) (3 : Int32).toNatClampNeg (some h5)) (4 : Int32).toNatClampNeg (some h6)) (5 : Int32).toNatClampNeg (some h7))))))), (h7, .inr (8, [.ref h24, .int (-1), .int 0, .int 0]))] H := hP
      have hD : va_D A [(h2, .inr (8, [.ref h19, .int (-1), .int 0, .int 0])), (h3, .inr (8, [.ref h20, .int (-1), .int 0, .int 0])), (h4, .inr (8, [.ref h21, .int (-1), .int 0, .int 0])), (h5, .inr (8, [.ref h22, .int (-1), .int 0, .int 0])), (h6, .inr (8, [.ref h23, .int (-1), .int 0, .int 0])), (h0, .inr (11, [.ref h8, .int 0, .ref h9, .ref h10, .ref h11, .ref h12, .ref h13, .ref h14, .ref h15, .ref h16, .ref h17, .int 0, .ref h18, .ref h1])), (h1, .inl (cOShelf, 6, .inr (.inr (.inr (.inr (va_up (va_up (va_up (va_up (va_up (va_up (fun _ => none) (0 : Int32).toNatClampNeg (some h2)) (1 : Int32).toNatClampNeg (some h3)) (2 : Int32).toNatClampNeg (some h4)) (3 : Int32).toNatClampNeg (some h5)) (4 : Int32).toNatClampNeg (some h6)) (5 : Int32).toNatClampNeg (some h7))))))), (h7, .inr (8, [.ref h24, .int (-1), .int 0, .int 0]))] := hD
      obtain rfl := hw
      refine lv_if_ne (tgt := 42) hx hb dX11_shift_31 (by decide) (fun _ => ?_) (fun c => absurd c (by decide))
      refine lv_bipush (v := (-11)) hx hb dX11_shift_42 (by decide) ?_
      have hP9 := hP.sub (ws' := []) [] rfl
      have hD9 := hD.sub (ws' := []) [] (by decide) rfl
      have hK9 := hK.sub (tys' := []) [] rfl
      exact W.iret (v := (-11)) hx hb hr (fun t ht hW => ⟨⟨(-11), (), rfl, by first | rfl | ((repeat' split) <;> first | rfl | (exfalso; omega) | (exact Int32.toInt_inj.mp (by show ((-11) : Int) = _; omega))), by rw [ht]; exact hP9, va_K.moved hW.alike hK9, hD9⟩, hS.F ht⟩) hS.2.2 dX11_shift_44
    · skip
      refine W.eq (g2 := F0 m 12 ls [.ref h7]) rfl ?_
      refine lv_astore (lv' := [(7, .ref h7), (6, .ref h7), (0, .ref h0), (1, .int p0), (2, .int p1), (3, .int p2), (4, .int p3), (5, .int p4)]) hx hb dX11_shift_12 hl (by decide) rfl (fun ls hl => ?_)
      refine lv_aload hx hb dX11_shift_14 (lv_at hl 1 rfl) ?_
      refine lv_ifnull hx hb dX11_shift_16 ?_
      refine lv_aload hx hb dX11_shift_19 (lv_at hl 0 rfl) ?_
      refine lv_ifnonnull (tgt := 26) hx hb dX11_shift_21 (by decide) ?_
      refine lv_aload hx hb dX11_shift_26 (lv_at hl 1 rfl) ?_
      have hPc := hP.sub (ws' := [(h7, .inr (8, [.ref h24, .int (-1), .int 0, .int 0]))]) [5] rfl
      have hDc := hD.sub (ws' := [(h7, .inr (8, [.ref h24, .int (-1), .int 0, .int 0]))]) [5] (by decide) rfl
      have hKc := hK.sub (tys' := []) [] rfl
      have hFc := va_free (wc := [(h7, .inr (8, [.ref h24, .int (-1), .int 0, .int 0]))]) hD hS hA [5] rfl
      refine va_calli (va_runV (As := []) (rest := []) ⟨hx, hb, hml, hown, hts⟩ (k_X8_isEmpty_0 l dC dI h7 h24 H.size) (cwV 0 hts gX11_shift_X8_isEmpty rfl rfl rfl (by decide +kernel) ⟨Nat.le_of_ble_eq_true rfl, Nat.le_of_ble_eq_true rfl⟩) ⟨fun a U g mk q => by obtain ⟨q0, q1, qP, qK, qD⟩ := q; exact ⟨q0, q1, qP, va_K.moved (u := U) (U := U.calling g mk a) (Vm.Alike.refl U.vm) qK, qD⟩, va_recv hKc hPc (ci := 8) (q0 := 0) rfl rfl, fun U hU hW => ⟨rfl, by rw [hU], by rw [hU]; exact hPc, va_K.moved hW.alike hKc, hDc.weaken (fun _ _ _ _ => trivial)⟩⟩ rfl rfl hl.1 rfl (lv_room (Nat.le_of_ble_eq_true rfl)) dX11_shift_28 ⟨Nat.le_of_ble_eq_true rfl, Nat.le_of_ble_eq_true rfl⟩) hS (fun q _ h => hFc q h) hFc (fun r_45 u t H1 locs ht hvm hw hB hz1 hk1 hS => ?_)
      obtain ⟨hP1, hK1, hD1⟩ := hB
      rw [ht] at hP1
      have hK1 := va_K.moved hvm.symm hK1
      obtain ⟨hP, hD⟩ := va_join (wr := [(h2, .inr (8, [.ref h19, .int (-1), .int 0, .int 0])), (h3, .inr (8, [.ref h20, .int (-1), .int 0, .int 0])), (h4, .inr (8, [.ref h21, .int (-1), .int 0, .int 0])), (h5, .inr (8, [.ref h22, .int (-1), .int 0, .int 0])), (h6, .inr (8, [.ref h23, .int (-1), .int 0, .int 0])), (h0, .inr (11, [.ref h8, .int 0, .ref h9, .ref h10, .ref h11, .ref h12, .ref h13, .ref h14, .ref h15, .ref h16, .ref h17, .int 0, .ref h18, .ref h1])), (h1, .inl (cOShelf, 6, .inr (.inr (.inr (.inr (va_up (va_up (va_up (va_up (va_up (va_up (fun _ => none) (0 : Int32).toNatClampNeg (some h2)) (1 : Int32).toNatClampNeg (some h3)) (2 : Int32).toNatClampNeg (some h4)) (3 : Int32).toNatClampNeg (some h5)) (4 : Int32).toNatClampNeg (some h6)) (5 : Int32).toNatClampNeg (some h7)))))))]) (w1 := [(h7, .inr (8, [.ref h24, .int (-1), .int 0, .int 0]))]) hP hD [5] [0, 1, 2, 3, 4, 6, 7] rfl rfl (by decide) (by decide) hk1 hFc hP1 hD1
      generalize H1 = H at hP hS ⊢
      have hP : va_P (dC, dI) vwCl [(h2, .inr (8, [.ref h19, .int (-1), .int 0, .int 0])), (h3, .inr (8, [.ref h20, .int (-1), .int 0, .int 0])), (h4, .inr (8, [.ref h21, .int (-1), .int 0, .int 0])), (h5, .inr (8, [.ref h22, .int (-1), .int 0, .int 0])), (h6, .inr (8, [.ref h23, .int (-1), .int 0, .int 0])), (h0, .inr (11, [.ref h8, .int 0, .ref h9, .ref h10, .ref h11, .ref h12, .ref h13, .ref h14, .ref h15, .ref h16, .ref h17, .int 0, .ref h18, .ref h1])), (h1, .inl (cOShelf, 6, .inr (.inr (.inr (.inr (va_up (va_up (va_up (va_up (va_up (va_up (fun _ => none) (0 : Int32).toNatClampNeg (some h2)) (1 : Int32).toNatClampNeg (some h3)) (2 : Int32).toNatClampNeg (some h4)) (3 : Int32).toNatClampNeg (some h5)) (4 : Int32).toNatClampNeg (some h6)) (5 : Int32).toNatClampNeg (some h7))))))), (h7, .inr (8, [.ref h24, .int (-1), .int 0, .int 0]))] H := hP
      have hD : va_D A [(h2, .inr (8, [.ref h19, .int (-1), .int 0, .int 0])), (h3, .inr (8, [.ref h20, .int (-1), .int 0, .int 0])), (h4, .inr (8, [.ref h21, .int (-1), .int 0, .int 0])), (h5, .inr (8, [.ref h22, .int (-1), .int 0, .int 0])), (h6, .inr (8, [.ref h23, .int (-1), .int 0, .int 0])), (h0, .inr (11, [.ref h8, .int 0, .ref h9, .ref h10, .ref h11, .ref h12, .ref h13, .ref h14, .ref h15, .ref h16, .ref h17, .int 0, .ref h18, .ref h1])), (h1, .inl (cOShelf, 6, .inr (.inr (.inr (.inr (va_up (va_up (va_up (va_up (va_up (va_up (fun _ => none) (0 : Int32).toNatClampNeg (some h2)) (1 : Int32).toNatClampNeg (some h3)) (2 : Int32).toNatClampNeg (some h4)) (3 : Int32).toNatClampNeg (some h5)) (4 : Int32).toNatClampNeg (some h6)) (5 : Int32).toNatClampNeg (some h7))))))), (h7, .inr (8, [.ref h24, .int (-1), .int 0, .int 0]))] := hD
      obtain rfl := hw
      refine lv_if_ne (tgt := 42) hx hb dX11_shift_31 (by decide) (fun _ => ?_) (fun c => absurd c (by decide))
      refine lv_bipush (v := (-11)) hx hb dX11_shift_42 (by decide) ?_
      have hP9 := hP.sub (ws' := []) [] rfl
      have hD9 := hD.sub (ws' := []) [] (by decide) rfl
      have hK9 := hK.sub (tys' := []) [] rfl
      exact W.iret (v := (-11)) hx hb hr (fun t ht hW => ⟨⟨(-11), (), rfl, by first | rfl | ((repeat' split) <;> first | rfl | (exfalso; omega) | (exact Int32.toInt_inj.mp (by show ((-11) : Int) = _; omega))), by rw [ht]; exact hP9, va_K.moved hW.alike hK9, hD9⟩, hS.F ht⟩) hS.2.2 dX11_shift_44
