set_option maxHeartbeats 4000000 in
set_option maxRecDepth 100000 in
theorem k_X11_street_0 (l : Launch) (dC : Nat → ClassId) (dI : Nat → Nat → Nat) (h0 h1 h2 h3 h4 h5 h6 h7 h8 h9 h10 h11 h12 h13 h14 h15 h16 h17 h18 : Nat) (cOStreet : ClassId) (sz : Nat)  : Met l yX11_street wsX11_street ({ frames := 0, cells := 0, slots := 0, locals := 0 }) (va_Pc [.ref h0] (fun U => U.heap.size = sz ∧ va_P (dC, dI) vwCl [(h0, .inr (11, [.ref h1, .int 0, .ref h2, .ref h3, .ref h4, .ref h5, .ref h6, .ref h7, .ref h8, .ref h9, .ref h10, .int 0, .ref h11, .ref h12])), (h1, .inl (cOStreet, 6, .inr (.inr (.inr (.inr (va_up (va_up (va_up (va_up (va_up (va_up (fun _ => none) (0 : Int32).toNatClampNeg (some h13)) (1 : Int32).toNatClampNeg (some h14)) (2 : Int32).toNatClampNeg (some h15)) (3 : Int32).toNatClampNeg (some h16)) (4 : Int32).toNatClampNeg (some h17)) (5 : Int32).toNatClampNeg (some h18)))))))] U.heap ∧ va_K (dC, dI) vwCl [(cOStreet, .object "KinkStreet$Street")] U ∧ va_D (fun _ => True) [(h0, .inr (11, [.ref h1, .int 0, .ref h2, .ref h3, .ref h4, .ref h5, .ref h6, .ref h7, .ref h8, .ref h9, .ref h10, .int 0, .ref h11, .ref h12])), (h1, .inl (cOStreet, 6, .inr (.inr (.inr (.inr (va_up (va_up (va_up (va_up (va_up (va_up (fun _ => none) (0 : Int32).toNatClampNeg (some h13)) (1 : Int32).toNatClampNeg (some h14)) (2 : Int32).toNatClampNeg (some h15)) (3 : Int32).toNatClampNeg (some h16)) (4 : Int32).toNatClampNeg (some h17)) (5 : Int32).toNatClampNeg (some h18)))))))])) (va_Qi (fun (r : Int32) (_ : Unit) => r = 0) (fun (_ : Unit) t => va_P (dC, dI) vwCl [] t.heap ∧ va_K (dC, dI) vwCl [] t ∧ va_D (va_A [(h0, .inr (11, [.ref h1, .int 0, .ref h2, .ref h3, .ref h4, .ref h5, .ref h6, .ref h7, .ref h8, .ref h9, .ref h10, .int 0, .ref h11, .ref h12])), (h1, .inl (cOStreet, 6, .inr (.inr (.inr (.inr (va_up (va_up (va_up (va_up (va_up (va_up (fun _ => none) (0 : Int32).toNatClampNeg (some h13)) (1 : Int32).toNatClampNeg (some h14)) (2 : Int32).toNatClampNeg (some h15)) (3 : Int32).toNatClampNeg (some h16)) (4 : Int32).toNatClampNeg (some h17)) (5 : Int32).toNatClampNeg (some h18)))))))] sz) []) (va_A [(h0, .inr (11, [.ref h1, .int 0, .ref h2, .ref h3, .ref h4, .ref h5, .ref h6, .ref h7, .ref h8, .ref h9, .ref h10, .int 0, .ref h11, .ref h12])), (h1, .inl (cOStreet, 6, .inr (.inr (.inr (.inr (va_up (va_up (va_up (va_up (va_up (va_up (fun _ => none) (0 : Int32).toNatClampNeg (some h13)) (1 : Int32).toNatClampNeg (some h14)) (2 : Int32).toNatClampNeg (some h15)) (3 : Int32).toNatClampNeg (some h16)) (4 : Int32).toNatClampNeg (some h17)) (5 : Int32).toNatClampNeg (some h18)))))))] sz)) 0 0 (va_A [(h0, .inr (11, [.ref h1, .int 0, .ref h2, .ref h3, .ref h4, .ref h5, .ref h6, .ref h7, .ref h8, .ref h9, .ref h10, .int 0, .ref h11, .ref h12])), (h1, .inl (cOStreet, 6, .inr (.inr (.inr (.inr (va_up (va_up (va_up (va_up (va_up (va_up (fun _ => none) (0 : Int32).toNatClampNeg (some h13)) (1 : Int32).toNatClampNeg (some h14)) (2 : Int32).toNatClampNeg (some h15)) (3 : Int32).toNatClampNeg (some h16)) (4 : Int32).toNatClampNeg (some h17)) (5 : Int32).toNatClampNeg (some h18)))))))] sz) := by
  refine Met.ofW (cc := cX11_street) (maxL := 1) (ret := (some .int)) (by decide) rfl ?_
  intro p e s m args below meth c s₁ B hml hv
  obtain ⟨rfl, hsz, hP, hK, hD0⟩ := hv
  have hx := B.exec
  have hb := B.bytes
  have hr := B.returns
  have hts := atoms_spec (ws := wsX11_street) B.pre
  have hown : s.vm.findClass RX11 = some m.cls := findClass_of_methodNamed B.named
  have hlocks := B.notSynchronized
  subst hsz
  have hD := hD0.self (sz := s.heap.size)
  generalize hAe : va_A [(h0, .inr (11, [.ref h1, .int 0, .ref h2, .ref h3, .ref h4, .ref h5, .ref h6, .ref h7, .ref h8, .ref h9, .ref h10, .int 0, .ref h11, .ref h12])), (h1, .inl (cOStreet, 6, .inr (.inr (.inr (.inr (va_up (va_up (va_up (va_up (va_up (va_up (fun _ => none) (0 : Int32).toNatClampNeg (some h13)) (1 : Int32).toNatClampNeg (some h14)) (2 : Int32).toNatClampNeg (some h15)) (3 : Int32).toNatClampNeg (some h16)) (4 : Int32).toNatClampNeg (some h17)) (5 : Int32).toNatClampNeg (some h18)))))))] s.heap.size = A at hD ⊢
  have hA : ∀ q : Nat, s.heap.size ≤ q → A q := fun q h => by rw [← hAe]; exact Or.inr h
  have hS : va_S A s.heap s.heap [] := va_S.rf
  have hP : va_P (dC, dI) vwCl [(h0, .inr (11, [.ref h1, .int 0, .ref h2, .ref h3, .ref h4, .ref h5, .ref h6, .ref h7, .ref h8, .ref h9, .ref h10, .int 0, .ref h11, .ref h12])), (h1, .inl (cOStreet, 6, .inr (.inr (.inr (.inr (va_up (va_up (va_up (va_up (va_up (va_up (fun _ => none) (0 : Int32).toNatClampNeg (some h13)) (1 : Int32).toNatClampNeg (some h14)) (2 : Int32).toNatClampNeg (some h15)) (3 : Int32).toNatClampNeg (some h16)) (4 : Int32).toNatClampNeg (some h17)) (5 : Int32).toNatClampNeg (some h18)))))))] s.heap := hP
  have hl := lv_entry ([.ref h0]) (n := 1) (Nat.le_of_ble_eq_true rfl)
  rw [lg_entry_eq]
  generalize (lg_sl ([.ref h0]) ++ List.replicate (1 - (lg_sl ([.ref h0])).length) Slot.unset).toArray = ls at hl ⊢
  have hl : lv_has ls 1 [(0, .ref h0)] := hl
  refine lv_aload_n hx hb dX11_street_0 rfl (lv_at hl 0 rfl) ?_
  refine va_get (D := (dC, dI)) (ci := 11) (v := .int 0) (C := RX11) (T := TX11) (N := 14) hx hb hts (fun _ h => List.mem_cons_of_mem _ (List.mem_append_right _ h)) hown hK hP 0 rfl rfl 1 (by decide) (hts (.fieldLink RX11 90 "KinkStreet" "streetCount" "I") (List.mem_of_getElem? (i := 1) rfl)) (fun _ h9 => h9) rfl dX11_street_1 ?_
  refine lv_aload_n hx hb dX11_street_4 rfl (lv_at hl 0 rfl) ?_
  refine va_get (D := (dC, dI)) (ci := 11) (v := .ref h1) (C := RX11) (T := TX11) (N := 14) hx hb hts (fun _ h => List.mem_cons_of_mem _ (List.mem_append_right _ h)) hown hK hP 0 rfl rfl 0 (by decide) (hts (.fieldLink RX11 11 "KinkStreet" "streets" "[LKinkStreet$Street;") (List.mem_of_getElem? (i := 2) rfl)) (fun _ h9 => h9) rfl dX11_street_5 ?_
  refine va_alen (v := 6) hx hb hK hP 1 0 rfl rfl rfl dX11_street_8 ?_
  refine lv_icmp_ge (tgt := 26) hx hb dX11_street_9 (by decide) (fun c => absurd c (by decide)) (fun _ => ?_)
  refine lv_aload_n hx hb dX11_street_12 rfl (lv_at hl 0 rfl) ?_
  refine lv_dup hx hb dX11_street_13 rfl ?_
  refine va_get (D := (dC, dI)) (ci := 11) (v := .int 0) (C := RX11) (T := TX11) (N := 14) hx hb hts (fun _ h => List.mem_cons_of_mem _ (List.mem_append_right _ h)) hown hK hP 0 rfl rfl 1 (by decide) (hts (.fieldLink RX11 90 "KinkStreet" "streetCount" "I") (List.mem_of_getElem? (i := 1) rfl)) (fun _ h9 => h9) rfl dX11_street_14 ?_
  refine lv_dup_x1 hx hb dX11_street_17 rfl rfl ?_
  refine lv_iconst (v := 1) hx hb dX11_street_18 (by decide) ?_
  refine lv_iadd hx hb dX11_street_19 ?_
  refine lv_topi (fun y_1 e_1 => ?_)
  obtain rfl : y_1 = 1 := e_1.trans (by decide)
  refine va_put (D := (dC, dI)) (ci := 11) (v := .int 1) (ty := .int) (C := RX11) (T := TX11) (N := 14) hx hb hts (fun _ h => List.mem_cons_of_mem _ (List.mem_append_right _ h)) tyX11 tyX11_ok nmX11 hown hK hP hD hS 0 rfl rfl 1 (by decide) (hts (.fieldLink RX11 90 "KinkStreet" "streetCount" "I") (List.mem_of_getElem? (i := 1) rfl)) (fun _ h9 => h9) rfl (by decide +kernel) rfl rfl (Nat.le_of_ble_eq_true rfl) dX11_street_20 (fun H locs hP hD hS => ?_)
  have hP : va_P (dC, dI) vwCl [(h0, .inr (11, [.ref h1, .int 1, .ref h2, .ref h3, .ref h4, .ref h5, .ref h6, .ref h7, .ref h8, .ref h9, .ref h10, .int 0, .ref h11, .ref h12])), (h1, .inl (cOStreet, 6, .inr (.inr (.inr (.inr (va_up (va_up (va_up (va_up (va_up (va_up (fun _ => none) (0 : Int32).toNatClampNeg (some h13)) (1 : Int32).toNatClampNeg (some h14)) (2 : Int32).toNatClampNeg (some h15)) (3 : Int32).toNatClampNeg (some h16)) (4 : Int32).toNatClampNeg (some h17)) (5 : Int32).toNatClampNeg (some h18)))))))] H := hP
  have hD : va_D A [(h0, .inr (11, [.ref h1, .int 1, .ref h2, .ref h3, .ref h4, .ref h5, .ref h6, .ref h7, .ref h8, .ref h9, .ref h10, .int 0, .ref h11, .ref h12])), (h1, .inl (cOStreet, 6, .inr (.inr (.inr (.inr (va_up (va_up (va_up (va_up (va_up (va_up (fun _ => none) (0 : Int32).toNatClampNeg (some h13)) (1 : Int32).toNatClampNeg (some h14)) (2 : Int32).toNatClampNeg (some h15)) (3 : Int32).toNatClampNeg (some h16)) (4 : Int32).toNatClampNeg (some h17)) (5 : Int32).toNatClampNeg (some h18)))))))] := hD
  refine lv_goto (tgt := 28) hx hb dX11_street_23 (by decide) ?_
  have hP9 := hP.sub (ws' := []) [] rfl
  have hD9 := hD.sub (ws' := []) [] (by decide) rfl
  have hK9 := hK.sub (tys' := []) [] rfl
  exact W.iret (v := 0) hx hb hr (fun t ht hW => ⟨⟨0, (), rfl, by first | rfl | ((repeat' split) <;> first | rfl | (exfalso; omega) | (exact Int32.toInt_inj.mp (by show (0 : Int) = _; omega))), by rw [ht]; exact hP9, va_K.moved hW.alike hK9, hD9⟩, hS.F ht⟩) hS.2.2 dX11_street_28
set_option maxHeartbeats 4000000 in
set_option maxRecDepth 100000 in
theorem k_X11_knownStreet_0 (l : Launch) (dC : Nat → ClassId) (dI : Nat → Nat → Nat) (h0 h1 h2 h3 h4 h5 h6 h7 h8 h9 h10 h11 h12 : Nat) (sz : Nat) (p0 : Int32) : Met l yX11_knownStreet wsX11_knownStreet ({ frames := 0, cells := 0, slots := 0, locals := 0 }) (va_Pc [.ref h0, .int p0] (fun U => U.heap.size = sz ∧ va_P (dC, dI) vwCl [(h0, .inr (11, [.ref h1, .int 0, .ref h2, .ref h3, .ref h4, .ref h5, .ref h6, .ref h7, .ref h8, .ref h9, .ref h10, .int 0, .ref h11, .ref h12]))] U.heap ∧ va_K (dC, dI) vwCl [] U ∧ va_D (fun _ => True) [(h0, .inr (11, [.ref h1, .int 0, .ref h2, .ref h3, .ref h4, .ref h5, .ref h6, .ref h7, .ref h8, .ref h9, .ref h10, .int 0, .ref h11, .ref h12]))])) (va_Qq (fun (r : Option Nat) (_ : Unit) => r = none) (fun (_ : Unit) t => va_P (dC, dI) vwCl [(h0, .inr (11, [.ref h1, .int 0, .ref h2, .ref h3, .ref h4, .ref h5, .ref h6, .ref h7, .ref h8, .ref h9, .ref h10, .int 0, .ref h11, .ref h12]))] t.heap ∧ va_K (dC, dI) vwCl [] t ∧ va_D (va_A [(h0, .inr (11, [.ref h1, .int 0, .ref h2, .ref h3, .ref h4, .ref h5, .ref h6, .ref h7, .ref h8, .ref h9, .ref h10, .int 0, .ref h11, .ref h12]))] sz) [(h0, .inr (11, [.ref h1, .int 0, .ref h2, .ref h3, .ref h4, .ref h5, .ref h6, .ref h7, .ref h8, .ref h9, .ref h10, .int 0, .ref h11, .ref h12]))]) (va_A [(h0, .inr (11, [.ref h1, .int 0, .ref h2, .ref h3, .ref h4, .ref h5, .ref h6, .ref h7, .ref h8, .ref h9, .ref h10, .int 0, .ref h11, .ref h12]))] sz)) 0 0 (va_A [(h0, .inr (11, [.ref h1, .int 0, .ref h2, .ref h3, .ref h4, .ref h5, .ref h6, .ref h7, .ref h8, .ref h9, .ref h10, .int 0, .ref h11, .ref h12]))] sz) := by
  refine Met.ofW (cc := cX11_knownStreet) (maxL := 2) (ret := (some (.object "KinkStreet$Street"))) (by decide) rfl ?_
  intro p e s m args below meth c s₁ B hml hv
  obtain ⟨rfl, hsz, hP, hK, hD0⟩ := hv
  have hx := B.exec
  have hb := B.bytes
  have hr := B.returns
  have hts := atoms_spec (ws := wsX11_knownStreet) B.pre
  have hown : s.vm.findClass RX11 = some m.cls := findClass_of_methodNamed B.named
  have hlocks := B.notSynchronized
  subst hsz
  have hD := hD0.self (sz := s.heap.size)
  generalize hAe : va_A [(h0, .inr (11, [.ref h1, .int 0, .ref h2, .ref h3, .ref h4, .ref h5, .ref h6, .ref h7, .ref h8, .ref h9, .ref h10, .int 0, .ref h11, .ref h12]))] s.heap.size = A at hD ⊢
  have hA : ∀ q : Nat, s.heap.size ≤ q → A q := fun q h => by rw [← hAe]; exact Or.inr h
  have hS : va_S A s.heap s.heap [] := va_S.rf
  have hP : va_P (dC, dI) vwCl [(h0, .inr (11, [.ref h1, .int 0, .ref h2, .ref h3, .ref h4, .ref h5, .ref h6, .ref h7, .ref h8, .ref h9, .ref h10, .int 0, .ref h11, .ref h12]))] s.heap := hP
  have hl := lv_entry ([.ref h0, .int p0]) (n := 2) (Nat.le_of_ble_eq_true rfl)
  rw [lg_entry_eq]
  generalize (lg_sl ([.ref h0, .int p0]) ++ List.replicate (2 - (lg_sl ([.ref h0, .int p0])).length) Slot.unset).toArray = ls at hl ⊢
  have hl : lv_has ls 2 [(0, .ref h0), (1, .int p0)] := hl
  refine lv_iload_n hx hb dX11_knownStreet_0 rfl (lv_at hl 1 rfl) ?_
  refine lv_if_lt (tgt := 30) hx hb dX11_knownStreet_1 (by decide) (fun c_1 => ?_) (fun c_1 => ?_)
  · have t_1 : p0.toInt < 0 := kk_lt c_1
    refine lv_null hx hb dX11_knownStreet_30 ?_
    have hP9 := hP.sub (ws' := [(h0, .inr (11, [.ref h1, .int 0, .ref h2, .ref h3, .ref h4, .ref h5, .ref h6, .ref h7, .ref h8, .ref h9, .ref h10, .int 0, .ref h11, .ref h12]))]) [0] rfl
    have hD9 := hD.sub (ws' := [(h0, .inr (11, [.ref h1, .int 0, .ref h2, .ref h3, .ref h4, .ref h5, .ref h6, .ref h7, .ref h8, .ref h9, .ref h10, .int 0, .ref h11, .ref h12]))]) [0] (by decide) rfl
    have hK9 := hK.sub (tys' := []) [] rfl
    exact W.aret (v := .null) hx hb hr (Or.inl ⟨_, rfl⟩) (Or.inl rfl) (fun t ht hW => ⟨⟨none, (), rfl, rfl, by rw [ht]; exact hP9, va_K.moved hW.alike hK9, hD9⟩, hS.F ht⟩) hS.2.2 dX11_knownStreet_31
  · have t_1 : 0 ≤ p0.toInt := kk_nlt c_1
    refine lv_iload_n hx hb dX11_knownStreet_4 rfl (lv_at hl 1 rfl) ?_
    refine lv_aload_n hx hb dX11_knownStreet_5 rfl (lv_at hl 0 rfl) ?_
    refine va_get (D := (dC, dI)) (ci := 11) (v := .int 0) (C := RX11) (T := TX11) (N := 14) hx hb hts (fun _ h => List.mem_cons_of_mem _ (List.mem_append_right _ h)) hown hK hP 0 rfl rfl 1 (by decide) (hts (.fieldLink RX11 90 "KinkStreet" "streetCount" "I") (List.mem_of_getElem? (i := 1) rfl)) (fun _ h9 => h9) rfl dX11_knownStreet_6 ?_
    refine lv_icmp_ge (tgt := 30) hx hb dX11_knownStreet_9 (by decide) (fun c_2 => ?_) (fun c_2 => ?_)
    · have t_2 : 0 ≤ p0.toInt := kk_le c_2
      refine lv_null hx hb dX11_knownStreet_30 ?_
      have hP9 := hP.sub (ws' := [(h0, .inr (11, [.ref h1, .int 0, .ref h2, .ref h3, .ref h4, .ref h5, .ref h6, .ref h7, .ref h8, .ref h9, .ref h10, .int 0, .ref h11, .ref h12]))]) [0] rfl
      have hD9 := hD.sub (ws' := [(h0, .inr (11, [.ref h1, .int 0, .ref h2, .ref h3, .ref h4, .ref h5, .ref h6, .ref h7, .ref h8, .ref h9, .ref h10, .int 0, .ref h11, .ref h12]))]) [0] (by decide) rfl
      have hK9 := hK.sub (tys' := []) [] rfl
      exact W.aret (v := .null) hx hb hr (Or.inl ⟨_, rfl⟩) (Or.inl rfl) (fun t ht hW => ⟨⟨none, (), rfl, rfl, by rw [ht]; exact hP9, va_K.moved hW.alike hK9, hD9⟩, hS.F ht⟩) hS.2.2 dX11_knownStreet_31
    · have t_2 : p0.toInt < 0 := kk_nle c_2
      exfalso; omega
set_option maxHeartbeats 4000000 in
set_option maxRecDepth 100000 in
theorem k_X11_plot_0 (l : Launch) (dC : Nat → ClassId) (dI : Nat → Nat → Nat) (h0 h1 h2 h3 h4 h5 h6 h7 h8 h9 h10 h11 h12 : Nat) (sz : Nat) (p0 : Int32) (p1 : Int32) (p2 : Int32) : Met l yX11_plot wsX11_plot ({ frames := 1, cells := 0, slots := 0, locals := 21 }) (va_Pc [.ref h0, .int p0, .int p1, .int p2] (fun U => U.heap.size = sz ∧ va_P (dC, dI) vwCl [(h0, .inr (11, [.ref h1, .int 0, .ref h2, .ref h3, .ref h4, .ref h5, .ref h6, .ref h7, .ref h8, .ref h9, .ref h10, .int 0, .ref h11, .ref h12]))] U.heap ∧ va_K (dC, dI) vwCl [] U ∧ va_D (fun _ => True) [(h0, .inr (11, [.ref h1, .int 0, .ref h2, .ref h3, .ref h4, .ref h5, .ref h6, .ref h7, .ref h8, .ref h9, .ref h10, .int 0, .ref h11, .ref h12]))])) (va_Qi (fun (r : Int32) (_ : Unit) => r = -1) (fun (_ : Unit) t => va_P (dC, dI) vwCl [] t.heap ∧ va_K (dC, dI) vwCl [] t ∧ va_D (va_A [(h0, .inr (11, [.ref h1, .int 0, .ref h2, .ref h3, .ref h4, .ref h5, .ref h6, .ref h7, .ref h8, .ref h9, .ref h10, .int 0, .ref h11, .ref h12]))] sz) []) (va_A [(h0, .inr (11, [.ref h1, .int 0, .ref h2, .ref h3, .ref h4, .ref h5, .ref h6, .ref h7, .ref h8, .ref h9, .ref h10, .int 0, .ref h11, .ref h12]))] sz)) 0 0 (va_A [(h0, .inr (11, [.ref h1, .int 0, .ref h2, .ref h3, .ref h4, .ref h5, .ref h6, .ref h7, .ref h8, .ref h9, .ref h10, .int 0, .ref h11, .ref h12]))] sz) := by
  refine Met.ofW (cc := cX11_plot) (maxL := 7) (ret := (some .int)) (by decide) rfl ?_
  intro p e s m args below meth c s₁ B hml hv
  obtain ⟨rfl, hsz, hP, hK, hD0⟩ := hv
  have hx := B.exec
  have hb := B.bytes
  have hr := B.returns
  have hts := atoms_spec (ws := wsX11_plot) B.pre
  have hown : s.vm.findClass RX11 = some m.cls := findClass_of_methodNamed B.named
  have hlocks := B.notSynchronized
  subst hsz
  have hD := hD0.self (sz := s.heap.size)
  generalize hAe : va_A [(h0, .inr (11, [.ref h1, .int 0, .ref h2, .ref h3, .ref h4, .ref h5, .ref h6, .ref h7, .ref h8, .ref h9, .ref h10, .int 0, .ref h11, .ref h12]))] s.heap.size = A at hD ⊢
  have hA : ∀ q : Nat, s.heap.size ≤ q → A q := fun q h => by rw [← hAe]; exact Or.inr h
  have hS : va_S A s.heap s.heap [] := va_S.rf
  have hP : va_P (dC, dI) vwCl [(h0, .inr (11, [.ref h1, .int 0, .ref h2, .ref h3, .ref h4, .ref h5, .ref h6, .ref h7, .ref h8, .ref h9, .ref h10, .int 0, .ref h11, .ref h12]))] s.heap := hP
  have hl := lv_entry ([.ref h0, .int p0, .int p1, .int p2]) (n := 7) (Nat.le_of_ble_eq_true rfl)
  rw [lg_entry_eq]
  generalize (lg_sl ([.ref h0, .int p0, .int p1, .int p2]) ++ List.replicate (7 - (lg_sl ([.ref h0, .int p0, .int p1, .int p2])).length) Slot.unset).toArray = ls at hl ⊢
  have hl : lv_has ls 7 [(0, .ref h0), (1, .int p0), (2, .int p1), (3, .int p2)] := hl
  refine lv_aload_n hx hb dX11_plot_0 rfl (lv_at hl 0 rfl) ?_
  refine lv_iload_n hx hb dX11_plot_1 rfl (lv_at hl 1 rfl) ?_
  have hPc := hP.sub (ws' := [(h0, .inr (11, [.ref h1, .int 0, .ref h2, .ref h3, .ref h4, .ref h5, .ref h6, .ref h7, .ref h8, .ref h9, .ref h10, .int 0, .ref h11, .ref h12]))]) [0] rfl
  have hDc := hD.sub (ws' := [(h0, .inr (11, [.ref h1, .int 0, .ref h2, .ref h3, .ref h4, .ref h5, .ref h6, .ref h7, .ref h8, .ref h9, .ref h10, .int 0, .ref h11, .ref h12]))]) [0] (by decide) rfl
  have hKc := hK.sub (tys' := []) [] rfl
  have hFc := va_free (wc := [(h0, .inr (11, [.ref h1, .int 0, .ref h2, .ref h3, .ref h4, .ref h5, .ref h6, .ref h7, .ref h8, .ref h9, .ref h10, .int 0, .ref h11, .ref h12]))]) hD hS hA [0] rfl
  refine va_callq (va_runV (As := [.int p0]) (rest := []) ⟨hx, hb, hml, hown, hts⟩ (k_X11_knownStreet_0 l dC dI h0 h1 h2 h3 h4 h5 h6 h7 h8 h9 h10 h11 h12 s.heap.size p0) (cwV 1 hts gX11_plot_X11_knownStreet rfl rfl rfl (by decide +kernel) ⟨Nat.le_of_ble_eq_true rfl, Nat.le_of_ble_eq_true rfl⟩) ⟨fun a U g mk q => by obtain ⟨q0, q1, qP, qK, qD⟩ := q; exact ⟨q0, q1, qP, va_K.moved (u := U) (U := U.calling g mk a) (Vm.Alike.refl U.vm) qK, qD⟩, va_recv hKc hPc (ci := 11) (q0 := 0) rfl rfl, fun U hU hW => ⟨rfl, by rw [hU], by rw [hU]; exact hPc, va_K.moved hW.alike hKc, hDc.weaken (fun _ _ _ _ => trivial)⟩⟩ rfl rfl hl.1 rfl (lv_room (Nat.le_of_ble_eq_true rfl)) dX11_plot_2 ⟨Nat.le_of_ble_eq_true rfl, Nat.le_of_ble_eq_true rfl⟩) hS (fun q _ h => hFc q h) hFc (fun r_1 u t H1 locs ht hvm hw hB hz1 hk1 hS => ?_)
  obtain ⟨hP1, hK1, hD1⟩ := hB
  rw [ht] at hP1
  have hK1 := va_K.moved hvm.symm hK1
  obtain ⟨hP, hD⟩ := va_join (wr := []) (w1 := [(h0, .inr (11, [.ref h1, .int 0, .ref h2, .ref h3, .ref h4, .ref h5, .ref h6, .ref h7, .ref h8, .ref h9, .ref h10, .int 0, .ref h11, .ref h12]))]) hP hD [0] [] rfl rfl (by decide) (by decide) hk1 hFc hP1 hD1
  generalize H1 = H at hP hS ⊢
  have hP : va_P (dC, dI) vwCl [(h0, .inr (11, [.ref h1, .int 0, .ref h2, .ref h3, .ref h4, .ref h5, .ref h6, .ref h7, .ref h8, .ref h9, .ref h10, .int 0, .ref h11, .ref h12]))] H := hP
  have hD : va_D A [(h0, .inr (11, [.ref h1, .int 0, .ref h2, .ref h3, .ref h4, .ref h5, .ref h6, .ref h7, .ref h8, .ref h9, .ref h10, .int 0, .ref h11, .ref h12]))] := hD
  obtain rfl := hw
  refine W.eq (g2 := F0 m 5 ls [.null]) rfl ?_
  refine lv_astoreN (lv' := [(4, .null), (0, .ref h0), (1, .int p0), (2, .int p1), (3, .int p2)]) hx hb dX11_plot_5 hl (by decide) rfl (fun ls hl => ?_)
  refine lv_aloadN hx hb dX11_plot_7 (lv_at hl 0 rfl) ?_
  refine lv_ifnullN (tgt := 16) hx hb dX11_plot_9 (by decide) ?_
  refine lv_iconst (v := (-1)) hx hb dX11_plot_16 (by decide) ?_
  have hP9 := hP.sub (ws' := []) [] rfl
  have hD9 := hD.sub (ws' := []) [] (by decide) rfl
  have hK9 := hK.sub (tys' := []) [] rfl
  exact W.iret (v := (-1)) hx hb hr (fun t ht hW => ⟨⟨(-1), (), rfl, by first | rfl | ((repeat' split) <;> first | rfl | (exfalso; omega) | (exact Int32.toInt_inj.mp (by show ((-1) : Int) = _; omega))), by rw [ht]; exact hP9, va_K.moved hW.alike hK9, hD9⟩, hS.F ht⟩) hS.2.2 dX11_plot_17
set_option maxHeartbeats 4000000 in
set_option maxRecDepth 100000 in
theorem k_X11_knownShelf_0 (l : Launch) (dC : Nat → ClassId) (dI : Nat → Nat → Nat) (h0 h1 h2 h3 h4 h5 h6 h7 h8 h9 h10 h11 h12 h13 h14 h15 h16 h17 h18 : Nat) (cOShelf : ClassId) (sz : Nat) (p0 : Int32) : Met l yX11_knownShelf wsX11_knownShelf ({ frames := 0, cells := 0, slots := 0, locals := 0 }) (va_Pc [.ref h0, .int p0] (fun U => U.heap.size = sz ∧ va_P (dC, dI) vwCl [(h0, .inr (11, [.ref h2, .int 0, .ref h3, .ref h4, .ref h5, .ref h6, .ref h7, .ref h8, .ref h9, .ref h10, .ref h11, .int 0, .ref h12, .ref h1])), (h1, .inl (cOShelf, 6, .inr (.inr (.inr (.inr (va_up (va_up (va_up (va_up (va_up (va_up (fun _ => none) (0 : Int32).toNatClampNeg (some h13)) (1 : Int32).toNatClampNeg (some h14)) (2 : Int32).toNatClampNeg (some h15)) (3 : Int32).toNatClampNeg (some h16)) (4 : Int32).toNatClampNeg (some h17)) (5 : Int32).toNatClampNeg (some h18)))))))] U.heap ∧ va_K (dC, dI) vwCl [(cOShelf, .object "KinkStreet$Shelf")] U ∧ va_D (fun _ => True) [(h0, .inr (11, [.ref h2, .int 0, .ref h3, .ref h4, .ref h5, .ref h6, .ref h7, .ref h8, .ref h9, .ref h10, .ref h11, .int 0, .ref h12, .ref h1])), (h1, .inl (cOShelf, 6, .inr (.inr (.inr (.inr (va_up (va_up (va_up (va_up (va_up (va_up (fun _ => none) (0 : Int32).toNatClampNeg (some h13)) (1 : Int32).toNatClampNeg (some h14)) (2 : Int32).toNatClampNeg (some h15)) (3 : Int32).toNatClampNeg (some h16)) (4 : Int32).toNatClampNeg (some h17)) (5 : Int32).toNatClampNeg (some h18)))))))])) (va_Qq (fun (r : Option Nat) (_ : Unit) => (p0.toInt < 0 ∧ r = none) ∨ (0 ≤ p0.toInt ∧ 6 ≤ p0.toInt ∧ r = none) ∨ (0 ≤ p0.toInt ∧ p0.toInt < 6 ∧ p0.toInt = 0 ∧ r = some h13) ∨ (0 ≤ p0.toInt ∧ p0.toInt < 6 ∧ p0.toInt = 1 ∧ r = some h14) ∨ (0 ≤ p0.toInt ∧ p0.toInt < 6 ∧ p0.toInt = 2 ∧ r = some h15) ∨ (0 ≤ p0.toInt ∧ p0.toInt < 6 ∧ p0.toInt = 3 ∧ r = some h16) ∨ (0 ≤ p0.toInt ∧ p0.toInt < 6 ∧ p0.toInt = 4 ∧ r = some h17) ∨ (0 ≤ p0.toInt ∧ p0.toInt < 6 ∧ p0.toInt = 5 ∧ r = some h18)) (fun (_ : Unit) t => va_P (dC, dI) vwCl [(h0, .inr (11, [.ref h2, .int 0, .ref h3, .ref h4, .ref h5, .ref h6, .ref h7, .ref h8, .ref h9, .ref h10, .ref h11, .int 0, .ref h12, .ref h1])), (h1, .inl (cOShelf, 6, .inr (.inr (.inr (.inr (va_up (va_up (va_up (va_up (va_up (va_up (fun _ => none) (0 : Int32).toNatClampNeg (some h13)) (1 : Int32).toNatClampNeg (some h14)) (2 : Int32).toNatClampNeg (some h15)) (3 : Int32).toNatClampNeg (some h16)) (4 : Int32).toNatClampNeg (some h17)) (5 : Int32).toNatClampNeg (some h18)))))))] t.heap ∧ va_K (dC, dI) vwCl [] t ∧ va_D (va_A [(h0, .inr (11, [.ref h2, .int 0, .ref h3, .ref h4, .ref h5, .ref h6, .ref h7, .ref h8, .ref h9, .ref h10, .ref h11, .int 0, .ref h12, .ref h1])), (h1, .inl (cOShelf, 6, .inr (.inr (.inr (.inr (va_up (va_up (va_up (va_up (va_up (va_up (fun _ => none) (0 : Int32).toNatClampNeg (some h13)) (1 : Int32).toNatClampNeg (some h14)) (2 : Int32).toNatClampNeg (some h15)) (3 : Int32).toNatClampNeg (some h16)) (4 : Int32).toNatClampNeg (some h17)) (5 : Int32).toNatClampNeg (some h18)))))))] sz) [(h0, .inr (11, [.ref h2, .int 0, .ref h3, .ref h4, .ref h5, .ref h6, .ref h7, .ref h8, .ref h9, .ref h10, .ref h11, .int 0, .ref h12, .ref h1])), (h1, .inl (cOShelf, 6, .inr (.inr (.inr (.inr (va_up (va_up (va_up (va_up (va_up (va_up (fun _ => none) (0 : Int32).toNatClampNeg (some h13)) (1 : Int32).toNatClampNeg (some h14)) (2 : Int32).toNatClampNeg (some h15)) (3 : Int32).toNatClampNeg (some h16)) (4 : Int32).toNatClampNeg (some h17)) (5 : Int32).toNatClampNeg (some h18)))))))]) (va_A [(h0, .inr (11, [.ref h2, .int 0, .ref h3, .ref h4, .ref h5, .ref h6, .ref h7, .ref h8, .ref h9, .ref h10, .ref h11, .int 0, .ref h12, .ref h1])), (h1, .inl (cOShelf, 6, .inr (.inr (.inr (.inr (va_up (va_up (va_up (va_up (va_up (va_up (fun _ => none) (0 : Int32).toNatClampNeg (some h13)) (1 : Int32).toNatClampNeg (some h14)) (2 : Int32).toNatClampNeg (some h15)) (3 : Int32).toNatClampNeg (some h16)) (4 : Int32).toNatClampNeg (some h17)) (5 : Int32).toNatClampNeg (some h18)))))))] sz)) 0 0 (va_A [(h0, .inr (11, [.ref h2, .int 0, .ref h3, .ref h4, .ref h5, .ref h6, .ref h7, .ref h8, .ref h9, .ref h10, .ref h11, .int 0, .ref h12, .ref h1])), (h1, .inl (cOShelf, 6, .inr (.inr (.inr (.inr (va_up (va_up (va_up (va_up (va_up (va_up (fun _ => none) (0 : Int32).toNatClampNeg (some h13)) (1 : Int32).toNatClampNeg (some h14)) (2 : Int32).toNatClampNeg (some h15)) (3 : Int32).toNatClampNeg (some h16)) (4 : Int32).toNatClampNeg (some h17)) (5 : Int32).toNatClampNeg (some h18)))))))] sz) := by
  refine Met.ofW (cc := cX11_knownShelf) (maxL := 2) (ret := (some (.object "KinkStreet$Shelf"))) (by decide) rfl ?_
  intro p e s m args below meth c s₁ B hml hv
  obtain ⟨rfl, hsz, hP, hK, hD0⟩ := hv
  have hx := B.exec
  have hb := B.bytes
  have hr := B.returns
  have hts := atoms_spec (ws := wsX11_knownShelf) B.pre
  have hown : s.vm.findClass RX11 = some m.cls := findClass_of_methodNamed B.named
  have hlocks := B.notSynchronized
  subst hsz
  have hD := hD0.self (sz := s.heap.size)
  generalize hAe : va_A [(h0, .inr (11, [.ref h2, .int 0, .ref h3, .ref h4, .ref h5, .ref h6, .ref h7, .ref h8, .ref h9, .ref h10, .ref h11, .int 0, .ref h12, .ref h1])), (h1, .inl (cOShelf, 6, .inr (.inr (.inr (.inr (va_up (va_up (va_up (va_up (va_up (va_up (fun _ => none) (0 : Int32).toNatClampNeg (some h13)) (1 : Int32).toNatClampNeg (some h14)) (2 : Int32).toNatClampNeg (some h15)) (3 : Int32).toNatClampNeg (some h16)) (4 : Int32).toNatClampNeg (some h17)) (5 : Int32).toNatClampNeg (some h18)))))))] s.heap.size = A at hD ⊢
  have hA : ∀ q : Nat, s.heap.size ≤ q → A q := fun q h => by rw [← hAe]; exact Or.inr h
  have hS : va_S A s.heap s.heap [] := va_S.rf
  have hP : va_P (dC, dI) vwCl [(h0, .inr (11, [.ref h2, .int 0, .ref h3, .ref h4, .ref h5, .ref h6, .ref h7, .ref h8, .ref h9, .ref h10, .ref h11, .int 0, .ref h12, .ref h1])), (h1, .inl (cOShelf, 6, .inr (.inr (.inr (.inr (va_up (va_up (va_up (va_up (va_up (va_up (fun _ => none) (0 : Int32).toNatClampNeg (some h13)) (1 : Int32).toNatClampNeg (some h14)) (2 : Int32).toNatClampNeg (some h15)) (3 : Int32).toNatClampNeg (some h16)) (4 : Int32).toNatClampNeg (some h17)) (5 : Int32).toNatClampNeg (some h18)))))))] s.heap := hP
  have hl := lv_entry ([.ref h0, .int p0]) (n := 2) (Nat.le_of_ble_eq_true rfl)
  rw [lg_entry_eq]
  generalize (lg_sl ([.ref h0, .int p0]) ++ List.replicate (2 - (lg_sl ([.ref h0, .int p0])).length) Slot.unset).toArray = ls at hl ⊢
  have hl : lv_has ls 2 [(0, .ref h0), (1, .int p0)] := hl
  refine lv_iload_n hx hb dX11_knownShelf_0 rfl (lv_at hl 1 rfl) ?_
  refine lv_if_lt (tgt := 22) hx hb dX11_knownShelf_1 (by decide) (fun c_1 => ?_) (fun c_1 => ?_)
  · have t_1 : p0.toInt < 0 := kk_lt c_1
    refine lv_null hx hb dX11_knownShelf_22 ?_
    have hP9 := hP.sub (ws' := [(h0, .inr (11, [.ref h2, .int 0, .ref h3, .ref h4, .ref h5, .ref h6, .ref h7, .ref h8, .ref h9, .ref h10, .ref h11, .int 0, .ref h12, .ref h1])), (h1, .inl (cOShelf, 6, .inr (.inr (.inr (.inr (va_up (va_up (va_up (va_up (va_up (va_up (fun _ => none) (0 : Int32).toNatClampNeg (some h13)) (1 : Int32).toNatClampNeg (some h14)) (2 : Int32).toNatClampNeg (some h15)) (3 : Int32).toNatClampNeg (some h16)) (4 : Int32).toNatClampNeg (some h17)) (5 : Int32).toNatClampNeg (some h18)))))))]) [0, 1] rfl
    have hD9 := hD.sub (ws' := [(h0, .inr (11, [.ref h2, .int 0, .ref h3, .ref h4, .ref h5, .ref h6, .ref h7, .ref h8, .ref h9, .ref h10, .ref h11, .int 0, .ref h12, .ref h1])), (h1, .inl (cOShelf, 6, .inr (.inr (.inr (.inr (va_up (va_up (va_up (va_up (va_up (va_up (fun _ => none) (0 : Int32).toNatClampNeg (some h13)) (1 : Int32).toNatClampNeg (some h14)) (2 : Int32).toNatClampNeg (some h15)) (3 : Int32).toNatClampNeg (some h16)) (4 : Int32).toNatClampNeg (some h17)) (5 : Int32).toNatClampNeg (some h18)))))))]) [0, 1] (by decide) rfl
    have hK9 := hK.sub (tys' := []) [] rfl
    exact W.aret (v := .null) hx hb hr (Or.inl ⟨_, rfl⟩) (Or.inl rfl) (fun t ht hW => ⟨⟨none, (), rfl, Or.inl ⟨by first | assumption | omega, rfl⟩, by rw [ht]; exact hP9, va_K.moved hW.alike hK9, hD9⟩, hS.F ht⟩) hS.2.2 dX11_knownShelf_23
  · have t_1 : 0 ≤ p0.toInt := kk_nlt c_1
    refine lv_iload_n hx hb dX11_knownShelf_4 rfl (lv_at hl 1 rfl) ?_
    refine lv_aload_n hx hb dX11_knownShelf_5 rfl (lv_at hl 0 rfl) ?_
    refine va_get (D := (dC, dI)) (ci := 11) (v := .ref h1) (C := RX11) (T := TX11) (N := 14) hx hb hts (fun _ h => List.mem_cons_of_mem _ (List.mem_append_right _ h)) hown hK hP 0 rfl rfl 13 (by decide) (hts (.fieldLink RX11 84 "KinkStreet" "shelves" "[LKinkStreet$Shelf;") (List.mem_of_getElem? (i := 1) rfl)) (fun _ h9 => h9) rfl dX11_knownShelf_6 ?_
    refine va_alen (v := 6) hx hb hK hP 1 0 rfl rfl rfl dX11_knownShelf_9 ?_
    refine lv_icmp_ge (tgt := 22) hx hb dX11_knownShelf_10 (by decide) (fun c_2 => ?_) (fun c_2 => ?_)
    · have t_2 : 6 ≤ p0.toInt := kk_le c_2
      refine lv_null hx hb dX11_knownShelf_22 ?_
      have hP9 := hP.sub (ws' := [(h0, .inr (11, [.ref h2, .int 0, .ref h3, .ref h4, .ref h5, .ref h6, .ref h7, .ref h8, .ref h9, .ref h10, .ref h11, .int 0, .ref h12, .ref h1])), (h1, .inl (cOShelf, 6, .inr (.inr (.inr (.inr (va_up (va_up (va_up (va_up (va_up (va_up (fun _ => none) (0 : Int32).toNatClampNeg (some h13)) (1 : Int32).toNatClampNeg (some h14)) (2 : Int32).toNatClampNeg (some h15)) (3 : Int32).toNatClampNeg (some h16)) (4 : Int32).toNatClampNeg (some h17)) (5 : Int32).toNatClampNeg (some h18)))))))]) [0, 1] rfl
      have hD9 := hD.sub (ws' := [(h0, .inr (11, [.ref h2, .int 0, .ref h3, .ref h4, .ref h5, .ref h6, .ref h7, .ref h8, .ref h9, .ref h10, .ref h11, .int 0, .ref h12, .ref h1])), (h1, .inl (cOShelf, 6, .inr (.inr (.inr (.inr (va_up (va_up (va_up (va_up (va_up (va_up (fun _ => none) (0 : Int32).toNatClampNeg (some h13)) (1 : Int32).toNatClampNeg (some h14)) (2 : Int32).toNatClampNeg (some h15)) (3 : Int32).toNatClampNeg (some h16)) (4 : Int32).toNatClampNeg (some h17)) (5 : Int32).toNatClampNeg (some h18)))))))]) [0, 1] (by decide) rfl
      have hK9 := hK.sub (tys' := []) [] rfl
      exact W.aret (v := .null) hx hb hr (Or.inl ⟨_, rfl⟩) (Or.inl rfl) (fun t ht hW => ⟨⟨none, (), rfl, Or.inr (Or.inl ⟨by first | assumption | omega, by first | assumption | omega, rfl⟩), by rw [ht]; exact hP9, va_K.moved hW.alike hK9, hD9⟩, hS.F ht⟩) hS.2.2 dX11_knownShelf_23
    · have t_2 : p0.toInt < 6 := kk_nle c_2
      refine lv_aload_n hx hb dX11_knownShelf_13 rfl (lv_at hl 0 rfl) ?_
      refine va_get (D := (dC, dI)) (ci := 11) (v := .ref h1) (C := RX11) (T := TX11) (N := 14) hx hb hts (fun _ h => List.mem_cons_of_mem _ (List.mem_append_right _ h)) hown hK hP 0 rfl rfl 13 (by decide) (hts (.fieldLink RX11 84 "KinkStreet" "shelves" "[LKinkStreet$Shelf;") (List.mem_of_getElem? (i := 1) rfl)) (fun _ h9 => h9) rfl dX11_knownShelf_14 ?_
      refine lv_iload_n hx hb dX11_knownShelf_17 rfl (lv_at hl 1 rfl) ?_
      rcases (show p0 = 0 ∨ p0 = 1 ∨ p0 = 2 ∨ p0 = 3 ∨ p0 = 4 ∨ p0 = 5 from by simp only [← Int32.toInt_inj]; simp; omega) with e_3 | e_3 | e_3 | e_3 | e_3 | e_3
      · have t_3 : p0.toInt = 0 := by rw [e_3]; rfl
        subst e_3
        refine va_aldq hx hb hK hP 1 0 rfl rfl (by unfold vp_in; decide) dX11_knownShelf_18 ?_
        refine W.eq (g2 := F0 m 19 ls [.ref h13]) rfl ?_
        refine lv_goto (tgt := 23) hx hb dX11_knownShelf_19 (by decide) ?_
        have hP9 := hP.sub (ws' := [(h0, .inr (11, [.ref h2, .int 0, .ref h3, .ref h4, .ref h5, .ref h6, .ref h7, .ref h8, .ref h9, .ref h10, .ref h11, .int 0, .ref h12, .ref h1])), (h1, .inl (cOShelf, 6, .inr (.inr (.inr (.inr (va_up (va_up (va_up (va_up (va_up (va_up (fun _ => none) (0 : Int32).toNatClampNeg (some h13)) (1 : Int32).toNatClampNeg (some h14)) (2 : Int32).toNatClampNeg (some h15)) (3 : Int32).toNatClampNeg (some h16)) (4 : Int32).toNatClampNeg (some h17)) (5 : Int32).toNatClampNeg (some h18)))))))]) [0, 1] rfl
        have hD9 := hD.sub (ws' := [(h0, .inr (11, [.ref h2, .int 0, .ref h3, .ref h4, .ref h5, .ref h6, .ref h7, .ref h8, .ref h9, .ref h10, .ref h11, .int 0, .ref h12, .ref h1])), (h1, .inl (cOShelf, 6, .inr (.inr (.inr (.inr (va_up (va_up (va_up (va_up (va_up (va_up (fun _ => none) (0 : Int32).toNatClampNeg (some h13)) (1 : Int32).toNatClampNeg (some h14)) (2 : Int32).toNatClampNeg (some h15)) (3 : Int32).toNatClampNeg (some h16)) (4 : Int32).toNatClampNeg (some h17)) (5 : Int32).toNatClampNeg (some h18)))))))]) [0, 1] (by decide) rfl
        have hK9 := hK.sub (tys' := []) [] rfl
        exact W.aret (v := .ref h13) hx hb hr (Or.inl ⟨_, rfl⟩) (Or.inr ⟨_, rfl⟩) (fun t ht hW => ⟨⟨some h13, (), rfl, Or.inr (Or.inr (Or.inl ⟨by first | assumption | omega, by first | assumption | omega, by first | assumption | omega, rfl⟩)), by rw [ht]; exact hP9, va_K.moved hW.alike hK9, hD9⟩, hS.F ht⟩) hS.2.2 dX11_knownShelf_23
      · have t_3 : p0.toInt = 1 := by rw [e_3]; rfl
        subst e_3
        refine va_aldq hx hb hK hP 1 0 rfl rfl (by unfold vp_in; decide) dX11_knownShelf_18 ?_
        refine W.eq (g2 := F0 m 19 ls [.ref h14]) rfl ?_
        refine lv_goto (tgt := 23) hx hb dX11_knownShelf_19 (by decide) ?_
        have hP9 := hP.sub (ws' := [(h0, .inr (11, [.ref h2, .int 0, .ref h3, .ref h4, .ref h5, .ref h6, .ref h7, .ref h8, .ref h9, .ref h10, .ref h11, .int 0, .ref h12, .ref h1])), (h1, .inl (cOShelf, 6, .inr (.inr (.inr (.inr (va_up (va_up (va_up (va_up (va_up (va_up (fun _ => none) (0 : Int32).toNatClampNeg (some h13)) (1 : Int32).toNatClampNeg (some h14)) (2 : Int32).toNatClampNeg (some h15)) (3 : Int32).toNatClampNeg (some h16)) (4 : Int32).toNatClampNeg (some h17)) (5 : Int32).toNatClampNeg (some h18)))))))]) [0, 1] rfl
        have hD9 := hD.sub (ws' := [(h0, .inr (11, [.ref h2, .int 0, .ref h3, .ref h4, .ref h5, .ref h6, .ref h7, .ref h8, .ref h9, .ref h10, .ref h11, .int 0, .ref h12, .ref h1])), (h1, .inl (cOShelf, 6, .inr (.inr (.inr (.inr (va_up (va_up (va_up (va_up (va_up (va_up (fun _ => none) (0 : Int32).toNatClampNeg (some h13)) (1 : Int32).toNatClampNeg (some h14)) (2 : Int32).toNatClampNeg (some h15)) (3 : Int32).toNatClampNeg (some h16)) (4 : Int32).toNatClampNeg (some h17)) (5 : Int32).toNatClampNeg (some h18)))))))]) [0, 1] (by decide) rfl
        have hK9 := hK.sub (tys' := []) [] rfl
        exact W.aret (v := .ref h14) hx hb hr (Or.inl ⟨_, rfl⟩) (Or.inr ⟨_, rfl⟩) (fun t ht hW => ⟨⟨some h14, (), rfl, Or.inr (Or.inr (Or.inr (Or.inl ⟨by first | assumption | omega, by first | assumption | omega, by first | assumption | omega, rfl⟩))), by rw [ht]; exact hP9, va_K.moved hW.alike hK9, hD9⟩, hS.F ht⟩) hS.2.2 dX11_knownShelf_23
      · have t_3 : p0.toInt = 2 := by rw [e_3]; rfl
        subst e_3
        refine va_aldq hx hb hK hP 1 0 rfl rfl (by unfold vp_in; decide) dX11_knownShelf_18 ?_
        refine W.eq (g2 := F0 m 19 ls [.ref h15]) rfl ?_
        refine lv_goto (tgt := 23) hx hb dX11_knownShelf_19 (by decide) ?_
        have hP9 := hP.sub (ws' := [(h0, .inr (11, [.ref h2, .int 0, .ref h3, .ref h4, .ref h5, .ref h6, .ref h7, .ref h8, .ref h9, .ref h10, .ref h11, .int 0, .ref h12, .ref h1])), (h1, .inl (cOShelf, 6, .inr (.inr (.inr (.inr (va_up (va_up (va_up (va_up (va_up (va_up (fun _ => none) (0 : Int32).toNatClampNeg (some h13)) (1 : Int32).toNatClampNeg (some h14)) (2 : Int32).toNatClampNeg (some h15)) (3 : Int32).toNatClampNeg (some h16)) (4 : Int32).toNatClampNeg (some h17)) (5 : Int32).toNatClampNeg (some h18)))))))]) [0, 1] rfl
        have hD9 := hD.sub (ws' := [(h0, .inr (11, [.ref h2, .int 0, .ref h3, .ref h4, .ref h5, .ref h6, .ref h7, .ref h8, .ref h9, .ref h10, .ref h11, .int 0, .ref h12, .ref h1])), (h1, .inl (cOShelf, 6, .inr (.inr (.inr (.inr (va_up (va_up (va_up (va_up (va_up (va_up (fun _ => none) (0 : Int32).toNatClampNeg (some h13)) (1 : Int32).toNatClampNeg (some h14)) (2 : Int32).toNatClampNeg (some h15)) (3 : Int32).toNatClampNeg (some h16)) (4 : Int32).toNatClampNeg (some h17)) (5 : Int32).toNatClampNeg (some h18)))))))]) [0, 1] (by decide) rfl
        have hK9 := hK.sub (tys' := []) [] rfl
        exact W.aret (v := .ref h15) hx hb hr (Or.inl ⟨_, rfl⟩) (Or.inr ⟨_, rfl⟩) (fun t ht hW => ⟨⟨some h15, (), rfl, Or.inr (Or.inr (Or.inr (Or.inr (Or.inl ⟨by first | assumption | omega, by first | assumption | omega, by first | assumption | omega, rfl⟩)))), by rw [ht]; exact hP9, va_K.moved hW.alike hK9, hD9⟩, hS.F ht⟩) hS.2.2 dX11_knownShelf_23
      · have t_3 : p0.toInt = 3 := by rw [e_3]; rfl
        subst e_3
        refine va_aldq hx hb hK hP 1 0 rfl rfl (by unfold vp_in; decide) dX11_knownShelf_18 ?_
        refine W.eq (g2 := F0 m 19 ls [.ref h16]) rfl ?_
        refine lv_goto (tgt := 23) hx hb dX11_knownShelf_19 (by decide) ?_
        have hP9 := hP.sub (ws' := [(h0, .inr (11, [.ref h2, .int 0, .ref h3, .ref h4, .ref h5, .ref h6, .ref h7, .ref h8, .ref h9, .ref h10, .ref h11, .int 0, .ref h12, .ref h1])), (h1, .inl (cOShelf, 6, .inr (.inr (.inr (.inr (va_up (va_up (va_up (va_up (va_up (va_up (fun _ => none) (0 : Int32).toNatClampNeg (some h13)) (1 : Int32).toNatClampNeg (some h14)) (2 : Int32).toNatClampNeg (some h15)) (3 : Int32).toNatClampNeg (some h16)) (4 : Int32).toNatClampNeg (some h17)) (5 : Int32).toNatClampNeg (some h18)))))))]) [0, 1] rfl
        have hD9 := hD.sub (ws' := [(h0, .inr (11, [.ref h2, .int 0, .ref h3, .ref h4, .ref h5, .ref h6, .ref h7, .ref h8, .ref h9, .ref h10, .ref h11, .int 0, .ref h12, .ref h1])), (h1, .inl (cOShelf, 6, .inr (.inr (.inr (.inr (va_up (va_up (va_up (va_up (va_up (va_up (fun _ => none) (0 : Int32).toNatClampNeg (some h13)) (1 : Int32).toNatClampNeg (some h14)) (2 : Int32).toNatClampNeg (some h15)) (3 : Int32).toNatClampNeg (some h16)) (4 : Int32).toNatClampNeg (some h17)) (5 : Int32).toNatClampNeg (some h18)))))))]) [0, 1] (by decide) rfl
        have hK9 := hK.sub (tys' := []) [] rfl
        exact W.aret (v := .ref h16) hx hb hr (Or.inl ⟨_, rfl⟩) (Or.inr ⟨_, rfl⟩) (fun t ht hW => ⟨⟨some h16, (), rfl, Or.inr (Or.inr (Or.inr (Or.inr (Or.inr (Or.inl ⟨by first | assumption | omega, by first | assumption | omega, by first | assumption | omega, rfl⟩))))), by rw [ht]; exact hP9, va_K.moved hW.alike hK9, hD9⟩, hS.F ht⟩) hS.2.2 dX11_knownShelf_23
      · have t_3 : p0.toInt = 4 := by rw [e_3]; rfl
        subst e_3
        refine va_aldq hx hb hK hP 1 0 rfl rfl (by unfold vp_in; decide) dX11_knownShelf_18 ?_
        refine W.eq (g2 := F0 m 19 ls [.ref h17]) rfl ?_
        refine lv_goto (tgt := 23) hx hb dX11_knownShelf_19 (by decide) ?_
        have hP9 := hP.sub (ws' := [(h0, .inr (11, [.ref h2, .int 0, .ref h3, .ref h4, .ref h5, .ref h6, .ref h7, .ref h8, .ref h9, .ref h10, .ref h11, .int 0, .ref h12, .ref h1])), (h1, .inl (cOShelf, 6, .inr (.inr (.inr (.inr (va_up (va_up (va_up (va_up (va_up (va_up (fun _ => none) (0 : Int32).toNatClampNeg (some h13)) (1 : Int32).toNatClampNeg (some h14)) (2 : Int32).toNatClampNeg (some h15)) (3 : Int32).toNatClampNeg (some h16)) (4 : Int32).toNatClampNeg (some h17)) (5 : Int32).toNatClampNeg (some h18)))))))]) [0, 1] rfl
        have hD9 := hD.sub (ws' := [(h0, .inr (11, [.ref h2, .int 0, .ref h3, .ref h4, .ref h5, .ref h6, .ref h7, .ref h8, .ref h9, .ref h10, .ref h11, .int 0, .ref h12, .ref h1])), (h1, .inl (cOShelf, 6, .inr (.inr (.inr (.inr (va_up (va_up (va_up (va_up (va_up (va_up (fun _ => none) (0 : Int32).toNatClampNeg (some h13)) (1 : Int32).toNatClampNeg (some h14)) (2 : Int32).toNatClampNeg (some h15)) (3 : Int32).toNatClampNeg (some h16)) (4 : Int32).toNatClampNeg (some h17)) (5 : Int32).toNatClampNeg (some h18)))))))]) [0, 1] (by decide) rfl
        have hK9 := hK.sub (tys' := []) [] rfl
        exact W.aret (v := .ref h17) hx hb hr (Or.inl ⟨_, rfl⟩) (Or.inr ⟨_, rfl⟩) (fun t ht hW => ⟨⟨some h17, (), rfl, Or.inr (Or.inr (Or.inr (Or.inr (Or.inr (Or.inr (Or.inl ⟨by first | assumption | omega, by first | assumption | omega, by first | assumption | omega, rfl⟩)))))), by rw [ht]; exact hP9, va_K.moved hW.alike hK9, hD9⟩, hS.F ht⟩) hS.2.2 dX11_knownShelf_23
      · have t_3 : p0.toInt = 5 := by rw [e_3]; rfl
        subst e_3
        refine va_aldq hx hb hK hP 1 0 rfl rfl (by unfold vp_in; decide) dX11_knownShelf_18 ?_
        refine W.eq (g2 := F0 m 19 ls [.ref h18]) rfl ?_
        refine lv_goto (tgt := 23) hx hb dX11_knownShelf_19 (by decide) ?_
        have hP9 := hP.sub (ws' := [(h0, .inr (11, [.ref h2, .int 0, .ref h3, .ref h4, .ref h5, .ref h6, .ref h7, .ref h8, .ref h9, .ref h10, .ref h11, .int 0, .ref h12, .ref h1])), (h1, .inl (cOShelf, 6, .inr (.inr (.inr (.inr (va_up (va_up (va_up (va_up (va_up (va_up (fun _ => none) (0 : Int32).toNatClampNeg (some h13)) (1 : Int32).toNatClampNeg (some h14)) (2 : Int32).toNatClampNeg (some h15)) (3 : Int32).toNatClampNeg (some h16)) (4 : Int32).toNatClampNeg (some h17)) (5 : Int32).toNatClampNeg (some h18)))))))]) [0, 1] rfl
        have hD9 := hD.sub (ws' := [(h0, .inr (11, [.ref h2, .int 0, .ref h3, .ref h4, .ref h5, .ref h6, .ref h7, .ref h8, .ref h9, .ref h10, .ref h11, .int 0, .ref h12, .ref h1])), (h1, .inl (cOShelf, 6, .inr (.inr (.inr (.inr (va_up (va_up (va_up (va_up (va_up (va_up (fun _ => none) (0 : Int32).toNatClampNeg (some h13)) (1 : Int32).toNatClampNeg (some h14)) (2 : Int32).toNatClampNeg (some h15)) (3 : Int32).toNatClampNeg (some h16)) (4 : Int32).toNatClampNeg (some h17)) (5 : Int32).toNatClampNeg (some h18)))))))]) [0, 1] (by decide) rfl
        have hK9 := hK.sub (tys' := []) [] rfl
        exact W.aret (v := .ref h18) hx hb hr (Or.inl ⟨_, rfl⟩) (Or.inr ⟨_, rfl⟩) (fun t ht hW => ⟨⟨some h18, (), rfl, Or.inr (Or.inr (Or.inr (Or.inr (Or.inr (Or.inr (Or.inr (⟨by first | assumption | omega, by first | assumption | omega, by first | assumption | omega, rfl⟩))))))), by rw [ht]; exact hP9, va_K.moved hW.alike hK9, hD9⟩, hS.F ht⟩) hS.2.2 dX11_knownShelf_23
set_option maxHeartbeats 4000000 in
set_option maxRecDepth 100000 in
theorem k_X11_plots_0 (l : Launch) (dC : Nat → ClassId) (dI : Nat → Nat → Nat) (h0 h1 h2 h3 h4 h5 h6 h7 h8 h9 h10 h11 h12 h13 h14 h15 h16 h17 h18 : Nat) (cOShelf : ClassId) (sz : Nat) (p0 : Int32) (p1 : Int32) (p2 : Int32) (p3 : Int32) : Met l yX11_plots wsX11_plots ({ frames := 1, cells := 0, slots := 0, locals := 21 }) (va_Pc [.ref h0, .int p0, .int p1, .int p2, .int p3] (fun U => U.heap.size = sz ∧ va_P (dC, dI) vwCl [(h0, .inr (11, [.ref h2, .int 0, .ref h3, .ref h4, .ref h5, .ref h6, .ref h7, .ref h8, .ref h9, .ref h10, .ref h11, .int 0, .ref h12, .ref h1])), (h1, .inl (cOShelf, 6, .inr (.inr (.inr (.inr (va_up (va_up (va_up (va_up (va_up (va_up (fun _ => none) (0 : Int32).toNatClampNeg (some h13)) (1 : Int32).toNatClampNeg (some h14)) (2 : Int32).toNatClampNeg (some h15)) (3 : Int32).toNatClampNeg (some h16)) (4 : Int32).toNatClampNeg (some h17)) (5 : Int32).toNatClampNeg (some h18)))))))] U.heap ∧ va_K (dC, dI) vwCl [(cOShelf, .object "KinkStreet$Shelf")] U ∧ va_D (fun _ => True) [(h0, .inr (11, [.ref h2, .int 0, .ref h3, .ref h4, .ref h5, .ref h6, .ref h7, .ref h8, .ref h9, .ref h10, .ref h11, .int 0, .ref h12, .ref h1])), (h1, .inl (cOShelf, 6, .inr (.inr (.inr (.inr (va_up (va_up (va_up (va_up (va_up (va_up (fun _ => none) (0 : Int32).toNatClampNeg (some h13)) (1 : Int32).toNatClampNeg (some h14)) (2 : Int32).toNatClampNeg (some h15)) (3 : Int32).toNatClampNeg (some h16)) (4 : Int32).toNatClampNeg (some h17)) (5 : Int32).toNatClampNeg (some h18)))))))])) (va_Qi (fun (r : Int32) (_ : Unit) => r = -1) (fun (_ : Unit) t => va_P (dC, dI) vwCl [] t.heap ∧ va_K (dC, dI) vwCl [] t ∧ va_D (va_A [(h0, .inr (11, [.ref h2, .int 0, .ref h3, .ref h4, .ref h5, .ref h6, .ref h7, .ref h8, .ref h9, .ref h10, .ref h11, .int 0, .ref h12, .ref h1])), (h1, .inl (cOShelf, 6, .inr (.inr (.inr (.inr (va_up (va_up (va_up (va_up (va_up (va_up (fun _ => none) (0 : Int32).toNatClampNeg (some h13)) (1 : Int32).toNatClampNeg (some h14)) (2 : Int32).toNatClampNeg (some h15)) (3 : Int32).toNatClampNeg (some h16)) (4 : Int32).toNatClampNeg (some h17)) (5 : Int32).toNatClampNeg (some h18)))))))] sz) []) (va_A [(h0, .inr (11, [.ref h2, .int 0, .ref h3, .ref h4, .ref h5, .ref h6, .ref h7, .ref h8, .ref h9, .ref h10, .ref h11, .int 0, .ref h12, .ref h1])), (h1, .inl (cOShelf, 6, .inr (.inr (.inr (.inr (va_up (va_up (va_up (va_up (va_up (va_up (fun _ => none) (0 : Int32).toNatClampNeg (some h13)) (1 : Int32).toNatClampNeg (some h14)) (2 : Int32).toNatClampNeg (some h15)) (3 : Int32).toNatClampNeg (some h16)) (4 : Int32).toNatClampNeg (some h17)) (5 : Int32).toNatClampNeg (some h18)))))))] sz)) 0 0 (va_A [(h0, .inr (11, [.ref h2, .int 0, .ref h3, .ref h4, .ref h5, .ref h6, .ref h7, .ref h8, .ref h9, .ref h10, .ref h11, .int 0, .ref h12, .ref h1])), (h1, .inl (cOShelf, 6, .inr (.inr (.inr (.inr (va_up (va_up (va_up (va_up (va_up (va_up (fun _ => none) (0 : Int32).toNatClampNeg (some h13)) (1 : Int32).toNatClampNeg (some h14)) (2 : Int32).toNatClampNeg (some h15)) (3 : Int32).toNatClampNeg (some h16)) (4 : Int32).toNatClampNeg (some h17)) (5 : Int32).toNatClampNeg (some h18)))))))] sz) := by
  refine Met.ofW (cc := cX11_plots) (maxL := 8) (ret := (some .int)) (by decide) rfl ?_
  intro p e s m args below meth c s₁ B hml hv
  obtain ⟨rfl, hsz, hP, hK, hD0⟩ := hv
  have hx := B.exec
  have hb := B.bytes
  have hr := B.returns
  have hts := atoms_spec (ws := wsX11_plots) B.pre
  have hown : s.vm.findClass RX11 = some m.cls := findClass_of_methodNamed B.named
  have hlocks := B.notSynchronized
  subst hsz
  have hD := hD0.self (sz := s.heap.size)
  generalize hAe : va_A [(h0, .inr (11, [.ref h2, .int 0, .ref h3, .ref h4, .ref h5, .ref h6, .ref h7, .ref h8, .ref h9, .ref h10, .ref h11, .int 0, .ref h12, .ref h1])), (h1, .inl (cOShelf, 6, .inr (.inr (.inr (.inr (va_up (va_up (va_up (va_up (va_up (va_up (fun _ => none) (0 : Int32).toNatClampNeg (some h13)) (1 : Int32).toNatClampNeg (some h14)) (2 : Int32).toNatClampNeg (some h15)) (3 : Int32).toNatClampNeg (some h16)) (4 : Int32).toNatClampNeg (some h17)) (5 : Int32).toNatClampNeg (some h18)))))))] s.heap.size = A at hD ⊢
  have hA : ∀ q : Nat, s.heap.size ≤ q → A q := fun q h => by rw [← hAe]; exact Or.inr h
  have hS : va_S A s.heap s.heap [] := va_S.rf
  have hP : va_P (dC, dI) vwCl [(h0, .inr (11, [.ref h2, .int 0, .ref h3, .ref h4, .ref h5, .ref h6, .ref h7, .ref h8, .ref h9, .ref h10, .ref h11, .int 0, .ref h12, .ref h1])), (h1, .inl (cOShelf, 6, .inr (.inr (.inr (.inr (va_up (va_up (va_up (va_up (va_up (va_up (fun _ => none) (0 : Int32).toNatClampNeg (some h13)) (1 : Int32).toNatClampNeg (some h14)) (2 : Int32).toNatClampNeg (some h15)) (3 : Int32).toNatClampNeg (some h16)) (4 : Int32).toNatClampNeg (some h17)) (5 : Int32).toNatClampNeg (some h18)))))))] s.heap := hP
  have hl := lv_entry ([.ref h0, .int p0, .int p1, .int p2, .int p3]) (n := 8) (Nat.le_of_ble_eq_true rfl)
  rw [lg_entry_eq]
  generalize (lg_sl ([.ref h0, .int p0, .int p1, .int p2, .int p3]) ++ List.replicate (8 - (lg_sl ([.ref h0, .int p0, .int p1, .int p2, .int p3])).length) Slot.unset).toArray = ls at hl ⊢
  have hl : lv_has ls 8 [(0, .ref h0), (1, .int p0), (2, .int p1), (3, .int p2), (4, .int p3)] := hl
  refine lv_aload_n hx hb dX11_plots_0 rfl (lv_at hl 0 rfl) ?_
  refine lv_iload_n hx hb dX11_plots_1 rfl (lv_at hl 1 rfl) ?_
  have hPc := hP.sub (ws' := [(h0, .inr (11, [.ref h2, .int 0, .ref h3, .ref h4, .ref h5, .ref h6, .ref h7, .ref h8, .ref h9, .ref h10, .ref h11, .int 0, .ref h12, .ref h1]))]) [0] rfl
  have hDc := hD.sub (ws' := [(h0, .inr (11, [.ref h2, .int 0, .ref h3, .ref h4, .ref h5, .ref h6, .ref h7, .ref h8, .ref h9, .ref h10, .ref h11, .int 0, .ref h12, .ref h1]))]) [0] (by decide) rfl
  have hKc := hK.sub (tys' := []) [] rfl
  have hFc := va_free (wc := [(h0, .inr (11, [.ref h2, .int 0, .ref h3, .ref h4, .ref h5, .ref h6, .ref h7, .ref h8, .ref h9, .ref h10, .ref h11, .int 0, .ref h12, .ref h1]))]) hD hS hA [0] rfl
  refine va_callq (va_runV (As := [.int p0]) (rest := []) ⟨hx, hb, hml, hown, hts⟩ (k_X11_knownStreet_0 l dC dI h0 h2 h3 h4 h5 h6 h7 h8 h9 h10 h11 h12 h1 s.heap.size p0) (cwV 1 hts gX11_plots_X11_knownStreet rfl rfl rfl (by decide +kernel) ⟨Nat.le_of_ble_eq_true rfl, Nat.le_of_ble_eq_true rfl⟩) ⟨fun a U g mk q => by obtain ⟨q0, q1, qP, qK, qD⟩ := q; exact ⟨q0, q1, qP, va_K.moved (u := U) (U := U.calling g mk a) (Vm.Alike.refl U.vm) qK, qD⟩, va_recv hKc hPc (ci := 11) (q0 := 0) rfl rfl, fun U hU hW => ⟨rfl, by rw [hU], by rw [hU]; exact hPc, va_K.moved hW.alike hKc, hDc.weaken (fun _ _ _ _ => trivial)⟩⟩ rfl rfl hl.1 rfl (lv_room (Nat.le_of_ble_eq_true rfl)) dX11_plots_2 ⟨Nat.le_of_ble_eq_true rfl, Nat.le_of_ble_eq_true rfl⟩) hS (fun q _ h => hFc q h) hFc (fun r_1 u t H1 locs ht hvm hw hB hz1 hk1 hS => ?_)
  obtain ⟨hP1, hK1, hD1⟩ := hB
  rw [ht] at hP1
  have hK1 := va_K.moved hvm.symm hK1
  obtain ⟨hP, hD⟩ := va_join (wr := [(h1, .inl (cOShelf, 6, .inr (.inr (.inr (.inr (va_up (va_up (va_up (va_up (va_up (va_up (fun _ => none) (0 : Int32).toNatClampNeg (some h13)) (1 : Int32).toNatClampNeg (some h14)) (2 : Int32).toNatClampNeg (some h15)) (3 : Int32).toNatClampNeg (some h16)) (4 : Int32).toNatClampNeg (some h17)) (5 : Int32).toNatClampNeg (some h18)))))))]) (w1 := [(h0, .inr (11, [.ref h2, .int 0, .ref h3, .ref h4, .ref h5, .ref h6, .ref h7, .ref h8, .ref h9, .ref h10, .ref h11, .int 0, .ref h12, .ref h1]))]) hP hD [0] [1] rfl rfl (by decide) (by decide) hk1 hFc hP1 hD1
  generalize H1 = H at hP hS ⊢
  have hP : va_P (dC, dI) vwCl [(h1, .inl (cOShelf, 6, .inr (.inr (.inr (.inr (va_up (va_up (va_up (va_up (va_up (va_up (fun _ => none) (0 : Int32).toNatClampNeg (some h13)) (1 : Int32).toNatClampNeg (some h14)) (2 : Int32).toNatClampNeg (some h15)) (3 : Int32).toNatClampNeg (some h16)) (4 : Int32).toNatClampNeg (some h17)) (5 : Int32).toNatClampNeg (some h18))))))), (h0, .inr (11, [.ref h2, .int 0, .ref h3, .ref h4, .ref h5, .ref h6, .ref h7, .ref h8, .ref h9, .ref h10, .ref h11, .int 0, .ref h12, .ref h1]))] H := hP
  have hD : va_D A [(h1, .inl (cOShelf, 6, .inr (.inr (.inr (.inr (va_up (va_up (va_up (va_up (va_up (va_up (fun _ => none) (0 : Int32).toNatClampNeg (some h13)) (1 : Int32).toNatClampNeg (some h14)) (2 : Int32).toNatClampNeg (some h15)) (3 : Int32).toNatClampNeg (some h16)) (4 : Int32).toNatClampNeg (some h17)) (5 : Int32).toNatClampNeg (some h18))))))), (h0, .inr (11, [.ref h2, .int 0, .ref h3, .ref h4, .ref h5, .ref h6, .ref h7, .ref h8, .ref h9, .ref h10, .ref h11, .int 0, .ref h12, .ref h1]))] := hD
  obtain rfl := hw
  refine W.eq (g2 := F0 m 5 ls [.null]) rfl ?_
  refine lv_astoreN (lv' := [(5, .null), (0, .ref h0), (1, .int p0), (2, .int p1), (3, .int p2), (4, .int p3)]) hx hb dX11_plots_5 hl (by decide) rfl (fun ls hl => ?_)
  refine lv_aload_n hx hb dX11_plots_7 rfl (lv_at hl 1 rfl) ?_
  refine lv_iload_n hx hb dX11_plots_8 rfl (lv_at hl 3 rfl) ?_
  have hPc := hP.sub (ws' := [(h0, .inr (11, [.ref h2, .int 0, .ref h3, .ref h4, .ref h5, .ref h6, .ref h7, .ref h8, .ref h9, .ref h10, .ref h11, .int 0, .ref h12, .ref h1])), (h1, .inl (cOShelf, 6, .inr (.inr (.inr (.inr (va_up (va_up (va_up (va_up (va_up (va_up (fun _ => none) (0 : Int32).toNatClampNeg (some h13)) (1 : Int32).toNatClampNeg (some h14)) (2 : Int32).toNatClampNeg (some h15)) (3 : Int32).toNatClampNeg (some h16)) (4 : Int32).toNatClampNeg (some h17)) (5 : Int32).toNatClampNeg (some h18)))))))]) [1, 0] rfl
  have hDc := hD.sub (ws' := [(h0, .inr (11, [.ref h2, .int 0, .ref h3, .ref h4, .ref h5, .ref h6, .ref h7, .ref h8, .ref h9, .ref h10, .ref h11, .int 0, .ref h12, .ref h1])), (h1, .inl (cOShelf, 6, .inr (.inr (.inr (.inr (va_up (va_up (va_up (va_up (va_up (va_up (fun _ => none) (0 : Int32).toNatClampNeg (some h13)) (1 : Int32).toNatClampNeg (some h14)) (2 : Int32).toNatClampNeg (some h15)) (3 : Int32).toNatClampNeg (some h16)) (4 : Int32).toNatClampNeg (some h17)) (5 : Int32).toNatClampNeg (some h18)))))))]) [1, 0] (by decide) rfl
  have hKc := hK.sub (tys' := [(cOShelf, .object "KinkStreet$Shelf")]) [0] rfl
  have hFc := va_free (wc := [(h0, .inr (11, [.ref h2, .int 0, .ref h3, .ref h4, .ref h5, .ref h6, .ref h7, .ref h8, .ref h9, .ref h10, .ref h11, .int 0, .ref h12, .ref h1])), (h1, .inl (cOShelf, 6, .inr (.inr (.inr (.inr (va_up (va_up (va_up (va_up (va_up (va_up (fun _ => none) (0 : Int32).toNatClampNeg (some h13)) (1 : Int32).toNatClampNeg (some h14)) (2 : Int32).toNatClampNeg (some h15)) (3 : Int32).toNatClampNeg (some h16)) (4 : Int32).toNatClampNeg (some h17)) (5 : Int32).toNatClampNeg (some h18)))))))]) hD hS hA [1, 0] rfl
  refine va_callq (va_runV (As := [.int p1]) (rest := []) ⟨hx, hb, hml, hown, hts⟩ (k_X11_knownShelf_0 l dC dI h0 h1 h2 h3 h4 h5 h6 h7 h8 h9 h10 h11 h12 h13 h14 h15 h16 h17 h18 cOShelf H.size p1) (cwV 1 hts gX11_plots_X11_knownShelf rfl rfl rfl (by decide +kernel) ⟨Nat.le_of_ble_eq_true rfl, Nat.le_of_ble_eq_true rfl⟩) ⟨fun a U g mk q => by obtain ⟨q0, q1, qP, qK, qD⟩ := q; exact ⟨q0, q1, qP, va_K.moved (u := U) (U := U.calling g mk a) (Vm.Alike.refl U.vm) qK, qD⟩, va_recv hKc hPc (ci := 11) (q0 := 0) rfl rfl, fun U hU hW => ⟨rfl, by rw [hU], by rw [hU]; exact hPc, va_K.moved hW.alike hKc, hDc.weaken (fun _ _ _ _ => trivial)⟩⟩ rfl rfl hl.1 rfl (lv_room (Nat.le_of_ble_eq_true rfl)) dX11_plots_9 ⟨Nat.le_of_ble_eq_true rfl, Nat.le_of_ble_eq_true rfl⟩) hS (fun q _ h => hFc q h) hFc (fun r_2 u t H1 locs ht hvm hw hB hz1 hk1 hS => ?_)
  obtain ⟨hP1, hK1, hD1⟩ := hB
  rw [ht] at hP1
  have hK1 := va_K.moved hvm.symm hK1
  obtain ⟨hP, hD⟩ := va_join (wr := []) (w1 := [(h0, .inr (11, [.ref h2, .int 0, .ref h3, .ref h4, .ref h5, .ref h6, .ref h7, .ref h8, .ref h9, .ref h10, .ref h11, .int 0, .ref h12, .ref h1])), (h1, .inl (cOShelf, 6, .inr (.inr (.inr (.inr (va_up (va_up (va_up (va_up (va_up (va_up (fun _ => none) (0 : Int32).toNatClampNeg (some h13)) (1 : Int32).toNatClampNeg (some h14)) (2 : Int32).toNatClampNeg (some h15)) (3 : Int32).toNatClampNeg (some h16)) (4 : Int32).toNatClampNeg (some h17)) (5 : Int32).toNatClampNeg (some h18)))))))]) hP hD [1, 0] [] rfl rfl (by decide) (by decide) hk1 hFc hP1 hD1
  generalize H1 = H at hP hS ⊢
  have hP : va_P (dC, dI) vwCl [(h0, .inr (11, [.ref h2, .int 0, .ref h3, .ref h4, .ref h5, .ref h6, .ref h7, .ref h8, .ref h9, .ref h10, .ref h11, .int 0, .ref h12, .ref h1])), (h1, .inl (cOShelf, 6, .inr (.inr (.inr (.inr (va_up (va_up (va_up (va_up (va_up (va_up (fun _ => none) (0 : Int32).toNatClampNeg (some h13)) (1 : Int32).toNatClampNeg (some h14)) (2 : Int32).toNatClampNeg (some h15)) (3 : Int32).toNatClampNeg (some h16)) (4 : Int32).toNatClampNeg (some h17)) (5 : Int32).toNatClampNeg (some h18)))))))] H := hP
  have hD : va_D A [(h0, .inr (11, [.ref h2, .int 0, .ref h3, .ref h4, .ref h5, .ref h6, .ref h7, .ref h8, .ref h9, .ref h10, .ref h11, .int 0, .ref h12, .ref h1])), (h1, .inl (cOShelf, 6, .inr (.inr (.inr (.inr (va_up (va_up (va_up (va_up (va_up (va_up (fun _ => none) (0 : Int32).toNatClampNeg (some h13)) (1 : Int32).toNatClampNeg (some h14)) (2 : Int32).toNatClampNeg (some h15)) (3 : Int32).toNatClampNeg (some h16)) (4 : Int32).toNatClampNeg (some h17)) (5 : Int32).toNatClampNeg (some h18)))))))] := hD
  rcases hw with ⟨t_2_0, rfl⟩ | ⟨t_2_0, t_2_1, rfl⟩ | ⟨t_2_0, t_2_1, t_2_2, rfl⟩ | ⟨t_2_0, t_2_1, t_2_2, rfl⟩ | ⟨t_2_0, t_2_1, t_2_2, rfl⟩ | ⟨t_2_0, t_2_1, t_2_2, rfl⟩ | ⟨t_2_0, t_2_1, t_2_2, rfl⟩ | ⟨t_2_0, t_2_1, t_2_2, rfl⟩
  · skip
    refine W.eq (g2 := F0 m 12 ls [.null]) rfl ?_
    refine lv_astoreN (lv' := [(6, .null), (5, .null), (0, .ref h0), (1, .int p0), (2, .int p1), (3, .int p2), (4, .int p3)]) hx hb dX11_plots_12 hl (by decide) rfl (fun ls hl => ?_)
    refine lv_aloadN hx hb dX11_plots_14 (lv_at hl 1 rfl) ?_
    refine lv_ifnullN (tgt := 37) hx hb dX11_plots_16 (by decide) ?_
    refine lv_iconst (v := (-1)) hx hb dX11_plots_37 (by decide) ?_
    have hP9 := hP.sub (ws' := []) [] rfl
    have hD9 := hD.sub (ws' := []) [] (by decide) rfl
    have hK9 := hK.sub (tys' := []) [] rfl
    exact W.iret (v := (-1)) hx hb hr (fun t ht hW => ⟨⟨(-1), (), rfl, by first | rfl | ((repeat' split) <;> first | rfl | (exfalso; omega) | (exact Int32.toInt_inj.mp (by show ((-1) : Int) = _; omega))), by rw [ht]; exact hP9, va_K.moved hW.alike hK9, hD9⟩, hS.F ht⟩) hS.2.2 dX11_plots_38
  · skip
    refine W.eq (g2 := F0 m 12 ls [.null]) rfl ?_
    refine lv_astoreN (lv' := [(6, .null), (5, .null), (0, .ref h0), (1, .int p0), (2, .int p1), (3, .int p2), (4, .int p3)]) hx hb dX11_plots_12 hl (by decide) rfl (fun ls hl => ?_)
    refine lv_aloadN hx hb dX11_plots_14 (lv_at hl 1 rfl) ?_
    refine lv_ifnullN (tgt := 37) hx hb dX11_plots_16 (by decide) ?_
    refine lv_iconst (v := (-1)) hx hb dX11_plots_37 (by decide) ?_
    have hP9 := hP.sub (ws' := []) [] rfl
    have hD9 := hD.sub (ws' := []) [] (by decide) rfl
    have hK9 := hK.sub (tys' := []) [] rfl
    exact W.iret (v := (-1)) hx hb hr (fun t ht hW => ⟨⟨(-1), (), rfl, by first | rfl | ((repeat' split) <;> first | rfl | (exfalso; omega) | (exact Int32.toInt_inj.mp (by show ((-1) : Int) = _; omega))), by rw [ht]; exact hP9, va_K.moved hW.alike hK9, hD9⟩, hS.F ht⟩) hS.2.2 dX11_plots_38
  · skip
    refine W.eq (g2 := F0 m 12 ls [.ref h13]) rfl ?_
    refine lv_astore (lv' := [(6, .ref h13), (5, .null), (0, .ref h0), (1, .int p0), (2, .int p1), (3, .int p2), (4, .int p3)]) hx hb dX11_plots_12 hl (by decide) rfl (fun ls hl => ?_)
    refine lv_aloadN hx hb dX11_plots_14 (lv_at hl 1 rfl) ?_
    refine lv_ifnullN (tgt := 37) hx hb dX11_plots_16 (by decide) ?_
    refine lv_iconst (v := (-1)) hx hb dX11_plots_37 (by decide) ?_
    have hP9 := hP.sub (ws' := []) [] rfl
    have hD9 := hD.sub (ws' := []) [] (by decide) rfl
    have hK9 := hK.sub (tys' := []) [] rfl
    exact W.iret (v := (-1)) hx hb hr (fun t ht hW => ⟨⟨(-1), (), rfl, by first | rfl | ((repeat' split) <;> first | rfl | (exfalso; omega) | (exact Int32.toInt_inj.mp (by show ((-1) : Int) = _; omega))), by rw [ht]; exact hP9, va_K.moved hW.alike hK9, hD9⟩, hS.F ht⟩) hS.2.2 dX11_plots_38
  · skip
    refine W.eq (g2 := F0 m 12 ls [.ref h14]) rfl ?_
    refine lv_astore (lv' := [(6, .ref h14), (5, .null), (0, .ref h0), (1, .int p0), (2, .int p1), (3, .int p2), (4, .int p3)]) hx hb dX11_plots_12 hl (by decide) rfl (fun ls hl => ?_)
    refine lv_aloadN hx hb dX11_plots_14 (lv_at hl 1 rfl) ?_
    refine lv_ifnullN (tgt := 37) hx hb dX11_plots_16 (by decide) ?_
    refine lv_iconst (v := (-1)) hx hb dX11_plots_37 (by decide) ?_
    have hP9 := hP.sub (ws' := []) [] rfl
    have hD9 := hD.sub (ws' := []) [] (by decide) rfl
    have hK9 := hK.sub (tys' := []) [] rfl
    exact W.iret (v := (-1)) hx hb hr (fun t ht hW => ⟨⟨(-1), (), rfl, by first | rfl | ((repeat' split) <;> first | rfl | (exfalso; omega) | (exact Int32.toInt_inj.mp (by show ((-1) : Int) = _; omega))), by rw [ht]; exact hP9, va_K.moved hW.alike hK9, hD9⟩, hS.F ht⟩) hS.2.2 dX11_plots_38
  · skip
    refine W.eq (g2 := F0 m 12 ls [.ref h15]) rfl ?_
    refine lv_astore (lv' := [(6, .ref h15), (5, .null), (0, .ref h0), (1, .int p0), (2, .int p1), (3, .int p2), (4, .int p3)]) hx hb dX11_plots_12 hl (by decide) rfl (fun ls hl => ?_)
    refine lv_aloadN hx hb dX11_plots_14 (lv_at hl 1 rfl) ?_
    refine lv_ifnullN (tgt := 37) hx hb dX11_plots_16 (by decide) ?_
    refine lv_iconst (v := (-1)) hx hb dX11_plots_37 (by decide) ?_
    have hP9 := hP.sub (ws' := []) [] rfl
    have hD9 := hD.sub (ws' := []) [] (by decide) rfl
    have hK9 := hK.sub (tys' := []) [] rfl
    exact W.iret (v := (-1)) hx hb hr (fun t ht hW => ⟨⟨(-1), (), rfl, by first | rfl | ((repeat' split) <;> first | rfl | (exfalso; omega) | (exact Int32.toInt_inj.mp (by show ((-1) : Int) = _; omega))), by rw [ht]; exact hP9, va_K.moved hW.alike hK9, hD9⟩, hS.F ht⟩) hS.2.2 dX11_plots_38
  · skip
    refine W.eq (g2 := F0 m 12 ls [.ref h16]) rfl ?_
    refine lv_astore (lv' := [(6, .ref h16), (5, .null), (0, .ref h0), (1, .int p0), (2, .int p1), (3, .int p2), (4, .int p3)]) hx hb dX11_plots_12 hl (by decide) rfl (fun ls hl => ?_)
    refine lv_aloadN hx hb dX11_plots_14 (lv_at hl 1 rfl) ?_
    refine lv_ifnullN (tgt := 37) hx hb dX11_plots_16 (by decide) ?_
    refine lv_iconst (v := (-1)) hx hb dX11_plots_37 (by decide) ?_
    have hP9 := hP.sub (ws' := []) [] rfl
    have hD9 := hD.sub (ws' := []) [] (by decide) rfl
    have hK9 := hK.sub (tys' := []) [] rfl
    exact W.iret (v := (-1)) hx hb hr (fun t ht hW => ⟨⟨(-1), (), rfl, by first | rfl | ((repeat' split) <;> first | rfl | (exfalso; omega) | (exact Int32.toInt_inj.mp (by show ((-1) : Int) = _; omega))), by rw [ht]; exact hP9, va_K.moved hW.alike hK9, hD9⟩, hS.F ht⟩) hS.2.2 dX11_plots_38
  · skip
    refine W.eq (g2 := F0 m 12 ls [.ref h17]) rfl ?_
    refine lv_astore (lv' := [(6, .ref h17), (5, .null), (0, .ref h0), (1, .int p0), (2, .int p1), (3, .int p2), (4, .int p3)]) hx hb dX11_plots_12 hl (by decide) rfl (fun ls hl => ?_)
    refine lv_aloadN hx hb dX11_plots_14 (lv_at hl 1 rfl) ?_
    refine lv_ifnullN (tgt := 37) hx hb dX11_plots_16 (by decide) ?_
    refine lv_iconst (v := (-1)) hx hb dX11_plots_37 (by decide) ?_
    have hP9 := hP.sub (ws' := []) [] rfl
    have hD9 := hD.sub (ws' := []) [] (by decide) rfl
    have hK9 := hK.sub (tys' := []) [] rfl
    exact W.iret (v := (-1)) hx hb hr (fun t ht hW => ⟨⟨(-1), (), rfl, by first | rfl | ((repeat' split) <;> first | rfl | (exfalso; omega) | (exact Int32.toInt_inj.mp (by show ((-1) : Int) = _; omega))), by rw [ht]; exact hP9, va_K.moved hW.alike hK9, hD9⟩, hS.F ht⟩) hS.2.2 dX11_plots_38
  · skip
    refine W.eq (g2 := F0 m 12 ls [.ref h18]) rfl ?_
    refine lv_astore (lv' := [(6, .ref h18), (5, .null), (0, .ref h0), (1, .int p0), (2, .int p1), (3, .int p2), (4, .int p3)]) hx hb dX11_plots_12 hl (by decide) rfl (fun ls hl => ?_)
    refine lv_aloadN hx hb dX11_plots_14 (lv_at hl 1 rfl) ?_
    refine lv_ifnullN (tgt := 37) hx hb dX11_plots_16 (by decide) ?_
    refine lv_iconst (v := (-1)) hx hb dX11_plots_37 (by decide) ?_
    have hP9 := hP.sub (ws' := []) [] rfl
    have hD9 := hD.sub (ws' := []) [] (by decide) rfl
    have hK9 := hK.sub (tys' := []) [] rfl
    exact W.iret (v := (-1)) hx hb hr (fun t ht hW => ⟨⟨(-1), (), rfl, by first | rfl | ((repeat' split) <;> first | rfl | (exfalso; omega) | (exact Int32.toInt_inj.mp (by show ((-1) : Int) = _; omega))), by rw [ht]; exact hP9, va_K.moved hW.alike hK9, hD9⟩, hS.F ht⟩) hS.2.2 dX11_plots_38
set_option maxHeartbeats 4000000 in
set_option maxRecDepth 100000 in
theorem k_X11_mend_0 (l : Launch) (dC : Nat → ClassId) (dI : Nat → Nat → Nat) (h0 h1 h2 h3 h4 h5 h6 h7 h8 h9 h10 h11 h12 : Nat) (sz : Nat) (p0 : Int32) (p1 : Int32) (p2 : Int32) : Met l yX11_mend wsX11_mend ({ frames := 1, cells := 0, slots := 0, locals := 21 }) (va_Pc [.ref h0, .int p0, .int p1, .int p2] (fun U => U.heap.size = sz ∧ va_P (dC, dI) vwCl [(h0, .inr (11, [.ref h1, .int 0, .ref h2, .ref h3, .ref h4, .ref h5, .ref h6, .ref h7, .ref h8, .ref h9, .ref h10, .int 0, .ref h11, .ref h12]))] U.heap ∧ va_K (dC, dI) vwCl [] U ∧ va_D (fun _ => True) [(h0, .inr (11, [.ref h1, .int 0, .ref h2, .ref h3, .ref h4, .ref h5, .ref h6, .ref h7, .ref h8, .ref h9, .ref h10, .int 0, .ref h11, .ref h12]))])) (va_Qi (fun (r : Int32) (_ : Unit) => r = -2000000000) (fun (_ : Unit) t => va_P (dC, dI) vwCl [] t.heap ∧ va_K (dC, dI) vwCl [] t ∧ va_D (va_A [(h0, .inr (11, [.ref h1, .int 0, .ref h2, .ref h3, .ref h4, .ref h5, .ref h6, .ref h7, .ref h8, .ref h9, .ref h10, .int 0, .ref h11, .ref h12]))] sz) []) (va_A [(h0, .inr (11, [.ref h1, .int 0, .ref h2, .ref h3, .ref h4, .ref h5, .ref h6, .ref h7, .ref h8, .ref h9, .ref h10, .int 0, .ref h11, .ref h12]))] sz)) 0 0 (va_A [(h0, .inr (11, [.ref h1, .int 0, .ref h2, .ref h3, .ref h4, .ref h5, .ref h6, .ref h7, .ref h8, .ref h9, .ref h10, .int 0, .ref h11, .ref h12]))] sz) := by
  refine Met.ofW (cc := cX11_mend) (maxL := 7) (ret := (some .int)) (by decide) rfl ?_
  intro p e s m args below meth c s₁ B hml hv
  obtain ⟨rfl, hsz, hP, hK, hD0⟩ := hv
  have hx := B.exec
  have hb := B.bytes
  have hr := B.returns
  have hts := atoms_spec (ws := wsX11_mend) B.pre
  have hown : s.vm.findClass RX11 = some m.cls := findClass_of_methodNamed B.named
  have hlocks := B.notSynchronized
  subst hsz
  have hD := hD0.self (sz := s.heap.size)
  generalize hAe : va_A [(h0, .inr (11, [.ref h1, .int 0, .ref h2, .ref h3, .ref h4, .ref h5, .ref h6, .ref h7, .ref h8, .ref h9, .ref h10, .int 0, .ref h11, .ref h12]))] s.heap.size = A at hD ⊢
  have hA : ∀ q : Nat, s.heap.size ≤ q → A q := fun q h => by rw [← hAe]; exact Or.inr h
  have hS : va_S A s.heap s.heap [] := va_S.rf
  have hP : va_P (dC, dI) vwCl [(h0, .inr (11, [.ref h1, .int 0, .ref h2, .ref h3, .ref h4, .ref h5, .ref h6, .ref h7, .ref h8, .ref h9, .ref h10, .int 0, .ref h11, .ref h12]))] s.heap := hP
  have hl := lv_entry ([.ref h0, .int p0, .int p1, .int p2]) (n := 7) (Nat.le_of_ble_eq_true rfl)
  rw [lg_entry_eq]
  generalize (lg_sl ([.ref h0, .int p0, .int p1, .int p2]) ++ List.replicate (7 - (lg_sl ([.ref h0, .int p0, .int p1, .int p2])).length) Slot.unset).toArray = ls at hl ⊢
  have hl : lv_has ls 7 [(0, .ref h0), (1, .int p0), (2, .int p1), (3, .int p2)] := hl
  refine lv_iload_n hx hb dX11_mend_0 rfl (lv_at hl 1 rfl) ?_
  refine lv_if_ge (tgt := 8) hx hb dX11_mend_1 (by decide) (fun c_1 => ?_) (fun c_1 => ?_)
  · have t_1 : 0 ≤ p0.toInt := kk_le c_1
    refine lv_aload_n hx hb dX11_mend_8 rfl (lv_at hl 0 rfl) ?_
    refine lv_iload_n hx hb dX11_mend_9 rfl (lv_at hl 1 rfl) ?_
    refine lv_bipush (v := 100) hx hb dX11_mend_10 (by decide) ?_
    refine lv_idiv hx hb dX11_mend_12 (by decide) ?_
    have hPc := hP.sub (ws' := [(h0, .inr (11, [.ref h1, .int 0, .ref h2, .ref h3, .ref h4, .ref h5, .ref h6, .ref h7, .ref h8, .ref h9, .ref h10, .int 0, .ref h11, .ref h12]))]) [0] rfl
    have hDc := hD.sub (ws' := [(h0, .inr (11, [.ref h1, .int 0, .ref h2, .ref h3, .ref h4, .ref h5, .ref h6, .ref h7, .ref h8, .ref h9, .ref h10, .int 0, .ref h11, .ref h12]))]) [0] (by decide) rfl
    have hKc := hK.sub (tys' := []) [] rfl
    have hFc := va_free (wc := [(h0, .inr (11, [.ref h1, .int 0, .ref h2, .ref h3, .ref h4, .ref h5, .ref h6, .ref h7, .ref h8, .ref h9, .ref h10, .int 0, .ref h11, .ref h12]))]) hD hS hA [0] rfl
    refine va_callq (va_runV (As := [.int (p0 / 100)]) (rest := []) ⟨hx, hb, hml, hown, hts⟩ (k_X11_knownStreet_0 l dC dI h0 h1 h2 h3 h4 h5 h6 h7 h8 h9 h10 h11 h12 s.heap.size (p0 / 100)) (cwV 1 hts gX11_mend_X11_knownStreet rfl rfl rfl (by decide +kernel) ⟨Nat.le_of_ble_eq_true rfl, Nat.le_of_ble_eq_true rfl⟩) ⟨fun a U g mk q => by obtain ⟨q0, q1, qP, qK, qD⟩ := q; exact ⟨q0, q1, qP, va_K.moved (u := U) (U := U.calling g mk a) (Vm.Alike.refl U.vm) qK, qD⟩, va_recv hKc hPc (ci := 11) (q0 := 0) rfl rfl, fun U hU hW => ⟨rfl, by rw [hU], by rw [hU]; exact hPc, va_K.moved hW.alike hKc, hDc.weaken (fun _ _ _ _ => trivial)⟩⟩ rfl rfl hl.1 rfl (lv_room (Nat.le_of_ble_eq_true rfl)) dX11_mend_13 ⟨Nat.le_of_ble_eq_true rfl, Nat.le_of_ble_eq_true rfl⟩) hS (fun q _ h => hFc q h) hFc (fun r_2 u t H1 locs ht hvm hw hB hz1 hk1 hS => ?_)
    obtain ⟨hP1, hK1, hD1⟩ := hB
    rw [ht] at hP1
    have hK1 := va_K.moved hvm.symm hK1
    obtain ⟨hP, hD⟩ := va_join (wr := []) (w1 := [(h0, .inr (11, [.ref h1, .int 0, .ref h2, .ref h3, .ref h4, .ref h5, .ref h6, .ref h7, .ref h8, .ref h9, .ref h10, .int 0, .ref h11, .ref h12]))]) hP hD [0] [] rfl rfl (by decide) (by decide) hk1 hFc hP1 hD1
    generalize H1 = H at hP hS ⊢
    have hP : va_P (dC, dI) vwCl [(h0, .inr (11, [.ref h1, .int 0, .ref h2, .ref h3, .ref h4, .ref h5, .ref h6, .ref h7, .ref h8, .ref h9, .ref h10, .int 0, .ref h11, .ref h12]))] H := hP
    have hD : va_D A [(h0, .inr (11, [.ref h1, .int 0, .ref h2, .ref h3, .ref h4, .ref h5, .ref h6, .ref h7, .ref h8, .ref h9, .ref h10, .int 0, .ref h11, .ref h12]))] := hD
    obtain rfl := hw
    refine W.eq (g2 := F0 m 16 ls [.null]) rfl ?_
    refine lv_astoreN (lv' := [(4, .null), (0, .ref h0), (1, .int p0), (2, .int p1), (3, .int p2)]) hx hb dX11_mend_16 hl (by decide) rfl (fun ls hl => ?_)
    refine lv_iload_n hx hb dX11_mend_18 rfl (lv_at hl 2 rfl) ?_
    refine lv_bipush (v := 100) hx hb dX11_mend_19 (by decide) ?_
    refine lv_irem hx hb dX11_mend_21 (by decide) ?_
    refine lv_istore (lv' := [(5, .int (p0 - p0 / 100 * 100)), (4, .null), (0, .ref h0), (1, .int p0), (2, .int p1), (3, .int p2)]) hx hb dX11_mend_22 hl (by decide) rfl (fun ls hl => ?_)
    refine lv_aloadN hx hb dX11_mend_24 (lv_at hl 1 rfl) ?_
    refine lv_ifnullN (tgt := 60) hx hb dX11_mend_26 (by decide) ?_
    refine lv_ldc hx hb hown (hts _ (List.mem_of_getElem? (i := 1) rfl)) dX11_mend_60 ?_
    have hP9 := hP.sub (ws' := []) [] rfl
    have hD9 := hD.sub (ws' := []) [] (by decide) rfl
    have hK9 := hK.sub (tys' := []) [] rfl
    exact W.iret (v := (-2000000000)) hx hb hr (fun t ht hW => ⟨⟨(-2000000000), (), rfl, by first | rfl | ((repeat' split) <;> first | rfl | (exfalso; have := kk_div (x := p0) (k := 100) (n := 100) rfl (by decide) (by omega); have := kk_rem (x := p0) (k := 100) (n := 100) rfl (by decide) (by omega); omega) | (exact Int32.toInt_inj.mp (by show ((-2000000000) : Int) = _; omega))), by rw [ht]; exact hP9, va_K.moved hW.alike hK9, hD9⟩, hS.F ht⟩) hS.2.2 dX11_mend_62
  · have t_1 : p0.toInt < 0 := kk_nle c_1
    refine lv_null hx hb dX11_mend_4 ?_
    refine lv_goto (tgt := 16) hx hb dX11_mend_5 (by decide) ?_
    refine lv_astoreN (lv' := [(4, .null), (0, .ref h0), (1, .int p0), (2, .int p1), (3, .int p2)]) hx hb dX11_mend_16 hl (by decide) rfl (fun ls hl => ?_)
    refine lv_iload_n hx hb dX11_mend_18 rfl (lv_at hl 2 rfl) ?_
    refine lv_bipush (v := 100) hx hb dX11_mend_19 (by decide) ?_
    refine lv_irem hx hb dX11_mend_21 (by decide) ?_
    refine lv_istore (lv' := [(5, .int (p0 - p0 / 100 * 100)), (4, .null), (0, .ref h0), (1, .int p0), (2, .int p1), (3, .int p2)]) hx hb dX11_mend_22 hl (by decide) rfl (fun ls hl => ?_)
    refine lv_aloadN hx hb dX11_mend_24 (lv_at hl 1 rfl) ?_
    refine lv_ifnullN (tgt := 60) hx hb dX11_mend_26 (by decide) ?_
    refine lv_ldc hx hb hown (hts _ (List.mem_of_getElem? (i := 1) rfl)) dX11_mend_60 ?_
    have hP9 := hP.sub (ws' := []) [] rfl
    have hD9 := hD.sub (ws' := []) [] (by decide) rfl
    have hK9 := hK.sub (tys' := []) [] rfl
    exact W.iret (v := (-2000000000)) hx hb hr (fun t ht hW => ⟨⟨(-2000000000), (), rfl, by first | rfl | ((repeat' split) <;> first | rfl | (exfalso; omega) | (exact Int32.toInt_inj.mp (by show ((-2000000000) : Int) = _; omega))), by rw [ht]; exact hP9, va_K.moved hW.alike hK9, hD9⟩, hS.F ht⟩) hS.2.2 dX11_mend_62
set_option maxHeartbeats 4000000 in
set_option maxRecDepth 100000 in
theorem k_X11_of_0 (l : Launch) (dC : Nat → ClassId) (dI : Nat → Nat → Nat) (h0 h1 h2 h3 h4 h5 h6 h7 h8 h9 h10 h11 h12 : Nat) (sz : Nat) (p0 : Int32) (p1 : Int32) : Met l yX11_of wsX11_of ({ frames := 1, cells := 0, slots := 0, locals := 21 }) (va_Pc [.ref h0, .int p0, .int p1] (fun U => U.heap.size = sz ∧ va_P (dC, dI) vwCl [(h0, .inr (11, [.ref h1, .int 0, .ref h2, .ref h3, .ref h4, .ref h5, .ref h6, .ref h7, .ref h8, .ref h9, .ref h10, .int 0, .ref h11, .ref h12]))] U.heap ∧ va_K (dC, dI) vwCl [] U ∧ va_D (fun _ => True) [(h0, .inr (11, [.ref h1, .int 0, .ref h2, .ref h3, .ref h4, .ref h5, .ref h6, .ref h7, .ref h8, .ref h9, .ref h10, .int 0, .ref h11, .ref h12]))])) (va_Qi (fun (r : Int32) (_ : Unit) => r = -2000000000) (fun (_ : Unit) t => va_P (dC, dI) vwCl [] t.heap ∧ va_K (dC, dI) vwCl [] t ∧ va_D (va_A [(h0, .inr (11, [.ref h1, .int 0, .ref h2, .ref h3, .ref h4, .ref h5, .ref h6, .ref h7, .ref h8, .ref h9, .ref h10, .int 0, .ref h11, .ref h12]))] sz) []) (va_A [(h0, .inr (11, [.ref h1, .int 0, .ref h2, .ref h3, .ref h4, .ref h5, .ref h6, .ref h7, .ref h8, .ref h9, .ref h10, .int 0, .ref h11, .ref h12]))] sz)) 0 0 (va_A [(h0, .inr (11, [.ref h1, .int 0, .ref h2, .ref h3, .ref h4, .ref h5, .ref h6, .ref h7, .ref h8, .ref h9, .ref h10, .int 0, .ref h11, .ref h12]))] sz) := by
  refine Met.ofW (cc := cX11_of) (maxL := 5) (ret := (some .int)) (by decide) rfl ?_
  intro p e s m args below meth c s₁ B hml hv
  obtain ⟨rfl, hsz, hP, hK, hD0⟩ := hv
  have hx := B.exec
  have hb := B.bytes
  have hr := B.returns
  have hts := atoms_spec (ws := wsX11_of) B.pre
  have hown : s.vm.findClass RX11 = some m.cls := findClass_of_methodNamed B.named
  have hlocks := B.notSynchronized
  subst hsz
  have hD := hD0.self (sz := s.heap.size)
  generalize hAe : va_A [(h0, .inr (11, [.ref h1, .int 0, .ref h2, .ref h3, .ref h4, .ref h5, .ref h6, .ref h7, .ref h8, .ref h9, .ref h10, .int 0, .ref h11, .ref h12]))] s.heap.size = A at hD ⊢
  have hA : ∀ q : Nat, s.heap.size ≤ q → A q := fun q h => by rw [← hAe]; exact Or.inr h
  have hS : va_S A s.heap s.heap [] := va_S.rf
  have hP : va_P (dC, dI) vwCl [(h0, .inr (11, [.ref h1, .int 0, .ref h2, .ref h3, .ref h4, .ref h5, .ref h6, .ref h7, .ref h8, .ref h9, .ref h10, .int 0, .ref h11, .ref h12]))] s.heap := hP
  have hl := lv_entry ([.ref h0, .int p0, .int p1]) (n := 5) (Nat.le_of_ble_eq_true rfl)
  rw [lg_entry_eq]
  generalize (lg_sl ([.ref h0, .int p0, .int p1]) ++ List.replicate (5 - (lg_sl ([.ref h0, .int p0, .int p1])).length) Slot.unset).toArray = ls at hl ⊢
  have hl : lv_has ls 5 [(0, .ref h0), (1, .int p0), (2, .int p1)] := hl
  refine lv_aload_n hx hb dX11_of_0 rfl (lv_at hl 0 rfl) ?_
  refine lv_iload_n hx hb dX11_of_1 rfl (lv_at hl 1 rfl) ?_
  have hPc := hP.sub (ws' := [(h0, .inr (11, [.ref h1, .int 0, .ref h2, .ref h3, .ref h4, .ref h5, .ref h6, .ref h7, .ref h8, .ref h9, .ref h10, .int 0, .ref h11, .ref h12]))]) [0] rfl
  have hDc := hD.sub (ws' := [(h0, .inr (11, [.ref h1, .int 0, .ref h2, .ref h3, .ref h4, .ref h5, .ref h6, .ref h7, .ref h8, .ref h9, .ref h10, .int 0, .ref h11, .ref h12]))]) [0] (by decide) rfl
  have hKc := hK.sub (tys' := []) [] rfl
  have hFc := va_free (wc := [(h0, .inr (11, [.ref h1, .int 0, .ref h2, .ref h3, .ref h4, .ref h5, .ref h6, .ref h7, .ref h8, .ref h9, .ref h10, .int 0, .ref h11, .ref h12]))]) hD hS hA [0] rfl
  refine va_callq (va_runV (As := [.int p0]) (rest := []) ⟨hx, hb, hml, hown, hts⟩ (k_X11_knownStreet_0 l dC dI h0 h1 h2 h3 h4 h5 h6 h7 h8 h9 h10 h11 h12 s.heap.size p0) (cwV 1 hts gX11_of_X11_knownStreet rfl rfl rfl (by decide +kernel) ⟨Nat.le_of_ble_eq_true rfl, Nat.le_of_ble_eq_true rfl⟩) ⟨fun a U g mk q => by obtain ⟨q0, q1, qP, qK, qD⟩ := q; exact ⟨q0, q1, qP, va_K.moved (u := U) (U := U.calling g mk a) (Vm.Alike.refl U.vm) qK, qD⟩, va_recv hKc hPc (ci := 11) (q0 := 0) rfl rfl, fun U hU hW => ⟨rfl, by rw [hU], by rw [hU]; exact hPc, va_K.moved hW.alike hKc, hDc.weaken (fun _ _ _ _ => trivial)⟩⟩ rfl rfl hl.1 rfl (lv_room (Nat.le_of_ble_eq_true rfl)) dX11_of_2 ⟨Nat.le_of_ble_eq_true rfl, Nat.le_of_ble_eq_true rfl⟩) hS (fun q _ h => hFc q h) hFc (fun r_1 u t H1 locs ht hvm hw hB hz1 hk1 hS => ?_)
  obtain ⟨hP1, hK1, hD1⟩ := hB
  rw [ht] at hP1
  have hK1 := va_K.moved hvm.symm hK1
  obtain ⟨hP, hD⟩ := va_join (wr := []) (w1 := [(h0, .inr (11, [.ref h1, .int 0, .ref h2, .ref h3, .ref h4, .ref h5, .ref h6, .ref h7, .ref h8, .ref h9, .ref h10, .int 0, .ref h11, .ref h12]))]) hP hD [0] [] rfl rfl (by decide) (by decide) hk1 hFc hP1 hD1
  generalize H1 = H at hP hS ⊢
  have hP : va_P (dC, dI) vwCl [(h0, .inr (11, [.ref h1, .int 0, .ref h2, .ref h3, .ref h4, .ref h5, .ref h6, .ref h7, .ref h8, .ref h9, .ref h10, .int 0, .ref h11, .ref h12]))] H := hP
  have hD : va_D A [(h0, .inr (11, [.ref h1, .int 0, .ref h2, .ref h3, .ref h4, .ref h5, .ref h6, .ref h7, .ref h8, .ref h9, .ref h10, .int 0, .ref h11, .ref h12]))] := hD
  obtain rfl := hw
  refine W.eq (g2 := F0 m 5 ls [.null]) rfl ?_
  refine lv_astore_nN (lv' := [(3, .null), (0, .ref h0), (1, .int p0), (2, .int p1)]) hx hb dX11_of_5 rfl hl (by decide) rfl (fun ls hl => ?_)
  refine lv_aload_nN hx hb dX11_of_6 rfl (lv_at hl 0 rfl) ?_
  refine lv_ifnullN (tgt := 14) hx hb dX11_of_7 (by decide) ?_
  refine lv_ldc hx hb hown (hts _ (List.mem_of_getElem? (i := 1) rfl)) dX11_of_14 ?_
  have hP9 := hP.sub (ws' := []) [] rfl
  have hD9 := hD.sub (ws' := []) [] (by decide) rfl
  have hK9 := hK.sub (tys' := []) [] rfl
  exact W.iret (v := (-2000000000)) hx hb hr (fun t ht hW => ⟨⟨(-2000000000), (), rfl, by first | rfl | ((repeat' split) <;> first | rfl | (exfalso; omega) | (exact Int32.toInt_inj.mp (by show ((-2000000000) : Int) = _; omega))), by rw [ht]; exact hP9, va_K.moved hW.alike hK9, hD9⟩, hS.F ht⟩) hS.2.2 dX11_of_16
set_option maxHeartbeats 4000000 in
set_option maxRecDepth 100000 in
theorem k_X11_misfit_0 (l : Launch) (dC : Nat → ClassId) (dI : Nat → Nat → Nat) (h0 h1 h2 h3 h4 h5 h6 h7 h8 h9 h10 h11 h12 : Nat) (sz : Nat) (p0 : Int32) (p1 : Int32) (p2 : Int32) : Met l yX11_misfit wsX11_misfit ({ frames := 1, cells := 0, slots := 0, locals := 21 }) (va_Pc [.ref h0, .int p0, .int p1, .int p2] (fun U => U.heap.size = sz ∧ va_P (dC, dI) vwCl [(h0, .inr (11, [.ref h1, .int 0, .ref h2, .ref h3, .ref h4, .ref h5, .ref h6, .ref h7, .ref h8, .ref h9, .ref h10, .int 0, .ref h11, .ref h12]))] U.heap ∧ va_K (dC, dI) vwCl [] U ∧ va_D (fun _ => True) [(h0, .inr (11, [.ref h1, .int 0, .ref h2, .ref h3, .ref h4, .ref h5, .ref h6, .ref h7, .ref h8, .ref h9, .ref h10, .int 0, .ref h11, .ref h12]))])) (va_Qi (fun (r : Int32) (_ : Unit) => r = -1) (fun (_ : Unit) t => va_P (dC, dI) vwCl [] t.heap ∧ va_K (dC, dI) vwCl [] t ∧ va_D (va_A [(h0, .inr (11, [.ref h1, .int 0, .ref h2, .ref h3, .ref h4, .ref h5, .ref h6, .ref h7, .ref h8, .ref h9, .ref h10, .int 0, .ref h11, .ref h12]))] sz) []) (va_A [(h0, .inr (11, [.ref h1, .int 0, .ref h2, .ref h3, .ref h4, .ref h5, .ref h6, .ref h7, .ref h8, .ref h9, .ref h10, .int 0, .ref h11, .ref h12]))] sz)) 0 0 (va_A [(h0, .inr (11, [.ref h1, .int 0, .ref h2, .ref h3, .ref h4, .ref h5, .ref h6, .ref h7, .ref h8, .ref h9, .ref h10, .int 0, .ref h11, .ref h12]))] sz) := by
  refine Met.ofW (cc := cX11_misfit) (maxL := 5) (ret := (some .int)) (by decide) rfl ?_
  intro p e s m args below meth c s₁ B hml hv
  obtain ⟨rfl, hsz, hP, hK, hD0⟩ := hv
  have hx := B.exec
  have hb := B.bytes
  have hr := B.returns
  have hts := atoms_spec (ws := wsX11_misfit) B.pre
  have hown : s.vm.findClass RX11 = some m.cls := findClass_of_methodNamed B.named
  have hlocks := B.notSynchronized
  subst hsz
  have hD := hD0.self (sz := s.heap.size)
  generalize hAe : va_A [(h0, .inr (11, [.ref h1, .int 0, .ref h2, .ref h3, .ref h4, .ref h5, .ref h6, .ref h7, .ref h8, .ref h9, .ref h10, .int 0, .ref h11, .ref h12]))] s.heap.size = A at hD ⊢
  have hA : ∀ q : Nat, s.heap.size ≤ q → A q := fun q h => by rw [← hAe]; exact Or.inr h
  have hS : va_S A s.heap s.heap [] := va_S.rf
  have hP : va_P (dC, dI) vwCl [(h0, .inr (11, [.ref h1, .int 0, .ref h2, .ref h3, .ref h4, .ref h5, .ref h6, .ref h7, .ref h8, .ref h9, .ref h10, .int 0, .ref h11, .ref h12]))] s.heap := hP
  have hl := lv_entry ([.ref h0, .int p0, .int p1, .int p2]) (n := 5) (Nat.le_of_ble_eq_true rfl)
  rw [lg_entry_eq]
  generalize (lg_sl ([.ref h0, .int p0, .int p1, .int p2]) ++ List.replicate (5 - (lg_sl ([.ref h0, .int p0, .int p1, .int p2])).length) Slot.unset).toArray = ls at hl ⊢
  have hl : lv_has ls 5 [(0, .ref h0), (1, .int p0), (2, .int p1), (3, .int p2)] := hl
  refine lv_aload_n hx hb dX11_misfit_0 rfl (lv_at hl 0 rfl) ?_
  refine lv_iload_n hx hb dX11_misfit_1 rfl (lv_at hl 1 rfl) ?_
  have hPc := hP.sub (ws' := [(h0, .inr (11, [.ref h1, .int 0, .ref h2, .ref h3, .ref h4, .ref h5, .ref h6, .ref h7, .ref h8, .ref h9, .ref h10, .int 0, .ref h11, .ref h12]))]) [0] rfl
  have hDc := hD.sub (ws' := [(h0, .inr (11, [.ref h1, .int 0, .ref h2, .ref h3, .ref h4, .ref h5, .ref h6, .ref h7, .ref h8, .ref h9, .ref h10, .int 0, .ref h11, .ref h12]))]) [0] (by decide) rfl
  have hKc := hK.sub (tys' := []) [] rfl
  have hFc := va_free (wc := [(h0, .inr (11, [.ref h1, .int 0, .ref h2, .ref h3, .ref h4, .ref h5, .ref h6, .ref h7, .ref h8, .ref h9, .ref h10, .int 0, .ref h11, .ref h12]))]) hD hS hA [0] rfl
  refine va_callq (va_runV (As := [.int p0]) (rest := []) ⟨hx, hb, hml, hown, hts⟩ (k_X11_knownStreet_0 l dC dI h0 h1 h2 h3 h4 h5 h6 h7 h8 h9 h10 h11 h12 s.heap.size p0) (cwV 1 hts gX11_misfit_X11_knownStreet rfl rfl rfl (by decide +kernel) ⟨Nat.le_of_ble_eq_true rfl, Nat.le_of_ble_eq_true rfl⟩) ⟨fun a U g mk q => by obtain ⟨q0, q1, qP, qK, qD⟩ := q; exact ⟨q0, q1, qP, va_K.moved (u := U) (U := U.calling g mk a) (Vm.Alike.refl U.vm) qK, qD⟩, va_recv hKc hPc (ci := 11) (q0 := 0) rfl rfl, fun U hU hW => ⟨rfl, by rw [hU], by rw [hU]; exact hPc, va_K.moved hW.alike hKc, hDc.weaken (fun _ _ _ _ => trivial)⟩⟩ rfl rfl hl.1 rfl (lv_room (Nat.le_of_ble_eq_true rfl)) dX11_misfit_2 ⟨Nat.le_of_ble_eq_true rfl, Nat.le_of_ble_eq_true rfl⟩) hS (fun q _ h => hFc q h) hFc (fun r_1 u t H1 locs ht hvm hw hB hz1 hk1 hS => ?_)
  obtain ⟨hP1, hK1, hD1⟩ := hB
  rw [ht] at hP1
  have hK1 := va_K.moved hvm.symm hK1
  obtain ⟨hP, hD⟩ := va_join (wr := []) (w1 := [(h0, .inr (11, [.ref h1, .int 0, .ref h2, .ref h3, .ref h4, .ref h5, .ref h6, .ref h7, .ref h8, .ref h9, .ref h10, .int 0, .ref h11, .ref h12]))]) hP hD [0] [] rfl rfl (by decide) (by decide) hk1 hFc hP1 hD1
  generalize H1 = H at hP hS ⊢
  have hP : va_P (dC, dI) vwCl [(h0, .inr (11, [.ref h1, .int 0, .ref h2, .ref h3, .ref h4, .ref h5, .ref h6, .ref h7, .ref h8, .ref h9, .ref h10, .int 0, .ref h11, .ref h12]))] H := hP
  have hD : va_D A [(h0, .inr (11, [.ref h1, .int 0, .ref h2, .ref h3, .ref h4, .ref h5, .ref h6, .ref h7, .ref h8, .ref h9, .ref h10, .int 0, .ref h11, .ref h12]))] := hD
  obtain rfl := hw
  refine W.eq (g2 := F0 m 5 ls [.null]) rfl ?_
  refine lv_astoreN (lv' := [(4, .null), (0, .ref h0), (1, .int p0), (2, .int p1), (3, .int p2)]) hx hb dX11_misfit_5 hl (by decide) rfl (fun ls hl => ?_)
  refine lv_aloadN hx hb dX11_misfit_7 (lv_at hl 0 rfl) ?_
  refine lv_ifnullN (tgt := 45) hx hb dX11_misfit_9 (by decide) ?_
  refine lv_iconst (v := (-1)) hx hb dX11_misfit_45 (by decide) ?_
  have hP9 := hP.sub (ws' := []) [] rfl
  have hD9 := hD.sub (ws' := []) [] (by decide) rfl
  have hK9 := hK.sub (tys' := []) [] rfl
  exact W.iret (v := (-1)) hx hb hr (fun t ht hW => ⟨⟨(-1), (), rfl, by first | rfl | ((repeat' split) <;> first | rfl | (exfalso; omega) | (exact Int32.toInt_inj.mp (by show ((-1) : Int) = _; omega))), by rw [ht]; exact hP9, va_K.moved hW.alike hK9, hD9⟩, hS.F ht⟩) hS.2.2 dX11_misfit_46
set_option maxHeartbeats 4000000 in
set_option maxRecDepth 100000 in
theorem k_X11_rod_0 (l : Launch) (dC : Nat → ClassId) (dI : Nat → Nat → Nat) (h0 h1 h2 h3 h4 h5 h6 h7 h8 h9 h10 h11 h12 : Nat) (sz : Nat) (p0 : Int32) (p1 : Int32) (p2 : Int32) (p3 : Int32) : Met l yX11_rod wsX11_rod ({ frames := 1, cells := 0, slots := 0, locals := 21 }) (va_Pc [.ref h0, .int p0, .int p1, .int p2, .int p3] (fun U => U.heap.size = sz ∧ va_P (dC, dI) vwCl [(h0, .inr (11, [.ref h1, .int 0, .ref h2, .ref h3, .ref h4, .ref h5, .ref h6, .ref h7, .ref h8, .ref h9, .ref h10, .int 0, .ref h11, .ref h12]))] U.heap ∧ va_K (dC, dI) vwCl [] U ∧ va_D (fun _ => True) [(h0, .inr (11, [.ref h1, .int 0, .ref h2, .ref h3, .ref h4, .ref h5, .ref h6, .ref h7, .ref h8, .ref h9, .ref h10, .int 0, .ref h11, .ref h12]))])) (va_Qi (fun (r : Int32) (_ : Unit) => r = -1) (fun (_ : Unit) t => va_P (dC, dI) vwCl [] t.heap ∧ va_K (dC, dI) vwCl [] t ∧ va_D (va_A [(h0, .inr (11, [.ref h1, .int 0, .ref h2, .ref h3, .ref h4, .ref h5, .ref h6, .ref h7, .ref h8, .ref h9, .ref h10, .int 0, .ref h11, .ref h12]))] sz) []) (va_A [(h0, .inr (11, [.ref h1, .int 0, .ref h2, .ref h3, .ref h4, .ref h5, .ref h6, .ref h7, .ref h8, .ref h9, .ref h10, .int 0, .ref h11, .ref h12]))] sz)) 0 0 (va_A [(h0, .inr (11, [.ref h1, .int 0, .ref h2, .ref h3, .ref h4, .ref h5, .ref h6, .ref h7, .ref h8, .ref h9, .ref h10, .int 0, .ref h11, .ref h12]))] sz) := by
  refine Met.ofW (cc := cX11_rod) (maxL := 7) (ret := (some .int)) (by decide) rfl ?_
  intro p e s m args below meth c s₁ B hml hv
  obtain ⟨rfl, hsz, hP, hK, hD0⟩ := hv
  have hx := B.exec
  have hb := B.bytes
  have hr := B.returns
  have hts := atoms_spec (ws := wsX11_rod) B.pre
  have hown : s.vm.findClass RX11 = some m.cls := findClass_of_methodNamed B.named
  have hlocks := B.notSynchronized
  subst hsz
  have hD := hD0.self (sz := s.heap.size)
  generalize hAe : va_A [(h0, .inr (11, [.ref h1, .int 0, .ref h2, .ref h3, .ref h4, .ref h5, .ref h6, .ref h7, .ref h8, .ref h9, .ref h10, .int 0, .ref h11, .ref h12]))] s.heap.size = A at hD ⊢
  have hA : ∀ q : Nat, s.heap.size ≤ q → A q := fun q h => by rw [← hAe]; exact Or.inr h
  have hS : va_S A s.heap s.heap [] := va_S.rf
  have hP : va_P (dC, dI) vwCl [(h0, .inr (11, [.ref h1, .int 0, .ref h2, .ref h3, .ref h4, .ref h5, .ref h6, .ref h7, .ref h8, .ref h9, .ref h10, .int 0, .ref h11, .ref h12]))] s.heap := hP
  have hl := lv_entry ([.ref h0, .int p0, .int p1, .int p2, .int p3]) (n := 7) (Nat.le_of_ble_eq_true rfl)
  rw [lg_entry_eq]
  generalize (lg_sl ([.ref h0, .int p0, .int p1, .int p2, .int p3]) ++ List.replicate (7 - (lg_sl ([.ref h0, .int p0, .int p1, .int p2, .int p3])).length) Slot.unset).toArray = ls at hl ⊢
  have hl : lv_has ls 7 [(0, .ref h0), (1, .int p0), (2, .int p1), (3, .int p2), (4, .int p3)] := hl
  refine lv_aload_n hx hb dX11_rod_0 rfl (lv_at hl 0 rfl) ?_
  refine lv_iload_n hx hb dX11_rod_1 rfl (lv_at hl 1 rfl) ?_
  have hPc := hP.sub (ws' := [(h0, .inr (11, [.ref h1, .int 0, .ref h2, .ref h3, .ref h4, .ref h5, .ref h6, .ref h7, .ref h8, .ref h9, .ref h10, .int 0, .ref h11, .ref h12]))]) [0] rfl
  have hDc := hD.sub (ws' := [(h0, .inr (11, [.ref h1, .int 0, .ref h2, .ref h3, .ref h4, .ref h5, .ref h6, .ref h7, .ref h8, .ref h9, .ref h10, .int 0, .ref h11, .ref h12]))]) [0] (by decide) rfl
  have hKc := hK.sub (tys' := []) [] rfl
  have hFc := va_free (wc := [(h0, .inr (11, [.ref h1, .int 0, .ref h2, .ref h3, .ref h4, .ref h5, .ref h6, .ref h7, .ref h8, .ref h9, .ref h10, .int 0, .ref h11, .ref h12]))]) hD hS hA [0] rfl
  refine va_callq (va_runV (As := [.int p0]) (rest := []) ⟨hx, hb, hml, hown, hts⟩ (k_X11_knownStreet_0 l dC dI h0 h1 h2 h3 h4 h5 h6 h7 h8 h9 h10 h11 h12 s.heap.size p0) (cwV 1 hts gX11_rod_X11_knownStreet rfl rfl rfl (by decide +kernel) ⟨Nat.le_of_ble_eq_true rfl, Nat.le_of_ble_eq_true rfl⟩) ⟨fun a U g mk q => by obtain ⟨q0, q1, qP, qK, qD⟩ := q; exact ⟨q0, q1, qP, va_K.moved (u := U) (U := U.calling g mk a) (Vm.Alike.refl U.vm) qK, qD⟩, va_recv hKc hPc (ci := 11) (q0 := 0) rfl rfl, fun U hU hW => ⟨rfl, by rw [hU], by rw [hU]; exact hPc, va_K.moved hW.alike hKc, hDc.weaken (fun _ _ _ _ => trivial)⟩⟩ rfl rfl hl.1 rfl (lv_room (Nat.le_of_ble_eq_true rfl)) dX11_rod_2 ⟨Nat.le_of_ble_eq_true rfl, Nat.le_of_ble_eq_true rfl⟩) hS (fun q _ h => hFc q h) hFc (fun r_1 u t H1 locs ht hvm hw hB hz1 hk1 hS => ?_)
  obtain ⟨hP1, hK1, hD1⟩ := hB
  rw [ht] at hP1
  have hK1 := va_K.moved hvm.symm hK1
  obtain ⟨hP, hD⟩ := va_join (wr := []) (w1 := [(h0, .inr (11, [.ref h1, .int 0, .ref h2, .ref h3, .ref h4, .ref h5, .ref h6, .ref h7, .ref h8, .ref h9, .ref h10, .int 0, .ref h11, .ref h12]))]) hP hD [0] [] rfl rfl (by decide) (by decide) hk1 hFc hP1 hD1
  generalize H1 = H at hP hS ⊢
  have hP : va_P (dC, dI) vwCl [(h0, .inr (11, [.ref h1, .int 0, .ref h2, .ref h3, .ref h4, .ref h5, .ref h6, .ref h7, .ref h8, .ref h9, .ref h10, .int 0, .ref h11, .ref h12]))] H := hP
  have hD : va_D A [(h0, .inr (11, [.ref h1, .int 0, .ref h2, .ref h3, .ref h4, .ref h5, .ref h6, .ref h7, .ref h8, .ref h9, .ref h10, .int 0, .ref h11, .ref h12]))] := hD
  obtain rfl := hw
  refine W.eq (g2 := F0 m 5 ls [.null]) rfl ?_
  refine lv_astoreN (lv' := [(5, .null), (0, .ref h0), (1, .int p0), (2, .int p1), (3, .int p2), (4, .int p3)]) hx hb dX11_rod_5 hl (by decide) rfl (fun ls hl => ?_)
  refine lv_aloadN hx hb dX11_rod_7 (lv_at hl 0 rfl) ?_
  refine lv_ifnullN (tgt := 39) hx hb dX11_rod_9 (by decide) ?_
  refine lv_iconst (v := (-1)) hx hb dX11_rod_39 (by decide) ?_
  have hP9 := hP.sub (ws' := []) [] rfl
  have hD9 := hD.sub (ws' := []) [] (by decide) rfl
  have hK9 := hK.sub (tys' := []) [] rfl
  exact W.iret (v := (-1)) hx hb hr (fun t ht hW => ⟨⟨(-1), (), rfl, by first | rfl | ((repeat' split) <;> first | rfl | (exfalso; omega) | (exact Int32.toInt_inj.mp (by show ((-1) : Int) = _; omega))), by rw [ht]; exact hP9, va_K.moved hW.alike hK9, hD9⟩, hS.F ht⟩) hS.2.2 dX11_rod_40
set_option maxHeartbeats 4000000 in
set_option maxRecDepth 100000 in
theorem k_X11_chance_0 (l : Launch) (dC : Nat → ClassId) (dI : Nat → Nat → Nat) (h0 h1 h2 h3 h4 h5 h6 h7 h8 h9 h10 h11 h12 : Nat) (sz : Nat) (p0 : Int32) (p1 : Int32) (p2 : Int32) (p3 : Int32) : Met l yX11_chance wsX11_chance ({ frames := 1, cells := 0, slots := 0, locals := 21 }) (va_Pc [.ref h0, .int p0, .int p1, .int p2, .int p3] (fun U => U.heap.size = sz ∧ va_P (dC, dI) vwCl [(h0, .inr (11, [.ref h1, .int 0, .ref h2, .ref h3, .ref h4, .ref h5, .ref h6, .ref h7, .ref h8, .ref h9, .ref h10, .int 0, .ref h11, .ref h12]))] U.heap ∧ va_K (dC, dI) vwCl [] U ∧ va_D (fun _ => True) [(h0, .inr (11, [.ref h1, .int 0, .ref h2, .ref h3, .ref h4, .ref h5, .ref h6, .ref h7, .ref h8, .ref h9, .ref h10, .int 0, .ref h11, .ref h12]))])) (va_Qi (fun (r : Int32) (_ : Unit) => r = -1) (fun (_ : Unit) t => va_P (dC, dI) vwCl [] t.heap ∧ va_K (dC, dI) vwCl [] t ∧ va_D (va_A [(h0, .inr (11, [.ref h1, .int 0, .ref h2, .ref h3, .ref h4, .ref h5, .ref h6, .ref h7, .ref h8, .ref h9, .ref h10, .int 0, .ref h11, .ref h12]))] sz) []) (va_A [(h0, .inr (11, [.ref h1, .int 0, .ref h2, .ref h3, .ref h4, .ref h5, .ref h6, .ref h7, .ref h8, .ref h9, .ref h10, .int 0, .ref h11, .ref h12]))] sz)) 0 0 (va_A [(h0, .inr (11, [.ref h1, .int 0, .ref h2, .ref h3, .ref h4, .ref h5, .ref h6, .ref h7, .ref h8, .ref h9, .ref h10, .int 0, .ref h11, .ref h12]))] sz) := by
  refine Met.ofW (cc := cX11_chance) (maxL := 7) (ret := (some .int)) (by decide) rfl ?_
  intro p e s m args below meth c s₁ B hml hv
  obtain ⟨rfl, hsz, hP, hK, hD0⟩ := hv
  have hx := B.exec
  have hb := B.bytes
  have hr := B.returns
  have hts := atoms_spec (ws := wsX11_chance) B.pre
  have hown : s.vm.findClass RX11 = some m.cls := findClass_of_methodNamed B.named
  have hlocks := B.notSynchronized
  subst hsz
  have hD := hD0.self (sz := s.heap.size)
  generalize hAe : va_A [(h0, .inr (11, [.ref h1, .int 0, .ref h2, .ref h3, .ref h4, .ref h5, .ref h6, .ref h7, .ref h8, .ref h9, .ref h10, .int 0, .ref h11, .ref h12]))] s.heap.size = A at hD ⊢
  have hA : ∀ q : Nat, s.heap.size ≤ q → A q := fun q h => by rw [← hAe]; exact Or.inr h
  have hS : va_S A s.heap s.heap [] := va_S.rf
  have hP : va_P (dC, dI) vwCl [(h0, .inr (11, [.ref h1, .int 0, .ref h2, .ref h3, .ref h4, .ref h5, .ref h6, .ref h7, .ref h8, .ref h9, .ref h10, .int 0, .ref h11, .ref h12]))] s.heap := hP
  have hl := lv_entry ([.ref h0, .int p0, .int p1, .int p2, .int p3]) (n := 7) (Nat.le_of_ble_eq_true rfl)
  rw [lg_entry_eq]
  generalize (lg_sl ([.ref h0, .int p0, .int p1, .int p2, .int p3]) ++ List.replicate (7 - (lg_sl ([.ref h0, .int p0, .int p1, .int p2, .int p3])).length) Slot.unset).toArray = ls at hl ⊢
  have hl : lv_has ls 7 [(0, .ref h0), (1, .int p0), (2, .int p1), (3, .int p2), (4, .int p3)] := hl
  refine lv_aload_n hx hb dX11_chance_0 rfl (lv_at hl 0 rfl) ?_
  refine lv_iload_n hx hb dX11_chance_1 rfl (lv_at hl 1 rfl) ?_
  have hPc := hP.sub (ws' := [(h0, .inr (11, [.ref h1, .int 0, .ref h2, .ref h3, .ref h4, .ref h5, .ref h6, .ref h7, .ref h8, .ref h9, .ref h10, .int 0, .ref h11, .ref h12]))]) [0] rfl
  have hDc := hD.sub (ws' := [(h0, .inr (11, [.ref h1, .int 0, .ref h2, .ref h3, .ref h4, .ref h5, .ref h6, .ref h7, .ref h8, .ref h9, .ref h10, .int 0, .ref h11, .ref h12]))]) [0] (by decide) rfl
  have hKc := hK.sub (tys' := []) [] rfl
  have hFc := va_free (wc := [(h0, .inr (11, [.ref h1, .int 0, .ref h2, .ref h3, .ref h4, .ref h5, .ref h6, .ref h7, .ref h8, .ref h9, .ref h10, .int 0, .ref h11, .ref h12]))]) hD hS hA [0] rfl
  refine va_callq (va_runV (As := [.int p0]) (rest := []) ⟨hx, hb, hml, hown, hts⟩ (k_X11_knownStreet_0 l dC dI h0 h1 h2 h3 h4 h5 h6 h7 h8 h9 h10 h11 h12 s.heap.size p0) (cwV 1 hts gX11_chance_X11_knownStreet rfl rfl rfl (by decide +kernel) ⟨Nat.le_of_ble_eq_true rfl, Nat.le_of_ble_eq_true rfl⟩) ⟨fun a U g mk q => by obtain ⟨q0, q1, qP, qK, qD⟩ := q; exact ⟨q0, q1, qP, va_K.moved (u := U) (U := U.calling g mk a) (Vm.Alike.refl U.vm) qK, qD⟩, va_recv hKc hPc (ci := 11) (q0 := 0) rfl rfl, fun U hU hW => ⟨rfl, by rw [hU], by rw [hU]; exact hPc, va_K.moved hW.alike hKc, hDc.weaken (fun _ _ _ _ => trivial)⟩⟩ rfl rfl hl.1 rfl (lv_room (Nat.le_of_ble_eq_true rfl)) dX11_chance_2 ⟨Nat.le_of_ble_eq_true rfl, Nat.le_of_ble_eq_true rfl⟩) hS (fun q _ h => hFc q h) hFc (fun r_1 u t H1 locs ht hvm hw hB hz1 hk1 hS => ?_)
  obtain ⟨hP1, hK1, hD1⟩ := hB
  rw [ht] at hP1
  have hK1 := va_K.moved hvm.symm hK1
  obtain ⟨hP, hD⟩ := va_join (wr := []) (w1 := [(h0, .inr (11, [.ref h1, .int 0, .ref h2, .ref h3, .ref h4, .ref h5, .ref h6, .ref h7, .ref h8, .ref h9, .ref h10, .int 0, .ref h11, .ref h12]))]) hP hD [0] [] rfl rfl (by decide) (by decide) hk1 hFc hP1 hD1
  generalize H1 = H at hP hS ⊢
  have hP : va_P (dC, dI) vwCl [(h0, .inr (11, [.ref h1, .int 0, .ref h2, .ref h3, .ref h4, .ref h5, .ref h6, .ref h7, .ref h8, .ref h9, .ref h10, .int 0, .ref h11, .ref h12]))] H := hP
  have hD : va_D A [(h0, .inr (11, [.ref h1, .int 0, .ref h2, .ref h3, .ref h4, .ref h5, .ref h6, .ref h7, .ref h8, .ref h9, .ref h10, .int 0, .ref h11, .ref h12]))] := hD
  obtain rfl := hw
  refine W.eq (g2 := F0 m 5 ls [.null]) rfl ?_
  refine lv_astoreN (lv' := [(5, .null), (0, .ref h0), (1, .int p0), (2, .int p1), (3, .int p2), (4, .int p3)]) hx hb dX11_chance_5 hl (by decide) rfl (fun ls hl => ?_)
  refine lv_aloadN hx hb dX11_chance_7 (lv_at hl 0 rfl) ?_
  refine lv_ifnullN (tgt := 35) hx hb dX11_chance_9 (by decide) ?_
  refine lv_iconst (v := (-1)) hx hb dX11_chance_35 (by decide) ?_
  have hP9 := hP.sub (ws' := []) [] rfl
  have hD9 := hD.sub (ws' := []) [] (by decide) rfl
  have hK9 := hK.sub (tys' := []) [] rfl
  exact W.iret (v := (-1)) hx hb hr (fun t ht hW => ⟨⟨(-1), (), rfl, by first | rfl | ((repeat' split) <;> first | rfl | (exfalso; omega) | (exact Int32.toInt_inj.mp (by show ((-1) : Int) = _; omega))), by rw [ht]; exact hP9, va_K.moved hW.alike hK9, hD9⟩, hS.F ht⟩) hS.2.2 dX11_chance_36
set_option maxHeartbeats 4000000 in
set_option maxRecDepth 100000 in
theorem k_X11_first_0 (l : Launch) (dC : Nat → ClassId) (dI : Nat → Nat → Nat) (h0 h1 h2 h3 h4 h5 h6 h7 h8 h9 h10 h11 h12 : Nat) (sz : Nat) (p0 : Int32) (p1 : Int32) (p2 : Int32) : Met l yX11_first wsX11_first ({ frames := 1, cells := 0, slots := 0, locals := 21 }) (va_Pc [.ref h0, .int p0, .int p1, .int p2] (fun U => U.heap.size = sz ∧ va_P (dC, dI) vwCl [(h0, .inr (11, [.ref h1, .int 0, .ref h2, .ref h3, .ref h4, .ref h5, .ref h6, .ref h7, .ref h8, .ref h9, .ref h10, .int 0, .ref h11, .ref h12]))] U.heap ∧ va_K (dC, dI) vwCl [] U ∧ va_D (fun _ => True) [(h0, .inr (11, [.ref h1, .int 0, .ref h2, .ref h3, .ref h4, .ref h5, .ref h6, .ref h7, .ref h8, .ref h9, .ref h10, .int 0, .ref h11, .ref h12]))])) (va_Qi (fun (r : Int32) (_ : Unit) => r = -1) (fun (_ : Unit) t => va_P (dC, dI) vwCl [] t.heap ∧ va_K (dC, dI) vwCl [] t ∧ va_D (va_A [(h0, .inr (11, [.ref h1, .int 0, .ref h2, .ref h3, .ref h4, .ref h5, .ref h6, .ref h7, .ref h8, .ref h9, .ref h10, .int 0, .ref h11, .ref h12]))] sz) []) (va_A [(h0, .inr (11, [.ref h1, .int 0, .ref h2, .ref h3, .ref h4, .ref h5, .ref h6, .ref h7, .ref h8, .ref h9, .ref h10, .int 0, .ref h11, .ref h12]))] sz)) 0 0 (va_A [(h0, .inr (11, [.ref h1, .int 0, .ref h2, .ref h3, .ref h4, .ref h5, .ref h6, .ref h7, .ref h8, .ref h9, .ref h10, .int 0, .ref h11, .ref h12]))] sz) := by
  refine Met.ofW (cc := cX11_first) (maxL := 5) (ret := (some .int)) (by decide) rfl ?_
  intro p e s m args below meth c s₁ B hml hv
  obtain ⟨rfl, hsz, hP, hK, hD0⟩ := hv
  have hx := B.exec
  have hb := B.bytes
  have hr := B.returns
  have hts := atoms_spec (ws := wsX11_first) B.pre
  have hown : s.vm.findClass RX11 = some m.cls := findClass_of_methodNamed B.named
  have hlocks := B.notSynchronized
  subst hsz
  have hD := hD0.self (sz := s.heap.size)
  generalize hAe : va_A [(h0, .inr (11, [.ref h1, .int 0, .ref h2, .ref h3, .ref h4, .ref h5, .ref h6, .ref h7, .ref h8, .ref h9, .ref h10, .int 0, .ref h11, .ref h12]))] s.heap.size = A at hD ⊢
  have hA : ∀ q : Nat, s.heap.size ≤ q → A q := fun q h => by rw [← hAe]; exact Or.inr h
  have hS : va_S A s.heap s.heap [] := va_S.rf
  have hP : va_P (dC, dI) vwCl [(h0, .inr (11, [.ref h1, .int 0, .ref h2, .ref h3, .ref h4, .ref h5, .ref h6, .ref h7, .ref h8, .ref h9, .ref h10, .int 0, .ref h11, .ref h12]))] s.heap := hP
  have hl := lv_entry ([.ref h0, .int p0, .int p1, .int p2]) (n := 5) (Nat.le_of_ble_eq_true rfl)
  rw [lg_entry_eq]
  generalize (lg_sl ([.ref h0, .int p0, .int p1, .int p2]) ++ List.replicate (5 - (lg_sl ([.ref h0, .int p0, .int p1, .int p2])).length) Slot.unset).toArray = ls at hl ⊢
  have hl : lv_has ls 5 [(0, .ref h0), (1, .int p0), (2, .int p1), (3, .int p2)] := hl
  refine lv_aload_n hx hb dX11_first_0 rfl (lv_at hl 0 rfl) ?_
  refine lv_iload_n hx hb dX11_first_1 rfl (lv_at hl 1 rfl) ?_
  have hPc := hP.sub (ws' := [(h0, .inr (11, [.ref h1, .int 0, .ref h2, .ref h3, .ref h4, .ref h5, .ref h6, .ref h7, .ref h8, .ref h9, .ref h10, .int 0, .ref h11, .ref h12]))]) [0] rfl
  have hDc := hD.sub (ws' := [(h0, .inr (11, [.ref h1, .int 0, .ref h2, .ref h3, .ref h4, .ref h5, .ref h6, .ref h7, .ref h8, .ref h9, .ref h10, .int 0, .ref h11, .ref h12]))]) [0] (by decide) rfl
  have hKc := hK.sub (tys' := []) [] rfl
  have hFc := va_free (wc := [(h0, .inr (11, [.ref h1, .int 0, .ref h2, .ref h3, .ref h4, .ref h5, .ref h6, .ref h7, .ref h8, .ref h9, .ref h10, .int 0, .ref h11, .ref h12]))]) hD hS hA [0] rfl
  refine va_callq (va_runV (As := [.int p0]) (rest := []) ⟨hx, hb, hml, hown, hts⟩ (k_X11_knownStreet_0 l dC dI h0 h1 h2 h3 h4 h5 h6 h7 h8 h9 h10 h11 h12 s.heap.size p0) (cwV 1 hts gX11_first_X11_knownStreet rfl rfl rfl (by decide +kernel) ⟨Nat.le_of_ble_eq_true rfl, Nat.le_of_ble_eq_true rfl⟩) ⟨fun a U g mk q => by obtain ⟨q0, q1, qP, qK, qD⟩ := q; exact ⟨q0, q1, qP, va_K.moved (u := U) (U := U.calling g mk a) (Vm.Alike.refl U.vm) qK, qD⟩, va_recv hKc hPc (ci := 11) (q0 := 0) rfl rfl, fun U hU hW => ⟨rfl, by rw [hU], by rw [hU]; exact hPc, va_K.moved hW.alike hKc, hDc.weaken (fun _ _ _ _ => trivial)⟩⟩ rfl rfl hl.1 rfl (lv_room (Nat.le_of_ble_eq_true rfl)) dX11_first_2 ⟨Nat.le_of_ble_eq_true rfl, Nat.le_of_ble_eq_true rfl⟩) hS (fun q _ h => hFc q h) hFc (fun r_1 u t H1 locs ht hvm hw hB hz1 hk1 hS => ?_)
  obtain ⟨hP1, hK1, hD1⟩ := hB
  rw [ht] at hP1
  have hK1 := va_K.moved hvm.symm hK1
  obtain ⟨hP, hD⟩ := va_join (wr := []) (w1 := [(h0, .inr (11, [.ref h1, .int 0, .ref h2, .ref h3, .ref h4, .ref h5, .ref h6, .ref h7, .ref h8, .ref h9, .ref h10, .int 0, .ref h11, .ref h12]))]) hP hD [0] [] rfl rfl (by decide) (by decide) hk1 hFc hP1 hD1
  generalize H1 = H at hP hS ⊢
  have hP : va_P (dC, dI) vwCl [(h0, .inr (11, [.ref h1, .int 0, .ref h2, .ref h3, .ref h4, .ref h5, .ref h6, .ref h7, .ref h8, .ref h9, .ref h10, .int 0, .ref h11, .ref h12]))] H := hP
  have hD : va_D A [(h0, .inr (11, [.ref h1, .int 0, .ref h2, .ref h3, .ref h4, .ref h5, .ref h6, .ref h7, .ref h8, .ref h9, .ref h10, .int 0, .ref h11, .ref h12]))] := hD
  obtain rfl := hw
  refine W.eq (g2 := F0 m 5 ls [.null]) rfl ?_
  refine lv_astoreN (lv' := [(4, .null), (0, .ref h0), (1, .int p0), (2, .int p1), (3, .int p2)]) hx hb dX11_first_5 hl (by decide) rfl (fun ls hl => ?_)
  refine lv_aloadN hx hb dX11_first_7 (lv_at hl 0 rfl) ?_
  refine lv_ifnullN (tgt := 28) hx hb dX11_first_9 (by decide) ?_
  refine lv_iconst (v := (-1)) hx hb dX11_first_28 (by decide) ?_
  have hP9 := hP.sub (ws' := []) [] rfl
  have hD9 := hD.sub (ws' := []) [] (by decide) rfl
  have hK9 := hK.sub (tys' := []) [] rfl
  exact W.iret (v := (-1)) hx hb hr (fun t ht hW => ⟨⟨(-1), (), rfl, by first | rfl | ((repeat' split) <;> first | rfl | (exfalso; omega) | (exact Int32.toInt_inj.mp (by show ((-1) : Int) = _; omega))), by rw [ht]; exact hP9, va_K.moved hW.alike hK9, hD9⟩, hS.F ht⟩) hS.2.2 dX11_first_29
set_option maxHeartbeats 4000000 in
set_option maxRecDepth 100000 in
theorem k_X11_led_0 (l : Launch) (dC : Nat → ClassId) (dI : Nat → Nat → Nat) (h0 h1 h2 h3 h4 h5 h6 h7 h8 h9 h10 h11 h12 : Nat) (sz : Nat) (p0 : Int32) (p1 : Int32) : Met l yX11_led wsX11_led ({ frames := 1, cells := 0, slots := 0, locals := 21 }) (va_Pc [.ref h0, .int p0, .int p1] (fun U => U.heap.size = sz ∧ va_P (dC, dI) vwCl [(h0, .inr (11, [.ref h1, .int 0, .ref h2, .ref h3, .ref h4, .ref h5, .ref h6, .ref h7, .ref h8, .ref h9, .ref h10, .int 0, .ref h11, .ref h12]))] U.heap ∧ va_K (dC, dI) vwCl [] U ∧ va_D (fun _ => True) [(h0, .inr (11, [.ref h1, .int 0, .ref h2, .ref h3, .ref h4, .ref h5, .ref h6, .ref h7, .ref h8, .ref h9, .ref h10, .int 0, .ref h11, .ref h12]))])) (va_Qi (fun (r : Int32) (_ : Unit) => r = -1) (fun (_ : Unit) t => va_P (dC, dI) vwCl [] t.heap ∧ va_K (dC, dI) vwCl [] t ∧ va_D (va_A [(h0, .inr (11, [.ref h1, .int 0, .ref h2, .ref h3, .ref h4, .ref h5, .ref h6, .ref h7, .ref h8, .ref h9, .ref h10, .int 0, .ref h11, .ref h12]))] sz) []) (va_A [(h0, .inr (11, [.ref h1, .int 0, .ref h2, .ref h3, .ref h4, .ref h5, .ref h6, .ref h7, .ref h8, .ref h9, .ref h10, .int 0, .ref h11, .ref h12]))] sz)) 0 0 (va_A [(h0, .inr (11, [.ref h1, .int 0, .ref h2, .ref h3, .ref h4, .ref h5, .ref h6, .ref h7, .ref h8, .ref h9, .ref h10, .int 0, .ref h11, .ref h12]))] sz) := by
  refine Met.ofW (cc := cX11_led) (maxL := 4) (ret := (some .int)) (by decide) rfl ?_
  intro p e s m args below meth c s₁ B hml hv
  obtain ⟨rfl, hsz, hP, hK, hD0⟩ := hv
  have hx := B.exec
  have hb := B.bytes
  have hr := B.returns
  have hts := atoms_spec (ws := wsX11_led) B.pre
  have hown : s.vm.findClass RX11 = some m.cls := findClass_of_methodNamed B.named
  have hlocks := B.notSynchronized
  subst hsz
  have hD := hD0.self (sz := s.heap.size)
  generalize hAe : va_A [(h0, .inr (11, [.ref h1, .int 0, .ref h2, .ref h3, .ref h4, .ref h5, .ref h6, .ref h7, .ref h8, .ref h9, .ref h10, .int 0, .ref h11, .ref h12]))] s.heap.size = A at hD ⊢
  have hA : ∀ q : Nat, s.heap.size ≤ q → A q := fun q h => by rw [← hAe]; exact Or.inr h
  have hS : va_S A s.heap s.heap [] := va_S.rf
  have hP : va_P (dC, dI) vwCl [(h0, .inr (11, [.ref h1, .int 0, .ref h2, .ref h3, .ref h4, .ref h5, .ref h6, .ref h7, .ref h8, .ref h9, .ref h10, .int 0, .ref h11, .ref h12]))] s.heap := hP
  have hl := lv_entry ([.ref h0, .int p0, .int p1]) (n := 4) (Nat.le_of_ble_eq_true rfl)
  rw [lg_entry_eq]
  generalize (lg_sl ([.ref h0, .int p0, .int p1]) ++ List.replicate (4 - (lg_sl ([.ref h0, .int p0, .int p1])).length) Slot.unset).toArray = ls at hl ⊢
  have hl : lv_has ls 4 [(0, .ref h0), (1, .int p0), (2, .int p1)] := hl
  refine lv_iload_n hx hb dX11_led_0 rfl (lv_at hl 1 rfl) ?_
  refine lv_if_ge (tgt := 8) hx hb dX11_led_1 (by decide) (fun c_1 => ?_) (fun c_1 => ?_)
  · have t_1 : 0 ≤ p0.toInt := kk_le c_1
    refine lv_aload_n hx hb dX11_led_8 rfl (lv_at hl 0 rfl) ?_
    refine lv_iload_n hx hb dX11_led_9 rfl (lv_at hl 1 rfl) ?_
    refine lv_bipush (v := 100) hx hb dX11_led_10 (by decide) ?_
    refine lv_idiv hx hb dX11_led_12 (by decide) ?_
    have hPc := hP.sub (ws' := [(h0, .inr (11, [.ref h1, .int 0, .ref h2, .ref h3, .ref h4, .ref h5, .ref h6, .ref h7, .ref h8, .ref h9, .ref h10, .int 0, .ref h11, .ref h12]))]) [0] rfl
    have hDc := hD.sub (ws' := [(h0, .inr (11, [.ref h1, .int 0, .ref h2, .ref h3, .ref h4, .ref h5, .ref h6, .ref h7, .ref h8, .ref h9, .ref h10, .int 0, .ref h11, .ref h12]))]) [0] (by decide) rfl
    have hKc := hK.sub (tys' := []) [] rfl
    have hFc := va_free (wc := [(h0, .inr (11, [.ref h1, .int 0, .ref h2, .ref h3, .ref h4, .ref h5, .ref h6, .ref h7, .ref h8, .ref h9, .ref h10, .int 0, .ref h11, .ref h12]))]) hD hS hA [0] rfl
    refine va_callq (va_runV (As := [.int (p0 / 100)]) (rest := []) ⟨hx, hb, hml, hown, hts⟩ (k_X11_knownStreet_0 l dC dI h0 h1 h2 h3 h4 h5 h6 h7 h8 h9 h10 h11 h12 s.heap.size (p0 / 100)) (cwV 1 hts gX11_led_X11_knownStreet rfl rfl rfl (by decide +kernel) ⟨Nat.le_of_ble_eq_true rfl, Nat.le_of_ble_eq_true rfl⟩) ⟨fun a U g mk q => by obtain ⟨q0, q1, qP, qK, qD⟩ := q; exact ⟨q0, q1, qP, va_K.moved (u := U) (U := U.calling g mk a) (Vm.Alike.refl U.vm) qK, qD⟩, va_recv hKc hPc (ci := 11) (q0 := 0) rfl rfl, fun U hU hW => ⟨rfl, by rw [hU], by rw [hU]; exact hPc, va_K.moved hW.alike hKc, hDc.weaken (fun _ _ _ _ => trivial)⟩⟩ rfl rfl hl.1 rfl (lv_room (Nat.le_of_ble_eq_true rfl)) dX11_led_13 ⟨Nat.le_of_ble_eq_true rfl, Nat.le_of_ble_eq_true rfl⟩) hS (fun q _ h => hFc q h) hFc (fun r_2 u t H1 locs ht hvm hw hB hz1 hk1 hS => ?_)
    obtain ⟨hP1, hK1, hD1⟩ := hB
    rw [ht] at hP1
    have hK1 := va_K.moved hvm.symm hK1
    obtain ⟨hP, hD⟩ := va_join (wr := []) (w1 := [(h0, .inr (11, [.ref h1, .int 0, .ref h2, .ref h3, .ref h4, .ref h5, .ref h6, .ref h7, .ref h8, .ref h9, .ref h10, .int 0, .ref h11, .ref h12]))]) hP hD [0] [] rfl rfl (by decide) (by decide) hk1 hFc hP1 hD1
    generalize H1 = H at hP hS ⊢
    have hP : va_P (dC, dI) vwCl [(h0, .inr (11, [.ref h1, .int 0, .ref h2, .ref h3, .ref h4, .ref h5, .ref h6, .ref h7, .ref h8, .ref h9, .ref h10, .int 0, .ref h11, .ref h12]))] H := hP
    have hD : va_D A [(h0, .inr (11, [.ref h1, .int 0, .ref h2, .ref h3, .ref h4, .ref h5, .ref h6, .ref h7, .ref h8, .ref h9, .ref h10, .int 0, .ref h11, .ref h12]))] := hD
    obtain rfl := hw
    refine W.eq (g2 := F0 m 16 ls [.null]) rfl ?_
    refine lv_astore_nN (lv' := [(3, .null), (0, .ref h0), (1, .int p0), (2, .int p1)]) hx hb dX11_led_16 rfl hl (by decide) rfl (fun ls hl => ?_)
    refine lv_aload_nN hx hb dX11_led_17 rfl (lv_at hl 0 rfl) ?_
    refine lv_ifnullN (tgt := 39) hx hb dX11_led_18 (by decide) ?_
    refine lv_iconst (v := (-1)) hx hb dX11_led_39 (by decide) ?_
    have hP9 := hP.sub (ws' := []) [] rfl
    have hD9 := hD.sub (ws' := []) [] (by decide) rfl
    have hK9 := hK.sub (tys' := []) [] rfl
    exact W.iret (v := (-1)) hx hb hr (fun t ht hW => ⟨⟨(-1), (), rfl, by first | rfl | ((repeat' split) <;> first | rfl | (exfalso; have := kk_div (x := p0) (k := 100) (n := 100) rfl (by decide) (by omega); omega) | (exact Int32.toInt_inj.mp (by show ((-1) : Int) = _; omega))), by rw [ht]; exact hP9, va_K.moved hW.alike hK9, hD9⟩, hS.F ht⟩) hS.2.2 dX11_led_40
  · have t_1 : p0.toInt < 0 := kk_nle c_1
    refine lv_null hx hb dX11_led_4 ?_
    refine lv_goto (tgt := 16) hx hb dX11_led_5 (by decide) ?_
    refine lv_astore_nN (lv' := [(3, .null), (0, .ref h0), (1, .int p0), (2, .int p1)]) hx hb dX11_led_16 rfl hl (by decide) rfl (fun ls hl => ?_)
    refine lv_aload_nN hx hb dX11_led_17 rfl (lv_at hl 0 rfl) ?_
    refine lv_ifnullN (tgt := 39) hx hb dX11_led_18 (by decide) ?_
    refine lv_iconst (v := (-1)) hx hb dX11_led_39 (by decide) ?_
    have hP9 := hP.sub (ws' := []) [] rfl
    have hD9 := hD.sub (ws' := []) [] (by decide) rfl
    have hK9 := hK.sub (tys' := []) [] rfl
    exact W.iret (v := (-1)) hx hb hr (fun t ht hW => ⟨⟨(-1), (), rfl, by first | rfl | ((repeat' split) <;> first | rfl | (exfalso; omega) | (exact Int32.toInt_inj.mp (by show ((-1) : Int) = _; omega))), by rw [ht]; exact hP9, va_K.moved hW.alike hK9, hD9⟩, hS.F ht⟩) hS.2.2 dX11_led_40
set_option maxHeartbeats 4000000 in
set_option maxRecDepth 100000 in
theorem k_X11_pieces_0 (l : Launch) (dC : Nat → ClassId) (dI : Nat → Nat → Nat) (h0 h1 h2 h3 h4 h5 h6 h7 h8 h9 h10 h11 h12 : Nat) (sz : Nat) (p0 : Int32) (p1 : Int32) (p2 : Int32) : Met l yX11_pieces wsX11_pieces ({ frames := 1, cells := 0, slots := 0, locals := 21 }) (va_Pc [.ref h0, .int p0, .int p1, .int p2] (fun U => U.heap.size = sz ∧ va_P (dC, dI) vwCl [(h0, .inr (11, [.ref h1, .int 0, .ref h2, .ref h3, .ref h4, .ref h5, .ref h6, .ref h7, .ref h8, .ref h9, .ref h10, .int 0, .ref h11, .ref h12]))] U.heap ∧ va_K (dC, dI) vwCl [] U ∧ va_D (fun _ => True) [(h0, .inr (11, [.ref h1, .int 0, .ref h2, .ref h3, .ref h4, .ref h5, .ref h6, .ref h7, .ref h8, .ref h9, .ref h10, .int 0, .ref h11, .ref h12]))])) (va_Qi (fun (r : Int32) (_ : Unit) => r = -1) (fun (_ : Unit) t => va_P (dC, dI) vwCl [] t.heap ∧ va_K (dC, dI) vwCl [] t ∧ va_D (va_A [(h0, .inr (11, [.ref h1, .int 0, .ref h2, .ref h3, .ref h4, .ref h5, .ref h6, .ref h7, .ref h8, .ref h9, .ref h10, .int 0, .ref h11, .ref h12]))] sz) []) (va_A [(h0, .inr (11, [.ref h1, .int 0, .ref h2, .ref h3, .ref h4, .ref h5, .ref h6, .ref h7, .ref h8, .ref h9, .ref h10, .int 0, .ref h11, .ref h12]))] sz)) 0 0 (va_A [(h0, .inr (11, [.ref h1, .int 0, .ref h2, .ref h3, .ref h4, .ref h5, .ref h6, .ref h7, .ref h8, .ref h9, .ref h10, .int 0, .ref h11, .ref h12]))] sz) := by
  refine Met.ofW (cc := cX11_pieces) (maxL := 5) (ret := (some .int)) (by decide) rfl ?_
  intro p e s m args below meth c s₁ B hml hv
  obtain ⟨rfl, hsz, hP, hK, hD0⟩ := hv
  have hx := B.exec
  have hb := B.bytes
  have hr := B.returns
  have hts := atoms_spec (ws := wsX11_pieces) B.pre
  have hown : s.vm.findClass RX11 = some m.cls := findClass_of_methodNamed B.named
  have hlocks := B.notSynchronized
  subst hsz
  have hD := hD0.self (sz := s.heap.size)
  generalize hAe : va_A [(h0, .inr (11, [.ref h1, .int 0, .ref h2, .ref h3, .ref h4, .ref h5, .ref h6, .ref h7, .ref h8, .ref h9, .ref h10, .int 0, .ref h11, .ref h12]))] s.heap.size = A at hD ⊢
  have hA : ∀ q : Nat, s.heap.size ≤ q → A q := fun q h => by rw [← hAe]; exact Or.inr h
  have hS : va_S A s.heap s.heap [] := va_S.rf
  have hP : va_P (dC, dI) vwCl [(h0, .inr (11, [.ref h1, .int 0, .ref h2, .ref h3, .ref h4, .ref h5, .ref h6, .ref h7, .ref h8, .ref h9, .ref h10, .int 0, .ref h11, .ref h12]))] s.heap := hP
  have hl := lv_entry ([.ref h0, .int p0, .int p1, .int p2]) (n := 5) (Nat.le_of_ble_eq_true rfl)
  rw [lg_entry_eq]
  generalize (lg_sl ([.ref h0, .int p0, .int p1, .int p2]) ++ List.replicate (5 - (lg_sl ([.ref h0, .int p0, .int p1, .int p2])).length) Slot.unset).toArray = ls at hl ⊢
  have hl : lv_has ls 5 [(0, .ref h0), (1, .int p0), (2, .int p1), (3, .int p2)] := hl
  refine lv_aload_n hx hb dX11_pieces_0 rfl (lv_at hl 0 rfl) ?_
  refine lv_iload_n hx hb dX11_pieces_1 rfl (lv_at hl 1 rfl) ?_
  have hPc := hP.sub (ws' := [(h0, .inr (11, [.ref h1, .int 0, .ref h2, .ref h3, .ref h4, .ref h5, .ref h6, .ref h7, .ref h8, .ref h9, .ref h10, .int 0, .ref h11, .ref h12]))]) [0] rfl
  have hDc := hD.sub (ws' := [(h0, .inr (11, [.ref h1, .int 0, .ref h2, .ref h3, .ref h4, .ref h5, .ref h6, .ref h7, .ref h8, .ref h9, .ref h10, .int 0, .ref h11, .ref h12]))]) [0] (by decide) rfl
  have hKc := hK.sub (tys' := []) [] rfl
  have hFc := va_free (wc := [(h0, .inr (11, [.ref h1, .int 0, .ref h2, .ref h3, .ref h4, .ref h5, .ref h6, .ref h7, .ref h8, .ref h9, .ref h10, .int 0, .ref h11, .ref h12]))]) hD hS hA [0] rfl
  refine va_callq (va_runV (As := [.int p0]) (rest := []) ⟨hx, hb, hml, hown, hts⟩ (k_X11_knownStreet_0 l dC dI h0 h1 h2 h3 h4 h5 h6 h7 h8 h9 h10 h11 h12 s.heap.size p0) (cwV 1 hts gX11_pieces_X11_knownStreet rfl rfl rfl (by decide +kernel) ⟨Nat.le_of_ble_eq_true rfl, Nat.le_of_ble_eq_true rfl⟩) ⟨fun a U g mk q => by obtain ⟨q0, q1, qP, qK, qD⟩ := q; exact ⟨q0, q1, qP, va_K.moved (u := U) (U := U.calling g mk a) (Vm.Alike.refl U.vm) qK, qD⟩, va_recv hKc hPc (ci := 11) (q0 := 0) rfl rfl, fun U hU hW => ⟨rfl, by rw [hU], by rw [hU]; exact hPc, va_K.moved hW.alike hKc, hDc.weaken (fun _ _ _ _ => trivial)⟩⟩ rfl rfl hl.1 rfl (lv_room (Nat.le_of_ble_eq_true rfl)) dX11_pieces_2 ⟨Nat.le_of_ble_eq_true rfl, Nat.le_of_ble_eq_true rfl⟩) hS (fun q _ h => hFc q h) hFc (fun r_1 u t H1 locs ht hvm hw hB hz1 hk1 hS => ?_)
  obtain ⟨hP1, hK1, hD1⟩ := hB
  rw [ht] at hP1
  have hK1 := va_K.moved hvm.symm hK1
  obtain ⟨hP, hD⟩ := va_join (wr := []) (w1 := [(h0, .inr (11, [.ref h1, .int 0, .ref h2, .ref h3, .ref h4, .ref h5, .ref h6, .ref h7, .ref h8, .ref h9, .ref h10, .int 0, .ref h11, .ref h12]))]) hP hD [0] [] rfl rfl (by decide) (by decide) hk1 hFc hP1 hD1
  generalize H1 = H at hP hS ⊢
  have hP : va_P (dC, dI) vwCl [(h0, .inr (11, [.ref h1, .int 0, .ref h2, .ref h3, .ref h4, .ref h5, .ref h6, .ref h7, .ref h8, .ref h9, .ref h10, .int 0, .ref h11, .ref h12]))] H := hP
  have hD : va_D A [(h0, .inr (11, [.ref h1, .int 0, .ref h2, .ref h3, .ref h4, .ref h5, .ref h6, .ref h7, .ref h8, .ref h9, .ref h10, .int 0, .ref h11, .ref h12]))] := hD
  obtain rfl := hw
  refine W.eq (g2 := F0 m 5 ls [.null]) rfl ?_
  refine lv_astoreN (lv' := [(4, .null), (0, .ref h0), (1, .int p0), (2, .int p1), (3, .int p2)]) hx hb dX11_pieces_5 hl (by decide) rfl (fun ls hl => ?_)
  refine lv_aloadN hx hb dX11_pieces_7 (lv_at hl 0 rfl) ?_
  refine lv_ifnullN (tgt := 34) hx hb dX11_pieces_9 (by decide) ?_
  refine lv_iconst (v := (-1)) hx hb dX11_pieces_34 (by decide) ?_
  have hP9 := hP.sub (ws' := []) [] rfl
  have hD9 := hD.sub (ws' := []) [] (by decide) rfl
  have hK9 := hK.sub (tys' := []) [] rfl
  exact W.iret (v := (-1)) hx hb hr (fun t ht hW => ⟨⟨(-1), (), rfl, by first | rfl | ((repeat' split) <;> first | rfl | (exfalso; omega) | (exact Int32.toInt_inj.mp (by show ((-1) : Int) = _; omega))), by rw [ht]; exact hP9, va_K.moved hW.alike hK9, hD9⟩, hS.F ht⟩) hS.2.2 dX11_pieces_35
set_option maxHeartbeats 4000000 in
set_option maxRecDepth 100000 in
theorem k_X11_bend_0 (l : Launch) (dC : Nat → ClassId) (dI : Nat → Nat → Nat) (h0 h1 h2 h3 h4 h5 h6 h7 h8 h9 h10 h11 h12 : Nat) (sz : Nat) (p0 : Int32) : Met l yX11_bend wsX11_bend ({ frames := 0, cells := 0, slots := 0, locals := 0 }) (va_Pc [.ref h0, .int p0] (fun U => U.heap.size = sz ∧ va_P (dC, dI) vwCl [(h0, .inr (11, [.ref h1, .int 0, .ref h2, .ref h3, .ref h4, .ref h5, .ref h6, .ref h7, .ref h8, .ref h9, .ref h10, .int 0, .ref h11, .ref h12]))] U.heap ∧ va_K (dC, dI) vwCl [] U ∧ va_D (fun _ => True) [(h0, .inr (11, [.ref h1, .int 0, .ref h2, .ref h3, .ref h4, .ref h5, .ref h6, .ref h7, .ref h8, .ref h9, .ref h10, .int 0, .ref h11, .ref h12]))])) (va_Qi (fun (r : Int32) (_ : Unit) => r = -1) (fun (_ : Unit) t => va_P (dC, dI) vwCl [] t.heap ∧ va_K (dC, dI) vwCl [] t ∧ va_D (va_A [(h0, .inr (11, [.ref h1, .int 0, .ref h2, .ref h3, .ref h4, .ref h5, .ref h6, .ref h7, .ref h8, .ref h9, .ref h10, .int 0, .ref h11, .ref h12]))] sz) []) (va_A [(h0, .inr (11, [.ref h1, .int 0, .ref h2, .ref h3, .ref h4, .ref h5, .ref h6, .ref h7, .ref h8, .ref h9, .ref h10, .int 0, .ref h11, .ref h12]))] sz)) 0 0 (va_A [(h0, .inr (11, [.ref h1, .int 0, .ref h2, .ref h3, .ref h4, .ref h5, .ref h6, .ref h7, .ref h8, .ref h9, .ref h10, .int 0, .ref h11, .ref h12]))] sz) := by
  refine Met.ofW (cc := cX11_bend) (maxL := 4) (ret := (some .int)) (by decide) rfl ?_
  intro p e s m args below meth c s₁ B hml hv
  obtain ⟨rfl, hsz, hP, hK, hD0⟩ := hv
  have hx := B.exec
  have hb := B.bytes
  have hr := B.returns
  have hts := atoms_spec (ws := wsX11_bend) B.pre
  have hown : s.vm.findClass RX11 = some m.cls := findClass_of_methodNamed B.named
  have hlocks := B.notSynchronized
  subst hsz
  have hD := hD0.self (sz := s.heap.size)
  generalize hAe : va_A [(h0, .inr (11, [.ref h1, .int 0, .ref h2, .ref h3, .ref h4, .ref h5, .ref h6, .ref h7, .ref h8, .ref h9, .ref h10, .int 0, .ref h11, .ref h12]))] s.heap.size = A at hD ⊢
  have hA : ∀ q : Nat, s.heap.size ≤ q → A q := fun q h => by rw [← hAe]; exact Or.inr h
  have hS : va_S A s.heap s.heap [] := va_S.rf
  have hP : va_P (dC, dI) vwCl [(h0, .inr (11, [.ref h1, .int 0, .ref h2, .ref h3, .ref h4, .ref h5, .ref h6, .ref h7, .ref h8, .ref h9, .ref h10, .int 0, .ref h11, .ref h12]))] s.heap := hP
  have hl := lv_entry ([.ref h0, .int p0]) (n := 4) (Nat.le_of_ble_eq_true rfl)
  rw [lg_entry_eq]
  generalize (lg_sl ([.ref h0, .int p0]) ++ List.replicate (4 - (lg_sl ([.ref h0, .int p0])).length) Slot.unset).toArray = ls at hl ⊢
  have hl : lv_has ls 4 [(0, .ref h0), (1, .int p0)] := hl
  refine lv_iload_n hx hb dX11_bend_0 rfl (lv_at hl 1 rfl) ?_
  refine lv_bipush (v := 10) hx hb dX11_bend_1 (by decide) ?_
  refine lv_idiv hx hb dX11_bend_3 (by decide) ?_
  refine lv_istore_n (lv' := [(2, .int (p0 / 10)), (0, .ref h0), (1, .int p0)]) hx hb dX11_bend_4 rfl hl (by decide) rfl (fun ls hl => ?_)
  refine lv_iload_n hx hb dX11_bend_5 rfl (lv_at hl 2 rfl) ?_
  refine lv_bipush (v := 10) hx hb dX11_bend_6 (by decide) ?_
  refine lv_irem hx hb dX11_bend_8 (by decide) ?_
  refine lv_istore_n (lv' := [(3, .int (p0 - p0 / 10 * 10)), (2, .int (p0 / 10)), (0, .ref h0), (1, .int p0)]) hx hb dX11_bend_9 rfl hl (by decide) rfl (fun ls hl => ?_)
  refine lv_iload_n hx hb dX11_bend_10 rfl (lv_at hl 3 rfl) ?_
  refine lv_if_lt (tgt := 47) hx hb dX11_bend_11 (by decide) (fun c_1 => ?_) (fun c_1 => ?_)
  · have t_1 : p0.toInt < 0 := kk_lt c_1
    refine lv_iconst (v := (-1)) hx hb dX11_bend_47 (by decide) ?_
    have hP9 := hP.sub (ws' := []) [] rfl
    have hD9 := hD.sub (ws' := []) [] (by decide) rfl
    have hK9 := hK.sub (tys' := []) [] rfl
    exact W.iret (v := (-1)) hx hb hr (fun t ht hW => ⟨⟨(-1), (), rfl, by first | rfl | ((repeat' split) <;> first | rfl | (exfalso; omega) | (exact Int32.toInt_inj.mp (by show ((-1) : Int) = _; omega))), by rw [ht]; exact hP9, va_K.moved hW.alike hK9, hD9⟩, hS.F ht⟩) hS.2.2 dX11_bend_48
  · have t_1 : 0 ≤ p0.toInt := kk_nlt c_1
    refine lv_iload_n hx hb dX11_bend_14 rfl (lv_at hl 1 rfl) ?_
    refine lv_aload_n hx hb dX11_bend_15 rfl (lv_at hl 2 rfl) ?_
    refine va_get (D := (dC, dI)) (ci := 11) (v := .int 0) (C := RX11) (T := TX11) (N := 14) hx hb hts (fun _ h => List.mem_cons_of_mem _ (List.mem_append_left _ (List.mem_append_right _ h))) hown hK hP 0 rfl rfl 1 (by decide) (hts (.fieldLink RX11 90 "KinkStreet" "streetCount" "I") (List.mem_of_getElem? (i := 1) rfl)) (fun _ h9 => h9) rfl dX11_bend_16 ?_
    refine lv_icmp_ge (tgt := 47) hx hb dX11_bend_19 (by decide) (fun c_2 => ?_) (fun c_2 => ?_)
    · have t_2 : 0 ≤ (p0 / 10).toInt := kk_le c_2
      refine lv_iconst (v := (-1)) hx hb dX11_bend_47 (by decide) ?_
      have hP9 := hP.sub (ws' := []) [] rfl
      have hD9 := hD.sub (ws' := []) [] (by decide) rfl
      have hK9 := hK.sub (tys' := []) [] rfl
      exact W.iret (v := (-1)) hx hb hr (fun t ht hW => ⟨⟨(-1), (), rfl, by first | rfl | ((repeat' split) <;> first | rfl | (exfalso; have := kk_div (x := p0) (k := 10) (n := 10) rfl (by decide) (by omega); have := kk_rem (x := p0) (k := 10) (n := 10) rfl (by decide) (by omega); omega) | (exact Int32.toInt_inj.mp (by show ((-1) : Int) = _; omega))), by rw [ht]; exact hP9, va_K.moved hW.alike hK9, hD9⟩, hS.F ht⟩) hS.2.2 dX11_bend_48
    · have t_2 : (p0 / 10).toInt < 0 := kk_nle c_2
      exfalso; have := kk_div (x := p0) (k := 10) (n := 10) rfl (by decide) (by omega); have := kk_rem (x := p0) (k := 10) (n := 10) rfl (by decide) (by omega); omega
set_option maxHeartbeats 4000000 in
set_option maxRecDepth 100000 in
theorem k_X11_order_0 (l : Launch) (dC : Nat → ClassId) (dI : Nat → Nat → Nat) (h0 h1 h2 h3 h4 h5 h6 h7 h8 h9 h10 h11 h12 : Nat) (sz : Nat) (p0 : Int32) : Met l yX11_order wsX11_order ({ frames := 0, cells := 0, slots := 0, locals := 0 }) (va_Pc [.ref h0, .int p0] (fun U => U.heap.size = sz ∧ va_P (dC, dI) vwCl [(h0, .inr (11, [.ref h1, .int 0, .ref h2, .ref h3, .ref h4, .ref h5, .ref h6, .ref h7, .ref h8, .ref h9, .ref h10, .int 0, .ref h11, .ref h12]))] U.heap ∧ va_K (dC, dI) vwCl [] U ∧ va_D (fun _ => True) [(h0, .inr (11, [.ref h1, .int 0, .ref h2, .ref h3, .ref h4, .ref h5, .ref h6, .ref h7, .ref h8, .ref h9, .ref h10, .int 0, .ref h11, .ref h12]))])) (va_Qi (fun (r : Int32) (_ : Unit) => r = if p0.toInt < -1 then (-1 : Int32) else -2) (fun (_ : Unit) t => va_P (dC, dI) vwCl [] t.heap ∧ va_K (dC, dI) vwCl [] t ∧ va_D (va_A [(h0, .inr (11, [.ref h1, .int 0, .ref h2, .ref h3, .ref h4, .ref h5, .ref h6, .ref h7, .ref h8, .ref h9, .ref h10, .int 0, .ref h11, .ref h12]))] sz) []) (va_A [(h0, .inr (11, [.ref h1, .int 0, .ref h2, .ref h3, .ref h4, .ref h5, .ref h6, .ref h7, .ref h8, .ref h9, .ref h10, .int 0, .ref h11, .ref h12]))] sz)) 0 0 (va_A [(h0, .inr (11, [.ref h1, .int 0, .ref h2, .ref h3, .ref h4, .ref h5, .ref h6, .ref h7, .ref h8, .ref h9, .ref h10, .int 0, .ref h11, .ref h12]))] sz) := by
  refine Met.ofW (cc := cX11_order) (maxL := 5) (ret := (some .int)) (by decide) rfl ?_
  intro p e s m args below meth c s₁ B hml hv
  obtain ⟨rfl, hsz, hP, hK, hD0⟩ := hv
  have hx := B.exec
  have hb := B.bytes
  have hr := B.returns
  have hts := atoms_spec (ws := wsX11_order) B.pre
  have hown : s.vm.findClass RX11 = some m.cls := findClass_of_methodNamed B.named
  have hlocks := B.notSynchronized
  subst hsz
  have hD := hD0.self (sz := s.heap.size)
  generalize hAe : va_A [(h0, .inr (11, [.ref h1, .int 0, .ref h2, .ref h3, .ref h4, .ref h5, .ref h6, .ref h7, .ref h8, .ref h9, .ref h10, .int 0, .ref h11, .ref h12]))] s.heap.size = A at hD ⊢
  have hA : ∀ q : Nat, s.heap.size ≤ q → A q := fun q h => by rw [← hAe]; exact Or.inr h
  have hS : va_S A s.heap s.heap [] := va_S.rf
  have hP : va_P (dC, dI) vwCl [(h0, .inr (11, [.ref h1, .int 0, .ref h2, .ref h3, .ref h4, .ref h5, .ref h6, .ref h7, .ref h8, .ref h9, .ref h10, .int 0, .ref h11, .ref h12]))] s.heap := hP
  have hl := lv_entry ([.ref h0, .int p0]) (n := 5) (Nat.le_of_ble_eq_true rfl)
  rw [lg_entry_eq]
  generalize (lg_sl ([.ref h0, .int p0]) ++ List.replicate (5 - (lg_sl ([.ref h0, .int p0])).length) Slot.unset).toArray = ls at hl ⊢
  have hl : lv_has ls 5 [(0, .ref h0), (1, .int p0)] := hl
  refine lv_iload_n hx hb dX11_order_0 rfl (lv_at hl 1 rfl) ?_
  refine lv_iconst (v := (-1)) hx hb dX11_order_1 (by decide) ?_
  refine lv_icmp_ge (tgt := 7) hx hb dX11_order_2 (by decide) (fun c_1 => ?_) (fun c_1 => ?_)
  · have t_1 : (-1) ≤ p0.toInt := kk_le c_1
    refine lv_iconst (v := 1) hx hb dX11_order_7 (by decide) ?_
    refine lv_aload_n hx hb dX11_order_8 rfl (lv_at hl 0 rfl) ?_
    refine va_get (D := (dC, dI)) (ci := 11) (v := .int 0) (C := RX11) (T := TX11) (N := 14) hx hb hts (fun _ h => List.mem_cons_of_mem _ (List.mem_append_left _ (List.mem_append_right _ h))) hown hK hP 0 rfl rfl 1 (by decide) (hts (.fieldLink RX11 90 "KinkStreet" "streetCount" "I") (List.mem_of_getElem? (i := 1) rfl)) (fun _ h9 => h9) rfl dX11_order_9 ?_
    refine lv_ishl hx hb dX11_order_12 ?_
    refine lv_topi (fun y_2 e_2 => ?_)
    obtain rfl : y_2 = 1 := e_2.trans (by decide)
    refine lv_iconst (v := 1) hx hb dX11_order_13 (by decide) ?_
    refine lv_isub hx hb dX11_order_14 ?_
    refine lv_topi (fun y_3 e_3 => ?_)
    obtain rfl : y_3 = 0 := e_3.trans (by decide)
    refine lv_istore_n (lv' := [(2, .int 0), (0, .ref h0), (1, .int p0)]) hx hb dX11_order_15 rfl hl (by decide) rfl (fun ls hl => ?_)
    refine lv_iconst (v := 0) hx hb dX11_order_16 (by decide) ?_
    refine lv_istore_n (lv' := [(3, .int 0), (2, .int 0), (0, .ref h0), (1, .int p0)]) hx hb dX11_order_17 rfl hl (by decide) rfl (fun ls hl => ?_)
    refine lv_iload_n hx hb dX11_order_18 rfl (lv_at hl 0 rfl) ?_
    refine lv_aload_n hx hb dX11_order_19 rfl (lv_at hl 2 rfl) ?_
    refine va_get (D := (dC, dI)) (ci := 11) (v := .int 0) (C := RX11) (T := TX11) (N := 14) hx hb hts (fun _ h => List.mem_cons_of_mem _ (List.mem_append_left _ (List.mem_append_right _ h))) hown hK hP 0 rfl rfl 1 (by decide) (hts (.fieldLink RX11 90 "KinkStreet" "streetCount" "I") (List.mem_of_getElem? (i := 1) rfl)) (fun _ h9 => h9) rfl dX11_order_20 ?_
    refine lv_icmp_ge (tgt := 79) hx hb dX11_order_23 (by decide) (fun _ => ?_) (fun c => absurd c (by decide))
    refine lv_bipush (v := (-2)) hx hb dX11_order_79 (by decide) ?_
    have hP9 := hP.sub (ws' := []) [] rfl
    have hD9 := hD.sub (ws' := []) [] (by decide) rfl
    have hK9 := hK.sub (tys' := []) [] rfl
    exact W.iret (v := (-2)) hx hb hr (fun t ht hW => ⟨⟨(-2), (), rfl, by first | rfl | ((repeat' split) <;> first | rfl | (exfalso; omega) | (exact Int32.toInt_inj.mp (by show ((-2) : Int) = _; omega))), by rw [ht]; exact hP9, va_K.moved hW.alike hK9, hD9⟩, hS.F ht⟩) hS.2.2 dX11_order_81
  · have t_1 : p0.toInt < (-1) := kk_nle c_1
    refine lv_iconst (v := (-1)) hx hb dX11_order_5 (by decide) ?_
    have hP9 := hP.sub (ws' := []) [] rfl
    have hD9 := hD.sub (ws' := []) [] (by decide) rfl
    have hK9 := hK.sub (tys' := []) [] rfl
    exact W.iret (v := (-1)) hx hb hr (fun t ht hW => ⟨⟨(-1), (), rfl, by first | rfl | ((repeat' split) <;> first | rfl | (exfalso; omega) | (exact Int32.toInt_inj.mp (by show ((-1) : Int) = _; omega))), by rw [ht]; exact hP9, va_K.moved hW.alike hK9, hD9⟩, hS.F ht⟩) hS.2.2 dX11_order_6
set_option maxHeartbeats 4000000 in
set_option maxRecDepth 100000 in
theorem k_X11_wall_0 (l : Launch) (dC : Nat → ClassId) (dI : Nat → Nat → Nat) (h0 h1 h2 h3 h4 h5 h6 h7 h8 h9 h10 h11 h12 : Nat) (sz : Nat) (p0 : Int32) (p1 : Int32) (p2 : Int32) : Met l yX11_wall wsX11_wall ({ frames := 1, cells := 0, slots := 0, locals := 21 }) (va_Pc [.ref h0, .int p0, .int p1, .int p2] (fun U => U.heap.size = sz ∧ va_P (dC, dI) vwCl [(h0, .inr (11, [.ref h1, .int 0, .ref h2, .ref h3, .ref h4, .ref h5, .ref h6, .ref h7, .ref h8, .ref h9, .ref h10, .int 0, .ref h11, .ref h12]))] U.heap ∧ va_K (dC, dI) vwCl [] U ∧ va_D (fun _ => True) [(h0, .inr (11, [.ref h1, .int 0, .ref h2, .ref h3, .ref h4, .ref h5, .ref h6, .ref h7, .ref h8, .ref h9, .ref h10, .int 0, .ref h11, .ref h12]))])) (va_Qi (fun (r : Int32) (_ : Unit) => r = -1) (fun (_ : Unit) t => va_P (dC, dI) vwCl [] t.heap ∧ va_K (dC, dI) vwCl [] t ∧ va_D (va_A [(h0, .inr (11, [.ref h1, .int 0, .ref h2, .ref h3, .ref h4, .ref h5, .ref h6, .ref h7, .ref h8, .ref h9, .ref h10, .int 0, .ref h11, .ref h12]))] sz) []) (va_A [(h0, .inr (11, [.ref h1, .int 0, .ref h2, .ref h3, .ref h4, .ref h5, .ref h6, .ref h7, .ref h8, .ref h9, .ref h10, .int 0, .ref h11, .ref h12]))] sz)) 0 0 (va_A [(h0, .inr (11, [.ref h1, .int 0, .ref h2, .ref h3, .ref h4, .ref h5, .ref h6, .ref h7, .ref h8, .ref h9, .ref h10, .int 0, .ref h11, .ref h12]))] sz) := by
  refine Met.ofW (cc := cX11_wall) (maxL := 6) (ret := (some .int)) (by decide) rfl ?_
  intro p e s m args below meth c s₁ B hml hv
  obtain ⟨rfl, hsz, hP, hK, hD0⟩ := hv
  have hx := B.exec
  have hb := B.bytes
  have hr := B.returns
  have hts := atoms_spec (ws := wsX11_wall) B.pre
  have hown : s.vm.findClass RX11 = some m.cls := findClass_of_methodNamed B.named
  have hlocks := B.notSynchronized
  subst hsz
  have hD := hD0.self (sz := s.heap.size)
  generalize hAe : va_A [(h0, .inr (11, [.ref h1, .int 0, .ref h2, .ref h3, .ref h4, .ref h5, .ref h6, .ref h7, .ref h8, .ref h9, .ref h10, .int 0, .ref h11, .ref h12]))] s.heap.size = A at hD ⊢
  have hA : ∀ q : Nat, s.heap.size ≤ q → A q := fun q h => by rw [← hAe]; exact Or.inr h
  have hS : va_S A s.heap s.heap [] := va_S.rf
  have hP : va_P (dC, dI) vwCl [(h0, .inr (11, [.ref h1, .int 0, .ref h2, .ref h3, .ref h4, .ref h5, .ref h6, .ref h7, .ref h8, .ref h9, .ref h10, .int 0, .ref h11, .ref h12]))] s.heap := hP
  have hl := lv_entry ([.ref h0, .int p0, .int p1, .int p2]) (n := 6) (Nat.le_of_ble_eq_true rfl)
  rw [lg_entry_eq]
  generalize (lg_sl ([.ref h0, .int p0, .int p1, .int p2]) ++ List.replicate (6 - (lg_sl ([.ref h0, .int p0, .int p1, .int p2])).length) Slot.unset).toArray = ls at hl ⊢
  have hl : lv_has ls 6 [(0, .ref h0), (1, .int p0), (2, .int p1), (3, .int p2)] := hl
  refine lv_aload_n hx hb dX11_wall_0 rfl (lv_at hl 0 rfl) ?_
  refine lv_iload_n hx hb dX11_wall_1 rfl (lv_at hl 1 rfl) ?_
  have hPc := hP.sub (ws' := [(h0, .inr (11, [.ref h1, .int 0, .ref h2, .ref h3, .ref h4, .ref h5, .ref h6, .ref h7, .ref h8, .ref h9, .ref h10, .int 0, .ref h11, .ref h12]))]) [0] rfl
  have hDc := hD.sub (ws' := [(h0, .inr (11, [.ref h1, .int 0, .ref h2, .ref h3, .ref h4, .ref h5, .ref h6, .ref h7, .ref h8, .ref h9, .ref h10, .int 0, .ref h11, .ref h12]))]) [0] (by decide) rfl
  have hKc := hK.sub (tys' := []) [] rfl
  have hFc := va_free (wc := [(h0, .inr (11, [.ref h1, .int 0, .ref h2, .ref h3, .ref h4, .ref h5, .ref h6, .ref h7, .ref h8, .ref h9, .ref h10, .int 0, .ref h11, .ref h12]))]) hD hS hA [0] rfl
  refine va_callq (va_runV (As := [.int p0]) (rest := []) ⟨hx, hb, hml, hown, hts⟩ (k_X11_knownStreet_0 l dC dI h0 h1 h2 h3 h4 h5 h6 h7 h8 h9 h10 h11 h12 s.heap.size p0) (cwV 1 hts gX11_wall_X11_knownStreet rfl rfl rfl (by decide +kernel) ⟨Nat.le_of_ble_eq_true rfl, Nat.le_of_ble_eq_true rfl⟩) ⟨fun a U g mk q => by obtain ⟨q0, q1, qP, qK, qD⟩ := q; exact ⟨q0, q1, qP, va_K.moved (u := U) (U := U.calling g mk a) (Vm.Alike.refl U.vm) qK, qD⟩, va_recv hKc hPc (ci := 11) (q0 := 0) rfl rfl, fun U hU hW => ⟨rfl, by rw [hU], by rw [hU]; exact hPc, va_K.moved hW.alike hKc, hDc.weaken (fun _ _ _ _ => trivial)⟩⟩ rfl rfl hl.1 rfl (lv_room (Nat.le_of_ble_eq_true rfl)) dX11_wall_2 ⟨Nat.le_of_ble_eq_true rfl, Nat.le_of_ble_eq_true rfl⟩) hS (fun q _ h => hFc q h) hFc (fun r_1 u t H1 locs ht hvm hw hB hz1 hk1 hS => ?_)
  obtain ⟨hP1, hK1, hD1⟩ := hB
  rw [ht] at hP1
  have hK1 := va_K.moved hvm.symm hK1
  obtain ⟨hP, hD⟩ := va_join (wr := []) (w1 := [(h0, .inr (11, [.ref h1, .int 0, .ref h2, .ref h3, .ref h4, .ref h5, .ref h6, .ref h7, .ref h8, .ref h9, .ref h10, .int 0, .ref h11, .ref h12]))]) hP hD [0] [] rfl rfl (by decide) (by decide) hk1 hFc hP1 hD1
  generalize H1 = H at hP hS ⊢
  have hP : va_P (dC, dI) vwCl [(h0, .inr (11, [.ref h1, .int 0, .ref h2, .ref h3, .ref h4, .ref h5, .ref h6, .ref h7, .ref h8, .ref h9, .ref h10, .int 0, .ref h11, .ref h12]))] H := hP
  have hD : va_D A [(h0, .inr (11, [.ref h1, .int 0, .ref h2, .ref h3, .ref h4, .ref h5, .ref h6, .ref h7, .ref h8, .ref h9, .ref h10, .int 0, .ref h11, .ref h12]))] := hD
  obtain rfl := hw
  refine W.eq (g2 := F0 m 5 ls [.null]) rfl ?_
  refine lv_astoreN (lv' := [(4, .null), (0, .ref h0), (1, .int p0), (2, .int p1), (3, .int p2)]) hx hb dX11_wall_5 hl (by decide) rfl (fun ls hl => ?_)
  refine lv_aloadN hx hb dX11_wall_7 (lv_at hl 0 rfl) ?_
  refine lv_ifnullN (tgt := 21) hx hb dX11_wall_9 (by decide) ?_
  refine lv_iconst (v := (-1)) hx hb dX11_wall_21 (by decide) ?_
  have hP9 := hP.sub (ws' := []) [] rfl
  have hD9 := hD.sub (ws' := []) [] (by decide) rfl
  have hK9 := hK.sub (tys' := []) [] rfl
  exact W.iret (v := (-1)) hx hb hr (fun t ht hW => ⟨⟨(-1), (), rfl, by first | rfl | ((repeat' split) <;> first | rfl | (exfalso; omega) | (exact Int32.toInt_inj.mp (by show ((-1) : Int) = _; omega))), by rw [ht]; exact hP9, va_K.moved hW.alike hK9, hD9⟩, hS.F ht⟩) hS.2.2 dX11_wall_22
set_option maxHeartbeats 4000000 in
set_option maxRecDepth 100000 in
theorem k_X11_furrow_0 (l : Launch) (dC : Nat → ClassId) (dI : Nat → Nat → Nat) (h0 h1 h2 h3 h4 h5 h6 h7 h8 h9 h10 h11 h12 : Nat) (sz : Nat) (p0 : Int32) : Met l yX11_furrow wsX11_furrow ({ frames := 1, cells := 0, slots := 0, locals := 21 }) (va_Pc [.ref h0, .int p0] (fun U => U.heap.size = sz ∧ va_P (dC, dI) vwCl [(h0, .inr (11, [.ref h1, .int 0, .ref h2, .ref h3, .ref h4, .ref h5, .ref h6, .ref h7, .ref h8, .ref h9, .ref h10, .int 0, .ref h11, .ref h12]))] U.heap ∧ va_K (dC, dI) vwCl [] U ∧ va_D (fun _ => True) [(h0, .inr (11, [.ref h1, .int 0, .ref h2, .ref h3, .ref h4, .ref h5, .ref h6, .ref h7, .ref h8, .ref h9, .ref h10, .int 0, .ref h11, .ref h12]))])) (va_Qi (fun (r : Int32) (_ : Unit) => r = -1) (fun (_ : Unit) t => va_P (dC, dI) vwCl [] t.heap ∧ va_K (dC, dI) vwCl [] t ∧ va_D (va_A [(h0, .inr (11, [.ref h1, .int 0, .ref h2, .ref h3, .ref h4, .ref h5, .ref h6, .ref h7, .ref h8, .ref h9, .ref h10, .int 0, .ref h11, .ref h12]))] sz) []) (va_A [(h0, .inr (11, [.ref h1, .int 0, .ref h2, .ref h3, .ref h4, .ref h5, .ref h6, .ref h7, .ref h8, .ref h9, .ref h10, .int 0, .ref h11, .ref h12]))] sz)) 0 0 (va_A [(h0, .inr (11, [.ref h1, .int 0, .ref h2, .ref h3, .ref h4, .ref h5, .ref h6, .ref h7, .ref h8, .ref h9, .ref h10, .int 0, .ref h11, .ref h12]))] sz) := by
  refine Met.ofW (cc := cX11_furrow) (maxL := 3) (ret := (some .int)) (by decide) rfl ?_
  intro p e s m args below meth c s₁ B hml hv
  obtain ⟨rfl, hsz, hP, hK, hD0⟩ := hv
  have hx := B.exec
  have hb := B.bytes
  have hr := B.returns
  have hts := atoms_spec (ws := wsX11_furrow) B.pre
  have hown : s.vm.findClass RX11 = some m.cls := findClass_of_methodNamed B.named
  have hlocks := B.notSynchronized
  subst hsz
  have hD := hD0.self (sz := s.heap.size)
  generalize hAe : va_A [(h0, .inr (11, [.ref h1, .int 0, .ref h2, .ref h3, .ref h4, .ref h5, .ref h6, .ref h7, .ref h8, .ref h9, .ref h10, .int 0, .ref h11, .ref h12]))] s.heap.size = A at hD ⊢
  have hA : ∀ q : Nat, s.heap.size ≤ q → A q := fun q h => by rw [← hAe]; exact Or.inr h
  have hS : va_S A s.heap s.heap [] := va_S.rf
  have hP : va_P (dC, dI) vwCl [(h0, .inr (11, [.ref h1, .int 0, .ref h2, .ref h3, .ref h4, .ref h5, .ref h6, .ref h7, .ref h8, .ref h9, .ref h10, .int 0, .ref h11, .ref h12]))] s.heap := hP
  have hl := lv_entry ([.ref h0, .int p0]) (n := 3) (Nat.le_of_ble_eq_true rfl)
  rw [lg_entry_eq]
  generalize (lg_sl ([.ref h0, .int p0]) ++ List.replicate (3 - (lg_sl ([.ref h0, .int p0])).length) Slot.unset).toArray = ls at hl ⊢
  have hl : lv_has ls 3 [(0, .ref h0), (1, .int p0)] := hl
  refine lv_aload_n hx hb dX11_furrow_0 rfl (lv_at hl 0 rfl) ?_
  refine lv_iload_n hx hb dX11_furrow_1 rfl (lv_at hl 1 rfl) ?_
  have hPc := hP.sub (ws' := [(h0, .inr (11, [.ref h1, .int 0, .ref h2, .ref h3, .ref h4, .ref h5, .ref h6, .ref h7, .ref h8, .ref h9, .ref h10, .int 0, .ref h11, .ref h12]))]) [0] rfl
  have hDc := hD.sub (ws' := [(h0, .inr (11, [.ref h1, .int 0, .ref h2, .ref h3, .ref h4, .ref h5, .ref h6, .ref h7, .ref h8, .ref h9, .ref h10, .int 0, .ref h11, .ref h12]))]) [0] (by decide) rfl
  have hKc := hK.sub (tys' := []) [] rfl
  have hFc := va_free (wc := [(h0, .inr (11, [.ref h1, .int 0, .ref h2, .ref h3, .ref h4, .ref h5, .ref h6, .ref h7, .ref h8, .ref h9, .ref h10, .int 0, .ref h11, .ref h12]))]) hD hS hA [0] rfl
  refine va_callq (va_runV (As := [.int p0]) (rest := []) ⟨hx, hb, hml, hown, hts⟩ (k_X11_knownStreet_0 l dC dI h0 h1 h2 h3 h4 h5 h6 h7 h8 h9 h10 h11 h12 s.heap.size p0) (cwV 1 hts gX11_furrow_X11_knownStreet rfl rfl rfl (by decide +kernel) ⟨Nat.le_of_ble_eq_true rfl, Nat.le_of_ble_eq_true rfl⟩) ⟨fun a U g mk q => by obtain ⟨q0, q1, qP, qK, qD⟩ := q; exact ⟨q0, q1, qP, va_K.moved (u := U) (U := U.calling g mk a) (Vm.Alike.refl U.vm) qK, qD⟩, va_recv hKc hPc (ci := 11) (q0 := 0) rfl rfl, fun U hU hW => ⟨rfl, by rw [hU], by rw [hU]; exact hPc, va_K.moved hW.alike hKc, hDc.weaken (fun _ _ _ _ => trivial)⟩⟩ rfl rfl hl.1 rfl (lv_room (Nat.le_of_ble_eq_true rfl)) dX11_furrow_2 ⟨Nat.le_of_ble_eq_true rfl, Nat.le_of_ble_eq_true rfl⟩) hS (fun q _ h => hFc q h) hFc (fun r_1 u t H1 locs ht hvm hw hB hz1 hk1 hS => ?_)
  obtain ⟨hP1, hK1, hD1⟩ := hB
  rw [ht] at hP1
  have hK1 := va_K.moved hvm.symm hK1
  obtain ⟨hP, hD⟩ := va_join (wr := []) (w1 := [(h0, .inr (11, [.ref h1, .int 0, .ref h2, .ref h3, .ref h4, .ref h5, .ref h6, .ref h7, .ref h8, .ref h9, .ref h10, .int 0, .ref h11, .ref h12]))]) hP hD [0] [] rfl rfl (by decide) (by decide) hk1 hFc hP1 hD1
  generalize H1 = H at hP hS ⊢
  have hP : va_P (dC, dI) vwCl [(h0, .inr (11, [.ref h1, .int 0, .ref h2, .ref h3, .ref h4, .ref h5, .ref h6, .ref h7, .ref h8, .ref h9, .ref h10, .int 0, .ref h11, .ref h12]))] H := hP
  have hD : va_D A [(h0, .inr (11, [.ref h1, .int 0, .ref h2, .ref h3, .ref h4, .ref h5, .ref h6, .ref h7, .ref h8, .ref h9, .ref h10, .int 0, .ref h11, .ref h12]))] := hD
  obtain rfl := hw
  refine W.eq (g2 := F0 m 5 ls [.null]) rfl ?_
  refine lv_astore_nN (lv' := [(2, .null), (0, .ref h0), (1, .int p0)]) hx hb dX11_furrow_5 rfl hl (by decide) rfl (fun ls hl => ?_)
  refine lv_aload_nN hx hb dX11_furrow_6 rfl (lv_at hl 0 rfl) ?_
  refine lv_ifnonnullN hx hb dX11_furrow_7 ?_
  refine lv_iconst (v := (-1)) hx hb dX11_furrow_10 (by decide) ?_
  refine lv_goto (tgt := 18) hx hb dX11_furrow_11 (by decide) ?_
  have hP9 := hP.sub (ws' := []) [] rfl
  have hD9 := hD.sub (ws' := []) [] (by decide) rfl
  have hK9 := hK.sub (tys' := []) [] rfl
  exact W.iret (v := (-1)) hx hb hr (fun t ht hW => ⟨⟨(-1), (), rfl, by first | rfl | ((repeat' split) <;> first | rfl | (exfalso; omega) | (exact Int32.toInt_inj.mp (by show ((-1) : Int) = _; omega))), by rw [ht]; exact hP9, va_K.moved hW.alike hK9, hD9⟩, hS.F ht⟩) hS.2.2 dX11_furrow_18
set_option maxHeartbeats 4000000 in
set_option maxRecDepth 100000 in
theorem k_X11_market_0 (l : Launch) (dC : Nat → ClassId) (dI : Nat → Nat → Nat) (h0 h1 h2 h3 h4 h5 h6 h7 h8 h9 h10 h11 h12 : Nat) (sz : Nat) (p0 : Int32) (p1 : Int32) : Met l yX11_market wsX11_market ({ frames := 1, cells := 0, slots := 0, locals := 21 }) (va_Pc [.ref h0, .int p0, .int p1] (fun U => U.heap.size = sz ∧ va_P (dC, dI) vwCl [(h0, .inr (11, [.ref h1, .int 0, .ref h2, .ref h3, .ref h4, .ref h5, .ref h6, .ref h7, .ref h8, .ref h9, .ref h10, .int 0, .ref h11, .ref h12]))] U.heap ∧ va_K (dC, dI) vwCl [] U ∧ va_D (fun _ => True) [(h0, .inr (11, [.ref h1, .int 0, .ref h2, .ref h3, .ref h4, .ref h5, .ref h6, .ref h7, .ref h8, .ref h9, .ref h10, .int 0, .ref h11, .ref h12]))])) (va_Qi (fun (r : Int32) (_ : Unit) => r = -1) (fun (_ : Unit) t => va_P (dC, dI) vwCl [] t.heap ∧ va_K (dC, dI) vwCl [] t ∧ va_D (va_A [(h0, .inr (11, [.ref h1, .int 0, .ref h2, .ref h3, .ref h4, .ref h5, .ref h6, .ref h7, .ref h8, .ref h9, .ref h10, .int 0, .ref h11, .ref h12]))] sz) []) (va_A [(h0, .inr (11, [.ref h1, .int 0, .ref h2, .ref h3, .ref h4, .ref h5, .ref h6, .ref h7, .ref h8, .ref h9, .ref h10, .int 0, .ref h11, .ref h12]))] sz)) 0 0 (va_A [(h0, .inr (11, [.ref h1, .int 0, .ref h2, .ref h3, .ref h4, .ref h5, .ref h6, .ref h7, .ref h8, .ref h9, .ref h10, .int 0, .ref h11, .ref h12]))] sz) := by
  refine Met.ofW (cc := cX11_market) (maxL := 5) (ret := (some .int)) (by decide) rfl ?_
  intro p e s m args below meth c s₁ B hml hv
  obtain ⟨rfl, hsz, hP, hK, hD0⟩ := hv
  have hx := B.exec
  have hb := B.bytes
  have hr := B.returns
  have hts := atoms_spec (ws := wsX11_market) B.pre
  have hown : s.vm.findClass RX11 = some m.cls := findClass_of_methodNamed B.named
  have hlocks := B.notSynchronized
  subst hsz
  have hD := hD0.self (sz := s.heap.size)
  generalize hAe : va_A [(h0, .inr (11, [.ref h1, .int 0, .ref h2, .ref h3, .ref h4, .ref h5, .ref h6, .ref h7, .ref h8, .ref h9, .ref h10, .int 0, .ref h11, .ref h12]))] s.heap.size = A at hD ⊢
  have hA : ∀ q : Nat, s.heap.size ≤ q → A q := fun q h => by rw [← hAe]; exact Or.inr h
  have hS : va_S A s.heap s.heap [] := va_S.rf
  have hP : va_P (dC, dI) vwCl [(h0, .inr (11, [.ref h1, .int 0, .ref h2, .ref h3, .ref h4, .ref h5, .ref h6, .ref h7, .ref h8, .ref h9, .ref h10, .int 0, .ref h11, .ref h12]))] s.heap := hP
  have hl := lv_entry ([.ref h0, .int p0, .int p1]) (n := 5) (Nat.le_of_ble_eq_true rfl)
  rw [lg_entry_eq]
  generalize (lg_sl ([.ref h0, .int p0, .int p1]) ++ List.replicate (5 - (lg_sl ([.ref h0, .int p0, .int p1])).length) Slot.unset).toArray = ls at hl ⊢
  have hl : lv_has ls 5 [(0, .ref h0), (1, .int p0), (2, .int p1)] := hl
  refine lv_aload_n hx hb dX11_market_0 rfl (lv_at hl 0 rfl) ?_
  refine lv_iload_n hx hb dX11_market_1 rfl (lv_at hl 1 rfl) ?_
  have hPc := hP.sub (ws' := [(h0, .inr (11, [.ref h1, .int 0, .ref h2, .ref h3, .ref h4, .ref h5, .ref h6, .ref h7, .ref h8, .ref h9, .ref h10, .int 0, .ref h11, .ref h12]))]) [0] rfl
  have hDc := hD.sub (ws' := [(h0, .inr (11, [.ref h1, .int 0, .ref h2, .ref h3, .ref h4, .ref h5, .ref h6, .ref h7, .ref h8, .ref h9, .ref h10, .int 0, .ref h11, .ref h12]))]) [0] (by decide) rfl
  have hKc := hK.sub (tys' := []) [] rfl
  have hFc := va_free (wc := [(h0, .inr (11, [.ref h1, .int 0, .ref h2, .ref h3, .ref h4, .ref h5, .ref h6, .ref h7, .ref h8, .ref h9, .ref h10, .int 0, .ref h11, .ref h12]))]) hD hS hA [0] rfl
  refine va_callq (va_runV (As := [.int p0]) (rest := []) ⟨hx, hb, hml, hown, hts⟩ (k_X11_knownStreet_0 l dC dI h0 h1 h2 h3 h4 h5 h6 h7 h8 h9 h10 h11 h12 s.heap.size p0) (cwV 1 hts gX11_market_X11_knownStreet rfl rfl rfl (by decide +kernel) ⟨Nat.le_of_ble_eq_true rfl, Nat.le_of_ble_eq_true rfl⟩) ⟨fun a U g mk q => by obtain ⟨q0, q1, qP, qK, qD⟩ := q; exact ⟨q0, q1, qP, va_K.moved (u := U) (U := U.calling g mk a) (Vm.Alike.refl U.vm) qK, qD⟩, va_recv hKc hPc (ci := 11) (q0 := 0) rfl rfl, fun U hU hW => ⟨rfl, by rw [hU], by rw [hU]; exact hPc, va_K.moved hW.alike hKc, hDc.weaken (fun _ _ _ _ => trivial)⟩⟩ rfl rfl hl.1 rfl (lv_room (Nat.le_of_ble_eq_true rfl)) dX11_market_2 ⟨Nat.le_of_ble_eq_true rfl, Nat.le_of_ble_eq_true rfl⟩) hS (fun q _ h => hFc q h) hFc (fun r_1 u t H1 locs ht hvm hw hB hz1 hk1 hS => ?_)
  obtain ⟨hP1, hK1, hD1⟩ := hB
  rw [ht] at hP1
  have hK1 := va_K.moved hvm.symm hK1
  obtain ⟨hP, hD⟩ := va_join (wr := []) (w1 := [(h0, .inr (11, [.ref h1, .int 0, .ref h2, .ref h3, .ref h4, .ref h5, .ref h6, .ref h7, .ref h8, .ref h9, .ref h10, .int 0, .ref h11, .ref h12]))]) hP hD [0] [] rfl rfl (by decide) (by decide) hk1 hFc hP1 hD1
  generalize H1 = H at hP hS ⊢
  have hP : va_P (dC, dI) vwCl [(h0, .inr (11, [.ref h1, .int 0, .ref h2, .ref h3, .ref h4, .ref h5, .ref h6, .ref h7, .ref h8, .ref h9, .ref h10, .int 0, .ref h11, .ref h12]))] H := hP
  have hD : va_D A [(h0, .inr (11, [.ref h1, .int 0, .ref h2, .ref h3, .ref h4, .ref h5, .ref h6, .ref h7, .ref h8, .ref h9, .ref h10, .int 0, .ref h11, .ref h12]))] := hD
  obtain rfl := hw
  refine W.eq (g2 := F0 m 5 ls [.null]) rfl ?_
  refine lv_astore_nN (lv' := [(3, .null), (0, .ref h0), (1, .int p0), (2, .int p1)]) hx hb dX11_market_5 rfl hl (by decide) rfl (fun ls hl => ?_)
  refine lv_aload_nN hx hb dX11_market_6 rfl (lv_at hl 0 rfl) ?_
  refine lv_ifnullN (tgt := 18) hx hb dX11_market_7 (by decide) ?_
  refine lv_iconst (v := (-1)) hx hb dX11_market_18 (by decide) ?_
  have hP9 := hP.sub (ws' := []) [] rfl
  have hD9 := hD.sub (ws' := []) [] (by decide) rfl
  have hK9 := hK.sub (tys' := []) [] rfl
  exact W.iret (v := (-1)) hx hb hr (fun t ht hW => ⟨⟨(-1), (), rfl, by first | rfl | ((repeat' split) <;> first | rfl | (exfalso; omega) | (exact Int32.toInt_inj.mp (by show ((-1) : Int) = _; omega))), by rw [ht]; exact hP9, va_K.moved hW.alike hK9, hD9⟩, hS.F ht⟩) hS.2.2 dX11_market_19
set_option maxHeartbeats 4000000 in
set_option maxRecDepth 100000 in
theorem k_X2_isName_0 (l : Launch) (dC : Nat → ClassId) (dI : Nat → Nat → Nat) (sz : Nat) (p0 : Int32) : Met l yX2_isName wsX2_isName ({ frames := 0, cells := 0, slots := 0, locals := 0 }) (va_Pc [.int p0] (fun U => U.heap.size = sz ∧ va_P (dC, dI) vwCl [] U.heap ∧ va_K (dC, dI) vwCl [] U ∧ va_D (fun _ => True) [])) (va_Qi (fun (r : Int32) (_ : Unit) => (p0.toInt < 0 ∧ r = 0) ∨ (0 ≤ p0.toInt ∧ 8 ≤ p0.toInt ∧ r = 0) ∨ (0 ≤ p0.toInt ∧ p0.toInt < 8 ∧ r = 1)) (fun (_ : Unit) t => va_P (dC, dI) vwCl [] t.heap ∧ va_K (dC, dI) vwCl [] t ∧ va_D (va_A [] sz) []) (va_A [] sz)) 0 0 (va_A [] sz) := by
  refine Met.ofW (cc := cX2_isName) (maxL := 1) (ret := (some .boolean)) (by decide) rfl ?_
  intro p e s m args below meth c s₁ B hml hv
  obtain ⟨rfl, hsz, hP, hK, hD0⟩ := hv
  have hx := B.exec
  have hb := B.bytes
  have hr := B.returns
  have hts := atoms_spec (ws := wsX2_isName) B.pre
  have hown : s.vm.findClass RX2 = some m.cls := findClass_of_methodNamed B.named
  have hlocks := B.notSynchronized
  subst hsz
  have hD := hD0.self (sz := s.heap.size)
  generalize hAe : va_A [] s.heap.size = A at hD ⊢
  have hA : ∀ q : Nat, s.heap.size ≤ q → A q := fun q h => by rw [← hAe]; exact Or.inr h
  have hS : va_S A s.heap s.heap [] := va_S.rf
  have hP : va_P (dC, dI) vwCl [] s.heap := hP
  have hl := lv_entry ([.int p0]) (n := 1) (Nat.le_of_ble_eq_true rfl)
  rw [lg_entry_eq]
  generalize (lg_sl ([.int p0]) ++ List.replicate (1 - (lg_sl ([.int p0])).length) Slot.unset).toArray = ls at hl ⊢
  have hl : lv_has ls 1 [(0, .int p0)] := hl
  refine lv_iload_n hx hb dX2_isName_0 rfl (lv_at hl 0 rfl) ?_
  refine lv_if_lt (tgt := 14) hx hb dX2_isName_1 (by decide) (fun c_1 => ?_) (fun c_1 => ?_)
  · have t_1 : p0.toInt < 0 := kk_lt c_1
    refine lv_iconst (v := 0) hx hb dX2_isName_14 (by decide) ?_
    have hP9 := hP.sub (ws' := []) [] rfl
    have hD9 := hD.sub (ws' := []) [] (by decide) rfl
    have hK9 := hK.sub (tys' := []) [] rfl
    exact W.zret (v := 0) hx hb hr rfl (fun t ht hW => ⟨⟨0, (), rfl, Or.inl ⟨by first | assumption | omega, rfl⟩, by rw [ht]; exact hP9, va_K.moved hW.alike hK9, hD9⟩, hS.F ht⟩) hS.2.2 dX2_isName_15
  · have t_1 : 0 ≤ p0.toInt := kk_nlt c_1
    refine lv_iload_n hx hb dX2_isName_4 rfl (lv_at hl 0 rfl) ?_
    refine lv_bipush (v := 8) hx hb dX2_isName_5 (by decide) ?_
    refine lv_icmp_ge (tgt := 14) hx hb dX2_isName_7 (by decide) (fun c_2 => ?_) (fun c_2 => ?_)
    · have t_2 : 8 ≤ p0.toInt := kk_le c_2
      refine lv_iconst (v := 0) hx hb dX2_isName_14 (by decide) ?_
      have hP9 := hP.sub (ws' := []) [] rfl
      have hD9 := hD.sub (ws' := []) [] (by decide) rfl
      have hK9 := hK.sub (tys' := []) [] rfl
      exact W.zret (v := 0) hx hb hr rfl (fun t ht hW => ⟨⟨0, (), rfl, Or.inr (Or.inl ⟨by first | assumption | omega, by first | assumption | omega, rfl⟩), by rw [ht]; exact hP9, va_K.moved hW.alike hK9, hD9⟩, hS.F ht⟩) hS.2.2 dX2_isName_15
    · have t_2 : p0.toInt < 8 := kk_nle c_2
      refine lv_iconst (v := 1) hx hb dX2_isName_10 (by decide) ?_
      refine lv_goto (tgt := 15) hx hb dX2_isName_11 (by decide) ?_
      have hP9 := hP.sub (ws' := []) [] rfl
      have hD9 := hD.sub (ws' := []) [] (by decide) rfl
      have hK9 := hK.sub (tys' := []) [] rfl
      exact W.zret (v := 1) hx hb hr rfl (fun t ht hW => ⟨⟨1, (), rfl, Or.inr (Or.inr (⟨by first | assumption | omega, by first | assumption | omega, rfl⟩)), by rw [ht]; exact hP9, va_K.moved hW.alike hK9, hD9⟩, hS.F ht⟩) hS.2.2 dX2_isName_15
set_option maxHeartbeats 4000000 in
set_option maxRecDepth 100000 in
theorem k_X2_isFull_0 (l : Launch) (dC : Nat → ClassId) (dI : Nat → Nat → Nat) (h0 h1 h2 h3 h4 h5 h6 h7 h8 h9 : Nat) (sz : Nat)  : Met l yX2_isFull wsX2_isFull ({ frames := 0, cells := 0, slots := 0, locals := 0 }) (va_Pc [.ref h0] (fun U => U.heap.size = sz ∧ va_P (dC, dI) vwCl [(h0, .inr (2, [.ref h1, .ref h2, .ref h3, .int 0, .ref h4, .int 0, .int 0, .ref h5, .ref h6, .ref h7, .ref h8, .ref h9, .int 0]))] U.heap ∧ va_K (dC, dI) vwCl [] U ∧ va_D (fun _ => True) [(h0, .inr (2, [.ref h1, .ref h2, .ref h3, .int 0, .ref h4, .int 0, .int 0, .ref h5, .ref h6, .ref h7, .ref h8, .ref h9, .int 0]))])) (va_Qi (fun (r : Int32) (_ : Unit) => r = 0) (fun (_ : Unit) t => va_P (dC, dI) vwCl [(h0, .inr (2, [.ref h1, .ref h2, .ref h3, .int 0, .ref h4, .int 0, .int 0, .ref h5, .ref h6, .ref h7, .ref h8, .ref h9, .int 0]))] t.heap ∧ va_K (dC, dI) vwCl [] t ∧ va_D (va_A [(h0, .inr (2, [.ref h1, .ref h2, .ref h3, .int 0, .ref h4, .int 0, .int 0, .ref h5, .ref h6, .ref h7, .ref h8, .ref h9, .int 0]))] sz) [(h0, .inr (2, [.ref h1, .ref h2, .ref h3, .int 0, .ref h4, .int 0, .int 0, .ref h5, .ref h6, .ref h7, .ref h8, .ref h9, .int 0]))]) (va_A [(h0, .inr (2, [.ref h1, .ref h2, .ref h3, .int 0, .ref h4, .int 0, .int 0, .ref h5, .ref h6, .ref h7, .ref h8, .ref h9, .int 0]))] sz)) 0 0 (va_A [(h0, .inr (2, [.ref h1, .ref h2, .ref h3, .int 0, .ref h4, .int 0, .int 0, .ref h5, .ref h6, .ref h7, .ref h8, .ref h9, .int 0]))] sz) := by
  refine Met.ofW (cc := cX2_isFull) (maxL := 1) (ret := (some .boolean)) (by decide) rfl ?_
  intro p e s m args below meth c s₁ B hml hv
  obtain ⟨rfl, hsz, hP, hK, hD0⟩ := hv
  have hx := B.exec
  have hb := B.bytes
  have hr := B.returns
  have hts := atoms_spec (ws := wsX2_isFull) B.pre
  have hown : s.vm.findClass RX2 = some m.cls := findClass_of_methodNamed B.named
  have hlocks := B.notSynchronized
  subst hsz
  have hD := hD0.self (sz := s.heap.size)
  generalize hAe : va_A [(h0, .inr (2, [.ref h1, .ref h2, .ref h3, .int 0, .ref h4, .int 0, .int 0, .ref h5, .ref h6, .ref h7, .ref h8, .ref h9, .int 0]))] s.heap.size = A at hD ⊢
  have hA : ∀ q : Nat, s.heap.size ≤ q → A q := fun q h => by rw [← hAe]; exact Or.inr h
  have hS : va_S A s.heap s.heap [] := va_S.rf
  have hP : va_P (dC, dI) vwCl [(h0, .inr (2, [.ref h1, .ref h2, .ref h3, .int 0, .ref h4, .int 0, .int 0, .ref h5, .ref h6, .ref h7, .ref h8, .ref h9, .int 0]))] s.heap := hP
  have hl := lv_entry ([.ref h0]) (n := 1) (Nat.le_of_ble_eq_true rfl)
  rw [lg_entry_eq]
  generalize (lg_sl ([.ref h0]) ++ List.replicate (1 - (lg_sl ([.ref h0])).length) Slot.unset).toArray = ls at hl ⊢
  have hl : lv_has ls 1 [(0, .ref h0)] := hl
  refine lv_aload_n hx hb dX2_isFull_0 rfl (lv_at hl 0 rfl) ?_
  refine va_get (D := (dC, dI)) (ci := 2) (v := .int 0) (C := RX2) (T := TX2) (N := 13) hx hb hts (fun _ h => List.mem_cons_of_mem _ (List.mem_append_right _ h)) hown hK hP 0 rfl rfl 3 (by decide) (hts (.fieldLink RX2 41 "KinkStreet$Deeds" "size" "I") (List.mem_of_getElem? (i := 1) rfl)) (fun _ h9 => h9) rfl dX2_isFull_1 ?_
  refine lv_bipush (v := 10) hx hb dX2_isFull_4 (by decide) ?_
  refine lv_icmp_lt (tgt := 13) hx hb dX2_isFull_6 (by decide) (fun _ => ?_) (fun c => absurd c (by decide))
  refine lv_iconst (v := 0) hx hb dX2_isFull_13 (by decide) ?_
  have hP9 := hP.sub (ws' := [(h0, .inr (2, [.ref h1, .ref h2, .ref h3, .int 0, .ref h4, .int 0, .int 0, .ref h5, .ref h6, .ref h7, .ref h8, .ref h9, .int 0]))]) [0] rfl
  have hD9 := hD.sub (ws' := [(h0, .inr (2, [.ref h1, .ref h2, .ref h3, .int 0, .ref h4, .int 0, .int 0, .ref h5, .ref h6, .ref h7, .ref h8, .ref h9, .int 0]))]) [0] (by decide) rfl
  have hK9 := hK.sub (tys' := []) [] rfl
  exact W.zret (v := 0) hx hb hr rfl (fun t ht hW => ⟨⟨0, (), rfl, rfl, by rw [ht]; exact hP9, va_K.moved hW.alike hK9, hD9⟩, hS.F ht⟩) hS.2.2 dX2_isFull_14
set_option maxHeartbeats 4000000 in
set_option maxRecDepth 100000 in
theorem k_X2_write_0 (l : Launch) (dC : Nat → ClassId) (dI : Nat → Nat → Nat) (h0 h1 h2 h3 h4 h5 h6 h7 h8 h9 : Nat) (cint : ClassId) (sz : Nat) (p0 : Int32) (p1 : Int32) (p2 : Int32) : Met l yX2_write wsX2_write ({ frames := 1, cells := 0, slots := 0, locals := 20 }) (va_Pc [.ref h0, .int p0, .int p1, .int p2] (fun U => U.heap.size = sz ∧ va_P (dC, dI) vwCl [(h0, .inr (2, [.ref h1, .ref h2, .ref h3, .int 0, .ref h4, .int 0, .int 0, .ref h5, .ref h6, .ref h7, .ref h8, .ref h9, .int 0])), (h1, .inl (cint, 10, .inl (fun _ => 0))), (h2, .inl (cint, 10, .inl (fun _ => 0))), (h3, .inl (cint, 10, .inl (fun _ => 0)))] U.heap ∧ va_K (dC, dI) vwCl [(cint, .int)] U ∧ va_D (fun _ => True) [(h0, .inr (2, [.ref h1, .ref h2, .ref h3, .int 0, .ref h4, .int 0, .int 0, .ref h5, .ref h6, .ref h7, .ref h8, .ref h9, .int 0])), (h1, .inl (cint, 10, .inl (fun _ => 0))), (h2, .inl (cint, 10, .inl (fun _ => 0))), (h3, .inl (cint, 10, .inl (fun _ => 0)))])) (va_Qi (fun (r : Int32) (_ : Unit) => r = 1) (fun (_ : Unit) t => va_P (dC, dI) vwCl [] t.heap ∧ va_K (dC, dI) vwCl [] t ∧ va_D (va_A [(h0, .inr (2, [.ref h1, .ref h2, .ref h3, .int 0, .ref h4, .int 0, .int 0, .ref h5, .ref h6, .ref h7, .ref h8, .ref h9, .int 0])), (h1, .inl (cint, 10, .inl (fun _ => 0))), (h2, .inl (cint, 10, .inl (fun _ => 0))), (h3, .inl (cint, 10, .inl (fun _ => 0)))] sz) []) (va_A [(h0, .inr (2, [.ref h1, .ref h2, .ref h3, .int 0, .ref h4, .int 0, .int 0, .ref h5, .ref h6, .ref h7, .ref h8, .ref h9, .int 0])), (h1, .inl (cint, 10, .inl (fun _ => 0))), (h2, .inl (cint, 10, .inl (fun _ => 0))), (h3, .inl (cint, 10, .inl (fun _ => 0)))] sz)) 0 0 (va_A [(h0, .inr (2, [.ref h1, .ref h2, .ref h3, .int 0, .ref h4, .int 0, .int 0, .ref h5, .ref h6, .ref h7, .ref h8, .ref h9, .int 0])), (h1, .inl (cint, 10, .inl (fun _ => 0))), (h2, .inl (cint, 10, .inl (fun _ => 0))), (h3, .inl (cint, 10, .inl (fun _ => 0)))] sz) := by
  refine Met.ofW (cc := cX2_write) (maxL := 4) (ret := (some .int)) (by decide) rfl ?_
  intro p e s m args below meth c s₁ B hml hv
  obtain ⟨rfl, hsz, hP, hK, hD0⟩ := hv
  have hx := B.exec
  have hb := B.bytes
  have hr := B.returns
  have hts := atoms_spec (ws := wsX2_write) B.pre
  have hown : s.vm.findClass RX2 = some m.cls := findClass_of_methodNamed B.named
  have hlocks := B.notSynchronized
  subst hsz
  have hD := hD0.self (sz := s.heap.size)
  generalize hAe : va_A [(h0, .inr (2, [.ref h1, .ref h2, .ref h3, .int 0, .ref h4, .int 0, .int 0, .ref h5, .ref h6, .ref h7, .ref h8, .ref h9, .int 0])), (h1, .inl (cint, 10, .inl (fun _ => 0))), (h2, .inl (cint, 10, .inl (fun _ => 0))), (h3, .inl (cint, 10, .inl (fun _ => 0)))] s.heap.size = A at hD ⊢
  have hA : ∀ q : Nat, s.heap.size ≤ q → A q := fun q h => by rw [← hAe]; exact Or.inr h
  have hS : va_S A s.heap s.heap [] := va_S.rf
  have hP : va_P (dC, dI) vwCl [(h0, .inr (2, [.ref h1, .ref h2, .ref h3, .int 0, .ref h4, .int 0, .int 0, .ref h5, .ref h6, .ref h7, .ref h8, .ref h9, .int 0])), (h1, .inl (cint, 10, .inl (fun _ => 0))), (h2, .inl (cint, 10, .inl (fun _ => 0))), (h3, .inl (cint, 10, .inl (fun _ => 0)))] s.heap := hP
  have hl := lv_entry ([.ref h0, .int p0, .int p1, .int p2]) (n := 4) (Nat.le_of_ble_eq_true rfl)
  rw [lg_entry_eq]
  generalize (lg_sl ([.ref h0, .int p0, .int p1, .int p2]) ++ List.replicate (4 - (lg_sl ([.ref h0, .int p0, .int p1, .int p2])).length) Slot.unset).toArray = ls at hl ⊢
  have hl : lv_has ls 4 [(0, .ref h0), (1, .int p0), (2, .int p1), (3, .int p2)] := hl
  refine lv_aload_n hx hb dX2_write_0 rfl (lv_at hl 0 rfl) ?_
  have hPc := hP.sub (ws' := [(h0, .inr (2, [.ref h1, .ref h2, .ref h3, .int 0, .ref h4, .int 0, .int 0, .ref h5, .ref h6, .ref h7, .ref h8, .ref h9, .int 0]))]) [0] rfl
  have hDc := hD.sub (ws' := [(h0, .inr (2, [.ref h1, .ref h2, .ref h3, .int 0, .ref h4, .int 0, .int 0, .ref h5, .ref h6, .ref h7, .ref h8, .ref h9, .int 0]))]) [0] (by decide) rfl
  have hKc := hK.sub (tys' := []) [] rfl
  have hFc := va_free (wc := [(h0, .inr (2, [.ref h1, .ref h2, .ref h3, .int 0, .ref h4, .int 0, .int 0, .ref h5, .ref h6, .ref h7, .ref h8, .ref h9, .int 0]))]) hD hS hA [0] rfl
  refine va_calli (va_runV (As := []) (rest := []) ⟨hx, hb, hml, hown, hts⟩ (k_X2_isFull_0 l dC dI h0 h1 h2 h3 h4 h5 h6 h7 h8 h9 s.heap.size) (cwV 0 hts gX2_write_X2_isFull rfl rfl rfl (by decide +kernel) ⟨Nat.le_of_ble_eq_true rfl, Nat.le_of_ble_eq_true rfl⟩) ⟨fun a U g mk q => by obtain ⟨q0, q1, qP, qK, qD⟩ := q; exact ⟨q0, q1, qP, va_K.moved (u := U) (U := U.calling g mk a) (Vm.Alike.refl U.vm) qK, qD⟩, va_recv hKc hPc (ci := 2) (q0 := 0) rfl rfl, fun U hU hW => ⟨rfl, by rw [hU], by rw [hU]; exact hPc, va_K.moved hW.alike hKc, hDc.weaken (fun _ _ _ _ => trivial)⟩⟩ rfl rfl hl.1 rfl (lv_room (Nat.le_of_ble_eq_true rfl)) dX2_write_1 ⟨Nat.le_of_ble_eq_true rfl, Nat.le_of_ble_eq_true rfl⟩) hS (fun q _ h => hFc q h) hFc (fun r_1 u t H1 locs ht hvm hw hB hz1 hk1 hS => ?_)
  obtain ⟨hP1, hK1, hD1⟩ := hB
  rw [ht] at hP1
  have hK1 := va_K.moved hvm.symm hK1
  obtain ⟨hP, hD⟩ := va_join (wr := [(h1, .inl (cint, 10, .inl (fun _ => 0))), (h2, .inl (cint, 10, .inl (fun _ => 0))), (h3, .inl (cint, 10, .inl (fun _ => 0)))]) (w1 := [(h0, .inr (2, [.ref h1, .ref h2, .ref h3, .int 0, .ref h4, .int 0, .int 0, .ref h5, .ref h6, .ref h7, .ref h8, .ref h9, .int 0]))]) hP hD [0] [1, 2, 3] rfl rfl (by decide) (by decide) hk1 hFc hP1 hD1
  generalize H1 = H at hP hS ⊢
  have hP : va_P (dC, dI) vwCl [(h1, .inl (cint, 10, .inl (fun _ => 0))), (h2, .inl (cint, 10, .inl (fun _ => 0))), (h3, .inl (cint, 10, .inl (fun _ => 0))), (h0, .inr (2, [.ref h1, .ref h2, .ref h3, .int 0, .ref h4, .int 0, .int 0, .ref h5, .ref h6, .ref h7, .ref h8, .ref h9, .int 0]))] H := hP
  have hD : va_D A [(h1, .inl (cint, 10, .inl (fun _ => 0))), (h2, .inl (cint, 10, .inl (fun _ => 0))), (h3, .inl (cint, 10, .inl (fun _ => 0))), (h0, .inr (2, [.ref h1, .ref h2, .ref h3, .int 0, .ref h4, .int 0, .int 0, .ref h5, .ref h6, .ref h7, .ref h8, .ref h9, .int 0]))] := hD
  obtain rfl := hw
  refine lv_if_ne (tgt := 47) hx hb dX2_write_4 (by decide) (fun c => absurd c (by decide)) (fun _ => ?_)
  refine lv_aload_n hx hb dX2_write_7 rfl (lv_at hl 0 rfl) ?_
  refine va_get (D := (dC, dI)) (ci := 2) (v := .ref h1) (C := RX2) (T := TX2) (N := 13) hx hb hts (fun _ h => List.mem_cons_of_mem _ (List.mem_append_right _ h)) hown hK hP 3 rfl rfl 0 (by decide) (hts (.fieldLink RX2 11 "KinkStreet$Deeds" "ones" "[I") (List.mem_of_getElem? (i := 1) rfl)) (fun _ h9 => h9) rfl dX2_write_8 ?_
  refine lv_aload_n hx hb dX2_write_11 rfl (lv_at hl 0 rfl) ?_
  refine va_get (D := (dC, dI)) (ci := 2) (v := .int 0) (C := RX2) (T := TX2) (N := 13) hx hb hts (fun _ h => List.mem_cons_of_mem _ (List.mem_append_right _ h)) hown hK hP 3 rfl rfl 3 (by decide) (hts (.fieldLink RX2 41 "KinkStreet$Deeds" "size" "I") (List.mem_of_getElem? (i := 2) rfl)) (fun _ h9 => h9) rfl dX2_write_12 ?_
  refine lv_iload_n hx hb dX2_write_15 rfl (lv_at hl 1 rfl) ?_
  refine va_iast hx hb hK hP hD hS 0 0 rfl rfl (by unfold vp_in; decide) dX2_write_16 (fun H locs hP hD hS => ?_)
  have hP : va_P (dC, dI) vwCl [(h1, .inl (cint, 10, .inl (upd (fun _ => 0) (0 : Int32).toNatClampNeg p0))), (h2, .inl (cint, 10, .inl (fun _ => 0))), (h3, .inl (cint, 10, .inl (fun _ => 0))), (h0, .inr (2, [.ref h1, .ref h2, .ref h3, .int 0, .ref h4, .int 0, .int 0, .ref h5, .ref h6, .ref h7, .ref h8, .ref h9, .int 0]))] H := hP
  have hD : va_D A [(h1, .inl (cint, 10, .inl (upd (fun _ => 0) (0 : Int32).toNatClampNeg p0))), (h2, .inl (cint, 10, .inl (fun _ => 0))), (h3, .inl (cint, 10, .inl (fun _ => 0))), (h0, .inr (2, [.ref h1, .ref h2, .ref h3, .int 0, .ref h4, .int 0, .int 0, .ref h5, .ref h6, .ref h7, .ref h8, .ref h9, .int 0]))] := hD
  refine lv_aload_n hx hb dX2_write_17 rfl (lv_at hl 0 rfl) ?_
  refine va_get (D := (dC, dI)) (ci := 2) (v := .ref h2) (C := RX2) (T := TX2) (N := 13) hx hb hts (fun _ h => List.mem_cons_of_mem _ (List.mem_append_right _ h)) hown hK hP 3 rfl rfl 1 (by decide) (hts (.fieldLink RX2 15 "KinkStreet$Deeds" "others" "[I") (List.mem_of_getElem? (i := 3) rfl)) (fun _ h9 => h9) rfl dX2_write_18 ?_
  refine lv_aload_n hx hb dX2_write_21 rfl (lv_at hl 0 rfl) ?_
  refine va_get (D := (dC, dI)) (ci := 2) (v := .int 0) (C := RX2) (T := TX2) (N := 13) hx hb hts (fun _ h => List.mem_cons_of_mem _ (List.mem_append_right _ h)) hown hK hP 3 rfl rfl 3 (by decide) (hts (.fieldLink RX2 41 "KinkStreet$Deeds" "size" "I") (List.mem_of_getElem? (i := 2) rfl)) (fun _ h9 => h9) rfl dX2_write_22 ?_
  refine lv_iload_n hx hb dX2_write_25 rfl (lv_at hl 2 rfl) ?_
  refine va_iast hx hb hK hP hD hS 1 0 rfl rfl (by unfold vp_in; decide) dX2_write_26 (fun H locs hP hD hS => ?_)
  have hP : va_P (dC, dI) vwCl [(h1, .inl (cint, 10, .inl (upd (fun _ => 0) (0 : Int32).toNatClampNeg p0))), (h2, .inl (cint, 10, .inl (upd (fun _ => 0) (0 : Int32).toNatClampNeg p1))), (h3, .inl (cint, 10, .inl (fun _ => 0))), (h0, .inr (2, [.ref h1, .ref h2, .ref h3, .int 0, .ref h4, .int 0, .int 0, .ref h5, .ref h6, .ref h7, .ref h8, .ref h9, .int 0]))] H := hP
  have hD : va_D A [(h1, .inl (cint, 10, .inl (upd (fun _ => 0) (0 : Int32).toNatClampNeg p0))), (h2, .inl (cint, 10, .inl (upd (fun _ => 0) (0 : Int32).toNatClampNeg p1))), (h3, .inl (cint, 10, .inl (fun _ => 0))), (h0, .inr (2, [.ref h1, .ref h2, .ref h3, .int 0, .ref h4, .int 0, .int 0, .ref h5, .ref h6, .ref h7, .ref h8, .ref h9, .int 0]))] := hD
  refine lv_aload_n hx hb dX2_write_27 rfl (lv_at hl 0 rfl) ?_
  refine va_get (D := (dC, dI)) (ci := 2) (v := .ref h3) (C := RX2) (T := TX2) (N := 13) hx hb hts (fun _ h => List.mem_cons_of_mem _ (List.mem_append_right _ h)) hown hK hP 3 rfl rfl 2 (by decide) (hts (.fieldLink RX2 18 "KinkStreet$Deeds" "tolds" "[I") (List.mem_of_getElem? (i := 4) rfl)) (fun _ h9 => h9) rfl dX2_write_28 ?_
  refine lv_aload_n hx hb dX2_write_31 rfl (lv_at hl 0 rfl) ?_
  refine va_get (D := (dC, dI)) (ci := 2) (v := .int 0) (C := RX2) (T := TX2) (N := 13) hx hb hts (fun _ h => List.mem_cons_of_mem _ (List.mem_append_right _ h)) hown hK hP 3 rfl rfl 3 (by decide) (hts (.fieldLink RX2 41 "KinkStreet$Deeds" "size" "I") (List.mem_of_getElem? (i := 2) rfl)) (fun _ h9 => h9) rfl dX2_write_32 ?_
  refine lv_iload_n hx hb dX2_write_35 rfl (lv_at hl 3 rfl) ?_
  refine va_iast hx hb hK hP hD hS 2 0 rfl rfl (by unfold vp_in; decide) dX2_write_36 (fun H locs hP hD hS => ?_)
  have hP : va_P (dC, dI) vwCl [(h1, .inl (cint, 10, .inl (upd (fun _ => 0) (0 : Int32).toNatClampNeg p0))), (h2, .inl (cint, 10, .inl (upd (fun _ => 0) (0 : Int32).toNatClampNeg p1))), (h3, .inl (cint, 10, .inl (upd (fun _ => 0) (0 : Int32).toNatClampNeg p2))), (h0, .inr (2, [.ref h1, .ref h2, .ref h3, .int 0, .ref h4, .int 0, .int 0, .ref h5, .ref h6, .ref h7, .ref h8, .ref h9, .int 0]))] H := hP
  have hD : va_D A [(h1, .inl (cint, 10, .inl (upd (fun _ => 0) (0 : Int32).toNatClampNeg p0))), (h2, .inl (cint, 10, .inl (upd (fun _ => 0) (0 : Int32).toNatClampNeg p1))), (h3, .inl (cint, 10, .inl (upd (fun _ => 0) (0 : Int32).toNatClampNeg p2))), (h0, .inr (2, [.ref h1, .ref h2, .ref h3, .int 0, .ref h4, .int 0, .int 0, .ref h5, .ref h6, .ref h7, .ref h8, .ref h9, .int 0]))] := hD
  refine lv_aload_n hx hb dX2_write_37 rfl (lv_at hl 0 rfl) ?_
  refine lv_dup hx hb dX2_write_38 rfl ?_
  refine va_get (D := (dC, dI)) (ci := 2) (v := .int 0) (C := RX2) (T := TX2) (N := 13) hx hb hts (fun _ h => List.mem_cons_of_mem _ (List.mem_append_right _ h)) hown hK hP 3 rfl rfl 3 (by decide) (hts (.fieldLink RX2 41 "KinkStreet$Deeds" "size" "I") (List.mem_of_getElem? (i := 2) rfl)) (fun _ h9 => h9) rfl dX2_write_39 ?_
  refine lv_iconst (v := 1) hx hb dX2_write_42 (by decide) ?_
  refine lv_iadd hx hb dX2_write_43 ?_
  refine lv_topi (fun y_2 e_2 => ?_)
  obtain rfl : y_2 = 1 := e_2.trans (by decide)
  refine va_put (D := (dC, dI)) (ci := 2) (v := .int 1) (ty := .int) (C := RX2) (T := TX2) (N := 13) hx hb hts (fun _ h => List.mem_cons_of_mem _ (List.mem_append_right _ h)) tyX2 tyX2_ok nmX2 hown hK hP hD hS 3 rfl rfl 3 (by decide) (hts (.fieldLink RX2 41 "KinkStreet$Deeds" "size" "I") (List.mem_of_getElem? (i := 2) rfl)) (fun _ h9 => h9) rfl (by decide +kernel) rfl rfl (Nat.le_of_ble_eq_true rfl) dX2_write_44 (fun H locs hP hD hS => ?_)
  have hP : va_P (dC, dI) vwCl [(h1, .inl (cint, 10, .inl (upd (fun _ => 0) (0 : Int32).toNatClampNeg p0))), (h2, .inl (cint, 10, .inl (upd (fun _ => 0) (0 : Int32).toNatClampNeg p1))), (h3, .inl (cint, 10, .inl (upd (fun _ => 0) (0 : Int32).toNatClampNeg p2))), (h0, .inr (2, [.ref h1, .ref h2, .ref h3, .int 1, .ref h4, .int 0, .int 0, .ref h5, .ref h6, .ref h7, .ref h8, .ref h9, .int 0]))] H := hP
  have hD : va_D A [(h1, .inl (cint, 10, .inl (upd (fun _ => 0) (0 : Int32).toNatClampNeg p0))), (h2, .inl (cint, 10, .inl (upd (fun _ => 0) (0 : Int32).toNatClampNeg p1))), (h3, .inl (cint, 10, .inl (upd (fun _ => 0) (0 : Int32).toNatClampNeg p2))), (h0, .inr (2, [.ref h1, .ref h2, .ref h3, .int 1, .ref h4, .int 0, .int 0, .ref h5, .ref h6, .ref h7, .ref h8, .ref h9, .int 0]))] := hD
  refine lv_aload_n hx hb dX2_write_47 rfl (lv_at hl 0 rfl) ?_
  refine va_get (D := (dC, dI)) (ci := 2) (v := .int 1) (C := RX2) (T := TX2) (N := 13) hx hb hts (fun _ h => List.mem_cons_of_mem _ (List.mem_append_right _ h)) hown hK hP 3 rfl rfl 3 (by decide) (hts (.fieldLink RX2 41 "KinkStreet$Deeds" "size" "I") (List.mem_of_getElem? (i := 2) rfl)) (fun _ h9 => h9) rfl dX2_write_48 ?_
  have hP9 := hP.sub (ws' := []) [] rfl
  have hD9 := hD.sub (ws' := []) [] (by decide) rfl
  have hK9 := hK.sub (tys' := []) [] rfl
  exact W.iret (v := 1) hx hb hr (fun t ht hW => ⟨⟨1, (), rfl, rfl, by rw [ht]; exact hP9, va_K.moved hW.alike hK9, hD9⟩, hS.F ht⟩) hS.2.2 dX2_write_51
set_option maxHeartbeats 4000000 in
set_option maxRecDepth 100000 in
theorem k_X11_deed_0 (l : Launch) (dC : Nat → ClassId) (dI : Nat → Nat → Nat) (h0 h1 h2 h3 h4 h5 h6 h7 h8 h9 h10 h11 h12 h13 h14 h15 h16 h17 h18 h19 h20 h21 : Nat) (cint : ClassId) (sz : Nat) (p0 : Int32) (p1 : Int32) : Met l yX11_deed wsX11_deed ({ frames := 2, cells := 0, slots := 0, locals := 43 }) (va_Pc [.ref h0, .int p0, .int p1] (fun U => U.heap.size = sz ∧ va_P (dC, dI) vwCl [(h0, .inr (11, [.ref h5, .int 0, .ref h6, .ref h7, .ref h8, .ref h9, .ref h10, .ref h11, .ref h1, .ref h12, .ref h13, .int 0, .ref h14, .ref h15])), (h1, .inr (2, [.ref h2, .ref h3, .ref h4, .int 0, .ref h16, .int 0, .int 0, .ref h17, .ref h18, .ref h19, .ref h20, .ref h21, .int 0])), (h2, .inl (cint, 10, .inl (fun _ => 0))), (h3, .inl (cint, 10, .inl (fun _ => 0))), (h4, .inl (cint, 10, .inl (fun _ => 0)))] U.heap ∧ va_K (dC, dI) vwCl [(cint, .int)] U ∧ va_D (fun _ => True) [(h0, .inr (11, [.ref h5, .int 0, .ref h6, .ref h7, .ref h8, .ref h9, .ref h10, .ref h11, .ref h1, .ref h12, .ref h13, .int 0, .ref h14, .ref h15])), (h1, .inr (2, [.ref h2, .ref h3, .ref h4, .int 0, .ref h16, .int 0, .int 0, .ref h17, .ref h18, .ref h19, .ref h20, .ref h21, .int 0])), (h2, .inl (cint, 10, .inl (fun _ => 0))), (h3, .inl (cint, 10, .inl (fun _ => 0))), (h4, .inl (cint, 10, .inl (fun _ => 0)))])) (va_Qi (fun (r : Int32) (_ : Unit) => r = if 0 ≤ p0.toInt ∧ 0 ≤ (p0 / 10).toInt ∧ (p0 / 10).toInt < 8 ∧ 0 ≤ (p0 - p0 / 10 * 10).toInt ∧ (p0 - p0 / 10 * 10).toInt < 8 ∧ (p0 / 10).toInt ≠ (p0 - p0 / 10 * 10).toInt ∧ 0 ≤ p1.toInt ∧ p1.toInt ≤ 999 then (1 : Int32) else -1) (fun (_ : Unit) t => va_P (dC, dI) vwCl [] t.heap ∧ va_K (dC, dI) vwCl [] t ∧ va_D (va_A [(h0, .inr (11, [.ref h5, .int 0, .ref h6, .ref h7, .ref h8, .ref h9, .ref h10, .ref h11, .ref h1, .ref h12, .ref h13, .int 0, .ref h14, .ref h15])), (h1, .inr (2, [.ref h2, .ref h3, .ref h4, .int 0, .ref h16, .int 0, .int 0, .ref h17, .ref h18, .ref h19, .ref h20, .ref h21, .int 0])), (h2, .inl (cint, 10, .inl (fun _ => 0))), (h3, .inl (cint, 10, .inl (fun _ => 0))), (h4, .inl (cint, 10, .inl (fun _ => 0)))] sz) []) (va_A [(h0, .inr (11, [.ref h5, .int 0, .ref h6, .ref h7, .ref h8, .ref h9, .ref h10, .ref h11, .ref h1, .ref h12, .ref h13, .int 0, .ref h14, .ref h15])), (h1, .inr (2, [.ref h2, .ref h3, .ref h4, .int 0, .ref h16, .int 0, .int 0, .ref h17, .ref h18, .ref h19, .ref h20, .ref h21, .int 0])), (h2, .inl (cint, 10, .inl (fun _ => 0))), (h3, .inl (cint, 10, .inl (fun _ => 0))), (h4, .inl (cint, 10, .inl (fun _ => 0)))] sz)) 0 0 (va_A [(h0, .inr (11, [.ref h5, .int 0, .ref h6, .ref h7, .ref h8, .ref h9, .ref h10, .ref h11, .ref h1, .ref h12, .ref h13, .int 0, .ref h14, .ref h15])), (h1, .inr (2, [.ref h2, .ref h3, .ref h4, .int 0, .ref h16, .int 0, .int 0, .ref h17, .ref h18, .ref h19, .ref h20, .ref h21, .int 0])), (h2, .inl (cint, 10, .inl (fun _ => 0))), (h3, .inl (cint, 10, .inl (fun _ => 0))), (h4, .inl (cint, 10, .inl (fun _ => 0)))] sz) := by
  refine Met.ofW (cc := cX11_deed) (maxL := 5) (ret := (some .int)) (by decide) rfl ?_
  intro p e s m args below meth c s₁ B hml hv
  obtain ⟨rfl, hsz, hP, hK, hD0⟩ := hv
  have hx := B.exec
  have hb := B.bytes
  have hr := B.returns
  have hts := atoms_spec (ws := wsX11_deed) B.pre
  have hown : s.vm.findClass RX11 = some m.cls := findClass_of_methodNamed B.named
  have hlocks := B.notSynchronized
  subst hsz
  have hD := hD0.self (sz := s.heap.size)
  generalize hAe : va_A [(h0, .inr (11, [.ref h5, .int 0, .ref h6, .ref h7, .ref h8, .ref h9, .ref h10, .ref h11, .ref h1, .ref h12, .ref h13, .int 0, .ref h14, .ref h15])), (h1, .inr (2, [.ref h2, .ref h3, .ref h4, .int 0, .ref h16, .int 0, .int 0, .ref h17, .ref h18, .ref h19, .ref h20, .ref h21, .int 0])), (h2, .inl (cint, 10, .inl (fun _ => 0))), (h3, .inl (cint, 10, .inl (fun _ => 0))), (h4, .inl (cint, 10, .inl (fun _ => 0)))] s.heap.size = A at hD ⊢
  have hA : ∀ q : Nat, s.heap.size ≤ q → A q := fun q h => by rw [← hAe]; exact Or.inr h
  have hS : va_S A s.heap s.heap [] := va_S.rf
  have hP : va_P (dC, dI) vwCl [(h0, .inr (11, [.ref h5, .int 0, .ref h6, .ref h7, .ref h8, .ref h9, .ref h10, .ref h11, .ref h1, .ref h12, .ref h13, .int 0, .ref h14, .ref h15])), (h1, .inr (2, [.ref h2, .ref h3, .ref h4, .int 0, .ref h16, .int 0, .int 0, .ref h17, .ref h18, .ref h19, .ref h20, .ref h21, .int 0])), (h2, .inl (cint, 10, .inl (fun _ => 0))), (h3, .inl (cint, 10, .inl (fun _ => 0))), (h4, .inl (cint, 10, .inl (fun _ => 0)))] s.heap := hP
  have hl := lv_entry ([.ref h0, .int p0, .int p1]) (n := 5) (Nat.le_of_ble_eq_true rfl)
  rw [lg_entry_eq]
  generalize (lg_sl ([.ref h0, .int p0, .int p1]) ++ List.replicate (5 - (lg_sl ([.ref h0, .int p0, .int p1])).length) Slot.unset).toArray = ls at hl ⊢
  have hl : lv_has ls 5 [(0, .ref h0), (1, .int p0), (2, .int p1)] := hl
  refine lv_iload_n hx hb dX11_deed_0 rfl (lv_at hl 1 rfl) ?_
  refine lv_bipush (v := 10) hx hb dX11_deed_1 (by decide) ?_
  refine lv_idiv hx hb dX11_deed_3 (by decide) ?_
  refine lv_istore_n (lv' := [(3, .int (p0 / 10)), (0, .ref h0), (1, .int p0), (2, .int p1)]) hx hb dX11_deed_4 rfl hl (by decide) rfl (fun ls hl => ?_)
  refine lv_iload_n hx hb dX11_deed_5 rfl (lv_at hl 2 rfl) ?_
  refine lv_bipush (v := 10) hx hb dX11_deed_6 (by decide) ?_
  refine lv_irem hx hb dX11_deed_8 (by decide) ?_
  refine lv_istore (lv' := [(4, .int (p0 - p0 / 10 * 10)), (3, .int (p0 / 10)), (0, .ref h0), (1, .int p0), (2, .int p1)]) hx hb dX11_deed_9 hl (by decide) rfl (fun ls hl => ?_)
  refine lv_iload_n hx hb dX11_deed_11 rfl (lv_at hl 3 rfl) ?_
  refine lv_if_lt (tgt := 47) hx hb dX11_deed_12 (by decide) (fun c_1 => ?_) (fun c_1 => ?_)
  · have t_1 : p0.toInt < 0 := kk_lt c_1
    refine lv_iconst (v := (-1)) hx hb dX11_deed_47 (by decide) ?_
    have hP9 := hP.sub (ws' := []) [] rfl
    have hD9 := hD.sub (ws' := []) [] (by decide) rfl
    have hK9 := hK.sub (tys' := []) [] rfl
    exact W.iret (v := (-1)) hx hb hr (fun t ht hW => ⟨⟨(-1), (), rfl, by first | rfl | ((repeat' split) <;> first | rfl | (exfalso; omega) | (exact Int32.toInt_inj.mp (by show ((-1) : Int) = _; omega))), by rw [ht]; exact hP9, va_K.moved hW.alike hK9, hD9⟩, hS.F ht⟩) hS.2.2 dX11_deed_48
  · have t_1 : 0 ≤ p0.toInt := kk_nlt c_1
    refine lv_iload_n hx hb dX11_deed_15 rfl (lv_at hl 1 rfl) ?_
    have hPc := hP.sub (ws' := []) [] rfl
    have hDc := hD.sub (ws' := []) [] (by decide) rfl
    have hKc := hK.sub (tys' := []) [] rfl
    have hFc := va_free (wc := []) hD hS hA [] rfl
    refine va_calli (va_runS (As := [.int (p0 / 10)]) (rest := []) ⟨hx, hb, hml, hown, hts⟩ (k_X2_isName_0 l dC dI s.heap.size (p0 / 10)) (va_cwS 1 hts gX11_deed_X2_isName rfl rfl rfl (by decide +kernel) ⟨Nat.le_of_ble_eq_true rfl, Nat.le_of_ble_eq_true rfl⟩) ⟨fun a U g mk q => by obtain ⟨q0, q1, qP, qK, qD⟩ := q; exact ⟨q0, q1, qP, va_K.moved (u := U) (U := U.calling g mk a) (Vm.Alike.refl U.vm) qK, qD⟩, fun U hU hW => ⟨rfl, by rw [hU], by rw [hU]; exact hPc, va_K.moved hW.alike hKc, hDc.weaken (fun _ _ _ _ => trivial)⟩⟩ rfl rfl hl.1 rfl (lv_room (Nat.le_of_ble_eq_true rfl)) dX11_deed_16 ⟨Nat.le_of_ble_eq_true rfl, Nat.le_of_ble_eq_true rfl⟩) hS (fun q _ h => hFc q h) hFc (fun r_2 u t H1 locs ht hvm hw hB hz1 hk1 hS => ?_)
    obtain ⟨hP1, hK1, hD1⟩ := hB
    rw [ht] at hP1
    have hK1 := va_K.moved hvm.symm hK1
    obtain ⟨hP, hD⟩ := va_join (wr := [(h0, .inr (11, [.ref h5, .int 0, .ref h6, .ref h7, .ref h8, .ref h9, .ref h10, .ref h11, .ref h1, .ref h12, .ref h13, .int 0, .ref h14, .ref h15])), (h1, .inr (2, [.ref h2, .ref h3, .ref h4, .int 0, .ref h16, .int 0, .int 0, .ref h17, .ref h18, .ref h19, .ref h20, .ref h21, .int 0])), (h2, .inl (cint, 10, .inl (fun _ => 0))), (h3, .inl (cint, 10, .inl (fun _ => 0))), (h4, .inl (cint, 10, .inl (fun _ => 0)))]) (w1 := []) hP hD [] [0, 1, 2, 3, 4] rfl rfl (by decide) (by decide) hk1 hFc hP1 hD1
    generalize H1 = H at hP hS ⊢
    have hP : va_P (dC, dI) vwCl [(h0, .inr (11, [.ref h5, .int 0, .ref h6, .ref h7, .ref h8, .ref h9, .ref h10, .ref h11, .ref h1, .ref h12, .ref h13, .int 0, .ref h14, .ref h15])), (h1, .inr (2, [.ref h2, .ref h3, .ref h4, .int 0, .ref h16, .int 0, .int 0, .ref h17, .ref h18, .ref h19, .ref h20, .ref h21, .int 0])), (h2, .inl (cint, 10, .inl (fun _ => 0))), (h3, .inl (cint, 10, .inl (fun _ => 0))), (h4, .inl (cint, 10, .inl (fun _ => 0)))] H := hP
    have hD : va_D A [(h0, .inr (11, [.ref h5, .int 0, .ref h6, .ref h7, .ref h8, .ref h9, .ref h10, .ref h11, .ref h1, .ref h12, .ref h13, .int 0, .ref h14, .ref h15])), (h1, .inr (2, [.ref h2, .ref h3, .ref h4, .int 0, .ref h16, .int 0, .int 0, .ref h17, .ref h18, .ref h19, .ref h20, .ref h21, .int 0])), (h2, .inl (cint, 10, .inl (fun _ => 0))), (h3, .inl (cint, 10, .inl (fun _ => 0))), (h4, .inl (cint, 10, .inl (fun _ => 0)))] := hD
    rcases hw with ⟨t_2_0, rfl⟩ | ⟨t_2_0, t_2_1, rfl⟩ | ⟨t_2_0, t_2_1, rfl⟩
    · exfalso; have := kk_div (x := p0) (k := 10) (n := 10) rfl (by decide) (by omega); have := kk_rem (x := p0) (k := 10) (n := 10) rfl (by decide) (by omega); omega
    · skip
      refine lv_if_eq (tgt := 47) hx hb dX11_deed_19 (by decide) (fun _ => ?_) (fun c => absurd c (by decide))
      refine lv_iconst (v := (-1)) hx hb dX11_deed_47 (by decide) ?_
      have hP9 := hP.sub (ws' := []) [] rfl
      have hD9 := hD.sub (ws' := []) [] (by decide) rfl
      have hK9 := hK.sub (tys' := []) [] rfl
      exact W.iret (v := (-1)) hx hb hr (fun t ht hW => ⟨⟨(-1), (), rfl, by first | rfl | ((repeat' split) <;> first | rfl | (exfalso; have := kk_div (x := p0) (k := 10) (n := 10) rfl (by decide) (by omega); have := kk_rem (x := p0) (k := 10) (n := 10) rfl (by decide) (by omega); omega) | (exact Int32.toInt_inj.mp (by show ((-1) : Int) = _; omega))), by rw [ht]; exact hP9, va_K.moved hW.alike hK9, hD9⟩, hS.F ht⟩) hS.2.2 dX11_deed_48
    · skip
      refine lv_if_eq (tgt := 47) hx hb dX11_deed_19 (by decide) (fun c => absurd c (by decide)) (fun _ => ?_)
      refine lv_iload hx hb dX11_deed_22 (lv_at hl 0 rfl) ?_
      have hPc := hP.sub (ws' := []) [] rfl
      have hDc := hD.sub (ws' := []) [] (by decide) rfl
      have hKc := hK.sub (tys' := []) [] rfl
      have hFc := va_free (wc := []) hD hS hA [] rfl
      refine va_calli (va_runS (As := [.int (p0 - p0 / 10 * 10)]) (rest := []) ⟨hx, hb, hml, hown, hts⟩ (k_X2_isName_0 l dC dI H.size (p0 - p0 / 10 * 10)) (va_cwS 1 hts gX11_deed_X2_isName rfl rfl rfl (by decide +kernel) ⟨Nat.le_of_ble_eq_true rfl, Nat.le_of_ble_eq_true rfl⟩) ⟨fun a U g mk q => by obtain ⟨q0, q1, qP, qK, qD⟩ := q; exact ⟨q0, q1, qP, va_K.moved (u := U) (U := U.calling g mk a) (Vm.Alike.refl U.vm) qK, qD⟩, fun U hU hW => ⟨rfl, by rw [hU], by rw [hU]; exact hPc, va_K.moved hW.alike hKc, hDc.weaken (fun _ _ _ _ => trivial)⟩⟩ rfl rfl hl.1 rfl (lv_room (Nat.le_of_ble_eq_true rfl)) dX11_deed_24 ⟨Nat.le_of_ble_eq_true rfl, Nat.le_of_ble_eq_true rfl⟩) hS (fun q _ h => hFc q h) hFc (fun r_3 u t H1 locs ht hvm hw hB hz1 hk1 hS => ?_)
      obtain ⟨hP1, hK1, hD1⟩ := hB
      rw [ht] at hP1
      have hK1 := va_K.moved hvm.symm hK1
      obtain ⟨hP, hD⟩ := va_join (wr := [(h0, .inr (11, [.ref h5, .int 0, .ref h6, .ref h7, .ref h8, .ref h9, .ref h10, .ref h11, .ref h1, .ref h12, .ref h13, .int 0, .ref h14, .ref h15])), (h1, .inr (2, [.ref h2, .ref h3, .ref h4, .int 0, .ref h16, .int 0, .int 0, .ref h17, .ref h18, .ref h19, .ref h20, .ref h21, .int 0])), (h2, .inl (cint, 10, .inl (fun _ => 0))), (h3, .inl (cint, 10, .inl (fun _ => 0))), (h4, .inl (cint, 10, .inl (fun _ => 0)))]) (w1 := []) hP hD [] [0, 1, 2, 3, 4] rfl rfl (by decide) (by decide) hk1 hFc hP1 hD1
      generalize H1 = H at hP hS ⊢
      have hP : va_P (dC, dI) vwCl [(h0, .inr (11, [.ref h5, .int 0, .ref h6, .ref h7, .ref h8, .ref h9, .ref h10, .ref h11, .ref h1, .ref h12, .ref h13, .int 0, .ref h14, .ref h15])), (h1, .inr (2, [.ref h2, .ref h3, .ref h4, .int 0, .ref h16, .int 0, .int 0, .ref h17, .ref h18, .ref h19, .ref h20, .ref h21, .int 0])), (h2, .inl (cint, 10, .inl (fun _ => 0))), (h3, .inl (cint, 10, .inl (fun _ => 0))), (h4, .inl (cint, 10, .inl (fun _ => 0)))] H := hP
      have hD : va_D A [(h0, .inr (11, [.ref h5, .int 0, .ref h6, .ref h7, .ref h8, .ref h9, .ref h10, .ref h11, .ref h1, .ref h12, .ref h13, .int 0, .ref h14, .ref h15])), (h1, .inr (2, [.ref h2, .ref h3, .ref h4, .int 0, .ref h16, .int 0, .int 0, .ref h17, .ref h18, .ref h19, .ref h20, .ref h21, .int 0])), (h2, .inl (cint, 10, .inl (fun _ => 0))), (h3, .inl (cint, 10, .inl (fun _ => 0))), (h4, .inl (cint, 10, .inl (fun _ => 0)))] := hD
      rcases hw with ⟨t_3_0, rfl⟩ | ⟨t_3_0, t_3_1, rfl⟩ | ⟨t_3_0, t_3_1, rfl⟩
      · exfalso; have := kk_div (x := p0) (k := 10) (n := 10) rfl (by decide) (by omega); have := kk_rem (x := p0) (k := 10) (n := 10) rfl (by decide) (by omega); omega
      · skip
        refine lv_if_eq (tgt := 47) hx hb dX11_deed_27 (by decide) (fun _ => ?_) (fun c => absurd c (by decide))
        refine lv_iconst (v := (-1)) hx hb dX11_deed_47 (by decide) ?_
        have hP9 := hP.sub (ws' := []) [] rfl
        have hD9 := hD.sub (ws' := []) [] (by decide) rfl
        have hK9 := hK.sub (tys' := []) [] rfl
        exact W.iret (v := (-1)) hx hb hr (fun t ht hW => ⟨⟨(-1), (), rfl, by first | rfl | ((repeat' split) <;> first | rfl | (exfalso; have := kk_div (x := p0) (k := 10) (n := 10) rfl (by decide) (by omega); have := kk_rem (x := p0) (k := 10) (n := 10) rfl (by decide) (by omega); omega) | (exact Int32.toInt_inj.mp (by show ((-1) : Int) = _; omega))), by rw [ht]; exact hP9, va_K.moved hW.alike hK9, hD9⟩, hS.F ht⟩) hS.2.2 dX11_deed_48
      · skip
        refine lv_if_eq (tgt := 47) hx hb dX11_deed_27 (by decide) (fun c => absurd c (by decide)) (fun _ => ?_)
        refine lv_iload_n hx hb dX11_deed_30 rfl (lv_at hl 1 rfl) ?_
        refine lv_iload hx hb dX11_deed_31 (lv_at hl 0 rfl) ?_
        refine lv_icmp_eq (tgt := 47) hx hb dX11_deed_33 (by decide) (fun c_4 => ?_) (fun c_4 => ?_)
        · have t_4 : (p0 / 10).toInt = (p0 - p0 / 10 * 10).toInt := kk_eq c_4
          refine lv_iconst (v := (-1)) hx hb dX11_deed_47 (by decide) ?_
          have hP9 := hP.sub (ws' := []) [] rfl
          have hD9 := hD.sub (ws' := []) [] (by decide) rfl
          have hK9 := hK.sub (tys' := []) [] rfl
          exact W.iret (v := (-1)) hx hb hr (fun t ht hW => ⟨⟨(-1), (), rfl, by first | rfl | ((repeat' split) <;> first | rfl | (exfalso; have := kk_div (x := p0) (k := 10) (n := 10) rfl (by decide) (by omega); have := kk_rem (x := p0) (k := 10) (n := 10) rfl (by decide) (by omega); omega) | (exact Int32.toInt_inj.mp (by show ((-1) : Int) = _; omega))), by rw [ht]; exact hP9, va_K.moved hW.alike hK9, hD9⟩, hS.F ht⟩) hS.2.2 dX11_deed_48
        · have t_4 : (p0 / 10).toInt ≠ (p0 - p0 / 10 * 10).toInt := kk_ne c_4
          refine lv_iload_n hx hb dX11_deed_36 rfl (lv_at hl 4 rfl) ?_
          refine lv_if_lt (tgt := 47) hx hb dX11_deed_37 (by decide) (fun c_5 => ?_) (fun c_5 => ?_)
          · have t_5 : p1.toInt < 0 := kk_lt c_5
            refine lv_iconst (v := (-1)) hx hb dX11_deed_47 (by decide) ?_
            have hP9 := hP.sub (ws' := []) [] rfl
            have hD9 := hD.sub (ws' := []) [] (by decide) rfl
            have hK9 := hK.sub (tys' := []) [] rfl
            exact W.iret (v := (-1)) hx hb hr (fun t ht hW => ⟨⟨(-1), (), rfl, by first | rfl | ((repeat' split) <;> first | rfl | (exfalso; have := kk_div (x := p0) (k := 10) (n := 10) rfl (by decide) (by omega); have := kk_rem (x := p0) (k := 10) (n := 10) rfl (by decide) (by omega); omega) | (exact Int32.toInt_inj.mp (by show ((-1) : Int) = _; omega))), by rw [ht]; exact hP9, va_K.moved hW.alike hK9, hD9⟩, hS.F ht⟩) hS.2.2 dX11_deed_48
          · have t_5 : 0 ≤ p1.toInt := kk_nlt c_5
            refine lv_iload_n hx hb dX11_deed_40 rfl (lv_at hl 4 rfl) ?_
            refine lv_sipush (v := 999) hx hb dX11_deed_41 (by decide) ?_
            refine lv_icmp_le (tgt := 49) hx hb dX11_deed_44 (by decide) (fun c_6 => ?_) (fun c_6 => ?_)
            · have t_6 : p1.toInt ≤ 999 := kk_le c_6
              refine lv_aload_n hx hb dX11_deed_49 rfl (lv_at hl 2 rfl) ?_
              refine va_get (D := (dC, dI)) (ci := 11) (v := .ref h1) (C := RX11) (T := TX11) (N := 14) hx hb hts (fun _ h => List.mem_cons_of_mem _ (List.mem_append_left _ (List.mem_append_right _ h))) hown hK hP 0 rfl rfl 8 (by decide) (hts (.fieldLink RX11 58 "KinkStreet" "deeds" "LKinkStreet$Deeds;") (List.mem_of_getElem? (i := 1) rfl)) (fun _ h9 => h9) rfl dX11_deed_50 ?_
              have hPc := hP.sub (ws' := [(h1, .inr (2, [.ref h2, .ref h3, .ref h4, .int 0, .ref h16, .int 0, .int 0, .ref h17, .ref h18, .ref h19, .ref h20, .ref h21, .int 0]))]) [1] rfl
              have hDc := hD.sub (ws' := [(h1, .inr (2, [.ref h2, .ref h3, .ref h4, .int 0, .ref h16, .int 0, .int 0, .ref h17, .ref h18, .ref h19, .ref h20, .ref h21, .int 0]))]) [1] (by decide) rfl
              have hKc := hK.sub (tys' := []) [] rfl
              have hFc := va_free (wc := [(h1, .inr (2, [.ref h2, .ref h3, .ref h4, .int 0, .ref h16, .int 0, .int 0, .ref h17, .ref h18, .ref h19, .ref h20, .ref h21, .int 0]))]) hD hS hA [1] rfl
              refine va_calli (va_runV (As := []) (rest := []) ⟨hx, hb, hml, hown, hts⟩ (k_X2_isFull_0 l dC dI h1 h2 h3 h4 h16 h17 h18 h19 h20 h21 H.size) (cwV 0 hts gX11_deed_X2_isFull rfl rfl rfl (by decide +kernel) ⟨Nat.le_of_ble_eq_true rfl, Nat.le_of_ble_eq_true rfl⟩) ⟨fun a U g mk q => by obtain ⟨q0, q1, qP, qK, qD⟩ := q; exact ⟨q0, q1, qP, va_K.moved (u := U) (U := U.calling g mk a) (Vm.Alike.refl U.vm) qK, qD⟩, va_recv hKc hPc (ci := 2) (q0 := 0) rfl rfl, fun U hU hW => ⟨rfl, by rw [hU], by rw [hU]; exact hPc, va_K.moved hW.alike hKc, hDc.weaken (fun _ _ _ _ => trivial)⟩⟩ rfl rfl hl.1 rfl (lv_room (Nat.le_of_ble_eq_true rfl)) dX11_deed_53 ⟨Nat.le_of_ble_eq_true rfl, Nat.le_of_ble_eq_true rfl⟩) hS (fun q _ h => hFc q h) hFc (fun r_7 u t H1 locs ht hvm hw hB hz1 hk1 hS => ?_)
              obtain ⟨hP1, hK1, hD1⟩ := hB
              rw [ht] at hP1
              have hK1 := va_K.moved hvm.symm hK1
              obtain ⟨hP, hD⟩ := va_join (wr := [(h0, .inr (11, [.ref h5, .int 0, .ref h6, .ref h7, .ref h8, .ref h9, .ref h10, .ref h11, .ref h1, .ref h12, .ref h13, .int 0, .ref h14, .ref h15])), (h2, .inl (cint, 10, .inl (fun _ => 0))), (h3, .inl (cint, 10, .inl (fun _ => 0))), (h4, .inl (cint, 10, .inl (fun _ => 0)))]) (w1 := [(h1, .inr (2, [.ref h2, .ref h3, .ref h4, .int 0, .ref h16, .int 0, .int 0, .ref h17, .ref h18, .ref h19, .ref h20, .ref h21, .int 0]))]) hP hD [1] [0, 2, 3, 4] rfl rfl (by decide) (by decide) hk1 hFc hP1 hD1
              generalize H1 = H at hP hS ⊢
              have hP : va_P (dC, dI) vwCl [(h0, .inr (11, [.ref h5, .int 0, .ref h6, .ref h7, .ref h8, .ref h9, .ref h10, .ref h11, .ref h1, .ref h12, .ref h13, .int 0, .ref h14, .ref h15])), (h2, .inl (cint, 10, .inl (fun _ => 0))), (h3, .inl (cint, 10, .inl (fun _ => 0))), (h4, .inl (cint, 10, .inl (fun _ => 0))), (h1, .inr (2, [.ref h2, .ref h3, .ref h4, .int 0, .ref h16, .int 0, .int 0, .ref h17, .ref h18, .ref h19, .ref h20, .ref h21, .int 0]))] H := hP
              have hD : va_D A [(h0, .inr (11, [.ref h5, .int 0, .ref h6, .ref h7, .ref h8, .ref h9, .ref h10, .ref h11, .ref h1, .ref h12, .ref h13, .int 0, .ref h14, .ref h15])), (h2, .inl (cint, 10, .inl (fun _ => 0))), (h3, .inl (cint, 10, .inl (fun _ => 0))), (h4, .inl (cint, 10, .inl (fun _ => 0))), (h1, .inr (2, [.ref h2, .ref h3, .ref h4, .int 0, .ref h16, .int 0, .int 0, .ref h17, .ref h18, .ref h19, .ref h20, .ref h21, .int 0]))] := hD
              obtain rfl := hw
              refine lv_if_eq (tgt := 64) hx hb dX11_deed_56 (by decide) (fun _ => ?_) (fun c => absurd c (by decide))
              refine lv_aload_n hx hb dX11_deed_64 rfl (lv_at hl 2 rfl) ?_
              refine va_get (D := (dC, dI)) (ci := 11) (v := .ref h1) (C := RX11) (T := TX11) (N := 14) hx hb hts (fun _ h => List.mem_cons_of_mem _ (List.mem_append_left _ (List.mem_append_right _ h))) hown hK hP 0 rfl rfl 8 (by decide) (hts (.fieldLink RX11 58 "KinkStreet" "deeds" "LKinkStreet$Deeds;") (List.mem_of_getElem? (i := 1) rfl)) (fun _ h9 => h9) rfl dX11_deed_65 ?_
              refine lv_iload_n hx hb dX11_deed_68 rfl (lv_at hl 1 rfl) ?_
              refine lv_iload hx hb dX11_deed_69 (lv_at hl 0 rfl) ?_
              refine lv_iload_n hx hb dX11_deed_71 rfl (lv_at hl 4 rfl) ?_
              have hPc := hP.sub (ws' := [(h1, .inr (2, [.ref h2, .ref h3, .ref h4, .int 0, .ref h16, .int 0, .int 0, .ref h17, .ref h18, .ref h19, .ref h20, .ref h21, .int 0])), (h2, .inl (cint, 10, .inl (fun _ => 0))), (h3, .inl (cint, 10, .inl (fun _ => 0))), (h4, .inl (cint, 10, .inl (fun _ => 0)))]) [4, 1, 2, 3] rfl
              have hDc := hD.sub (ws' := [(h1, .inr (2, [.ref h2, .ref h3, .ref h4, .int 0, .ref h16, .int 0, .int 0, .ref h17, .ref h18, .ref h19, .ref h20, .ref h21, .int 0])), (h2, .inl (cint, 10, .inl (fun _ => 0))), (h3, .inl (cint, 10, .inl (fun _ => 0))), (h4, .inl (cint, 10, .inl (fun _ => 0)))]) [4, 1, 2, 3] (by decide) rfl
              have hKc := hK.sub (tys' := [(cint, .int)]) [0] rfl
              have hFc := va_free (wc := [(h1, .inr (2, [.ref h2, .ref h3, .ref h4, .int 0, .ref h16, .int 0, .int 0, .ref h17, .ref h18, .ref h19, .ref h20, .ref h21, .int 0])), (h2, .inl (cint, 10, .inl (fun _ => 0))), (h3, .inl (cint, 10, .inl (fun _ => 0))), (h4, .inl (cint, 10, .inl (fun _ => 0)))]) hD hS hA [4, 1, 2, 3] rfl
              refine va_calli (va_runV (As := [.int (p0 / 10), .int (p0 - p0 / 10 * 10), .int p1]) (rest := []) ⟨hx, hb, hml, hown, hts⟩ (k_X2_write_0 l dC dI h1 h2 h3 h4 h16 h17 h18 h19 h20 h21 cint H.size (p0 / 10) (p0 - p0 / 10 * 10) p1) (cwV 3 hts gX11_deed_X2_write rfl rfl rfl (by decide +kernel) ⟨Nat.le_of_ble_eq_true rfl, Nat.le_of_ble_eq_true rfl⟩) ⟨fun a U g mk q => by obtain ⟨q0, q1, qP, qK, qD⟩ := q; exact ⟨q0, q1, qP, va_K.moved (u := U) (U := U.calling g mk a) (Vm.Alike.refl U.vm) qK, qD⟩, va_recv hKc hPc (ci := 2) (q0 := 0) rfl rfl, fun U hU hW => ⟨rfl, by rw [hU], by rw [hU]; exact hPc, va_K.moved hW.alike hKc, hDc.weaken (fun _ _ _ _ => trivial)⟩⟩ rfl rfl hl.1 rfl (lv_room (Nat.le_of_ble_eq_true rfl)) dX11_deed_72 ⟨Nat.le_of_ble_eq_true rfl, Nat.le_of_ble_eq_true rfl⟩) hS (fun q _ h => hFc q h) hFc (fun r_8 u t H1 locs ht hvm hw hB hz1 hk1 hS => ?_)
              obtain ⟨hP1, hK1, hD1⟩ := hB
              rw [ht] at hP1
              have hK1 := va_K.moved hvm.symm hK1
              obtain ⟨hP, hD⟩ := va_join (wr := [(h0, .inr (11, [.ref h5, .int 0, .ref h6, .ref h7, .ref h8, .ref h9, .ref h10, .ref h11, .ref h1, .ref h12, .ref h13, .int 0, .ref h14, .ref h15]))]) (w1 := []) hP hD [4, 1, 2, 3] [0] rfl rfl (by decide) (by decide) hk1 hFc hP1 hD1
              generalize H1 = H at hP hS ⊢
              have hP : va_P (dC, dI) vwCl [(h0, .inr (11, [.ref h5, .int 0, .ref h6, .ref h7, .ref h8, .ref h9, .ref h10, .ref h11, .ref h1, .ref h12, .ref h13, .int 0, .ref h14, .ref h15]))] H := hP
              have hD : va_D A [(h0, .inr (11, [.ref h5, .int 0, .ref h6, .ref h7, .ref h8, .ref h9, .ref h10, .ref h11, .ref h1, .ref h12, .ref h13, .int 0, .ref h14, .ref h15]))] := hD
              obtain rfl := hw
              have hP9 := hP.sub (ws' := []) [] rfl
              have hD9 := hD.sub (ws' := []) [] (by decide) rfl
              have hK9 := hK.sub (tys' := []) [] rfl
              exact W.iret (v := 1) hx hb hr (fun t ht hW => ⟨⟨1, (), rfl, by first | rfl | ((repeat' split) <;> first | rfl | (exfalso; have := kk_div (x := p0) (k := 10) (n := 10) rfl (by decide) (by omega); have := kk_rem (x := p0) (k := 10) (n := 10) rfl (by decide) (by omega); omega) | (exact Int32.toInt_inj.mp (by show (1 : Int) = _; omega))), by rw [ht]; exact hP9, va_K.moved hW.alike hK9, hD9⟩, hS.F ht⟩) hS.2.2 dX11_deed_75
            · have t_6 : 999 < p1.toInt := kk_nle c_6
              refine lv_iconst (v := (-1)) hx hb dX11_deed_47 (by decide) ?_
              have hP9 := hP.sub (ws' := []) [] rfl
              have hD9 := hD.sub (ws' := []) [] (by decide) rfl
              have hK9 := hK.sub (tys' := []) [] rfl
              exact W.iret (v := (-1)) hx hb hr (fun t ht hW => ⟨⟨(-1), (), rfl, by first | rfl | ((repeat' split) <;> first | rfl | (exfalso; have := kk_div (x := p0) (k := 10) (n := 10) rfl (by decide) (by omega); have := kk_rem (x := p0) (k := 10) (n := 10) rfl (by decide) (by omega); omega) | (exact Int32.toInt_inj.mp (by show ((-1) : Int) = _; omega))), by rw [ht]; exact hP9, va_K.moved hW.alike hK9, hD9⟩, hS.F ht⟩) hS.2.2 dX11_deed_48
set_option maxHeartbeats 4000000 in
set_option maxRecDepth 100000 in
theorem k_X2_write_1 (l : Launch) (dC : Nat → ClassId) (dI : Nat → Nat → Nat) (h0 h1 h2 h3 h4 h5 h6 h7 h8 h9 : Nat) (cint : ClassId) (sz : Nat) (p0 : Int32) (p2 : Int32) : Met l yX2_write wsX2_write ({ frames := 1, cells := 0, slots := 0, locals := 20 }) (va_Pc [.ref h0, .int p0, .int (-1), .int p2] (fun U => U.heap.size = sz ∧ va_P (dC, dI) vwCl [(h0, .inr (2, [.ref h1, .ref h2, .ref h3, .int 0, .ref h4, .int 0, .int 0, .ref h5, .ref h6, .ref h7, .ref h8, .ref h9, .int 0])), (h1, .inl (cint, 10, .inl (fun _ => 0))), (h2, .inl (cint, 10, .inl (fun _ => 0))), (h3, .inl (cint, 10, .inl (fun _ => 0)))] U.heap ∧ va_K (dC, dI) vwCl [(cint, .int)] U ∧ va_D (fun _ => True) [(h0, .inr (2, [.ref h1, .ref h2, .ref h3, .int 0, .ref h4, .int 0, .int 0, .ref h5, .ref h6, .ref h7, .ref h8, .ref h9, .int 0])), (h1, .inl (cint, 10, .inl (fun _ => 0))), (h2, .inl (cint, 10, .inl (fun _ => 0))), (h3, .inl (cint, 10, .inl (fun _ => 0)))])) (va_Qi (fun (r : Int32) (_ : Unit) => r = 1) (fun (_ : Unit) t => va_P (dC, dI) vwCl [] t.heap ∧ va_K (dC, dI) vwCl [] t ∧ va_D (va_A [(h0, .inr (2, [.ref h1, .ref h2, .ref h3, .int 0, .ref h4, .int 0, .int 0, .ref h5, .ref h6, .ref h7, .ref h8, .ref h9, .int 0])), (h1, .inl (cint, 10, .inl (fun _ => 0))), (h2, .inl (cint, 10, .inl (fun _ => 0))), (h3, .inl (cint, 10, .inl (fun _ => 0)))] sz) []) (va_A [(h0, .inr (2, [.ref h1, .ref h2, .ref h3, .int 0, .ref h4, .int 0, .int 0, .ref h5, .ref h6, .ref h7, .ref h8, .ref h9, .int 0])), (h1, .inl (cint, 10, .inl (fun _ => 0))), (h2, .inl (cint, 10, .inl (fun _ => 0))), (h3, .inl (cint, 10, .inl (fun _ => 0)))] sz)) 0 0 (va_A [(h0, .inr (2, [.ref h1, .ref h2, .ref h3, .int 0, .ref h4, .int 0, .int 0, .ref h5, .ref h6, .ref h7, .ref h8, .ref h9, .int 0])), (h1, .inl (cint, 10, .inl (fun _ => 0))), (h2, .inl (cint, 10, .inl (fun _ => 0))), (h3, .inl (cint, 10, .inl (fun _ => 0)))] sz) := by
  refine Met.ofW (cc := cX2_write) (maxL := 4) (ret := (some .int)) (by decide) rfl ?_
  intro p e s m args below meth c s₁ B hml hv
  obtain ⟨rfl, hsz, hP, hK, hD0⟩ := hv
  have hx := B.exec
  have hb := B.bytes
  have hr := B.returns
  have hts := atoms_spec (ws := wsX2_write) B.pre
  have hown : s.vm.findClass RX2 = some m.cls := findClass_of_methodNamed B.named
  have hlocks := B.notSynchronized
  subst hsz
  have hD := hD0.self (sz := s.heap.size)
  generalize hAe : va_A [(h0, .inr (2, [.ref h1, .ref h2, .ref h3, .int 0, .ref h4, .int 0, .int 0, .ref h5, .ref h6, .ref h7, .ref h8, .ref h9, .int 0])), (h1, .inl (cint, 10, .inl (fun _ => 0))), (h2, .inl (cint, 10, .inl (fun _ => 0))), (h3, .inl (cint, 10, .inl (fun _ => 0)))] s.heap.size = A at hD ⊢
  have hA : ∀ q : Nat, s.heap.size ≤ q → A q := fun q h => by rw [← hAe]; exact Or.inr h
  have hS : va_S A s.heap s.heap [] := va_S.rf
  have hP : va_P (dC, dI) vwCl [(h0, .inr (2, [.ref h1, .ref h2, .ref h3, .int 0, .ref h4, .int 0, .int 0, .ref h5, .ref h6, .ref h7, .ref h8, .ref h9, .int 0])), (h1, .inl (cint, 10, .inl (fun _ => 0))), (h2, .inl (cint, 10, .inl (fun _ => 0))), (h3, .inl (cint, 10, .inl (fun _ => 0)))] s.heap := hP
  have hl := lv_entry ([.ref h0, .int p0, .int (-1), .int p2]) (n := 4) (Nat.le_of_ble_eq_true rfl)
  rw [lg_entry_eq]
  generalize (lg_sl ([.ref h0, .int p0, .int (-1), .int p2]) ++ List.replicate (4 - (lg_sl ([.ref h0, .int p0, .int (-1), .int p2])).length) Slot.unset).toArray = ls at hl ⊢
  have hl : lv_has ls 4 [(0, .ref h0), (1, .int p0), (2, .int (-1)), (3, .int p2)] := hl
  refine lv_aload_n hx hb dX2_write_0 rfl (lv_at hl 0 rfl) ?_
  have hPc := hP.sub (ws' := [(h0, .inr (2, [.ref h1, .ref h2, .ref h3, .int 0, .ref h4, .int 0, .int 0, .ref h5, .ref h6, .ref h7, .ref h8, .ref h9, .int 0]))]) [0] rfl
  have hDc := hD.sub (ws' := [(h0, .inr (2, [.ref h1, .ref h2, .ref h3, .int 0, .ref h4, .int 0, .int 0, .ref h5, .ref h6, .ref h7, .ref h8, .ref h9, .int 0]))]) [0] (by decide) rfl
  have hKc := hK.sub (tys' := []) [] rfl
  have hFc := va_free (wc := [(h0, .inr (2, [.ref h1, .ref h2, .ref h3, .int 0, .ref h4, .int 0, .int 0, .ref h5, .ref h6, .ref h7, .ref h8, .ref h9, .int 0]))]) hD hS hA [0] rfl
  refine va_calli (va_runV (As := []) (rest := []) ⟨hx, hb, hml, hown, hts⟩ (k_X2_isFull_0 l dC dI h0 h1 h2 h3 h4 h5 h6 h7 h8 h9 s.heap.size) (cwV 0 hts gX2_write_X2_isFull rfl rfl rfl (by decide +kernel) ⟨Nat.le_of_ble_eq_true rfl, Nat.le_of_ble_eq_true rfl⟩) ⟨fun a U g mk q => by obtain ⟨q0, q1, qP, qK, qD⟩ := q; exact ⟨q0, q1, qP, va_K.moved (u := U) (U := U.calling g mk a) (Vm.Alike.refl U.vm) qK, qD⟩, va_recv hKc hPc (ci := 2) (q0 := 0) rfl rfl, fun U hU hW => ⟨rfl, by rw [hU], by rw [hU]; exact hPc, va_K.moved hW.alike hKc, hDc.weaken (fun _ _ _ _ => trivial)⟩⟩ rfl rfl hl.1 rfl (lv_room (Nat.le_of_ble_eq_true rfl)) dX2_write_1 ⟨Nat.le_of_ble_eq_true rfl, Nat.le_of_ble_eq_true rfl⟩) hS (fun q _ h => hFc q h) hFc (fun r_1 u t H1 locs ht hvm hw hB hz1 hk1 hS => ?_)
  obtain ⟨hP1, hK1, hD1⟩ := hB
  rw [ht] at hP1
  have hK1 := va_K.moved hvm.symm hK1
  obtain ⟨hP, hD⟩ := va_join (wr := [(h1, .inl (cint, 10, .inl (fun _ => 0))), (h2, .inl (cint, 10, .inl (fun _ => 0))), (h3, .inl (cint, 10, .inl (fun _ => 0)))]) (w1 := [(h0, .inr (2, [.ref h1, .ref h2, .ref h3, .int 0, .ref h4, .int 0, .int 0, .ref h5, .ref h6, .ref h7, .ref h8, .ref h9, .int 0]))]) hP hD [0] [1, 2, 3] rfl rfl (by decide) (by decide) hk1 hFc hP1 hD1
  generalize H1 = H at hP hS ⊢
  have hP : va_P (dC, dI) vwCl [(h1, .inl (cint, 10, .inl (fun _ => 0))), (h2, .inl (cint, 10, .inl (fun _ => 0))), (h3, .inl (cint, 10, .inl (fun _ => 0))), (h0, .inr (2, [.ref h1, .ref h2, .ref h3, .int 0, .ref h4, .int 0, .int 0, .ref h5, .ref h6, .ref h7, .ref h8, .ref h9, .int 0]))] H := hP
  have hD : va_D A [(h1, .inl (cint, 10, .inl (fun _ => 0))), (h2, .inl (cint, 10, .inl (fun _ => 0))), (h3, .inl (cint, 10, .inl (fun _ => 0))), (h0, .inr (2, [.ref h1, .ref h2, .ref h3, .int 0, .ref h4, .int 0, .int 0, .ref h5, .ref h6, .ref h7, .ref h8, .ref h9, .int 0]))] := hD
  obtain rfl := hw
  refine lv_if_ne (tgt := 47) hx hb dX2_write_4 (by decide) (fun c => absurd c (by decide)) (fun _ => ?_)
  refine lv_aload_n hx hb dX2_write_7 rfl (lv_at hl 0 rfl) ?_
  refine va_get (D := (dC, dI)) (ci := 2) (v := .ref h1) (C := RX2) (T := TX2) (N := 13) hx hb hts (fun _ h => List.mem_cons_of_mem _ (List.mem_append_right _ h)) hown hK hP 3 rfl rfl 0 (by decide) (hts (.fieldLink RX2 11 "KinkStreet$Deeds" "ones" "[I") (List.mem_of_getElem? (i := 1) rfl)) (fun _ h9 => h9) rfl dX2_write_8 ?_
  refine lv_aload_n hx hb dX2_write_11 rfl (lv_at hl 0 rfl) ?_
  refine va_get (D := (dC, dI)) (ci := 2) (v := .int 0) (C := RX2) (T := TX2) (N := 13) hx hb hts (fun _ h => List.mem_cons_of_mem _ (List.mem_append_right _ h)) hown hK hP 3 rfl rfl 3 (by decide) (hts (.fieldLink RX2 41 "KinkStreet$Deeds" "size" "I") (List.mem_of_getElem? (i := 2) rfl)) (fun _ h9 => h9) rfl dX2_write_12 ?_
  refine lv_iload_n hx hb dX2_write_15 rfl (lv_at hl 1 rfl) ?_
  refine va_iast hx hb hK hP hD hS 0 0 rfl rfl (by unfold vp_in; decide) dX2_write_16 (fun H locs hP hD hS => ?_)
  have hP : va_P (dC, dI) vwCl [(h1, .inl (cint, 10, .inl (upd (fun _ => 0) (0 : Int32).toNatClampNeg p0))), (h2, .inl (cint, 10, .inl (fun _ => 0))), (h3, .inl (cint, 10, .inl (fun _ => 0))), (h0, .inr (2, [.ref h1, .ref h2, .ref h3, .int 0, .ref h4, .int 0, .int 0, .ref h5, .ref h6, .ref h7, .ref h8, .ref h9, .int 0]))] H := hP
  have hD : va_D A [(h1, .inl (cint, 10, .inl (upd (fun _ => 0) (0 : Int32).toNatClampNeg p0))), (h2, .inl (cint, 10, .inl (fun _ => 0))), (h3, .inl (cint, 10, .inl (fun _ => 0))), (h0, .inr (2, [.ref h1, .ref h2, .ref h3, .int 0, .ref h4, .int 0, .int 0, .ref h5, .ref h6, .ref h7, .ref h8, .ref h9, .int 0]))] := hD
  refine lv_aload_n hx hb dX2_write_17 rfl (lv_at hl 0 rfl) ?_
  refine va_get (D := (dC, dI)) (ci := 2) (v := .ref h2) (C := RX2) (T := TX2) (N := 13) hx hb hts (fun _ h => List.mem_cons_of_mem _ (List.mem_append_right _ h)) hown hK hP 3 rfl rfl 1 (by decide) (hts (.fieldLink RX2 15 "KinkStreet$Deeds" "others" "[I") (List.mem_of_getElem? (i := 3) rfl)) (fun _ h9 => h9) rfl dX2_write_18 ?_
  refine lv_aload_n hx hb dX2_write_21 rfl (lv_at hl 0 rfl) ?_
  refine va_get (D := (dC, dI)) (ci := 2) (v := .int 0) (C := RX2) (T := TX2) (N := 13) hx hb hts (fun _ h => List.mem_cons_of_mem _ (List.mem_append_right _ h)) hown hK hP 3 rfl rfl 3 (by decide) (hts (.fieldLink RX2 41 "KinkStreet$Deeds" "size" "I") (List.mem_of_getElem? (i := 2) rfl)) (fun _ h9 => h9) rfl dX2_write_22 ?_
  refine lv_iload_n hx hb dX2_write_25 rfl (lv_at hl 2 rfl) ?_
  refine va_iast hx hb hK hP hD hS 1 0 rfl rfl (by unfold vp_in; decide) dX2_write_26 (fun H locs hP hD hS => ?_)
  have hP : va_P (dC, dI) vwCl [(h1, .inl (cint, 10, .inl (upd (fun _ => 0) (0 : Int32).toNatClampNeg p0))), (h2, .inl (cint, 10, .inl (upd (fun _ => 0) (0 : Int32).toNatClampNeg (-1)))), (h3, .inl (cint, 10, .inl (fun _ => 0))), (h0, .inr (2, [.ref h1, .ref h2, .ref h3, .int 0, .ref h4, .int 0, .int 0, .ref h5, .ref h6, .ref h7, .ref h8, .ref h9, .int 0]))] H := hP
  have hD : va_D A [(h1, .inl (cint, 10, .inl (upd (fun _ => 0) (0 : Int32).toNatClampNeg p0))), (h2, .inl (cint, 10, .inl (upd (fun _ => 0) (0 : Int32).toNatClampNeg (-1)))), (h3, .inl (cint, 10, .inl (fun _ => 0))), (h0, .inr (2, [.ref h1, .ref h2, .ref h3, .int 0, .ref h4, .int 0, .int 0, .ref h5, .ref h6, .ref h7, .ref h8, .ref h9, .int 0]))] := hD
  refine lv_aload_n hx hb dX2_write_27 rfl (lv_at hl 0 rfl) ?_
  refine va_get (D := (dC, dI)) (ci := 2) (v := .ref h3) (C := RX2) (T := TX2) (N := 13) hx hb hts (fun _ h => List.mem_cons_of_mem _ (List.mem_append_right _ h)) hown hK hP 3 rfl rfl 2 (by decide) (hts (.fieldLink RX2 18 "KinkStreet$Deeds" "tolds" "[I") (List.mem_of_getElem? (i := 4) rfl)) (fun _ h9 => h9) rfl dX2_write_28 ?_
  refine lv_aload_n hx hb dX2_write_31 rfl (lv_at hl 0 rfl) ?_
  refine va_get (D := (dC, dI)) (ci := 2) (v := .int 0) (C := RX2) (T := TX2) (N := 13) hx hb hts (fun _ h => List.mem_cons_of_mem _ (List.mem_append_right _ h)) hown hK hP 3 rfl rfl 3 (by decide) (hts (.fieldLink RX2 41 "KinkStreet$Deeds" "size" "I") (List.mem_of_getElem? (i := 2) rfl)) (fun _ h9 => h9) rfl dX2_write_32 ?_
  refine lv_iload_n hx hb dX2_write_35 rfl (lv_at hl 3 rfl) ?_
  refine va_iast hx hb hK hP hD hS 2 0 rfl rfl (by unfold vp_in; decide) dX2_write_36 (fun H locs hP hD hS => ?_)
  have hP : va_P (dC, dI) vwCl [(h1, .inl (cint, 10, .inl (upd (fun _ => 0) (0 : Int32).toNatClampNeg p0))), (h2, .inl (cint, 10, .inl (upd (fun _ => 0) (0 : Int32).toNatClampNeg (-1)))), (h3, .inl (cint, 10, .inl (upd (fun _ => 0) (0 : Int32).toNatClampNeg p2))), (h0, .inr (2, [.ref h1, .ref h2, .ref h3, .int 0, .ref h4, .int 0, .int 0, .ref h5, .ref h6, .ref h7, .ref h8, .ref h9, .int 0]))] H := hP
  have hD : va_D A [(h1, .inl (cint, 10, .inl (upd (fun _ => 0) (0 : Int32).toNatClampNeg p0))), (h2, .inl (cint, 10, .inl (upd (fun _ => 0) (0 : Int32).toNatClampNeg (-1)))), (h3, .inl (cint, 10, .inl (upd (fun _ => 0) (0 : Int32).toNatClampNeg p2))), (h0, .inr (2, [.ref h1, .ref h2, .ref h3, .int 0, .ref h4, .int 0, .int 0, .ref h5, .ref h6, .ref h7, .ref h8, .ref h9, .int 0]))] := hD
  refine lv_aload_n hx hb dX2_write_37 rfl (lv_at hl 0 rfl) ?_
  refine lv_dup hx hb dX2_write_38 rfl ?_
  refine va_get (D := (dC, dI)) (ci := 2) (v := .int 0) (C := RX2) (T := TX2) (N := 13) hx hb hts (fun _ h => List.mem_cons_of_mem _ (List.mem_append_right _ h)) hown hK hP 3 rfl rfl 3 (by decide) (hts (.fieldLink RX2 41 "KinkStreet$Deeds" "size" "I") (List.mem_of_getElem? (i := 2) rfl)) (fun _ h9 => h9) rfl dX2_write_39 ?_
  refine lv_iconst (v := 1) hx hb dX2_write_42 (by decide) ?_
  refine lv_iadd hx hb dX2_write_43 ?_
  refine lv_topi (fun y_2 e_2 => ?_)
  obtain rfl : y_2 = 1 := e_2.trans (by decide)
  refine va_put (D := (dC, dI)) (ci := 2) (v := .int 1) (ty := .int) (C := RX2) (T := TX2) (N := 13) hx hb hts (fun _ h => List.mem_cons_of_mem _ (List.mem_append_right _ h)) tyX2 tyX2_ok nmX2 hown hK hP hD hS 3 rfl rfl 3 (by decide) (hts (.fieldLink RX2 41 "KinkStreet$Deeds" "size" "I") (List.mem_of_getElem? (i := 2) rfl)) (fun _ h9 => h9) rfl (by decide +kernel) rfl rfl (Nat.le_of_ble_eq_true rfl) dX2_write_44 (fun H locs hP hD hS => ?_)
  have hP : va_P (dC, dI) vwCl [(h1, .inl (cint, 10, .inl (upd (fun _ => 0) (0 : Int32).toNatClampNeg p0))), (h2, .inl (cint, 10, .inl (upd (fun _ => 0) (0 : Int32).toNatClampNeg (-1)))), (h3, .inl (cint, 10, .inl (upd (fun _ => 0) (0 : Int32).toNatClampNeg p2))), (h0, .inr (2, [.ref h1, .ref h2, .ref h3, .int 1, .ref h4, .int 0, .int 0, .ref h5, .ref h6, .ref h7, .ref h8, .ref h9, .int 0]))] H := hP
  have hD : va_D A [(h1, .inl (cint, 10, .inl (upd (fun _ => 0) (0 : Int32).toNatClampNeg p0))), (h2, .inl (cint, 10, .inl (upd (fun _ => 0) (0 : Int32).toNatClampNeg (-1)))), (h3, .inl (cint, 10, .inl (upd (fun _ => 0) (0 : Int32).toNatClampNeg p2))), (h0, .inr (2, [.ref h1, .ref h2, .ref h3, .int 1, .ref h4, .int 0, .int 0, .ref h5, .ref h6, .ref h7, .ref h8, .ref h9, .int 0]))] := hD
  refine lv_aload_n hx hb dX2_write_47 rfl (lv_at hl 0 rfl) ?_
  refine va_get (D := (dC, dI)) (ci := 2) (v := .int 1) (C := RX2) (T := TX2) (N := 13) hx hb hts (fun _ h => List.mem_cons_of_mem _ (List.mem_append_right _ h)) hown hK hP 3 rfl rfl 3 (by decide) (hts (.fieldLink RX2 41 "KinkStreet$Deeds" "size" "I") (List.mem_of_getElem? (i := 2) rfl)) (fun _ h9 => h9) rfl dX2_write_48 ?_
  have hP9 := hP.sub (ws' := []) [] rfl
  have hD9 := hD.sub (ws' := []) [] (by decide) rfl
  have hK9 := hK.sub (tys' := []) [] rfl
  exact W.iret (v := 1) hx hb hr (fun t ht hW => ⟨⟨1, (), rfl, rfl, by rw [ht]; exact hP9, va_K.moved hW.alike hK9, hD9⟩, hS.F ht⟩) hS.2.2 dX2_write_51
set_option maxHeartbeats 4000000 in
set_option maxRecDepth 100000 in
theorem k_X11_stands_0 (l : Launch) (dC : Nat → ClassId) (dI : Nat → Nat → Nat) (h0 h1 h2 h3 h4 h5 h6 h7 h8 h9 h10 h11 h12 h13 h14 h15 h16 h17 h18 h19 h20 h21 : Nat) (cint : ClassId) (sz : Nat) (p0 : Int32) (p1 : Int32) : Met l yX11_stands wsX11_stands ({ frames := 2, cells := 0, slots := 0, locals := 43 }) (va_Pc [.ref h0, .int p0, .int p1] (fun U => U.heap.size = sz ∧ va_P (dC, dI) vwCl [(h0, .inr (11, [.ref h5, .int 0, .ref h6, .ref h7, .ref h8, .ref h9, .ref h10, .ref h11, .ref h1, .ref h12, .ref h13, .int 0, .ref h14, .ref h15])), (h1, .inr (2, [.ref h2, .ref h3, .ref h4, .int 0, .ref h16, .int 0, .int 0, .ref h17, .ref h18, .ref h19, .ref h20, .ref h21, .int 0])), (h2, .inl (cint, 10, .inl (fun _ => 0))), (h3, .inl (cint, 10, .inl (fun _ => 0))), (h4, .inl (cint, 10, .inl (fun _ => 0)))] U.heap ∧ va_K (dC, dI) vwCl [(cint, .int)] U ∧ va_D (fun _ => True) [(h0, .inr (11, [.ref h5, .int 0, .ref h6, .ref h7, .ref h8, .ref h9, .ref h10, .ref h11, .ref h1, .ref h12, .ref h13, .int 0, .ref h14, .ref h15])), (h1, .inr (2, [.ref h2, .ref h3, .ref h4, .int 0, .ref h16, .int 0, .int 0, .ref h17, .ref h18, .ref h19, .ref h20, .ref h21, .int 0])), (h2, .inl (cint, 10, .inl (fun _ => 0))), (h3, .inl (cint, 10, .inl (fun _ => 0))), (h4, .inl (cint, 10, .inl (fun _ => 0)))])) (va_Qi (fun (r : Int32) (_ : Unit) => r = if 0 ≤ p0.toInt ∧ p0.toInt < 8 ∧ 0 ≤ p1.toInt ∧ p1.toInt < 40 then (1 : Int32) else -1) (fun (_ : Unit) t => va_P (dC, dI) vwCl [] t.heap ∧ va_K (dC, dI) vwCl [] t ∧ va_D (va_A [(h0, .inr (11, [.ref h5, .int 0, .ref h6, .ref h7, .ref h8, .ref h9, .ref h10, .ref h11, .ref h1, .ref h12, .ref h13, .int 0, .ref h14, .ref h15])), (h1, .inr (2, [.ref h2, .ref h3, .ref h4, .int 0, .ref h16, .int 0, .int 0, .ref h17, .ref h18, .ref h19, .ref h20, .ref h21, .int 0])), (h2, .inl (cint, 10, .inl (fun _ => 0))), (h3, .inl (cint, 10, .inl (fun _ => 0))), (h4, .inl (cint, 10, .inl (fun _ => 0)))] sz) []) (va_A [(h0, .inr (11, [.ref h5, .int 0, .ref h6, .ref h7, .ref h8, .ref h9, .ref h10, .ref h11, .ref h1, .ref h12, .ref h13, .int 0, .ref h14, .ref h15])), (h1, .inr (2, [.ref h2, .ref h3, .ref h4, .int 0, .ref h16, .int 0, .int 0, .ref h17, .ref h18, .ref h19, .ref h20, .ref h21, .int 0])), (h2, .inl (cint, 10, .inl (fun _ => 0))), (h3, .inl (cint, 10, .inl (fun _ => 0))), (h4, .inl (cint, 10, .inl (fun _ => 0)))] sz)) 0 0 (va_A [(h0, .inr (11, [.ref h5, .int 0, .ref h6, .ref h7, .ref h8, .ref h9, .ref h10, .ref h11, .ref h1, .ref h12, .ref h13, .int 0, .ref h14, .ref h15])), (h1, .inr (2, [.ref h2, .ref h3, .ref h4, .int 0, .ref h16, .int 0, .int 0, .ref h17, .ref h18, .ref h19, .ref h20, .ref h21, .int 0])), (h2, .inl (cint, 10, .inl (fun _ => 0))), (h3, .inl (cint, 10, .inl (fun _ => 0))), (h4, .inl (cint, 10, .inl (fun _ => 0)))] sz) := by
  refine Met.ofW (cc := cX11_stands) (maxL := 3) (ret := (some .int)) (by decide) rfl ?_
  intro p e s m args below meth c s₁ B hml hv
  obtain ⟨rfl, hsz, hP, hK, hD0⟩ := hv
  have hx := B.exec
  have hb := B.bytes
  have hr := B.returns
  have hts := atoms_spec (ws := wsX11_stands) B.pre
  have hown : s.vm.findClass RX11 = some m.cls := findClass_of_methodNamed B.named
  have hlocks := B.notSynchronized
  subst hsz
  have hD := hD0.self (sz := s.heap.size)
  generalize hAe : va_A [(h0, .inr (11, [.ref h5, .int 0, .ref h6, .ref h7, .ref h8, .ref h9, .ref h10, .ref h11, .ref h1, .ref h12, .ref h13, .int 0, .ref h14, .ref h15])), (h1, .inr (2, [.ref h2, .ref h3, .ref h4, .int 0, .ref h16, .int 0, .int 0, .ref h17, .ref h18, .ref h19, .ref h20, .ref h21, .int 0])), (h2, .inl (cint, 10, .inl (fun _ => 0))), (h3, .inl (cint, 10, .inl (fun _ => 0))), (h4, .inl (cint, 10, .inl (fun _ => 0)))] s.heap.size = A at hD ⊢
  have hA : ∀ q : Nat, s.heap.size ≤ q → A q := fun q h => by rw [← hAe]; exact Or.inr h
  have hS : va_S A s.heap s.heap [] := va_S.rf
  have hP : va_P (dC, dI) vwCl [(h0, .inr (11, [.ref h5, .int 0, .ref h6, .ref h7, .ref h8, .ref h9, .ref h10, .ref h11, .ref h1, .ref h12, .ref h13, .int 0, .ref h14, .ref h15])), (h1, .inr (2, [.ref h2, .ref h3, .ref h4, .int 0, .ref h16, .int 0, .int 0, .ref h17, .ref h18, .ref h19, .ref h20, .ref h21, .int 0])), (h2, .inl (cint, 10, .inl (fun _ => 0))), (h3, .inl (cint, 10, .inl (fun _ => 0))), (h4, .inl (cint, 10, .inl (fun _ => 0)))] s.heap := hP
  have hl := lv_entry ([.ref h0, .int p0, .int p1]) (n := 3) (Nat.le_of_ble_eq_true rfl)
  rw [lg_entry_eq]
  generalize (lg_sl ([.ref h0, .int p0, .int p1]) ++ List.replicate (3 - (lg_sl ([.ref h0, .int p0, .int p1])).length) Slot.unset).toArray = ls at hl ⊢
  have hl : lv_has ls 3 [(0, .ref h0), (1, .int p0), (2, .int p1)] := hl
  refine lv_iload_n hx hb dX11_stands_0 rfl (lv_at hl 1 rfl) ?_
  have hPc := hP.sub (ws' := []) [] rfl
  have hDc := hD.sub (ws' := []) [] (by decide) rfl
  have hKc := hK.sub (tys' := []) [] rfl
  have hFc := va_free (wc := []) hD hS hA [] rfl
  refine va_calli (va_runS (As := [.int p0]) (rest := []) ⟨hx, hb, hml, hown, hts⟩ (k_X2_isName_0 l dC dI s.heap.size p0) (va_cwS 1 hts gX11_stands_X2_isName rfl rfl rfl (by decide +kernel) ⟨Nat.le_of_ble_eq_true rfl, Nat.le_of_ble_eq_true rfl⟩) ⟨fun a U g mk q => by obtain ⟨q0, q1, qP, qK, qD⟩ := q; exact ⟨q0, q1, qP, va_K.moved (u := U) (U := U.calling g mk a) (Vm.Alike.refl U.vm) qK, qD⟩, fun U hU hW => ⟨rfl, by rw [hU], by rw [hU]; exact hPc, va_K.moved hW.alike hKc, hDc.weaken (fun _ _ _ _ => trivial)⟩⟩ rfl rfl hl.1 rfl (lv_room (Nat.le_of_ble_eq_true rfl)) dX11_stands_1 ⟨Nat.le_of_ble_eq_true rfl, Nat.le_of_ble_eq_true rfl⟩) hS (fun q _ h => hFc q h) hFc (fun r_1 u t H1 locs ht hvm hw hB hz1 hk1 hS => ?_)
  obtain ⟨hP1, hK1, hD1⟩ := hB
  rw [ht] at hP1
  have hK1 := va_K.moved hvm.symm hK1
  obtain ⟨hP, hD⟩ := va_join (wr := [(h0, .inr (11, [.ref h5, .int 0, .ref h6, .ref h7, .ref h8, .ref h9, .ref h10, .ref h11, .ref h1, .ref h12, .ref h13, .int 0, .ref h14, .ref h15])), (h1, .inr (2, [.ref h2, .ref h3, .ref h4, .int 0, .ref h16, .int 0, .int 0, .ref h17, .ref h18, .ref h19, .ref h20, .ref h21, .int 0])), (h2, .inl (cint, 10, .inl (fun _ => 0))), (h3, .inl (cint, 10, .inl (fun _ => 0))), (h4, .inl (cint, 10, .inl (fun _ => 0)))]) (w1 := []) hP hD [] [0, 1, 2, 3, 4] rfl rfl (by decide) (by decide) hk1 hFc hP1 hD1
  generalize H1 = H at hP hS ⊢
  have hP : va_P (dC, dI) vwCl [(h0, .inr (11, [.ref h5, .int 0, .ref h6, .ref h7, .ref h8, .ref h9, .ref h10, .ref h11, .ref h1, .ref h12, .ref h13, .int 0, .ref h14, .ref h15])), (h1, .inr (2, [.ref h2, .ref h3, .ref h4, .int 0, .ref h16, .int 0, .int 0, .ref h17, .ref h18, .ref h19, .ref h20, .ref h21, .int 0])), (h2, .inl (cint, 10, .inl (fun _ => 0))), (h3, .inl (cint, 10, .inl (fun _ => 0))), (h4, .inl (cint, 10, .inl (fun _ => 0)))] H := hP
  have hD : va_D A [(h0, .inr (11, [.ref h5, .int 0, .ref h6, .ref h7, .ref h8, .ref h9, .ref h10, .ref h11, .ref h1, .ref h12, .ref h13, .int 0, .ref h14, .ref h15])), (h1, .inr (2, [.ref h2, .ref h3, .ref h4, .int 0, .ref h16, .int 0, .int 0, .ref h17, .ref h18, .ref h19, .ref h20, .ref h21, .int 0])), (h2, .inl (cint, 10, .inl (fun _ => 0))), (h3, .inl (cint, 10, .inl (fun _ => 0))), (h4, .inl (cint, 10, .inl (fun _ => 0)))] := hD
  rcases hw with ⟨t_1_0, rfl⟩ | ⟨t_1_0, t_1_1, rfl⟩ | ⟨t_1_0, t_1_1, rfl⟩
  · skip
    refine lv_if_eq (tgt := 17) hx hb dX11_stands_4 (by decide) (fun _ => ?_) (fun c => absurd c (by decide))
    refine lv_iconst (v := (-1)) hx hb dX11_stands_17 (by decide) ?_
    have hP9 := hP.sub (ws' := []) [] rfl
    have hD9 := hD.sub (ws' := []) [] (by decide) rfl
    have hK9 := hK.sub (tys' := []) [] rfl
    exact W.iret (v := (-1)) hx hb hr (fun t ht hW => ⟨⟨(-1), (), rfl, by first | rfl | ((repeat' split) <;> first | rfl | (exfalso; omega) | (exact Int32.toInt_inj.mp (by show ((-1) : Int) = _; omega))), by rw [ht]; exact hP9, va_K.moved hW.alike hK9, hD9⟩, hS.F ht⟩) hS.2.2 dX11_stands_18
  · skip
    refine lv_if_eq (tgt := 17) hx hb dX11_stands_4 (by decide) (fun _ => ?_) (fun c => absurd c (by decide))
    refine lv_iconst (v := (-1)) hx hb dX11_stands_17 (by decide) ?_
    have hP9 := hP.sub (ws' := []) [] rfl
    have hD9 := hD.sub (ws' := []) [] (by decide) rfl
    have hK9 := hK.sub (tys' := []) [] rfl
    exact W.iret (v := (-1)) hx hb hr (fun t ht hW => ⟨⟨(-1), (), rfl, by first | rfl | ((repeat' split) <;> first | rfl | (exfalso; omega) | (exact Int32.toInt_inj.mp (by show ((-1) : Int) = _; omega))), by rw [ht]; exact hP9, va_K.moved hW.alike hK9, hD9⟩, hS.F ht⟩) hS.2.2 dX11_stands_18
  · skip
    refine lv_if_eq (tgt := 17) hx hb dX11_stands_4 (by decide) (fun c => absurd c (by decide)) (fun _ => ?_)
    refine lv_iload_n hx hb dX11_stands_7 rfl (lv_at hl 2 rfl) ?_
    refine lv_if_lt (tgt := 17) hx hb dX11_stands_8 (by decide) (fun c_2 => ?_) (fun c_2 => ?_)
    · have t_2 : p1.toInt < 0 := kk_lt c_2
      refine lv_iconst (v := (-1)) hx hb dX11_stands_17 (by decide) ?_
      have hP9 := hP.sub (ws' := []) [] rfl
      have hD9 := hD.sub (ws' := []) [] (by decide) rfl
      have hK9 := hK.sub (tys' := []) [] rfl
      exact W.iret (v := (-1)) hx hb hr (fun t ht hW => ⟨⟨(-1), (), rfl, by first | rfl | ((repeat' split) <;> first | rfl | (exfalso; omega) | (exact Int32.toInt_inj.mp (by show ((-1) : Int) = _; omega))), by rw [ht]; exact hP9, va_K.moved hW.alike hK9, hD9⟩, hS.F ht⟩) hS.2.2 dX11_stands_18
    · have t_2 : 0 ≤ p1.toInt := kk_nlt c_2
      refine lv_iload_n hx hb dX11_stands_11 rfl (lv_at hl 2 rfl) ?_
      refine lv_bipush (v := 40) hx hb dX11_stands_12 (by decide) ?_
      refine lv_icmp_lt (tgt := 19) hx hb dX11_stands_14 (by decide) (fun c_3 => ?_) (fun c_3 => ?_)
      · have t_3 : p1.toInt < 40 := kk_lt c_3
        refine lv_aload_n hx hb dX11_stands_19 rfl (lv_at hl 0 rfl) ?_
        refine va_get (D := (dC, dI)) (ci := 11) (v := .ref h1) (C := RX11) (T := TX11) (N := 14) hx hb hts (fun _ h => List.mem_cons_of_mem _ (List.mem_append_left _ (List.mem_append_right _ h))) hown hK hP 0 rfl rfl 8 (by decide) (hts (.fieldLink RX11 58 "KinkStreet" "deeds" "LKinkStreet$Deeds;") (List.mem_of_getElem? (i := 1) rfl)) (fun _ h9 => h9) rfl dX11_stands_20 ?_
        have hPc := hP.sub (ws' := [(h1, .inr (2, [.ref h2, .ref h3, .ref h4, .int 0, .ref h16, .int 0, .int 0, .ref h17, .ref h18, .ref h19, .ref h20, .ref h21, .int 0]))]) [1] rfl
        have hDc := hD.sub (ws' := [(h1, .inr (2, [.ref h2, .ref h3, .ref h4, .int 0, .ref h16, .int 0, .int 0, .ref h17, .ref h18, .ref h19, .ref h20, .ref h21, .int 0]))]) [1] (by decide) rfl
        have hKc := hK.sub (tys' := []) [] rfl
        have hFc := va_free (wc := [(h1, .inr (2, [.ref h2, .ref h3, .ref h4, .int 0, .ref h16, .int 0, .int 0, .ref h17, .ref h18, .ref h19, .ref h20, .ref h21, .int 0]))]) hD hS hA [1] rfl
        refine va_calli (va_runV (As := []) (rest := []) ⟨hx, hb, hml, hown, hts⟩ (k_X2_isFull_0 l dC dI h1 h2 h3 h4 h16 h17 h18 h19 h20 h21 H.size) (cwV 0 hts gX11_stands_X2_isFull rfl rfl rfl (by decide +kernel) ⟨Nat.le_of_ble_eq_true rfl, Nat.le_of_ble_eq_true rfl⟩) ⟨fun a U g mk q => by obtain ⟨q0, q1, qP, qK, qD⟩ := q; exact ⟨q0, q1, qP, va_K.moved (u := U) (U := U.calling g mk a) (Vm.Alike.refl U.vm) qK, qD⟩, va_recv hKc hPc (ci := 2) (q0 := 0) rfl rfl, fun U hU hW => ⟨rfl, by rw [hU], by rw [hU]; exact hPc, va_K.moved hW.alike hKc, hDc.weaken (fun _ _ _ _ => trivial)⟩⟩ rfl rfl hl.1 rfl (lv_room (Nat.le_of_ble_eq_true rfl)) dX11_stands_23 ⟨Nat.le_of_ble_eq_true rfl, Nat.le_of_ble_eq_true rfl⟩) hS (fun q _ h => hFc q h) hFc (fun r_4 u t H1 locs ht hvm hw hB hz1 hk1 hS => ?_)
        obtain ⟨hP1, hK1, hD1⟩ := hB
        rw [ht] at hP1
        have hK1 := va_K.moved hvm.symm hK1
        obtain ⟨hP, hD⟩ := va_join (wr := [(h0, .inr (11, [.ref h5, .int 0, .ref h6, .ref h7, .ref h8, .ref h9, .ref h10, .ref h11, .ref h1, .ref h12, .ref h13, .int 0, .ref h14, .ref h15])), (h2, .inl (cint, 10, .inl (fun _ => 0))), (h3, .inl (cint, 10, .inl (fun _ => 0))), (h4, .inl (cint, 10, .inl (fun _ => 0)))]) (w1 := [(h1, .inr (2, [.ref h2, .ref h3, .ref h4, .int 0, .ref h16, .int 0, .int 0, .ref h17, .ref h18, .ref h19, .ref h20, .ref h21, .int 0]))]) hP hD [1] [0, 2, 3, 4] rfl rfl (by decide) (by decide) hk1 hFc hP1 hD1
        generalize H1 = H at hP hS ⊢
        have hP : va_P (dC, dI) vwCl [(h0, .inr (11, [.ref h5, .int 0, .ref h6, .ref h7, .ref h8, .ref h9, .ref h10, .ref h11, .ref h1, .ref h12, .ref h13, .int 0, .ref h14, .ref h15])), (h2, .inl (cint, 10, .inl (fun _ => 0))), (h3, .inl (cint, 10, .inl (fun _ => 0))), (h4, .inl (cint, 10, .inl (fun _ => 0))), (h1, .inr (2, [.ref h2, .ref h3, .ref h4, .int 0, .ref h16, .int 0, .int 0, .ref h17, .ref h18, .ref h19, .ref h20, .ref h21, .int 0]))] H := hP
        have hD : va_D A [(h0, .inr (11, [.ref h5, .int 0, .ref h6, .ref h7, .ref h8, .ref h9, .ref h10, .ref h11, .ref h1, .ref h12, .ref h13, .int 0, .ref h14, .ref h15])), (h2, .inl (cint, 10, .inl (fun _ => 0))), (h3, .inl (cint, 10, .inl (fun _ => 0))), (h4, .inl (cint, 10, .inl (fun _ => 0))), (h1, .inr (2, [.ref h2, .ref h3, .ref h4, .int 0, .ref h16, .int 0, .int 0, .ref h17, .ref h18, .ref h19, .ref h20, .ref h21, .int 0]))] := hD
        obtain rfl := hw
        refine lv_if_eq (tgt := 34) hx hb dX11_stands_26 (by decide) (fun _ => ?_) (fun c => absurd c (by decide))
        refine lv_aload_n hx hb dX11_stands_34 rfl (lv_at hl 0 rfl) ?_
        refine va_get (D := (dC, dI)) (ci := 11) (v := .ref h1) (C := RX11) (T := TX11) (N := 14) hx hb hts (fun _ h => List.mem_cons_of_mem _ (List.mem_append_left _ (List.mem_append_right _ h))) hown hK hP 0 rfl rfl 8 (by decide) (hts (.fieldLink RX11 58 "KinkStreet" "deeds" "LKinkStreet$Deeds;") (List.mem_of_getElem? (i := 1) rfl)) (fun _ h9 => h9) rfl dX11_stands_35 ?_
        refine lv_iload_n hx hb dX11_stands_38 rfl (lv_at hl 1 rfl) ?_
        refine lv_iconst (v := (-1)) hx hb dX11_stands_39 (by decide) ?_
        refine lv_iload_n hx hb dX11_stands_40 rfl (lv_at hl 2 rfl) ?_
        have hPc := hP.sub (ws' := [(h1, .inr (2, [.ref h2, .ref h3, .ref h4, .int 0, .ref h16, .int 0, .int 0, .ref h17, .ref h18, .ref h19, .ref h20, .ref h21, .int 0])), (h2, .inl (cint, 10, .inl (fun _ => 0))), (h3, .inl (cint, 10, .inl (fun _ => 0))), (h4, .inl (cint, 10, .inl (fun _ => 0)))]) [4, 1, 2, 3] rfl
        have hDc := hD.sub (ws' := [(h1, .inr (2, [.ref h2, .ref h3, .ref h4, .int 0, .ref h16, .int 0, .int 0, .ref h17, .ref h18, .ref h19, .ref h20, .ref h21, .int 0])), (h2, .inl (cint, 10, .inl (fun _ => 0))), (h3, .inl (cint, 10, .inl (fun _ => 0))), (h4, .inl (cint, 10, .inl (fun _ => 0)))]) [4, 1, 2, 3] (by decide) rfl
        have hKc := hK.sub (tys' := [(cint, .int)]) [0] rfl
        have hFc := va_free (wc := [(h1, .inr (2, [.ref h2, .ref h3, .ref h4, .int 0, .ref h16, .int 0, .int 0, .ref h17, .ref h18, .ref h19, .ref h20, .ref h21, .int 0])), (h2, .inl (cint, 10, .inl (fun _ => 0))), (h3, .inl (cint, 10, .inl (fun _ => 0))), (h4, .inl (cint, 10, .inl (fun _ => 0)))]) hD hS hA [4, 1, 2, 3] rfl
        refine va_calli (va_runV (As := [.int p0, .int (-1), .int p1]) (rest := []) ⟨hx, hb, hml, hown, hts⟩ (k_X2_write_1 l dC dI h1 h2 h3 h4 h16 h17 h18 h19 h20 h21 cint H.size p0 p1) (cwV 3 hts gX11_stands_X2_write rfl rfl rfl (by decide +kernel) ⟨Nat.le_of_ble_eq_true rfl, Nat.le_of_ble_eq_true rfl⟩) ⟨fun a U g mk q => by obtain ⟨q0, q1, qP, qK, qD⟩ := q; exact ⟨q0, q1, qP, va_K.moved (u := U) (U := U.calling g mk a) (Vm.Alike.refl U.vm) qK, qD⟩, va_recv hKc hPc (ci := 2) (q0 := 0) rfl rfl, fun U hU hW => ⟨rfl, by rw [hU], by rw [hU]; exact hPc, va_K.moved hW.alike hKc, hDc.weaken (fun _ _ _ _ => trivial)⟩⟩ rfl rfl hl.1 rfl (lv_room (Nat.le_of_ble_eq_true rfl)) dX11_stands_41 ⟨Nat.le_of_ble_eq_true rfl, Nat.le_of_ble_eq_true rfl⟩) hS (fun q _ h => hFc q h) hFc (fun r_5 u t H1 locs ht hvm hw hB hz1 hk1 hS => ?_)
        obtain ⟨hP1, hK1, hD1⟩ := hB
        rw [ht] at hP1
        have hK1 := va_K.moved hvm.symm hK1
        obtain ⟨hP, hD⟩ := va_join (wr := [(h0, .inr (11, [.ref h5, .int 0, .ref h6, .ref h7, .ref h8, .ref h9, .ref h10, .ref h11, .ref h1, .ref h12, .ref h13, .int 0, .ref h14, .ref h15]))]) (w1 := []) hP hD [4, 1, 2, 3] [0] rfl rfl (by decide) (by decide) hk1 hFc hP1 hD1
        generalize H1 = H at hP hS ⊢
        have hP : va_P (dC, dI) vwCl [(h0, .inr (11, [.ref h5, .int 0, .ref h6, .ref h7, .ref h8, .ref h9, .ref h10, .ref h11, .ref h1, .ref h12, .ref h13, .int 0, .ref h14, .ref h15]))] H := hP
        have hD : va_D A [(h0, .inr (11, [.ref h5, .int 0, .ref h6, .ref h7, .ref h8, .ref h9, .ref h10, .ref h11, .ref h1, .ref h12, .ref h13, .int 0, .ref h14, .ref h15]))] := hD
        obtain rfl := hw
        have hP9 := hP.sub (ws' := []) [] rfl
        have hD9 := hD.sub (ws' := []) [] (by decide) rfl
        have hK9 := hK.sub (tys' := []) [] rfl
        exact W.iret (v := 1) hx hb hr (fun t ht hW => ⟨⟨1, (), rfl, by first | rfl | ((repeat' split) <;> first | rfl | (exfalso; omega) | (exact Int32.toInt_inj.mp (by show (1 : Int) = _; omega))), by rw [ht]; exact hP9, va_K.moved hW.alike hK9, hD9⟩, hS.F ht⟩) hS.2.2 dX11_stands_44
      · have t_3 : 40 ≤ p1.toInt := kk_nlt c_3
        refine lv_iconst (v := (-1)) hx hb dX11_stands_17 (by decide) ?_
        have hP9 := hP.sub (ws' := []) [] rfl
        have hD9 := hD.sub (ws' := []) [] (by decide) rfl
        have hK9 := hK.sub (tys' := []) [] rfl
        exact W.iret (v := (-1)) hx hb hr (fun t ht hW => ⟨⟨(-1), (), rfl, by first | rfl | ((repeat' split) <;> first | rfl | (exfalso; omega) | (exact Int32.toInt_inj.mp (by show ((-1) : Int) = _; omega))), by rw [ht]; exact hP9, va_K.moved hW.alike hK9, hD9⟩, hS.F ht⟩) hS.2.2 dX11_stands_18
set_option maxHeartbeats 4000000 in
set_option maxRecDepth 100000 in
theorem k_X2_clear_0 (l : Launch) (dC : Nat → ClassId) (dI : Nat → Nat → Nat) (h0 h1 h2 h3 h4 h5 h6 h7 h8 h9 : Nat) (sz : Nat)  : Met l yX2_clear wsX2_clear ({ frames := 0, cells := 0, slots := 0, locals := 0 }) (va_Pc [.ref h0] (fun U => U.heap.size = sz ∧ va_P (dC, dI) vwCl [(h0, .inr (2, [.ref h1, .ref h2, .ref h3, .int 0, .ref h4, .int 0, .int 0, .ref h5, .ref h6, .ref h7, .ref h8, .ref h9, .int 0]))] U.heap ∧ va_K (dC, dI) vwCl [] U ∧ va_D (fun _ => True) [(h0, .inr (2, [.ref h1, .ref h2, .ref h3, .int 0, .ref h4, .int 0, .int 0, .ref h5, .ref h6, .ref h7, .ref h8, .ref h9, .int 0]))])) (va_Qi (fun (r : Int32) (_ : Unit) => r = 0) (fun (_ : Unit) t => va_P (dC, dI) vwCl [(h0, .inr (2, [.ref h1, .ref h2, .ref h3, .int 0, .ref h4, .int 0, .int 0, .ref h5, .ref h6, .ref h7, .ref h8, .ref h9, .int 0]))] t.heap ∧ va_K (dC, dI) vwCl [] t ∧ va_D (va_A [(h0, .inr (2, [.ref h1, .ref h2, .ref h3, .int 0, .ref h4, .int 0, .int 0, .ref h5, .ref h6, .ref h7, .ref h8, .ref h9, .int 0]))] sz) [(h0, .inr (2, [.ref h1, .ref h2, .ref h3, .int 0, .ref h4, .int 0, .int 0, .ref h5, .ref h6, .ref h7, .ref h8, .ref h9, .int 0]))]) (va_A [(h0, .inr (2, [.ref h1, .ref h2, .ref h3, .int 0, .ref h4, .int 0, .int 0, .ref h5, .ref h6, .ref h7, .ref h8, .ref h9, .int 0]))] sz)) 0 0 (va_A [(h0, .inr (2, [.ref h1, .ref h2, .ref h3, .int 0, .ref h4, .int 0, .int 0, .ref h5, .ref h6, .ref h7, .ref h8, .ref h9, .int 0]))] sz) := by
  refine Met.ofW (cc := cX2_clear) (maxL := 2) (ret := (some .int)) (by decide) rfl ?_
  intro p e s m args below meth c s₁ B hml hv
  obtain ⟨rfl, hsz, hP, hK, hD0⟩ := hv
  have hx := B.exec
  have hb := B.bytes
  have hr := B.returns
  have hts := atoms_spec (ws := wsX2_clear) B.pre
  have hown : s.vm.findClass RX2 = some m.cls := findClass_of_methodNamed B.named
  have hlocks := B.notSynchronized
  subst hsz
  have hD := hD0.self (sz := s.heap.size)
  generalize hAe : va_A [(h0, .inr (2, [.ref h1, .ref h2, .ref h3, .int 0, .ref h4, .int 0, .int 0, .ref h5, .ref h6, .ref h7, .ref h8, .ref h9, .int 0]))] s.heap.size = A at hD ⊢
  have hA : ∀ q : Nat, s.heap.size ≤ q → A q := fun q h => by rw [← hAe]; exact Or.inr h
  have hS : va_S A s.heap s.heap [] := va_S.rf
  have hP : va_P (dC, dI) vwCl [(h0, .inr (2, [.ref h1, .ref h2, .ref h3, .int 0, .ref h4, .int 0, .int 0, .ref h5, .ref h6, .ref h7, .ref h8, .ref h9, .int 0]))] s.heap := hP
  have hl := lv_entry ([.ref h0]) (n := 2) (Nat.le_of_ble_eq_true rfl)
  rw [lg_entry_eq]
  generalize (lg_sl ([.ref h0]) ++ List.replicate (2 - (lg_sl ([.ref h0])).length) Slot.unset).toArray = ls at hl ⊢
  have hl : lv_has ls 2 [(0, .ref h0)] := hl
  refine lv_aload_n hx hb dX2_clear_0 rfl (lv_at hl 0 rfl) ?_
  refine va_get (D := (dC, dI)) (ci := 2) (v := .int 0) (C := RX2) (T := TX2) (N := 13) hx hb hts (fun _ h => List.mem_cons_of_mem _ (List.mem_append_right _ h)) hown hK hP 0 rfl rfl 3 (by decide) (hts (.fieldLink RX2 41 "KinkStreet$Deeds" "size" "I") (List.mem_of_getElem? (i := 1) rfl)) (fun _ h9 => h9) rfl dX2_clear_1 ?_
  refine lv_istore_n (lv' := [(1, .int 0), (0, .ref h0)]) hx hb dX2_clear_4 rfl hl (by decide) rfl (fun ls hl => ?_)
  refine lv_aload_n hx hb dX2_clear_5 rfl (lv_at hl 1 rfl) ?_
  refine lv_iconst (v := 0) hx hb dX2_clear_6 (by decide) ?_
  refine va_put (D := (dC, dI)) (ci := 2) (v := .int 0) (ty := .int) (C := RX2) (T := TX2) (N := 13) hx hb hts (fun _ h => List.mem_cons_of_mem _ (List.mem_append_right _ h)) tyX2 tyX2_ok nmX2 hown hK hP hD hS 0 rfl rfl 3 (by decide) (hts (.fieldLink RX2 41 "KinkStreet$Deeds" "size" "I") (List.mem_of_getElem? (i := 1) rfl)) (fun _ h9 => h9) rfl (by decide +kernel) rfl rfl (Nat.le_of_ble_eq_true rfl) dX2_clear_7 (fun H locs hP hD hS => ?_)
  have hP : va_P (dC, dI) vwCl [(h0, .inr (2, [.ref h1, .ref h2, .ref h3, .int 0, .ref h4, .int 0, .int 0, .ref h5, .ref h6, .ref h7, .ref h8, .ref h9, .int 0]))] H := hP
  have hD : va_D A [(h0, .inr (2, [.ref h1, .ref h2, .ref h3, .int 0, .ref h4, .int 0, .int 0, .ref h5, .ref h6, .ref h7, .ref h8, .ref h9, .int 0]))] := hD
  refine lv_iload_n hx hb dX2_clear_10 rfl (lv_at hl 0 rfl) ?_
  have hP9 := hP.sub (ws' := [(h0, .inr (2, [.ref h1, .ref h2, .ref h3, .int 0, .ref h4, .int 0, .int 0, .ref h5, .ref h6, .ref h7, .ref h8, .ref h9, .int 0]))]) [0] rfl
  have hD9 := hD.sub (ws' := [(h0, .inr (2, [.ref h1, .ref h2, .ref h3, .int 0, .ref h4, .int 0, .int 0, .ref h5, .ref h6, .ref h7, .ref h8, .ref h9, .int 0]))]) [0] (by decide) rfl
  have hK9 := hK.sub (tys' := []) [] rfl
  exact W.iret (v := 0) hx hb hr (fun t ht hW => ⟨⟨0, (), rfl, rfl, by rw [ht]; exact hP9, va_K.moved hW.alike hK9, hD9⟩, hS.F ht⟩) hS.2.2 dX2_clear_11
set_option maxHeartbeats 4000000 in
set_option maxRecDepth 100000 in
theorem k_X11_burn_0 (l : Launch) (dC : Nat → ClassId) (dI : Nat → Nat → Nat) (h0 h1 h2 h3 h4 h5 h6 h7 h8 h9 h10 h11 h12 h13 h14 h15 h16 h17 h18 h19 h20 h21 : Nat) (sz : Nat)  : Met l yX11_burn wsX11_burn ({ frames := 1, cells := 0, slots := 0, locals := 21 }) (va_Pc [.ref h0] (fun U => U.heap.size = sz ∧ va_P (dC, dI) vwCl [(h0, .inr (11, [.ref h2, .int 0, .ref h3, .ref h4, .ref h5, .ref h6, .ref h7, .ref h8, .ref h1, .ref h9, .ref h10, .int 0, .ref h11, .ref h12])), (h1, .inr (2, [.ref h13, .ref h14, .ref h15, .int 0, .ref h16, .int 0, .int 0, .ref h17, .ref h18, .ref h19, .ref h20, .ref h21, .int 0]))] U.heap ∧ va_K (dC, dI) vwCl [] U ∧ va_D (fun _ => True) [(h0, .inr (11, [.ref h2, .int 0, .ref h3, .ref h4, .ref h5, .ref h6, .ref h7, .ref h8, .ref h1, .ref h9, .ref h10, .int 0, .ref h11, .ref h12])), (h1, .inr (2, [.ref h13, .ref h14, .ref h15, .int 0, .ref h16, .int 0, .int 0, .ref h17, .ref h18, .ref h19, .ref h20, .ref h21, .int 0]))])) (va_Qi (fun (r : Int32) (_ : Unit) => r = 0) (fun (_ : Unit) t => va_P (dC, dI) vwCl [] t.heap ∧ va_K (dC, dI) vwCl [] t ∧ va_D (va_A [(h0, .inr (11, [.ref h2, .int 0, .ref h3, .ref h4, .ref h5, .ref h6, .ref h7, .ref h8, .ref h1, .ref h9, .ref h10, .int 0, .ref h11, .ref h12])), (h1, .inr (2, [.ref h13, .ref h14, .ref h15, .int 0, .ref h16, .int 0, .int 0, .ref h17, .ref h18, .ref h19, .ref h20, .ref h21, .int 0]))] sz) []) (va_A [(h0, .inr (11, [.ref h2, .int 0, .ref h3, .ref h4, .ref h5, .ref h6, .ref h7, .ref h8, .ref h1, .ref h9, .ref h10, .int 0, .ref h11, .ref h12])), (h1, .inr (2, [.ref h13, .ref h14, .ref h15, .int 0, .ref h16, .int 0, .int 0, .ref h17, .ref h18, .ref h19, .ref h20, .ref h21, .int 0]))] sz)) 0 0 (va_A [(h0, .inr (11, [.ref h2, .int 0, .ref h3, .ref h4, .ref h5, .ref h6, .ref h7, .ref h8, .ref h1, .ref h9, .ref h10, .int 0, .ref h11, .ref h12])), (h1, .inr (2, [.ref h13, .ref h14, .ref h15, .int 0, .ref h16, .int 0, .int 0, .ref h17, .ref h18, .ref h19, .ref h20, .ref h21, .int 0]))] sz) := by
  refine Met.ofW (cc := cX11_burn) (maxL := 1) (ret := (some .int)) (by decide) rfl ?_
  intro p e s m args below meth c s₁ B hml hv
  obtain ⟨rfl, hsz, hP, hK, hD0⟩ := hv
  have hx := B.exec
  have hb := B.bytes
  have hr := B.returns
  have hts := atoms_spec (ws := wsX11_burn) B.pre
  have hown : s.vm.findClass RX11 = some m.cls := findClass_of_methodNamed B.named
  have hlocks := B.notSynchronized
  subst hsz
  have hD := hD0.self (sz := s.heap.size)
  generalize hAe : va_A [(h0, .inr (11, [.ref h2, .int 0, .ref h3, .ref h4, .ref h5, .ref h6, .ref h7, .ref h8, .ref h1, .ref h9, .ref h10, .int 0, .ref h11, .ref h12])), (h1, .inr (2, [.ref h13, .ref h14, .ref h15, .int 0, .ref h16, .int 0, .int 0, .ref h17, .ref h18, .ref h19, .ref h20, .ref h21, .int 0]))] s.heap.size = A at hD ⊢
  have hA : ∀ q : Nat, s.heap.size ≤ q → A q := fun q h => by rw [← hAe]; exact Or.inr h
  have hS : va_S A s.heap s.heap [] := va_S.rf
  have hP : va_P (dC, dI) vwCl [(h0, .inr (11, [.ref h2, .int 0, .ref h3, .ref h4, .ref h5, .ref h6, .ref h7, .ref h8, .ref h1, .ref h9, .ref h10, .int 0, .ref h11, .ref h12])), (h1, .inr (2, [.ref h13, .ref h14, .ref h15, .int 0, .ref h16, .int 0, .int 0, .ref h17, .ref h18, .ref h19, .ref h20, .ref h21, .int 0]))] s.heap := hP
  have hl := lv_entry ([.ref h0]) (n := 1) (Nat.le_of_ble_eq_true rfl)
  rw [lg_entry_eq]
  generalize (lg_sl ([.ref h0]) ++ List.replicate (1 - (lg_sl ([.ref h0])).length) Slot.unset).toArray = ls at hl ⊢
  have hl : lv_has ls 1 [(0, .ref h0)] := hl
  refine lv_aload_n hx hb dX11_burn_0 rfl (lv_at hl 0 rfl) ?_
  refine va_get (D := (dC, dI)) (ci := 11) (v := .ref h1) (C := RX11) (T := TX11) (N := 14) hx hb hts (fun _ h => List.mem_cons_of_mem _ (List.mem_append_left _ (List.mem_append_right _ h))) hown hK hP 0 rfl rfl 8 (by decide) (hts (.fieldLink RX11 58 "KinkStreet" "deeds" "LKinkStreet$Deeds;") (List.mem_of_getElem? (i := 1) rfl)) (fun _ h9 => h9) rfl dX11_burn_1 ?_
  have hPc := hP.sub (ws' := [(h1, .inr (2, [.ref h13, .ref h14, .ref h15, .int 0, .ref h16, .int 0, .int 0, .ref h17, .ref h18, .ref h19, .ref h20, .ref h21, .int 0]))]) [1] rfl
  have hDc := hD.sub (ws' := [(h1, .inr (2, [.ref h13, .ref h14, .ref h15, .int 0, .ref h16, .int 0, .int 0, .ref h17, .ref h18, .ref h19, .ref h20, .ref h21, .int 0]))]) [1] (by decide) rfl
  have hKc := hK.sub (tys' := []) [] rfl
  have hFc := va_free (wc := [(h1, .inr (2, [.ref h13, .ref h14, .ref h15, .int 0, .ref h16, .int 0, .int 0, .ref h17, .ref h18, .ref h19, .ref h20, .ref h21, .int 0]))]) hD hS hA [1] rfl
  refine va_calli (va_runV (As := []) (rest := []) ⟨hx, hb, hml, hown, hts⟩ (k_X2_clear_0 l dC dI h1 h13 h14 h15 h16 h17 h18 h19 h20 h21 s.heap.size) (cwV 0 hts gX11_burn_X2_clear rfl rfl rfl (by decide +kernel) ⟨Nat.le_of_ble_eq_true rfl, Nat.le_of_ble_eq_true rfl⟩) ⟨fun a U g mk q => by obtain ⟨q0, q1, qP, qK, qD⟩ := q; exact ⟨q0, q1, qP, va_K.moved (u := U) (U := U.calling g mk a) (Vm.Alike.refl U.vm) qK, qD⟩, va_recv hKc hPc (ci := 2) (q0 := 0) rfl rfl, fun U hU hW => ⟨rfl, by rw [hU], by rw [hU]; exact hPc, va_K.moved hW.alike hKc, hDc.weaken (fun _ _ _ _ => trivial)⟩⟩ rfl rfl hl.1 rfl (lv_room (Nat.le_of_ble_eq_true rfl)) dX11_burn_4 ⟨Nat.le_of_ble_eq_true rfl, Nat.le_of_ble_eq_true rfl⟩) hS (fun q _ h => hFc q h) hFc (fun r_1 u t H1 locs ht hvm hw hB hz1 hk1 hS => ?_)
  obtain ⟨hP1, hK1, hD1⟩ := hB
  rw [ht] at hP1
  have hK1 := va_K.moved hvm.symm hK1
  obtain ⟨hP, hD⟩ := va_join (wr := [(h0, .inr (11, [.ref h2, .int 0, .ref h3, .ref h4, .ref h5, .ref h6, .ref h7, .ref h8, .ref h1, .ref h9, .ref h10, .int 0, .ref h11, .ref h12]))]) (w1 := [(h1, .inr (2, [.ref h13, .ref h14, .ref h15, .int 0, .ref h16, .int 0, .int 0, .ref h17, .ref h18, .ref h19, .ref h20, .ref h21, .int 0]))]) hP hD [1] [0] rfl rfl (by decide) (by decide) hk1 hFc hP1 hD1
  generalize H1 = H at hP hS ⊢
  have hP : va_P (dC, dI) vwCl [(h0, .inr (11, [.ref h2, .int 0, .ref h3, .ref h4, .ref h5, .ref h6, .ref h7, .ref h8, .ref h1, .ref h9, .ref h10, .int 0, .ref h11, .ref h12])), (h1, .inr (2, [.ref h13, .ref h14, .ref h15, .int 0, .ref h16, .int 0, .int 0, .ref h17, .ref h18, .ref h19, .ref h20, .ref h21, .int 0]))] H := hP
  have hD : va_D A [(h0, .inr (11, [.ref h2, .int 0, .ref h3, .ref h4, .ref h5, .ref h6, .ref h7, .ref h8, .ref h1, .ref h9, .ref h10, .int 0, .ref h11, .ref h12])), (h1, .inr (2, [.ref h13, .ref h14, .ref h15, .int 0, .ref h16, .int 0, .int 0, .ref h17, .ref h18, .ref h19, .ref h20, .ref h21, .int 0]))] := hD
  obtain rfl := hw
  have hP9 := hP.sub (ws' := []) [] rfl
  have hD9 := hD.sub (ws' := []) [] (by decide) rfl
  have hK9 := hK.sub (tys' := []) [] rfl
  exact W.iret (v := 0) hx hb hr (fun t ht hW => ⟨⟨0, (), rfl, by first | rfl | ((repeat' split) <;> first | rfl | (exfalso; omega) | (exact Int32.toInt_inj.mp (by show (0 : Int) = _; omega))), by rw [ht]; exact hP9, va_K.moved hW.alike hK9, hD9⟩, hS.F ht⟩) hS.2.2 dX11_burn_7
set_option maxHeartbeats 4000000 in
set_option maxRecDepth 100000 in
theorem k_X11_all_0 (l : Launch) (dC : Nat → ClassId) (dI : Nat → Nat → Nat) (h0 h1 h2 h3 h4 h5 h6 h7 h8 h9 h10 h11 h12 : Nat) (sz : Nat) (p0 : Int32) (p1 : Int32) (p2 : Int32) : Met l yX11_all wsX11_all ({ frames := 1, cells := 0, slots := 0, locals := 21 }) (va_Pc [.ref h0, .int p0, .int p1, .int p2] (fun U => U.heap.size = sz ∧ va_P (dC, dI) vwCl [(h0, .inr (11, [.ref h1, .int 0, .ref h2, .ref h3, .ref h4, .ref h5, .ref h6, .ref h7, .ref h8, .ref h9, .ref h10, .int 0, .ref h11, .ref h12]))] U.heap ∧ va_K (dC, dI) vwCl [] U ∧ va_D (fun _ => True) [(h0, .inr (11, [.ref h1, .int 0, .ref h2, .ref h3, .ref h4, .ref h5, .ref h6, .ref h7, .ref h8, .ref h9, .ref h10, .int 0, .ref h11, .ref h12]))])) (va_Qi (fun (r : Int32) (_ : Unit) => r = -1) (fun (_ : Unit) t => va_P (dC, dI) vwCl [] t.heap ∧ va_K (dC, dI) vwCl [] t ∧ va_D (va_A [(h0, .inr (11, [.ref h1, .int 0, .ref h2, .ref h3, .ref h4, .ref h5, .ref h6, .ref h7, .ref h8, .ref h9, .ref h10, .int 0, .ref h11, .ref h12]))] sz) []) (va_A [(h0, .inr (11, [.ref h1, .int 0, .ref h2, .ref h3, .ref h4, .ref h5, .ref h6, .ref h7, .ref h8, .ref h9, .ref h10, .int 0, .ref h11, .ref h12]))] sz)) 0 0 (va_A [(h0, .inr (11, [.ref h1, .int 0, .ref h2, .ref h3, .ref h4, .ref h5, .ref h6, .ref h7, .ref h8, .ref h9, .ref h10, .int 0, .ref h11, .ref h12]))] sz) := by
  refine Met.ofW (cc := cX11_all) (maxL := 7) (ret := (some .int)) (by decide) rfl ?_
  intro p e s m args below meth c s₁ B hml hv
  obtain ⟨rfl, hsz, hP, hK, hD0⟩ := hv
  have hx := B.exec
  have hb := B.bytes
  have hr := B.returns
  have hts := atoms_spec (ws := wsX11_all) B.pre
  have hown : s.vm.findClass RX11 = some m.cls := findClass_of_methodNamed B.named
  have hlocks := B.notSynchronized
  subst hsz
  have hD := hD0.self (sz := s.heap.size)
  generalize hAe : va_A [(h0, .inr (11, [.ref h1, .int 0, .ref h2, .ref h3, .ref h4, .ref h5, .ref h6, .ref h7, .ref h8, .ref h9, .ref h10, .int 0, .ref h11, .ref h12]))] s.heap.size = A at hD ⊢
  have hA : ∀ q : Nat, s.heap.size ≤ q → A q := fun q h => by rw [← hAe]; exact Or.inr h
  have hS : va_S A s.heap s.heap [] := va_S.rf
  have hP : va_P (dC, dI) vwCl [(h0, .inr (11, [.ref h1, .int 0, .ref h2, .ref h3, .ref h4, .ref h5, .ref h6, .ref h7, .ref h8, .ref h9, .ref h10, .int 0, .ref h11, .ref h12]))] s.heap := hP
  have hl := lv_entry ([.ref h0, .int p0, .int p1, .int p2]) (n := 7) (Nat.le_of_ble_eq_true rfl)
  rw [lg_entry_eq]
  generalize (lg_sl ([.ref h0, .int p0, .int p1, .int p2]) ++ List.replicate (7 - (lg_sl ([.ref h0, .int p0, .int p1, .int p2])).length) Slot.unset).toArray = ls at hl ⊢
  have hl : lv_has ls 7 [(0, .ref h0), (1, .int p0), (2, .int p1), (3, .int p2)] := hl
  refine lv_aload_n hx hb dX11_all_0 rfl (lv_at hl 0 rfl) ?_
  refine lv_iload_n hx hb dX11_all_1 rfl (lv_at hl 1 rfl) ?_
  have hPc := hP.sub (ws' := [(h0, .inr (11, [.ref h1, .int 0, .ref h2, .ref h3, .ref h4, .ref h5, .ref h6, .ref h7, .ref h8, .ref h9, .ref h10, .int 0, .ref h11, .ref h12]))]) [0] rfl
  have hDc := hD.sub (ws' := [(h0, .inr (11, [.ref h1, .int 0, .ref h2, .ref h3, .ref h4, .ref h5, .ref h6, .ref h7, .ref h8, .ref h9, .ref h10, .int 0, .ref h11, .ref h12]))]) [0] (by decide) rfl
  have hKc := hK.sub (tys' := []) [] rfl
  have hFc := va_free (wc := [(h0, .inr (11, [.ref h1, .int 0, .ref h2, .ref h3, .ref h4, .ref h5, .ref h6, .ref h7, .ref h8, .ref h9, .ref h10, .int 0, .ref h11, .ref h12]))]) hD hS hA [0] rfl
  refine va_callq (va_runV (As := [.int p0]) (rest := []) ⟨hx, hb, hml, hown, hts⟩ (k_X11_knownStreet_0 l dC dI h0 h1 h2 h3 h4 h5 h6 h7 h8 h9 h10 h11 h12 s.heap.size p0) (cwV 1 hts gX11_all_X11_knownStreet rfl rfl rfl (by decide +kernel) ⟨Nat.le_of_ble_eq_true rfl, Nat.le_of_ble_eq_true rfl⟩) ⟨fun a U g mk q => by obtain ⟨q0, q1, qP, qK, qD⟩ := q; exact ⟨q0, q1, qP, va_K.moved (u := U) (U := U.calling g mk a) (Vm.Alike.refl U.vm) qK, qD⟩, va_recv hKc hPc (ci := 11) (q0 := 0) rfl rfl, fun U hU hW => ⟨rfl, by rw [hU], by rw [hU]; exact hPc, va_K.moved hW.alike hKc, hDc.weaken (fun _ _ _ _ => trivial)⟩⟩ rfl rfl hl.1 rfl (lv_room (Nat.le_of_ble_eq_true rfl)) dX11_all_2 ⟨Nat.le_of_ble_eq_true rfl, Nat.le_of_ble_eq_true rfl⟩) hS (fun q _ h => hFc q h) hFc (fun r_1 u t H1 locs ht hvm hw hB hz1 hk1 hS => ?_)
  obtain ⟨hP1, hK1, hD1⟩ := hB
  rw [ht] at hP1
  have hK1 := va_K.moved hvm.symm hK1
  obtain ⟨hP, hD⟩ := va_join (wr := []) (w1 := [(h0, .inr (11, [.ref h1, .int 0, .ref h2, .ref h3, .ref h4, .ref h5, .ref h6, .ref h7, .ref h8, .ref h9, .ref h10, .int 0, .ref h11, .ref h12]))]) hP hD [0] [] rfl rfl (by decide) (by decide) hk1 hFc hP1 hD1
  generalize H1 = H at hP hS ⊢
  have hP : va_P (dC, dI) vwCl [(h0, .inr (11, [.ref h1, .int 0, .ref h2, .ref h3, .ref h4, .ref h5, .ref h6, .ref h7, .ref h8, .ref h9, .ref h10, .int 0, .ref h11, .ref h12]))] H := hP
  have hD : va_D A [(h0, .inr (11, [.ref h1, .int 0, .ref h2, .ref h3, .ref h4, .ref h5, .ref h6, .ref h7, .ref h8, .ref h9, .ref h10, .int 0, .ref h11, .ref h12]))] := hD
  obtain rfl := hw
  refine W.eq (g2 := F0 m 5 ls [.null]) rfl ?_
  refine lv_astoreN (lv' := [(4, .null), (0, .ref h0), (1, .int p0), (2, .int p1), (3, .int p2)]) hx hb dX11_all_5 hl (by decide) rfl (fun ls hl => ?_)
  refine lv_aloadN hx hb dX11_all_7 (lv_at hl 0 rfl) ?_
  refine lv_ifnullN (tgt := 42) hx hb dX11_all_9 (by decide) ?_
  refine lv_iconst (v := (-1)) hx hb dX11_all_42 (by decide) ?_
  have hP9 := hP.sub (ws' := []) [] rfl
  have hD9 := hD.sub (ws' := []) [] (by decide) rfl
  have hK9 := hK.sub (tys' := []) [] rfl
  exact W.iret (v := (-1)) hx hb hr (fun t ht hW => ⟨⟨(-1), (), rfl, by first | rfl | ((repeat' split) <;> first | rfl | (exfalso; omega) | (exact Int32.toInt_inj.mp (by show ((-1) : Int) = _; omega))), by rw [ht]; exact hP9, va_K.moved hW.alike hK9, hD9⟩, hS.F ht⟩) hS.2.2 dX11_all_43
set_option maxHeartbeats 4000000 in
set_option maxRecDepth 100000 in
theorem k_X10_hasRoomFor_0 (l : Launch) (dC : Nat → ClassId) (dI : Nat → Nat → Nat) (h0 h1 : Nat) (sz : Nat) (p0 : Int32) : Met l yX10_hasRoomFor wsX10_hasRoomFor ({ frames := 0, cells := 0, slots := 0, locals := 0 }) (va_Pc [.ref h0, .int p0] (fun U => U.heap.size = sz ∧ va_P (dC, dI) vwCl [(h0, .inr (10, [.ref h1, .int 0, .int 0, .null]))] U.heap ∧ va_K (dC, dI) vwCl [] U ∧ va_D (fun _ => True) [(h0, .inr (10, [.ref h1, .int 0, .int 0, .null]))])) (va_Qi (fun (r : Int32) (_ : Unit) => (120 < (0 + p0).toInt ∧ r = 0) ∨ ((0 + p0).toInt ≤ 120 ∧ r = 1)) (fun (_ : Unit) t => va_P (dC, dI) vwCl [(h0, .inr (10, [.ref h1, .int 0, .int 0, .null]))] t.heap ∧ va_K (dC, dI) vwCl [] t ∧ va_D (va_A [(h0, .inr (10, [.ref h1, .int 0, .int 0, .null]))] sz) [(h0, .inr (10, [.ref h1, .int 0, .int 0, .null]))]) (va_A [(h0, .inr (10, [.ref h1, .int 0, .int 0, .null]))] sz)) 0 0 (va_A [(h0, .inr (10, [.ref h1, .int 0, .int 0, .null]))] sz) := by
  refine Met.ofW (cc := cX10_hasRoomFor) (maxL := 2) (ret := (some .boolean)) (by decide) rfl ?_
  intro p e s m args below meth c s₁ B hml hv
  obtain ⟨rfl, hsz, hP, hK, hD0⟩ := hv
  have hx := B.exec
  have hb := B.bytes
  have hr := B.returns
  have hts := atoms_spec (ws := wsX10_hasRoomFor) B.pre
  have hown : s.vm.findClass RX10 = some m.cls := findClass_of_methodNamed B.named
  have hlocks := B.notSynchronized
  subst hsz
  have hD := hD0.self (sz := s.heap.size)
  generalize hAe : va_A [(h0, .inr (10, [.ref h1, .int 0, .int 0, .null]))] s.heap.size = A at hD ⊢
  have hA : ∀ q : Nat, s.heap.size ≤ q → A q := fun q h => by rw [← hAe]; exact Or.inr h
  have hS : va_S A s.heap s.heap [] := va_S.rf
  have hP : va_P (dC, dI) vwCl [(h0, .inr (10, [.ref h1, .int 0, .int 0, .null]))] s.heap := hP
  have hl := lv_entry ([.ref h0, .int p0]) (n := 2) (Nat.le_of_ble_eq_true rfl)
  rw [lg_entry_eq]
  generalize (lg_sl ([.ref h0, .int p0]) ++ List.replicate (2 - (lg_sl ([.ref h0, .int p0])).length) Slot.unset).toArray = ls at hl ⊢
  have hl : lv_has ls 2 [(0, .ref h0), (1, .int p0)] := hl
  refine lv_aload_n hx hb dX10_hasRoomFor_0 rfl (lv_at hl 0 rfl) ?_
  refine va_get (D := (dC, dI)) (ci := 10) (v := .int 0) (C := RX10) (T := TX10) (N := 4) hx hb hts (fun _ h => List.mem_cons_of_mem _ (List.mem_append_right _ h)) hown hK hP 0 rfl rfl 1 (by decide) (hts (.fieldLink RX10 13 "KinkStreet$Tape" "size" "I") (List.mem_of_getElem? (i := 1) rfl)) (fun _ h9 => h9) rfl dX10_hasRoomFor_1 ?_
  refine lv_iload_n hx hb dX10_hasRoomFor_4 rfl (lv_at hl 1 rfl) ?_
  refine lv_iadd hx hb dX10_hasRoomFor_5 ?_
  refine lv_bipush (v := 120) hx hb dX10_hasRoomFor_6 (by decide) ?_
  refine lv_icmp_gt (tgt := 15) hx hb dX10_hasRoomFor_8 (by decide) (fun c_1 => ?_) (fun c_1 => ?_)
  · have t_1 : 120 < (0 + p0).toInt := kk_lt c_1
    refine lv_iconst (v := 0) hx hb dX10_hasRoomFor_15 (by decide) ?_
    have hP9 := hP.sub (ws' := [(h0, .inr (10, [.ref h1, .int 0, .int 0, .null]))]) [0] rfl
    have hD9 := hD.sub (ws' := [(h0, .inr (10, [.ref h1, .int 0, .int 0, .null]))]) [0] (by decide) rfl
    have hK9 := hK.sub (tys' := []) [] rfl
    exact W.zret (v := 0) hx hb hr rfl (fun t ht hW => ⟨⟨0, (), rfl, Or.inl ⟨by first | assumption | omega, rfl⟩, by rw [ht]; exact hP9, va_K.moved hW.alike hK9, hD9⟩, hS.F ht⟩) hS.2.2 dX10_hasRoomFor_16
  · have t_1 : (0 + p0).toInt ≤ 120 := kk_nlt c_1
    refine lv_iconst (v := 1) hx hb dX10_hasRoomFor_11 (by decide) ?_
    refine lv_goto (tgt := 16) hx hb dX10_hasRoomFor_12 (by decide) ?_
    have hP9 := hP.sub (ws' := [(h0, .inr (10, [.ref h1, .int 0, .int 0, .null]))]) [0] rfl
    have hD9 := hD.sub (ws' := [(h0, .inr (10, [.ref h1, .int 0, .int 0, .null]))]) [0] (by decide) rfl
    have hK9 := hK.sub (tys' := []) [] rfl
    exact W.zret (v := 1) hx hb hr rfl (fun t ht hW => ⟨⟨1, (), rfl, Or.inr (⟨by first | assumption | omega, rfl⟩), by rw [ht]; exact hP9, va_K.moved hW.alike hK9, hD9⟩, hS.F ht⟩) hS.2.2 dX10_hasRoomFor_16
set_option maxHeartbeats 4000000 in
set_option maxRecDepth 100000 in
theorem k_X10_take_0 (l : Launch) (dC : Nat → ClassId) (dI : Nat → Nat → Nat) (h0 h1 : Nat) (cint : ClassId) (sz : Nat) (p0 : Int32) (p1 : Int32) (blp0 : 1 ≤ p0.toInt) (bhp0 : p0.toInt ≤ 4) : Met l yX10_take wsX10_take ({ frames := 0, cells := 0, slots := 0, locals := 0 }) (va_Pc [.ref h0, .int p0, .int p1] (fun U => U.heap.size = sz ∧ va_P (dC, dI) vwCl [(h0, .inr (10, [.ref h1, .int 0, .int 0, .null])), (h1, .inl (cint, 120, .inl (fun _ => 0)))] U.heap ∧ va_K (dC, dI) vwCl [(cint, .int)] U ∧ va_D (fun _ => True) [(h0, .inr (10, [.ref h1, .int 0, .int 0, .null])), (h1, .inl (cint, 120, .inl (fun _ => 0)))])) (va_Qi (fun (r : Int32) (_ : Unit) => (0 < p0.toInt ∧ p0.toInt ≤ 1 ∧ r = 1) ∨ (0 < p0.toInt ∧ 1 < p0.toInt ∧ p0.toInt ≤ 2 ∧ r = 2) ∨ (0 < p0.toInt ∧ 1 < p0.toInt ∧ 2 < p0.toInt ∧ p0.toInt ≤ 3 ∧ r = 3) ∨ (0 < p0.toInt ∧ 1 < p0.toInt ∧ 2 < p0.toInt ∧ 3 < p0.toInt ∧ p0.toInt ≤ 4 ∧ r = 4)) (fun (_ : Unit) t => va_P (dC, dI) vwCl [] t.heap ∧ va_K (dC, dI) vwCl [] t ∧ va_D (va_A [(h0, .inr (10, [.ref h1, .int 0, .int 0, .null])), (h1, .inl (cint, 120, .inl (fun _ => 0)))] sz) []) (va_A [(h0, .inr (10, [.ref h1, .int 0, .int 0, .null])), (h1, .inl (cint, 120, .inl (fun _ => 0)))] sz)) 0 0 (va_A [(h0, .inr (10, [.ref h1, .int 0, .int 0, .null])), (h1, .inl (cint, 120, .inl (fun _ => 0)))] sz) := by
  refine Met.ofW (cc := cX10_take) (maxL := 4) (ret := (some .int)) (by decide) rfl ?_
  intro p e s m args below meth c s₁ B hml hv
  obtain ⟨rfl, hsz, hP, hK, hD0⟩ := hv
  have hx := B.exec
  have hb := B.bytes
  have hr := B.returns
  have hts := atoms_spec (ws := wsX10_take) B.pre
  have hown : s.vm.findClass RX10 = some m.cls := findClass_of_methodNamed B.named
  have hlocks := B.notSynchronized
  subst hsz
  have hD := hD0.self (sz := s.heap.size)
  generalize hAe : va_A [(h0, .inr (10, [.ref h1, .int 0, .int 0, .null])), (h1, .inl (cint, 120, .inl (fun _ => 0)))] s.heap.size = A at hD ⊢
  have hA : ∀ q : Nat, s.heap.size ≤ q → A q := fun q h => by rw [← hAe]; exact Or.inr h
  have hS : va_S A s.heap s.heap [] := va_S.rf
  have hP : va_P (dC, dI) vwCl [(h0, .inr (10, [.ref h1, .int 0, .int 0, .null])), (h1, .inl (cint, 120, .inl (fun _ => 0)))] s.heap := hP
  have hl := lv_entry ([.ref h0, .int p0, .int p1]) (n := 4) (Nat.le_of_ble_eq_true rfl)
  rw [lg_entry_eq]
  generalize (lg_sl ([.ref h0, .int p0, .int p1]) ++ List.replicate (4 - (lg_sl ([.ref h0, .int p0, .int p1])).length) Slot.unset).toArray = ls at hl ⊢
  have hl : lv_has ls 4 [(0, .ref h0), (1, .int p0), (2, .int p1)] := hl
  refine lv_iconst (v := 0) hx hb dX10_take_0 (by decide) ?_
  refine lv_istore_n (lv' := [(3, .int 0), (0, .ref h0), (1, .int p0), (2, .int p1)]) hx hb dX10_take_1 rfl hl (by decide) rfl (fun ls hl => ?_)
  refine lv_iload_n hx hb dX10_take_2 rfl (lv_at hl 0 rfl) ?_
  refine lv_iload_n hx hb dX10_take_3 rfl (lv_at hl 2 rfl) ?_
  refine lv_icmp_ge (tgt := 48) hx hb dX10_take_4 (by decide) (fun c_1 => ?_) (fun c_1 => ?_)
  · have t_1 : p0.toInt ≤ 0 := kk_le c_1
    exfalso; omega
  · have t_1 : 0 < p0.toInt := kk_nle c_1
    refine lv_aload_n hx hb dX10_take_7 rfl (lv_at hl 1 rfl) ?_
    refine va_get (D := (dC, dI)) (ci := 10) (v := .int 0) (C := RX10) (T := TX10) (N := 4) hx hb hts (fun _ h => List.mem_cons_of_mem _ (List.mem_append_right _ h)) hown hK hP 0 rfl rfl 1 (by decide) (hts (.fieldLink RX10 13 "KinkStreet$Tape" "size" "I") (List.mem_of_getElem? (i := 1) rfl)) (fun _ h9 => h9) rfl dX10_take_8 ?_
    refine lv_bipush (v := 120) hx hb dX10_take_11 (by decide) ?_
    refine lv_icmp_ge (tgt := 48) hx hb dX10_take_13 (by decide) (fun c => absurd c (by decide)) (fun _ => ?_)
    refine lv_aload_n hx hb dX10_take_16 rfl (lv_at hl 1 rfl) ?_
    refine va_get (D := (dC, dI)) (ci := 10) (v := .ref h1) (C := RX10) (T := TX10) (N := 4) hx hb hts (fun _ h => List.mem_cons_of_mem _ (List.mem_append_right _ h)) hown hK hP 0 rfl rfl 0 (by decide) (hts (.fieldLink RX10 9 "KinkStreet$Tape" "bytes" "[I") (List.mem_of_getElem? (i := 2) rfl)) (fun _ h9 => h9) rfl dX10_take_17 ?_
    refine lv_aload_n hx hb dX10_take_20 rfl (lv_at hl 1 rfl) ?_
    refine lv_dup hx hb dX10_take_21 rfl ?_
    refine va_get (D := (dC, dI)) (ci := 10) (v := .int 0) (C := RX10) (T := TX10) (N := 4) hx hb hts (fun _ h => List.mem_cons_of_mem _ (List.mem_append_right _ h)) hown hK hP 0 rfl rfl 1 (by decide) (hts (.fieldLink RX10 13 "KinkStreet$Tape" "size" "I") (List.mem_of_getElem? (i := 1) rfl)) (fun _ h9 => h9) rfl dX10_take_22 ?_
    refine lv_dup_x1 hx hb dX10_take_25 rfl rfl ?_
    refine lv_iconst (v := 1) hx hb dX10_take_26 (by decide) ?_
    refine lv_iadd hx hb dX10_take_27 ?_
    refine lv_topi (fun y_2 e_2 => ?_)
    obtain rfl : y_2 = 1 := e_2.trans (by decide)
    refine va_put (D := (dC, dI)) (ci := 10) (v := .int 1) (ty := .int) (C := RX10) (T := TX10) (N := 4) hx hb hts (fun _ h => List.mem_cons_of_mem _ (List.mem_append_right _ h)) tyX10 tyX10_ok nmX10 hown hK hP hD hS 0 rfl rfl 1 (by decide) (hts (.fieldLink RX10 13 "KinkStreet$Tape" "size" "I") (List.mem_of_getElem? (i := 1) rfl)) (fun _ h9 => h9) rfl (by decide +kernel) rfl rfl (Nat.le_of_ble_eq_true rfl) dX10_take_28 (fun H locs hP hD hS => ?_)
    have hP : va_P (dC, dI) vwCl [(h0, .inr (10, [.ref h1, .int 1, .int 0, .null])), (h1, .inl (cint, 120, .inl (fun _ => 0)))] H := hP
    have hD : va_D A [(h0, .inr (10, [.ref h1, .int 1, .int 0, .null])), (h1, .inl (cint, 120, .inl (fun _ => 0)))] := hD
    refine lv_iload_n hx hb dX10_take_31 rfl (lv_at hl 3 rfl) ?_
    refine lv_bipush (v := 8) hx hb dX10_take_32 (by decide) ?_
    refine lv_iload_n hx hb dX10_take_34 rfl (lv_at hl 0 rfl) ?_
    refine lv_imul hx hb dX10_take_35 ?_
    refine lv_topi (fun y_3 e_3 => ?_)
    obtain rfl : y_3 = 0 := e_3.trans (by decide)
    refine lv_iushr hx hb dX10_take_36 rfl ?_
    refine lv_topi (fun y_4 _ => ?_)
    refine lv_sipush (v := 255) hx hb dX10_take_37 (by decide) ?_
    refine lv_iand hx hb dX10_take_40 ?_
    refine va_iast hx hb hK hP hD hS 1 0 rfl rfl (by unfold vp_in; decide) dX10_take_41 (fun H locs hP hD hS => ?_)
    have hP : va_P (dC, dI) vwCl [(h0, .inr (10, [.ref h1, .int 1, .int 0, .null])), (h1, .inl (cint, 120, .inl (upd (fun _ => 0) (0 : Int32).toNatClampNeg (y_4 &&& 255))))] H := hP
    have hD : va_D A [(h0, .inr (10, [.ref h1, .int 1, .int 0, .null])), (h1, .inl (cint, 120, .inl (upd (fun _ => 0) (0 : Int32).toNatClampNeg (y_4 &&& 255))))] := hD
    refine lv_iinc (v := 1) (lv' := [(3, .int 1), (0, .ref h0), (1, .int p0), (2, .int p1)]) hx hb dX10_take_42 hl (k := 0) rfl (by first | rfl | decide) (by decide) rfl (fun ls hl => ?_)
    refine lv_goto (tgt := 2) hx hb dX10_take_45 (by decide) ?_
    refine lv_iload_n hx hb dX10_take_2 rfl (lv_at hl 0 rfl) ?_
    refine lv_iload_n hx hb dX10_take_3 rfl (lv_at hl 2 rfl) ?_
    refine lv_icmp_ge (tgt := 48) hx hb dX10_take_4 (by decide) (fun c_5 => ?_) (fun c_5 => ?_)
    · have t_5 : p0.toInt ≤ 1 := kk_le c_5
      refine lv_aload_n hx hb dX10_take_48 rfl (lv_at hl 1 rfl) ?_
      refine va_get (D := (dC, dI)) (ci := 10) (v := .int 1) (C := RX10) (T := TX10) (N := 4) hx hb hts (fun _ h => List.mem_cons_of_mem _ (List.mem_append_right _ h)) hown hK hP 0 rfl rfl 1 (by decide) (hts (.fieldLink RX10 13 "KinkStreet$Tape" "size" "I") (List.mem_of_getElem? (i := 1) rfl)) (fun _ h9 => h9) rfl dX10_take_49 ?_
      have hP9 := hP.sub (ws' := []) [] rfl
      have hD9 := hD.sub (ws' := []) [] (by decide) rfl
      have hK9 := hK.sub (tys' := []) [] rfl
      exact W.iret (v := 1) hx hb hr (fun t ht hW => ⟨⟨1, (), rfl, Or.inl ⟨by first | assumption | omega, by first | assumption | omega, rfl⟩, by rw [ht]; exact hP9, va_K.moved hW.alike hK9, hD9⟩, hS.F ht⟩) hS.2.2 dX10_take_52
    · have t_5 : 1 < p0.toInt := kk_nle c_5
      refine lv_aload_n hx hb dX10_take_7 rfl (lv_at hl 1 rfl) ?_
      refine va_get (D := (dC, dI)) (ci := 10) (v := .int 1) (C := RX10) (T := TX10) (N := 4) hx hb hts (fun _ h => List.mem_cons_of_mem _ (List.mem_append_right _ h)) hown hK hP 0 rfl rfl 1 (by decide) (hts (.fieldLink RX10 13 "KinkStreet$Tape" "size" "I") (List.mem_of_getElem? (i := 1) rfl)) (fun _ h9 => h9) rfl dX10_take_8 ?_
      refine lv_bipush (v := 120) hx hb dX10_take_11 (by decide) ?_
      refine lv_icmp_ge (tgt := 48) hx hb dX10_take_13 (by decide) (fun c => absurd c (by decide)) (fun _ => ?_)
      refine lv_aload_n hx hb dX10_take_16 rfl (lv_at hl 1 rfl) ?_
      refine va_get (D := (dC, dI)) (ci := 10) (v := .ref h1) (C := RX10) (T := TX10) (N := 4) hx hb hts (fun _ h => List.mem_cons_of_mem _ (List.mem_append_right _ h)) hown hK hP 0 rfl rfl 0 (by decide) (hts (.fieldLink RX10 9 "KinkStreet$Tape" "bytes" "[I") (List.mem_of_getElem? (i := 2) rfl)) (fun _ h9 => h9) rfl dX10_take_17 ?_
      refine lv_aload_n hx hb dX10_take_20 rfl (lv_at hl 1 rfl) ?_
      refine lv_dup hx hb dX10_take_21 rfl ?_
      refine va_get (D := (dC, dI)) (ci := 10) (v := .int 1) (C := RX10) (T := TX10) (N := 4) hx hb hts (fun _ h => List.mem_cons_of_mem _ (List.mem_append_right _ h)) hown hK hP 0 rfl rfl 1 (by decide) (hts (.fieldLink RX10 13 "KinkStreet$Tape" "size" "I") (List.mem_of_getElem? (i := 1) rfl)) (fun _ h9 => h9) rfl dX10_take_22 ?_
      refine lv_dup_x1 hx hb dX10_take_25 rfl rfl ?_
      refine lv_iconst (v := 1) hx hb dX10_take_26 (by decide) ?_
      refine lv_iadd hx hb dX10_take_27 ?_
      refine lv_topi (fun y_6 e_6 => ?_)
      obtain rfl : y_6 = 2 := e_6.trans (by decide)
      refine va_put (D := (dC, dI)) (ci := 10) (v := .int 2) (ty := .int) (C := RX10) (T := TX10) (N := 4) hx hb hts (fun _ h => List.mem_cons_of_mem _ (List.mem_append_right _ h)) tyX10 tyX10_ok nmX10 hown hK hP hD hS 0 rfl rfl 1 (by decide) (hts (.fieldLink RX10 13 "KinkStreet$Tape" "size" "I") (List.mem_of_getElem? (i := 1) rfl)) (fun _ h9 => h9) rfl (by decide +kernel) rfl rfl (Nat.le_of_ble_eq_true rfl) dX10_take_28 (fun H locs hP hD hS => ?_)
      have hP : va_P (dC, dI) vwCl [(h0, .inr (10, [.ref h1, .int 2, .int 0, .null])), (h1, .inl (cint, 120, .inl (upd (fun _ => 0) (0 : Int32).toNatClampNeg (y_4 &&& 255))))] H := hP
      have hD : va_D A [(h0, .inr (10, [.ref h1, .int 2, .int 0, .null])), (h1, .inl (cint, 120, .inl (upd (fun _ => 0) (0 : Int32).toNatClampNeg (y_4 &&& 255))))] := hD
      refine lv_iload_n hx hb dX10_take_31 rfl (lv_at hl 3 rfl) ?_
      refine lv_bipush (v := 8) hx hb dX10_take_32 (by decide) ?_
      refine lv_iload_n hx hb dX10_take_34 rfl (lv_at hl 0 rfl) ?_
      refine lv_imul hx hb dX10_take_35 ?_
      refine lv_topi (fun y_7 e_7 => ?_)
      obtain rfl : y_7 = 8 := e_7.trans (by decide)
      refine lv_iushr hx hb dX10_take_36 rfl ?_
      refine lv_topi (fun y_8 _ => ?_)
      refine lv_sipush (v := 255) hx hb dX10_take_37 (by decide) ?_
      refine lv_iand hx hb dX10_take_40 ?_
      refine va_iast hx hb hK hP hD hS 1 0 rfl rfl (by unfold vp_in; decide) dX10_take_41 (fun H locs hP hD hS => ?_)
      have hP : va_P (dC, dI) vwCl [(h0, .inr (10, [.ref h1, .int 2, .int 0, .null])), (h1, .inl (cint, 120, .inl (upd (upd (fun _ => 0) (0 : Int32).toNatClampNeg (y_4 &&& 255)) (1 : Int32).toNatClampNeg (y_8 &&& 255))))] H := hP
      have hD : va_D A [(h0, .inr (10, [.ref h1, .int 2, .int 0, .null])), (h1, .inl (cint, 120, .inl (upd (upd (fun _ => 0) (0 : Int32).toNatClampNeg (y_4 &&& 255)) (1 : Int32).toNatClampNeg (y_8 &&& 255))))] := hD
      refine lv_iinc (v := 2) (lv' := [(3, .int 2), (0, .ref h0), (1, .int p0), (2, .int p1)]) hx hb dX10_take_42 hl (k := 0) rfl (by first | rfl | decide) (by decide) rfl (fun ls hl => ?_)
      refine lv_goto (tgt := 2) hx hb dX10_take_45 (by decide) ?_
      refine lv_iload_n hx hb dX10_take_2 rfl (lv_at hl 0 rfl) ?_
      refine lv_iload_n hx hb dX10_take_3 rfl (lv_at hl 2 rfl) ?_
      refine lv_icmp_ge (tgt := 48) hx hb dX10_take_4 (by decide) (fun c_9 => ?_) (fun c_9 => ?_)
      · have t_9 : p0.toInt ≤ 2 := kk_le c_9
        refine lv_aload_n hx hb dX10_take_48 rfl (lv_at hl 1 rfl) ?_
        refine va_get (D := (dC, dI)) (ci := 10) (v := .int 2) (C := RX10) (T := TX10) (N := 4) hx hb hts (fun _ h => List.mem_cons_of_mem _ (List.mem_append_right _ h)) hown hK hP 0 rfl rfl 1 (by decide) (hts (.fieldLink RX10 13 "KinkStreet$Tape" "size" "I") (List.mem_of_getElem? (i := 1) rfl)) (fun _ h9 => h9) rfl dX10_take_49 ?_
        have hP9 := hP.sub (ws' := []) [] rfl
        have hD9 := hD.sub (ws' := []) [] (by decide) rfl
        have hK9 := hK.sub (tys' := []) [] rfl
        exact W.iret (v := 2) hx hb hr (fun t ht hW => ⟨⟨2, (), rfl, Or.inr (Or.inl ⟨by first | assumption | omega, by first | assumption | omega, by first | assumption | omega, rfl⟩), by rw [ht]; exact hP9, va_K.moved hW.alike hK9, hD9⟩, hS.F ht⟩) hS.2.2 dX10_take_52
      · have t_9 : 2 < p0.toInt := kk_nle c_9
        refine lv_aload_n hx hb dX10_take_7 rfl (lv_at hl 1 rfl) ?_
        refine va_get (D := (dC, dI)) (ci := 10) (v := .int 2) (C := RX10) (T := TX10) (N := 4) hx hb hts (fun _ h => List.mem_cons_of_mem _ (List.mem_append_right _ h)) hown hK hP 0 rfl rfl 1 (by decide) (hts (.fieldLink RX10 13 "KinkStreet$Tape" "size" "I") (List.mem_of_getElem? (i := 1) rfl)) (fun _ h9 => h9) rfl dX10_take_8 ?_
        refine lv_bipush (v := 120) hx hb dX10_take_11 (by decide) ?_
        refine lv_icmp_ge (tgt := 48) hx hb dX10_take_13 (by decide) (fun c => absurd c (by decide)) (fun _ => ?_)
        refine lv_aload_n hx hb dX10_take_16 rfl (lv_at hl 1 rfl) ?_
        refine va_get (D := (dC, dI)) (ci := 10) (v := .ref h1) (C := RX10) (T := TX10) (N := 4) hx hb hts (fun _ h => List.mem_cons_of_mem _ (List.mem_append_right _ h)) hown hK hP 0 rfl rfl 0 (by decide) (hts (.fieldLink RX10 9 "KinkStreet$Tape" "bytes" "[I") (List.mem_of_getElem? (i := 2) rfl)) (fun _ h9 => h9) rfl dX10_take_17 ?_
        refine lv_aload_n hx hb dX10_take_20 rfl (lv_at hl 1 rfl) ?_
        refine lv_dup hx hb dX10_take_21 rfl ?_
        refine va_get (D := (dC, dI)) (ci := 10) (v := .int 2) (C := RX10) (T := TX10) (N := 4) hx hb hts (fun _ h => List.mem_cons_of_mem _ (List.mem_append_right _ h)) hown hK hP 0 rfl rfl 1 (by decide) (hts (.fieldLink RX10 13 "KinkStreet$Tape" "size" "I") (List.mem_of_getElem? (i := 1) rfl)) (fun _ h9 => h9) rfl dX10_take_22 ?_
        refine lv_dup_x1 hx hb dX10_take_25 rfl rfl ?_
        refine lv_iconst (v := 1) hx hb dX10_take_26 (by decide) ?_
        refine lv_iadd hx hb dX10_take_27 ?_
        refine lv_topi (fun y_10 e_10 => ?_)
        obtain rfl : y_10 = 3 := e_10.trans (by decide)
        refine va_put (D := (dC, dI)) (ci := 10) (v := .int 3) (ty := .int) (C := RX10) (T := TX10) (N := 4) hx hb hts (fun _ h => List.mem_cons_of_mem _ (List.mem_append_right _ h)) tyX10 tyX10_ok nmX10 hown hK hP hD hS 0 rfl rfl 1 (by decide) (hts (.fieldLink RX10 13 "KinkStreet$Tape" "size" "I") (List.mem_of_getElem? (i := 1) rfl)) (fun _ h9 => h9) rfl (by decide +kernel) rfl rfl (Nat.le_of_ble_eq_true rfl) dX10_take_28 (fun H locs hP hD hS => ?_)
        have hP : va_P (dC, dI) vwCl [(h0, .inr (10, [.ref h1, .int 3, .int 0, .null])), (h1, .inl (cint, 120, .inl (upd (upd (fun _ => 0) (0 : Int32).toNatClampNeg (y_4 &&& 255)) (1 : Int32).toNatClampNeg (y_8 &&& 255))))] H := hP
        have hD : va_D A [(h0, .inr (10, [.ref h1, .int 3, .int 0, .null])), (h1, .inl (cint, 120, .inl (upd (upd (fun _ => 0) (0 : Int32).toNatClampNeg (y_4 &&& 255)) (1 : Int32).toNatClampNeg (y_8 &&& 255))))] := hD
        refine lv_iload_n hx hb dX10_take_31 rfl (lv_at hl 3 rfl) ?_
        refine lv_bipush (v := 8) hx hb dX10_take_32 (by decide) ?_
        refine lv_iload_n hx hb dX10_take_34 rfl (lv_at hl 0 rfl) ?_
        refine lv_imul hx hb dX10_take_35 ?_
        refine lv_topi (fun y_11 e_11 => ?_)
        obtain rfl : y_11 = 16 := e_11.trans (by decide)
        refine lv_iushr hx hb dX10_take_36 rfl ?_
        refine lv_topi (fun y_12 _ => ?_)
        refine lv_sipush (v := 255) hx hb dX10_take_37 (by decide) ?_
        refine lv_iand hx hb dX10_take_40 ?_
        refine va_iast hx hb hK hP hD hS 1 0 rfl rfl (by unfold vp_in; decide) dX10_take_41 (fun H locs hP hD hS => ?_)
        have hP : va_P (dC, dI) vwCl [(h0, .inr (10, [.ref h1, .int 3, .int 0, .null])), (h1, .inl (cint, 120, .inl (upd (upd (upd (fun _ => 0) (0 : Int32).toNatClampNeg (y_4 &&& 255)) (1 : Int32).toNatClampNeg (y_8 &&& 255)) (2 : Int32).toNatClampNeg (y_12 &&& 255))))] H := hP
        have hD : va_D A [(h0, .inr (10, [.ref h1, .int 3, .int 0, .null])), (h1, .inl (cint, 120, .inl (upd (upd (upd (fun _ => 0) (0 : Int32).toNatClampNeg (y_4 &&& 255)) (1 : Int32).toNatClampNeg (y_8 &&& 255)) (2 : Int32).toNatClampNeg (y_12 &&& 255))))] := hD
        refine lv_iinc (v := 3) (lv' := [(3, .int 3), (0, .ref h0), (1, .int p0), (2, .int p1)]) hx hb dX10_take_42 hl (k := 0) rfl (by first | rfl | decide) (by decide) rfl (fun ls hl => ?_)
        refine lv_goto (tgt := 2) hx hb dX10_take_45 (by decide) ?_
        refine lv_iload_n hx hb dX10_take_2 rfl (lv_at hl 0 rfl) ?_
        refine lv_iload_n hx hb dX10_take_3 rfl (lv_at hl 2 rfl) ?_
        refine lv_icmp_ge (tgt := 48) hx hb dX10_take_4 (by decide) (fun c_13 => ?_) (fun c_13 => ?_)
        · have t_13 : p0.toInt ≤ 3 := kk_le c_13
          refine lv_aload_n hx hb dX10_take_48 rfl (lv_at hl 1 rfl) ?_
          refine va_get (D := (dC, dI)) (ci := 10) (v := .int 3) (C := RX10) (T := TX10) (N := 4) hx hb hts (fun _ h => List.mem_cons_of_mem _ (List.mem_append_right _ h)) hown hK hP 0 rfl rfl 1 (by decide) (hts (.fieldLink RX10 13 "KinkStreet$Tape" "size" "I") (List.mem_of_getElem? (i := 1) rfl)) (fun _ h9 => h9) rfl dX10_take_49 ?_
          have hP9 := hP.sub (ws' := []) [] rfl
          have hD9 := hD.sub (ws' := []) [] (by decide) rfl
          have hK9 := hK.sub (tys' := []) [] rfl
          exact W.iret (v := 3) hx hb hr (fun t ht hW => ⟨⟨3, (), rfl, Or.inr (Or.inr (Or.inl ⟨by first | assumption | omega, by first | assumption | omega, by first | assumption | omega, by first | assumption | omega, rfl⟩)), by rw [ht]; exact hP9, va_K.moved hW.alike hK9, hD9⟩, hS.F ht⟩) hS.2.2 dX10_take_52
        · have t_13 : 3 < p0.toInt := kk_nle c_13
          refine lv_aload_n hx hb dX10_take_7 rfl (lv_at hl 1 rfl) ?_
          refine va_get (D := (dC, dI)) (ci := 10) (v := .int 3) (C := RX10) (T := TX10) (N := 4) hx hb hts (fun _ h => List.mem_cons_of_mem _ (List.mem_append_right _ h)) hown hK hP 0 rfl rfl 1 (by decide) (hts (.fieldLink RX10 13 "KinkStreet$Tape" "size" "I") (List.mem_of_getElem? (i := 1) rfl)) (fun _ h9 => h9) rfl dX10_take_8 ?_
          refine lv_bipush (v := 120) hx hb dX10_take_11 (by decide) ?_
          refine lv_icmp_ge (tgt := 48) hx hb dX10_take_13 (by decide) (fun c => absurd c (by decide)) (fun _ => ?_)
          refine lv_aload_n hx hb dX10_take_16 rfl (lv_at hl 1 rfl) ?_
          refine va_get (D := (dC, dI)) (ci := 10) (v := .ref h1) (C := RX10) (T := TX10) (N := 4) hx hb hts (fun _ h => List.mem_cons_of_mem _ (List.mem_append_right _ h)) hown hK hP 0 rfl rfl 0 (by decide) (hts (.fieldLink RX10 9 "KinkStreet$Tape" "bytes" "[I") (List.mem_of_getElem? (i := 2) rfl)) (fun _ h9 => h9) rfl dX10_take_17 ?_
          refine lv_aload_n hx hb dX10_take_20 rfl (lv_at hl 1 rfl) ?_
          refine lv_dup hx hb dX10_take_21 rfl ?_
          refine va_get (D := (dC, dI)) (ci := 10) (v := .int 3) (C := RX10) (T := TX10) (N := 4) hx hb hts (fun _ h => List.mem_cons_of_mem _ (List.mem_append_right _ h)) hown hK hP 0 rfl rfl 1 (by decide) (hts (.fieldLink RX10 13 "KinkStreet$Tape" "size" "I") (List.mem_of_getElem? (i := 1) rfl)) (fun _ h9 => h9) rfl dX10_take_22 ?_
          refine lv_dup_x1 hx hb dX10_take_25 rfl rfl ?_
          refine lv_iconst (v := 1) hx hb dX10_take_26 (by decide) ?_
          refine lv_iadd hx hb dX10_take_27 ?_
          refine lv_topi (fun y_14 e_14 => ?_)
          obtain rfl : y_14 = 4 := e_14.trans (by decide)
          refine va_put (D := (dC, dI)) (ci := 10) (v := .int 4) (ty := .int) (C := RX10) (T := TX10) (N := 4) hx hb hts (fun _ h => List.mem_cons_of_mem _ (List.mem_append_right _ h)) tyX10 tyX10_ok nmX10 hown hK hP hD hS 0 rfl rfl 1 (by decide) (hts (.fieldLink RX10 13 "KinkStreet$Tape" "size" "I") (List.mem_of_getElem? (i := 1) rfl)) (fun _ h9 => h9) rfl (by decide +kernel) rfl rfl (Nat.le_of_ble_eq_true rfl) dX10_take_28 (fun H locs hP hD hS => ?_)
          have hP : va_P (dC, dI) vwCl [(h0, .inr (10, [.ref h1, .int 4, .int 0, .null])), (h1, .inl (cint, 120, .inl (upd (upd (upd (fun _ => 0) (0 : Int32).toNatClampNeg (y_4 &&& 255)) (1 : Int32).toNatClampNeg (y_8 &&& 255)) (2 : Int32).toNatClampNeg (y_12 &&& 255))))] H := hP
          have hD : va_D A [(h0, .inr (10, [.ref h1, .int 4, .int 0, .null])), (h1, .inl (cint, 120, .inl (upd (upd (upd (fun _ => 0) (0 : Int32).toNatClampNeg (y_4 &&& 255)) (1 : Int32).toNatClampNeg (y_8 &&& 255)) (2 : Int32).toNatClampNeg (y_12 &&& 255))))] := hD
          refine lv_iload_n hx hb dX10_take_31 rfl (lv_at hl 3 rfl) ?_
          refine lv_bipush (v := 8) hx hb dX10_take_32 (by decide) ?_
          refine lv_iload_n hx hb dX10_take_34 rfl (lv_at hl 0 rfl) ?_
          refine lv_imul hx hb dX10_take_35 ?_
          refine lv_topi (fun y_15 e_15 => ?_)
          obtain rfl : y_15 = 24 := e_15.trans (by decide)
          refine lv_iushr hx hb dX10_take_36 rfl ?_
          refine lv_topi (fun y_16 _ => ?_)
          refine lv_sipush (v := 255) hx hb dX10_take_37 (by decide) ?_
          refine lv_iand hx hb dX10_take_40 ?_
          refine va_iast hx hb hK hP hD hS 1 0 rfl rfl (by unfold vp_in; decide) dX10_take_41 (fun H locs hP hD hS => ?_)
          have hP : va_P (dC, dI) vwCl [(h0, .inr (10, [.ref h1, .int 4, .int 0, .null])), (h1, .inl (cint, 120, .inl (upd (upd (upd (upd (fun _ => 0) (0 : Int32).toNatClampNeg (y_4 &&& 255)) (1 : Int32).toNatClampNeg (y_8 &&& 255)) (2 : Int32).toNatClampNeg (y_12 &&& 255)) (3 : Int32).toNatClampNeg (y_16 &&& 255))))] H := hP
          have hD : va_D A [(h0, .inr (10, [.ref h1, .int 4, .int 0, .null])), (h1, .inl (cint, 120, .inl (upd (upd (upd (upd (fun _ => 0) (0 : Int32).toNatClampNeg (y_4 &&& 255)) (1 : Int32).toNatClampNeg (y_8 &&& 255)) (2 : Int32).toNatClampNeg (y_12 &&& 255)) (3 : Int32).toNatClampNeg (y_16 &&& 255))))] := hD
          refine lv_iinc (v := 4) (lv' := [(3, .int 4), (0, .ref h0), (1, .int p0), (2, .int p1)]) hx hb dX10_take_42 hl (k := 0) rfl (by first | rfl | decide) (by decide) rfl (fun ls hl => ?_)
          refine lv_goto (tgt := 2) hx hb dX10_take_45 (by decide) ?_
          refine lv_iload_n hx hb dX10_take_2 rfl (lv_at hl 0 rfl) ?_
          refine lv_iload_n hx hb dX10_take_3 rfl (lv_at hl 2 rfl) ?_
          refine lv_icmp_ge (tgt := 48) hx hb dX10_take_4 (by decide) (fun c_17 => ?_) (fun c_17 => ?_)
          · have t_17 : p0.toInt ≤ 4 := kk_le c_17
            refine lv_aload_n hx hb dX10_take_48 rfl (lv_at hl 1 rfl) ?_
            refine va_get (D := (dC, dI)) (ci := 10) (v := .int 4) (C := RX10) (T := TX10) (N := 4) hx hb hts (fun _ h => List.mem_cons_of_mem _ (List.mem_append_right _ h)) hown hK hP 0 rfl rfl 1 (by decide) (hts (.fieldLink RX10 13 "KinkStreet$Tape" "size" "I") (List.mem_of_getElem? (i := 1) rfl)) (fun _ h9 => h9) rfl dX10_take_49 ?_
            have hP9 := hP.sub (ws' := []) [] rfl
            have hD9 := hD.sub (ws' := []) [] (by decide) rfl
            have hK9 := hK.sub (tys' := []) [] rfl
            exact W.iret (v := 4) hx hb hr (fun t ht hW => ⟨⟨4, (), rfl, Or.inr (Or.inr (Or.inr (⟨by first | assumption | omega, by first | assumption | omega, by first | assumption | omega, by first | assumption | omega, by first | assumption | omega, rfl⟩))), by rw [ht]; exact hP9, va_K.moved hW.alike hK9, hD9⟩, hS.F ht⟩) hS.2.2 dX10_take_52
          · have t_17 : 4 < p0.toInt := kk_nle c_17
            exfalso; omega
