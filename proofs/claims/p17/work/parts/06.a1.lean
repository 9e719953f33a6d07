set_option maxHeartbeats 4000000 in
set_option maxRecDepth 100000 in
theorem g_X9_leastDeep_0 (l : Launch) (dC : Nat → ClassId) (dI : Nat → Nat → Nat) (h0 : Nat) (h1 : Nat) (h2 : Nat) (h3 : Nat) (cint : ClassId) (sz : Nat) (p0 : Int32) (n0_size : Int32) (f1 : Nat → Int32) (f2 : Nat → Int32) (f3 : Nat → Int32) (tn0_size : kk_bx (0 ≤ n0_size.toInt ∧ n0_size.toInt ≤ 40)) : Met l yX9_leastDeep wsX9_leastDeep ({ frames := 2, cells := 0, slots := 0, locals := 43 }) (va_Pc [.ref h0, .int p0] (fun U => U.heap.size = sz ∧ va_P (dC, dI) vwCl [(h0, kO9 h1 h2 h3 n0_size), (h1, kAi cint 40 f1), (h2, kAi cint 40 f2), (h3, kAi cint 40 f3)] U.heap ∧ va_K (dC, dI) vwCl [(cint, .int)] U ∧ va_D (fun _ => True) [(h0, kO9 h1 h2 h3 n0_size), (h1, kAi cint 40 f1), (h2, kAi cint 40 f2), (h3, kAi cint 40 f3)])) (va_Qi (fun (r : Int32) (_ : Unit) => ((-21474836) ≤ r.toInt ∧ r.toInt ≤ 21474836)) (fun (_ : Unit) t => va_P (dC, dI) vwCl [(h0, kO9 h1 h2 h3 n0_size), (h1, kAi cint 40 f1), (h2, kAi cint 40 f2), (h3, kAi cint 40 f3)] t.heap ∧ va_K (dC, dI) vwCl [] t ∧ va_D (va_A [(h0, kO9 h1 h2 h3 n0_size), (h1, kAi cint 40 f1), (h2, kAi cint 40 f2), (h3, kAi cint 40 f3)] sz) [(h0, kO9 h1 h2 h3 n0_size), (h1, kAi cint 40 f1), (h2, kAi cint 40 f2), (h3, kAi cint 40 f3)]) (va_A [(h0, kO9 h1 h2 h3 n0_size), (h1, kAi cint 40 f1), (h2, kAi cint 40 f2), (h3, kAi cint 40 f3)] sz)) 0 0 (va_A [(h0, kO9 h1 h2 h3 n0_size), (h1, kAi cint 40 f1), (h2, kAi cint 40 f2), (h3, kAi cint 40 f3)] sz) := by
  refine Met.ofW (cc := cX9_leastDeep) (maxL := 4) (ret := (some .int)) (by decide) rfl ?_
  intro p e s m args below meth c s₁ B hml hv
  obtain ⟨rfl, hsz, hP, hK, hD0⟩ := hv
  have hx := B.exec
  have hb := B.bytes
  have hr := B.returns
  have hts := atoms_spec (ws := wsX9_leastDeep) B.pre
  have hown : s.vm.findClass RX9 = some m.cls := findClass_of_methodNamed B.named
  have hlocks := B.notSynchronized
  subst hsz
  have hD := hD0.self (sz := s.heap.size)
  generalize hAe : va_A [(h0, kO9 h1 h2 h3 n0_size), (h1, kAi cint 40 f1), (h2, kAi cint 40 f2), (h3, kAi cint 40 f3)] s.heap.size = A at hD ⊢
  have hA : ∀ q : Nat, s.heap.size ≤ q → A q := fun q h => by rw [← hAe]; exact Or.inr h
  have hS : va_S A s.heap s.heap [] := va_S.rf
  have hP : va_P (dC, dI) vwCl [(h0, kO9 h1 h2 h3 n0_size), (h1, kAi cint 40 f1), (h2, kAi cint 40 f2), (h3, kAi cint 40 f3)] s.heap := hP
  have hl := lv_entry ([.ref h0, .int p0]) (n := 4) (Nat.le_of_ble_eq_true rfl)
  rw [lg_entry_eq]
  generalize (lg_sl ([.ref h0, .int p0]) ++ List.replicate (4 - (lg_sl ([.ref h0, .int p0])).length) Slot.unset).toArray = ls at hl ⊢
  have hl : lv_has ls 4 [(0, .ref h0), (1, .int p0)] := hl
  refine lv_iload_n hx hb dX9_leastDeep_0 rfl (lv_at hl 1 rfl) ?_
  refine lv_bipush (v := 100) hx hb dX9_leastDeep_1 kk_bi_100 ?_
  refine lv_idiv hx hb dX9_leastDeep_3 (by decide) ?_
  refine lv_istore_n hx hb dX9_leastDeep_4 rfl hl (by decide) (rfl : _ = ([(2, .int (p0 / 100)), (0, .ref h0), (1, .int p0)] : List (Nat × Value))) (fun ls hl => ?_)
  refine lv_iload_n hx hb dX9_leastDeep_5 rfl (lv_at hl 0 rfl) ?_
  refine lv_istore_n hx hb dX9_leastDeep_6 rfl hl (by decide) (rfl : _ = ([(3, .int (p0 / 100)), (2, .int (p0 / 100)), (0, .ref h0), (1, .int p0)] : List (Nat × Value))) (fun ls hl => ?_)
  try have := kk_divb (x := p0) (k := 100) (n := 100) rfl (by decide)
  refine kk_loop (σ := Int32 × Int32) (fun x H locs ls => ((-21474836) ≤ x.1.toInt ∧ x.1.toInt ≤ 21474836) ∧ ((-21474836) ≤ x.2.toInt ∧ x.2.toInt ≤ 21474836) ∧ (p0 / 100).toInt ≤ x.1.toInt ∧ va_P (dC, dI) vwCl [(h0, kO9 h1 h2 h3 n0_size), (h1, kAi cint 40 f1), (h2, kAi cint 40 f2), (h3, kAi cint 40 f3)] H ∧ va_D A [(h0, kO9 h1 h2 h3 n0_size), (h1, kAi cint 40 f1), (h2, kAi cint 40 f2), (h3, kAi cint 40 f3)] ∧ va_S A s.heap H locs ∧ lv_has ls 4 [(3, .int x.1), (2, .int x.2), (0, .ref h0), (1, .int p0)]) (fun x => ((21474836 : Int) - x.1.toInt).toNat) ?_ ((p0 / 100), (p0 / 100)) _ _ _ ⟨(by show (-21474836) ≤ ((p0 / 100) : Int32).toInt ∧ ((p0 / 100) : Int32).toInt ≤ 21474836; first | decide | ((omega))), (by show (-21474836) ≤ ((p0 / 100) : Int32).toInt ∧ ((p0 / 100) : Int32).toInt ≤ 21474836; first | decide | ((omega))), (by show ((p0 / 100) : Int32).toInt ≤ ((p0 / 100) : Int32).toInt; first | decide | (omega)), hP, hD, hS, hl⟩
  rintro ⟨i_1_0, i_1_1⟩ H locs ls ⟨t_1_0, t_1_1, z_1_0, hP, hD, hS, hl⟩ ih_1
  have t_1_0 : ((-21474836) ≤ i_1_0.toInt ∧ i_1_0.toInt ≤ 21474836) := t_1_0
  have t_1_1 : ((-21474836) ≤ i_1_1.toInt ∧ i_1_1.toInt ≤ 21474836) := t_1_1
  have z_1_0 : (p0 / 100).toInt ≤ i_1_0.toInt := z_1_0
  have hl : lv_has ls 4 [(3, .int i_1_0), (2, .int i_1_1), (0, .ref h0), (1, .int p0)] := hl
  have hP : va_P (dC, dI) vwCl [(h0, kO9 h1 h2 h3 n0_size), (h1, kAi cint 40 f1), (h2, kAi cint 40 f2), (h3, kAi cint 40 f3)] H := hP
  have hD : va_D A [(h0, kO9 h1 h2 h3 n0_size), (h1, kAi cint 40 f1), (h2, kAi cint 40 f2), (h3, kAi cint 40 f3)] := hD
  refine lv_iload_n hx hb dX9_leastDeep_7 rfl (lv_at hl 0 rfl) ?_
  refine lv_iload_n hx hb dX9_leastDeep_8 rfl (lv_at hl 3 rfl) ?_
  refine lv_bipush (v := 100) hx hb dX9_leastDeep_9 kk_bi_100 ?_
  refine lv_irem hx hb dX9_leastDeep_11 (by decide) ?_
  refine lv_icmp_gt (tgt := 38) hx hb dX9_leastDeep_12 (by decide) (fun c_22 => ?_) (fun c_22 => ?_)
  · have t_22 : (p0 - p0 / 100 * 100).toInt < i_1_0.toInt := kk_lt c_22
    refine lv_iload_n hx hb dX9_leastDeep_38 rfl (lv_at hl 1 rfl) ?_
    have hP9 := kk_Ps (wq := [(h0, kO9 h1 h2 h3 n0_size), (h1, kAi cint 40 f1), (h2, kAi cint 40 f2), (h3, kAi cint 40 f3)]) hP [0, 1, 2, 3] rfl
    have hD9 := kk_Ds (wq := [(h0, kO9 h1 h2 h3 n0_size), (h1, kAi cint 40 f1), (h2, kAi cint 40 f2), (h3, kAi cint 40 f3)]) hD [0, 1, 2, 3] (by decide) rfl
    have hK9 := kk_Ks (tq := []) hK [] rfl
    try have := kk_rng p0
    try have := kk_remb (x := p0) (k := 100) (n := 100) rfl (by decide)
    exact W.iret (v := i_1_1) hx hb hr (fun t ht hW => ⟨⟨i_1_1, (), rfl, (by show (-21474836) ≤ (i_1_1 : Int32).toInt ∧ (i_1_1 : Int32).toInt ≤ 21474836; first | decide | ((omega))), by rw [ht]; exact hP9, va_K.moved hW.alike hK9, hD9⟩, hS.F ht⟩) hS.2.2 dX9_leastDeep_39
  · have t_22 : i_1_0.toInt ≤ (p0 - p0 / 100 * 100).toInt := kk_nlt c_22
    refine lv_aload_n hx hb dX9_leastDeep_15 rfl (lv_at hl 2 rfl) ?_
    refine lv_iconst (v := 1) hx hb dX9_leastDeep_16 kk_ic_1 ?_
    refine lv_iload_n hx hb dX9_leastDeep_17 rfl (lv_at hl 0 rfl) ?_
    have hPc := kk_Ps (wq := [(h0, kO9 h1 h2 h3 n0_size), (h1, kAi cint 40 f1), (h2, kAi cint 40 f2), (h3, kAi cint 40 f3)]) hP [0, 1, 2, 3] rfl
    have hDc := kk_Ds (wq := [(h0, kO9 h1 h2 h3 n0_size), (h1, kAi cint 40 f1), (h2, kAi cint 40 f2), (h3, kAi cint 40 f3)]) hD [0, 1, 2, 3] (by decide) rfl
    have hKc := kk_Ks (tq := [(cint, .int)]) hK [0] rfl
    have hFc := va_free (wc := [(h0, kO9 h1 h2 h3 n0_size), (h1, kAi cint 40 f1), (h2, kAi cint 40 f2), (h3, kAi cint 40 f3)]) hD hS hA [0, 1, 2, 3] rfl
    refine va_calli (va_runV (As := [.int 1, .int i_1_0]) (rest := []) ⟨hx, hb, hml, hown, hts⟩ (g_X9_fact_0 l dC dI h0 h1 h2 h3 cint H.size 1 i_1_0 n0_size f1 f2 f3 tn0_size) (cwV 2 hts gX9_leastDeep_X9_fact rfl rfl rfl ⟨rfl, kh_X9_fact⟩ ⟨Nat.le_of_ble_eq_true rfl, Nat.le_of_ble_eq_true rfl⟩) ⟨fun a U g mk q => by obtain ⟨q0, q1, qP, qK, qD⟩ := q; exact ⟨q0, q1, qP, va_K.moved (u := U) (U := U.calling g mk a) (Vm.Alike.refl U.vm) qK, qD⟩, va_recv hKc hPc (ci := 9) (q0 := 0) rfl rfl, fun U hU hW => ⟨rfl, by rw [hU], by rw [hU]; exact hPc, va_K.moved hW.alike hKc, hDc.weaken (fun _ _ _ _ => trivial)⟩⟩ rfl rfl hl.1 rfl (lv_room (Nat.le_of_ble_eq_true rfl)) dX9_leastDeep_18 ⟨Nat.le_of_ble_eq_true rfl, Nat.le_of_ble_eq_true rfl⟩) hS (fun q _ h => hFc q h) hFc (fun r_23 u t H1 locs ht hvm hw hB hz1 hk1 hS => ?_)
    obtain ⟨hP1, hK1, hD1⟩ := hB
    rw [ht] at hP1
    have hK1 := va_K.moved hvm.symm hK1
    obtain ⟨hP, hD⟩ := va_join (wr := []) (w1 := [(h0, kO9 h1 h2 h3 n0_size), (h1, kAi cint 40 f1), (h2, kAi cint 40 f2), (h3, kAi cint 40 f3)]) hP hD [0, 1, 2, 3] [] rfl rfl (by decide) (by decide) hk1 hFc hP1 hD1
    generalize H1 = H at hP hS ⊢
    have hP : va_P (dC, dI) vwCl [(h0, kO9 h1 h2 h3 n0_size), (h1, kAi cint 40 f1), (h2, kAi cint 40 f2), (h3, kAi cint 40 f3)] H := hP
    have hD : va_D A [(h0, kO9 h1 h2 h3 n0_size), (h1, kAi cint 40 f1), (h2, kAi cint 40 f2), (h3, kAi cint 40 f3)] := hD
    refine lv_aload_n hx hb dX9_leastDeep_21 rfl (lv_at hl 2 rfl) ?_
    refine lv_iconst (v := 1) hx hb dX9_leastDeep_22 kk_ic_1 ?_
    refine lv_iload_n hx hb dX9_leastDeep_23 rfl (lv_at hl 1 rfl) ?_
    have hPc := kk_Ps (wq := [(h0, kO9 h1 h2 h3 n0_size), (h1, kAi cint 40 f1), (h2, kAi cint 40 f2), (h3, kAi cint 40 f3)]) hP [0, 1, 2, 3] rfl
    have hDc := kk_Ds (wq := [(h0, kO9 h1 h2 h3 n0_size), (h1, kAi cint 40 f1), (h2, kAi cint 40 f2), (h3, kAi cint 40 f3)]) hD [0, 1, 2, 3] (by decide) rfl
    have hKc := kk_Ks (tq := [(cint, .int)]) hK [0] rfl
    have hFc := va_free (wc := [(h0, kO9 h1 h2 h3 n0_size), (h1, kAi cint 40 f1), (h2, kAi cint 40 f2), (h3, kAi cint 40 f3)]) hD hS hA [0, 1, 2, 3] rfl
    refine va_calli (va_runV (As := [.int 1, .int i_1_1]) (rest := [.int r_23]) ⟨hx, hb, hml, hown, hts⟩ (g_X9_fact_0 l dC dI h0 h1 h2 h3 cint H.size 1 i_1_1 n0_size f1 f2 f3 tn0_size) (cwV 2 hts gX9_leastDeep_X9_fact rfl rfl rfl ⟨rfl, kh_X9_fact⟩ ⟨Nat.le_of_ble_eq_true rfl, Nat.le_of_ble_eq_true rfl⟩) ⟨fun a U g mk q => by obtain ⟨q0, q1, qP, qK, qD⟩ := q; exact ⟨q0, q1, qP, va_K.moved (u := U) (U := U.calling g mk a) (Vm.Alike.refl U.vm) qK, qD⟩, va_recv hKc hPc (ci := 9) (q0 := 0) rfl rfl, fun U hU hW => ⟨rfl, by rw [hU], by rw [hU]; exact hPc, va_K.moved hW.alike hKc, hDc.weaken (fun _ _ _ _ => trivial)⟩⟩ rfl rfl hl.1 rfl (lv_room (Nat.le_of_ble_eq_true rfl)) dX9_leastDeep_24 ⟨Nat.le_of_ble_eq_true rfl, Nat.le_of_ble_eq_true rfl⟩) hS (fun q _ h => hFc q h) hFc (fun r_24 u t H1 locs ht hvm hw hB hz1 hk1 hS => ?_)
    obtain ⟨hP1, hK1, hD1⟩ := hB
    rw [ht] at hP1
    have hK1 := va_K.moved hvm.symm hK1
    obtain ⟨hP, hD⟩ := va_join (wr := []) (w1 := [(h0, kO9 h1 h2 h3 n0_size), (h1, kAi cint 40 f1), (h2, kAi cint 40 f2), (h3, kAi cint 40 f3)]) hP hD [0, 1, 2, 3] [] rfl rfl (by decide) (by decide) hk1 hFc hP1 hD1
    generalize H1 = H at hP hS ⊢
    have hP : va_P (dC, dI) vwCl [(h0, kO9 h1 h2 h3 n0_size), (h1, kAi cint 40 f1), (h2, kAi cint 40 f2), (h3, kAi cint 40 f3)] H := hP
    have hD : va_D A [(h0, kO9 h1 h2 h3 n0_size), (h1, kAi cint 40 f1), (h2, kAi cint 40 f2), (h3, kAi cint 40 f3)] := hD
    refine lv_icmp_ge (tgt := 32) hx hb dX9_leastDeep_27 (by decide) (fun c_25 => ?_) (fun c_25 => ?_)
    · have t_25 : r_24.toInt ≤ r_23.toInt := kk_le c_25
      refine lv_iinc (v := (i_1_0 + 1)) hx hb dX9_leastDeep_32 hl (k := 0) rfl (by first | rfl | decide) (by decide) (rfl : _ = ([(3, .int (i_1_0 + 1)), (2, .int i_1_1), (0, .ref h0), (1, .int p0)] : List (Nat × Value))) (fun ls hl => ?_)
      refine lv_goto (tgt := 7) hx hb dX9_leastDeep_35 (by decide) ?_
      try have := kk_rng r_24
      try have := kk_rng r_23
      try have := kk_rng p0
      try have := kk_remb (x := p0) (k := 100) (n := 100) rfl (by decide)
      try have := kk_add2 (x := i_1_0) (y := 1) (a := i_1_0.toInt) (b := 1) rfl rfl (by omega) (by omega)
      exact ih_1 ((i_1_0 + 1), i_1_1) _ _ _ (by show ((21474836 : Int) - ((i_1_0 + 1)).toInt).toNat < ((21474836 : Int) - i_1_0.toInt).toNat; exact kk_mu (by omega) (by omega)) ⟨(by show (-21474836) ≤ ((i_1_0 + 1) : Int32).toInt ∧ ((i_1_0 + 1) : Int32).toInt ≤ 21474836; first | decide | ((omega))), (by show (-21474836) ≤ (i_1_1 : Int32).toInt ∧ (i_1_1 : Int32).toInt ≤ 21474836; first | decide | ((omega))), (by show ((p0 / 100) : Int32).toInt ≤ ((i_1_0 + 1) : Int32).toInt; first | decide | (omega)), hP, hD, hS, lv_sub hl [0, 1, 2, 3] rfl⟩
    · have t_25 : r_23.toInt < r_24.toInt := kk_nle c_25
      refine lv_iload_n hx hb dX9_leastDeep_30 rfl (lv_at hl 0 rfl) ?_
      refine lv_istore_n hx hb dX9_leastDeep_31 rfl hl (by decide) (rfl : _ = ([(2, .int i_1_0), (3, .int i_1_0), (0, .ref h0), (1, .int p0)] : List (Nat × Value))) (fun ls hl => ?_)
      refine lv_iinc (v := (i_1_0 + 1)) hx hb dX9_leastDeep_32 hl (k := 1) rfl (by first | rfl | decide) (by decide) (rfl : _ = ([(3, .int (i_1_0 + 1)), (2, .int i_1_0), (0, .ref h0), (1, .int p0)] : List (Nat × Value))) (fun ls hl => ?_)
      refine lv_goto (tgt := 7) hx hb dX9_leastDeep_35 (by decide) ?_
      try have := kk_rng r_23
      try have := kk_rng r_24
      try have := kk_rng p0
      try have := kk_remb (x := p0) (k := 100) (n := 100) rfl (by decide)
      try have := kk_add2 (x := i_1_0) (y := 1) (a := i_1_0.toInt) (b := 1) rfl rfl (by omega) (by omega)
      exact ih_1 ((i_1_0 + 1), i_1_0) _ _ _ (by show ((21474836 : Int) - ((i_1_0 + 1)).toInt).toNat < ((21474836 : Int) - i_1_0.toInt).toNat; exact kk_mu (by omega) (by omega)) ⟨(by show (-21474836) ≤ ((i_1_0 + 1) : Int32).toInt ∧ ((i_1_0 + 1) : Int32).toInt ≤ 21474836; first | decide | ((omega))), (by show (-21474836) ≤ (i_1_0 : Int32).toInt ∧ (i_1_0 : Int32).toInt ≤ 21474836; first | decide | ((omega))), (by show ((p0 / 100) : Int32).toInt ≤ ((i_1_0 + 1) : Int32).toInt; first | decide | (omega)), hP, hD, hS, lv_sub hl [0, 1, 2, 3] rfl⟩
set_option maxHeartbeats 4000000 in
set_option maxRecDepth 100000 in
theorem g_X9_remove_0 (l : Launch) (dC : Nat → ClassId) (dI : Nat → Nat → Nat) (h0 : Nat) (h1 : Nat) (h2 : Nat) (h3 : Nat) (cint : ClassId) (sz : Nat) (p0 : Int32) (n0_size : Int32) (f1 : Nat → Int32) (f2 : Nat → Int32) (f3 : Nat → Int32) (tn0_size : 0 ≤ n0_size.toInt ∧ n0_size.toInt ≤ 40) : Met l yX9_remove wsX9_remove ({ frames := 1, cells := 0, slots := 0, locals := 21 }) (va_Pc [.ref h0, .int p0] (fun U => U.heap.size = sz ∧ va_P (dC, dI) vwCl [(h0, kO9 h1 h2 h3 n0_size), (h1, kAi cint 40 f1), (h2, kAi cint 40 f2), (h3, kAi cint 40 f3)] U.heap ∧ va_K (dC, dI) vwCl [(cint, .int)] U ∧ va_D (fun _ => True) [(h0, kO9 h1 h2 h3 n0_size), (h1, kAi cint 40 f1), (h2, kAi cint 40 f2), (h3, kAi cint 40 f3)])) (va_Qv (fun (_ : Unit) => True) (fun (_ : Unit) t => ∃ (m0_size : Int32) (g1 : Nat → Int32) (g2 : Nat → Int32) (g3 : Nat → Int32), (0 ≤ m0_size.toInt ∧ m0_size.toInt ≤ 40) ∧ va_P (dC, dI) vwCl [(h0, kO9 h1 h2 h3 m0_size), (h1, kAi cint 40 g1), (h2, kAi cint 40 g2), (h3, kAi cint 40 g3)] t.heap ∧ va_K (dC, dI) vwCl [] t ∧ va_D (va_A [(h0, kO9 h1 h2 h3 n0_size), (h1, kAi cint 40 f1), (h2, kAi cint 40 f2), (h3, kAi cint 40 f3)] sz) [(h0, kO9 h1 h2 h3 m0_size), (h1, kAi cint 40 g1), (h2, kAi cint 40 g2), (h3, kAi cint 40 g3)]) (va_A [(h0, kO9 h1 h2 h3 n0_size), (h1, kAi cint 40 f1), (h2, kAi cint 40 f2), (h3, kAi cint 40 f3)] sz)) 0 0 (va_A [(h0, kO9 h1 h2 h3 n0_size), (h1, kAi cint 40 f1), (h2, kAi cint 40 f2), (h3, kAi cint 40 f3)] sz) := by
  refine Met.ofW (cc := cX9_remove) (maxL := 3) (ret := none) (by decide) rfl ?_
  intro p e s m args below meth c s₁ B hml hv
  obtain ⟨rfl, hsz, hP, hK, hD0⟩ := hv
  have hx := B.exec
  have hb := B.bytes
  have hr := B.returns
  have hts := atoms_spec (ws := wsX9_remove) B.pre
  have hown : s.vm.findClass RX9 = some m.cls := findClass_of_methodNamed B.named
  have hlocks := B.notSynchronized
  subst hsz
  have hD := hD0.self (sz := s.heap.size)
  generalize hAe : va_A [(h0, kO9 h1 h2 h3 n0_size), (h1, kAi cint 40 f1), (h2, kAi cint 40 f2), (h3, kAi cint 40 f3)] s.heap.size = A at hD ⊢
  have hA : ∀ q : Nat, s.heap.size ≤ q → A q := fun q h => by rw [← hAe]; exact Or.inr h
  have hS : va_S A s.heap s.heap [] := va_S.rf
  have hP : va_P (dC, dI) vwCl [(h0, kO9 h1 h2 h3 n0_size), (h1, kAi cint 40 f1), (h2, kAi cint 40 f2), (h3, kAi cint 40 f3)] s.heap := hP
  have hl := lv_entry ([.ref h0, .int p0]) (n := 3) (Nat.le_of_ble_eq_true rfl)
  rw [lg_entry_eq]
  generalize (lg_sl ([.ref h0, .int p0]) ++ List.replicate (3 - (lg_sl ([.ref h0, .int p0])).length) Slot.unset).toArray = ls at hl ⊢
  have hl : lv_has ls 3 [(0, .ref h0), (1, .int p0)] := hl
  refine lv_aload_n hx hb dX9_remove_0 rfl (lv_at hl 0 rfl) ?_
  refine lv_iload_n hx hb dX9_remove_1 rfl (lv_at hl 1 rfl) ?_
  have hPc := kk_Ps (wq := [(h0, kO9 h1 h2 h3 n0_size)]) hP [0] rfl
  have hDc := kk_Ds (wq := [(h0, kO9 h1 h2 h3 n0_size)]) hD [0] (by decide) rfl
  have hKc := kk_Ks (tq := []) hK [] rfl
  have hFc := va_free (wc := [(h0, kO9 h1 h2 h3 n0_size)]) hD hS hA [0] rfl
  refine va_calli (va_runV (As := [.int p0]) (rest := []) ⟨hx, hb, hml, hown, hts⟩ (g_X9_has_0 l dC dI h0 h1 h2 h3 s.heap.size p0 n0_size tn0_size) (cwV 1 hts gX9_remove_X9_has rfl rfl rfl ⟨rfl, kh_X9_has⟩ ⟨Nat.le_of_ble_eq_true rfl, Nat.le_of_ble_eq_true rfl⟩) ⟨fun a U g mk q => by obtain ⟨q0, q1, qP, qK, qD⟩ := q; exact ⟨q0, q1, qP, va_K.moved (u := U) (U := U.calling g mk a) (Vm.Alike.refl U.vm) qK, qD⟩, va_recv hKc hPc (ci := 9) (q0 := 0) rfl rfl, fun U hU hW => ⟨rfl, by rw [hU], by rw [hU]; exact hPc, va_K.moved hW.alike hKc, hDc.weaken (fun _ _ _ _ => trivial)⟩⟩ rfl rfl hl.1 rfl (lv_room (Nat.le_of_ble_eq_true rfl)) dX9_remove_2 ⟨Nat.le_of_ble_eq_true rfl, Nat.le_of_ble_eq_true rfl⟩) hS (fun q _ h => hFc q h) hFc (fun r_1 u t H1 locs ht hvm hw hB hz1 hk1 hS => ?_)
  obtain ⟨hP1, hK1, hD1⟩ := hB
  rw [ht] at hP1
  have hK1 := va_K.moved hvm.symm hK1
  obtain ⟨hP, hD⟩ := va_join (wr := [(h1, kAi cint 40 f1), (h2, kAi cint 40 f2), (h3, kAi cint 40 f3)]) (w1 := [(h0, kO9 h1 h2 h3 n0_size)]) hP hD [0] [1, 2, 3] rfl rfl (by decide) (by decide) hk1 hFc hP1 hD1
  generalize H1 = H at hP hS ⊢
  have hP : va_P (dC, dI) vwCl [(h1, kAi cint 40 f1), (h2, kAi cint 40 f2), (h3, kAi cint 40 f3), (h0, kO9 h1 h2 h3 n0_size)] H := hP
  have hD : va_D A [(h1, kAi cint 40 f1), (h2, kAi cint 40 f2), (h3, kAi cint 40 f3), (h0, kO9 h1 h2 h3 n0_size)] := hD
  rcases hw with ⟨rfl⟩ | ⟨t_1_0, t_1_1, t_1_2, rfl⟩
  · skip
    refine lv_if_ne (tgt := 9) hx hb dX9_remove_5 (by decide) (fun c => absurd c (by decide)) (fun _ => ?_)
    have hP9 := kk_Ps (wq := [(h0, kO9 h1 h2 h3 n0_size), (h1, kAi cint 40 f1), (h2, kAi cint 40 f2), (h3, kAi cint 40 f3)]) hP [3, 0, 1, 2] rfl
    have hD9 := kk_Ds (wq := [(h0, kO9 h1 h2 h3 n0_size), (h1, kAi cint 40 f1), (h2, kAi cint 40 f2), (h3, kAi cint 40 f3)]) hD [3, 0, 1, 2] (by decide) rfl
    have hK9 := kk_Ks (tq := []) hK [] rfl
    exact W.vret hx hb hr (fun t ht hW => ⟨⟨(), rfl, trivial, n0_size, f1, f2, f3, tn0_size, by rw [ht]; exact hP9, va_K.moved hW.alike hK9, hD9⟩, hS.F ht⟩) hS.2.2 dX9_remove_8
  · skip
    have t_1_0 : (0 : Int) ≤ p0.toInt := t_1_0
    have t_1_2 : (p0.toInt : Int) ≤ 39 := t_1_2
    refine lv_if_ne (tgt := 9) hx hb dX9_remove_5 (by decide) (fun _ => ?_) (fun c => absurd c (by decide))
    refine lv_iload_n hx hb dX9_remove_9 rfl (lv_at hl 1 rfl) ?_
    refine lv_iconst (v := 1) hx hb dX9_remove_10 kk_ic_1 ?_
    refine lv_iadd hx hb dX9_remove_11 ?_
    refine lv_istore_n hx hb dX9_remove_12 rfl hl (by decide) (rfl : _ = ([(2, .int (p0 + 1)), (0, .ref h0), (1, .int p0)] : List (Nat × Value))) (fun ls hl => ?_)
    try have := kk_add2 (x := p0) (y := 1) (a := p0.toInt) (b := 1) rfl rfl (by omega) (by omega)
    refine kk_loop (σ := Int32 × (Nat → Int32) × (Nat → Int32) × (Nat → Int32)) (fun x H locs ls => (1 ≤ x.1.toInt ∧ x.1.toInt ≤ 40) ∧ (p0 + 1).toInt ≤ x.1.toInt ∧ va_P (dC, dI) vwCl [(h1, kAi cint 40 x.2.1), (h2, kAi cint 40 x.2.2.1), (h3, kAi cint 40 x.2.2.2), (h0, kO9 h1 h2 h3 n0_size)] H ∧ va_D A [(h1, kAi cint 40 x.2.1), (h2, kAi cint 40 x.2.2.1), (h3, kAi cint 40 x.2.2.2), (h0, kO9 h1 h2 h3 n0_size)] ∧ va_S A s.heap H locs ∧ lv_has ls 3 [(2, .int x.1), (0, .ref h0), (1, .int p0)]) (fun x => ((40 : Int) - x.1.toInt).toNat) ?_ ((p0 + 1), f1, f2, f3) _ _ _ ⟨(by show 1 ≤ ((p0 + 1) : Int32).toInt ∧ ((p0 + 1) : Int32).toInt ≤ 40; first | decide | ((omega))), (by show ((p0 + 1) : Int32).toInt ≤ ((p0 + 1) : Int32).toInt; first | decide | (omega)), hP, hD, hS, hl⟩
    rintro ⟨i_2_0, f_2_1, f_2_2, f_2_3⟩ H locs ls ⟨t_2_0, z_2_0, hP, hD, hS, hl⟩ ih_2
    have t_2_0 : (1 ≤ i_2_0.toInt ∧ i_2_0.toInt ≤ 40) := t_2_0
    have z_2_0 : (p0 + 1).toInt ≤ i_2_0.toInt := z_2_0
    have hl : lv_has ls 3 [(2, .int i_2_0), (0, .ref h0), (1, .int p0)] := hl
    have hP : va_P (dC, dI) vwCl [(h1, kAi cint 40 f_2_1), (h2, kAi cint 40 f_2_2), (h3, kAi cint 40 f_2_3), (h0, kO9 h1 h2 h3 n0_size)] H := hP
    have hD : va_D A [(h1, kAi cint 40 f_2_1), (h2, kAi cint 40 f_2_2), (h3, kAi cint 40 f_2_3), (h0, kO9 h1 h2 h3 n0_size)] := hD
    refine lv_iload_n hx hb dX9_remove_13 rfl (lv_at hl 0 rfl) ?_
    refine lv_aload_n hx hb dX9_remove_14 rfl (lv_at hl 1 rfl) ?_
    refine va_get (D := (dC, dI)) (ci := 9) (v := .int n0_size) (C := RX9) (T := TX9) (N := 4) hx hb hts (fun _ h => List.mem_cons_of_mem _ (List.mem_append_right _ h)) hown hK hP 3 rfl rfl 3 (by decide) (hts (.fieldLink RX9 21 "KinkStreet$Street" "size" "I") (List.mem_of_getElem? (i := 1) rfl)) (fun _ h9 => h9) rfl dX9_remove_15 ?_
    refine lv_icmp_ge (tgt := 69) hx hb dX9_remove_18 (by decide) (fun c_31 => ?_) (fun c_31 => ?_)
    · have t_31 : n0_size.toInt ≤ i_2_0.toInt := kk_le c_31
      refine lv_aload_n hx hb dX9_remove_69 rfl (lv_at hl 1 rfl) ?_
      refine lv_dup hx hb dX9_remove_70 rfl ?_
      refine va_get (D := (dC, dI)) (ci := 9) (v := .int n0_size) (C := RX9) (T := TX9) (N := 4) hx hb hts (fun _ h => List.mem_cons_of_mem _ (List.mem_append_right _ h)) hown hK hP 3 rfl rfl 3 (by decide) (hts (.fieldLink RX9 21 "KinkStreet$Street" "size" "I") (List.mem_of_getElem? (i := 1) rfl)) (fun _ h9 => h9) rfl dX9_remove_71 ?_
      refine lv_iconst (v := 1) hx hb dX9_remove_74 kk_ic_1 ?_
      refine lv_isub hx hb dX9_remove_75 ?_
      refine va_put (D := (dC, dI)) (ci := 9) (v := .int (n0_size - 1)) (ty := .int) (C := RX9) (T := TX9) (N := 4) hx hb hts (fun _ h => List.mem_cons_of_mem _ (List.mem_append_right _ h)) tyX9 tyX9_ok nmX9 hown hK hP hD hS 3 rfl rfl 3 (by decide) (hts (.fieldLink RX9 21 "KinkStreet$Street" "size" "I") (List.mem_of_getElem? (i := 1) rfl)) (fun _ h9 => h9) rfl (by decide +kernel) rfl rfl (Nat.le_of_ble_eq_true rfl) dX9_remove_76 (fun H locs hP hD hS => ?_)
      have hP : va_P (dC, dI) vwCl [(h1, kAi cint 40 f_2_1), (h2, kAi cint 40 f_2_2), (h3, kAi cint 40 f_2_3), (h0, kO9 h1 h2 h3 (n0_size - 1))] H := hP
      have hD : va_D A [(h1, kAi cint 40 f_2_1), (h2, kAi cint 40 f_2_2), (h3, kAi cint 40 f_2_3), (h0, kO9 h1 h2 h3 (n0_size - 1))] := hD
      have hP9 := kk_Ps (wq := [(h0, kO9 h1 h2 h3 (n0_size - 1)), (h1, kAi cint 40 f_2_1), (h2, kAi cint 40 f_2_2), (h3, kAi cint 40 f_2_3)]) hP [3, 0, 1, 2] rfl
      have hD9 := kk_Ds (wq := [(h0, kO9 h1 h2 h3 (n0_size - 1)), (h1, kAi cint 40 f_2_1), (h2, kAi cint 40 f_2_2), (h3, kAi cint 40 f_2_3)]) hD [3, 0, 1, 2] (by decide) rfl
      have hK9 := kk_Ks (tq := []) hK [] rfl
      try have := kk_sub2 (x := n0_size) (y := 1) (a := n0_size.toInt) (b := 1) rfl rfl (by omega) (by omega)
      exact W.vret hx hb hr (fun t ht hW => ⟨⟨(), rfl, trivial, (n0_size - 1), f_2_1, f_2_2, f_2_3, (by show 0 ≤ ((n0_size - 1) : Int32).toInt ∧ ((n0_size - 1) : Int32).toInt ≤ 40; first | decide | ((omega))), by rw [ht]; exact hP9, va_K.moved hW.alike hK9, hD9⟩, hS.F ht⟩) hS.2.2 dX9_remove_79
    · have t_31 : i_2_0.toInt < n0_size.toInt := kk_nle c_31
      refine lv_aload_n hx hb dX9_remove_21 rfl (lv_at hl 1 rfl) ?_
      refine va_get (D := (dC, dI)) (ci := 9) (v := .ref h1) (C := RX9) (T := TX9) (N := 4) hx hb hts (fun _ h => List.mem_cons_of_mem _ (List.mem_append_right _ h)) hown hK hP 3 rfl rfl 0 (by decide) (hts (.fieldLink RX9 9 "KinkStreet$Street" "widths" "[I") (List.mem_of_getElem? (i := 2) rfl)) (fun _ h9 => h9) rfl dX9_remove_22 ?_
      refine lv_iload_n hx hb dX9_remove_25 rfl (lv_at hl 0 rfl) ?_
      refine lv_iconst (v := 1) hx hb dX9_remove_26 kk_ic_1 ?_
      refine lv_isub hx hb dX9_remove_27 ?_
      refine lv_aload_n hx hb dX9_remove_28 rfl (lv_at hl 1 rfl) ?_
      refine va_get (D := (dC, dI)) (ci := 9) (v := .ref h1) (C := RX9) (T := TX9) (N := 4) hx hb hts (fun _ h => List.mem_cons_of_mem _ (List.mem_append_right _ h)) hown hK hP 3 rfl rfl 0 (by decide) (hts (.fieldLink RX9 9 "KinkStreet$Street" "widths" "[I") (List.mem_of_getElem? (i := 2) rfl)) (fun _ h9 => h9) rfl dX9_remove_29 ?_
      refine lv_iload_n hx hb dX9_remove_32 rfl (lv_at hl 0 rfl) ?_
      try have := kk_sub2 (x := i_2_0) (y := 1) (a := i_2_0.toInt) (b := 1) rfl rfl (by omega) (by omega)
      have hi_32 : vp_in i_2_0 40 := (vp_in_iff.mpr ⟨by omega, by omega⟩)
      refine va_iald hx hb hK hP 0 0 rfl rfl hi_32 dX9_remove_33 ?_
      refine lv_topi (fun y_32 e_32 => ?_)
      clear e_32
      refine va_iast hx hb hK hP hD hS 0 0 rfl rfl (vp_in_iff.mpr ⟨by omega, by omega⟩) dX9_remove_34 (fun H locs hP hD hS => ?_)
      generalize upd f_2_1 ((i_2_0 - 1) : Int32).toNatClampNeg y_32 = f_33 at hP hD
      have hP : va_P (dC, dI) vwCl [(h1, kAi cint 40 f_33), (h2, kAi cint 40 f_2_2), (h3, kAi cint 40 f_2_3), (h0, kO9 h1 h2 h3 n0_size)] H := hP
      have hD : va_D A [(h1, kAi cint 40 f_33), (h2, kAi cint 40 f_2_2), (h3, kAi cint 40 f_2_3), (h0, kO9 h1 h2 h3 n0_size)] := hD
      refine lv_aload_n hx hb dX9_remove_35 rfl (lv_at hl 1 rfl) ?_
      refine va_get (D := (dC, dI)) (ci := 9) (v := .ref h2) (C := RX9) (T := TX9) (N := 4) hx hb hts (fun _ h => List.mem_cons_of_mem _ (List.mem_append_right _ h)) hown hK hP 3 rfl rfl 1 (by decide) (hts (.fieldLink RX9 15 "KinkStreet$Street" "depths" "[I") (List.mem_of_getElem? (i := 3) rfl)) (fun _ h9 => h9) rfl dX9_remove_36 ?_
      refine lv_iload_n hx hb dX9_remove_39 rfl (lv_at hl 0 rfl) ?_
      refine lv_iconst (v := 1) hx hb dX9_remove_40 kk_ic_1 ?_
      refine lv_isub hx hb dX9_remove_41 ?_
      refine lv_aload_n hx hb dX9_remove_42 rfl (lv_at hl 1 rfl) ?_
      refine va_get (D := (dC, dI)) (ci := 9) (v := .ref h2) (C := RX9) (T := TX9) (N := 4) hx hb hts (fun _ h => List.mem_cons_of_mem _ (List.mem_append_right _ h)) hown hK hP 3 rfl rfl 1 (by decide) (hts (.fieldLink RX9 15 "KinkStreet$Street" "depths" "[I") (List.mem_of_getElem? (i := 3) rfl)) (fun _ h9 => h9) rfl dX9_remove_43 ?_
      refine lv_iload_n hx hb dX9_remove_46 rfl (lv_at hl 0 rfl) ?_
      have hi_34 : vp_in i_2_0 40 := (vp_in_iff.mpr ⟨by omega, by omega⟩)
      refine va_iald hx hb hK hP 1 0 rfl rfl hi_34 dX9_remove_47 ?_
      refine lv_topi (fun y_34 e_34 => ?_)
      clear e_34
      refine va_iast hx hb hK hP hD hS 1 0 rfl rfl (vp_in_iff.mpr ⟨by omega, by omega⟩) dX9_remove_48 (fun H locs hP hD hS => ?_)
      generalize upd f_2_2 ((i_2_0 - 1) : Int32).toNatClampNeg y_34 = f_35 at hP hD
      have hP : va_P (dC, dI) vwCl [(h1, kAi cint 40 f_33), (h2, kAi cint 40 f_35), (h3, kAi cint 40 f_2_3), (h0, kO9 h1 h2 h3 n0_size)] H := hP
      have hD : va_D A [(h1, kAi cint 40 f_33), (h2, kAi cint 40 f_35), (h3, kAi cint 40 f_2_3), (h0, kO9 h1 h2 h3 n0_size)] := hD
      refine lv_aload_n hx hb dX9_remove_49 rfl (lv_at hl 1 rfl) ?_
      refine va_get (D := (dC, dI)) (ci := 9) (v := .ref h3) (C := RX9) (T := TX9) (N := 4) hx hb hts (fun _ h => List.mem_cons_of_mem _ (List.mem_append_right _ h)) hown hK hP 3 rfl rfl 2 (by decide) (hts (.fieldLink RX9 18 "KinkStreet$Street" "asides" "[I") (List.mem_of_getElem? (i := 4) rfl)) (fun _ h9 => h9) rfl dX9_remove_50 ?_
      refine lv_iload_n hx hb dX9_remove_53 rfl (lv_at hl 0 rfl) ?_
      refine lv_iconst (v := 1) hx hb dX9_remove_54 kk_ic_1 ?_
      refine lv_isub hx hb dX9_remove_55 ?_
      refine lv_aload_n hx hb dX9_remove_56 rfl (lv_at hl 1 rfl) ?_
      refine va_get (D := (dC, dI)) (ci := 9) (v := .ref h3) (C := RX9) (T := TX9) (N := 4) hx hb hts (fun _ h => List.mem_cons_of_mem _ (List.mem_append_right _ h)) hown hK hP 3 rfl rfl 2 (by decide) (hts (.fieldLink RX9 18 "KinkStreet$Street" "asides" "[I") (List.mem_of_getElem? (i := 4) rfl)) (fun _ h9 => h9) rfl dX9_remove_57 ?_
      refine lv_iload_n hx hb dX9_remove_60 rfl (lv_at hl 0 rfl) ?_
      have hi_36 : vp_in i_2_0 40 := (vp_in_iff.mpr ⟨by omega, by omega⟩)
      refine va_iald hx hb hK hP 2 0 rfl rfl hi_36 dX9_remove_61 ?_
      refine lv_topi (fun y_36 e_36 => ?_)
      clear e_36
      refine va_iast hx hb hK hP hD hS 2 0 rfl rfl (vp_in_iff.mpr ⟨by omega, by omega⟩) dX9_remove_62 (fun H locs hP hD hS => ?_)
      generalize upd f_2_3 ((i_2_0 - 1) : Int32).toNatClampNeg y_36 = f_37 at hP hD
      have hP : va_P (dC, dI) vwCl [(h1, kAi cint 40 f_33), (h2, kAi cint 40 f_35), (h3, kAi cint 40 f_37), (h0, kO9 h1 h2 h3 n0_size)] H := hP
      have hD : va_D A [(h1, kAi cint 40 f_33), (h2, kAi cint 40 f_35), (h3, kAi cint 40 f_37), (h0, kO9 h1 h2 h3 n0_size)] := hD
      refine lv_iinc (v := (i_2_0 + 1)) hx hb dX9_remove_63 hl (k := 0) rfl (by first | rfl | decide) (by decide) (rfl : _ = ([(2, .int (i_2_0 + 1)), (0, .ref h0), (1, .int p0)] : List (Nat × Value))) (fun ls hl => ?_)
      refine lv_goto (tgt := 13) hx hb dX9_remove_66 (by decide) ?_
      try have := kk_add2 (x := i_2_0) (y := 1) (a := i_2_0.toInt) (b := 1) rfl rfl (by omega) (by omega)
      exact ih_2 ((i_2_0 + 1), f_33, f_35, f_37) _ _ _ (by show ((40 : Int) - ((i_2_0 + 1)).toInt).toNat < ((40 : Int) - i_2_0.toInt).toNat; exact kk_mu (by omega) (by omega)) ⟨(by show 1 ≤ ((i_2_0 + 1) : Int32).toInt ∧ ((i_2_0 + 1) : Int32).toInt ≤ 40; first | decide | ((omega))), (by show ((p0 + 1) : Int32).toInt ≤ ((i_2_0 + 1) : Int32).toInt; first | decide | (omega)), hP, hD, hS, lv_sub hl [0, 1, 2] rfl⟩
set_option maxHeartbeats 4000000 in
set_option maxRecDepth 100000 in
theorem g_X9_join_0 (l : Launch) (dC : Nat → ClassId) (dI : Nat → Nat → Nat) (h0 : Nat) (h1 : Nat) (h2 : Nat) (h3 : Nat) (cint : ClassId) (sz : Nat) (p0 : Int32) (n0_size : Int32) (f1 : Nat → Int32) (f2 : Nat → Int32) (f3 : Nat → Int32) (tn0_size : kk_bx (0 ≤ n0_size.toInt ∧ n0_size.toInt ≤ 40)) : Met l yX9_join wsX9_join ({ frames := 2, cells := 0, slots := 0, locals := 43 }) (va_Pc [.ref h0, .int p0] (fun U => U.heap.size = sz ∧ va_P (dC, dI) vwCl [(h0, kO9 h1 h2 h3 n0_size), (h1, kAi cint 40 f1), (h2, kAi cint 40 f2), (h3, kAi cint 40 f3)] U.heap ∧ va_K (dC, dI) vwCl [(cint, .int)] U ∧ va_D (fun _ => True) [(h0, kO9 h1 h2 h3 n0_size), (h1, kAi cint 40 f1), (h2, kAi cint 40 f2), (h3, kAi cint 40 f3)])) (va_Qv (fun (_ : Unit) => True) (fun (_ : Unit) t => ∃ (m0_size : Int32) (g1 : Nat → Int32) (g2 : Nat → Int32) (g3 : Nat → Int32), (0 ≤ m0_size.toInt ∧ m0_size.toInt ≤ 40) ∧ va_P (dC, dI) vwCl [(h0, kO9 h1 h2 h3 m0_size), (h1, kAi cint 40 g1), (h2, kAi cint 40 g2), (h3, kAi cint 40 g3)] t.heap ∧ va_K (dC, dI) vwCl [] t ∧ va_D (va_A [(h0, kO9 h1 h2 h3 n0_size), (h1, kAi cint 40 f1), (h2, kAi cint 40 f2), (h3, kAi cint 40 f3)] sz) [(h0, kO9 h1 h2 h3 m0_size), (h1, kAi cint 40 g1), (h2, kAi cint 40 g2), (h3, kAi cint 40 g3)]) (va_A [(h0, kO9 h1 h2 h3 n0_size), (h1, kAi cint 40 f1), (h2, kAi cint 40 f2), (h3, kAi cint 40 f3)] sz)) 0 0 (va_A [(h0, kO9 h1 h2 h3 n0_size), (h1, kAi cint 40 f1), (h2, kAi cint 40 f2), (h3, kAi cint 40 f3)] sz) := by
  refine Met.ofW (cc := cX9_join) (maxL := 3) (ret := none) (by decide) rfl ?_
  intro p e s m args below meth c s₁ B hml hv
  obtain ⟨rfl, hsz, hP, hK, hD0⟩ := hv
  have hx := B.exec
  have hb := B.bytes
  have hr := B.returns
  have hts := atoms_spec (ws := wsX9_join) B.pre
  have hown : s.vm.findClass RX9 = some m.cls := findClass_of_methodNamed B.named
  have hlocks := B.notSynchronized
  subst hsz
  have hD := hD0.self (sz := s.heap.size)
  generalize hAe : va_A [(h0, kO9 h1 h2 h3 n0_size), (h1, kAi cint 40 f1), (h2, kAi cint 40 f2), (h3, kAi cint 40 f3)] s.heap.size = A at hD ⊢
  have hA : ∀ q : Nat, s.heap.size ≤ q → A q := fun q h => by rw [← hAe]; exact Or.inr h
  have hS : va_S A s.heap s.heap [] := va_S.rf
  have hP : va_P (dC, dI) vwCl [(h0, kO9 h1 h2 h3 n0_size), (h1, kAi cint 40 f1), (h2, kAi cint 40 f2), (h3, kAi cint 40 f3)] s.heap := hP
  have hl := lv_entry ([.ref h0, .int p0]) (n := 3) (Nat.le_of_ble_eq_true rfl)
  rw [lg_entry_eq]
  generalize (lg_sl ([.ref h0, .int p0]) ++ List.replicate (3 - (lg_sl ([.ref h0, .int p0])).length) Slot.unset).toArray = ls at hl ⊢
  have hl : lv_has ls 3 [(0, .ref h0), (1, .int p0)] := hl
  refine lv_aload_n hx hb dX9_join_0 rfl (lv_at hl 0 rfl) ?_
  refine lv_iload_n hx hb dX9_join_1 rfl (lv_at hl 1 rfl) ?_
  have hPc := kk_Ps (wq := [(h0, kO9 h1 h2 h3 n0_size), (h1, kAi cint 40 f1)]) hP [0, 1] rfl
  have hDc := kk_Ds (wq := [(h0, kO9 h1 h2 h3 n0_size), (h1, kAi cint 40 f1)]) hD [0, 1] (by decide) rfl
  have hKc := kk_Ks (tq := [(cint, .int)]) hK [0] rfl
  have hFc := va_free (wc := [(h0, kO9 h1 h2 h3 n0_size), (h1, kAi cint 40 f1)]) hD hS hA [0, 1] rfl
  refine va_calli (va_runV (As := [.int p0]) (rest := []) ⟨hx, hb, hml, hown, hts⟩ (g_X9_width_0 l dC dI h0 h1 h2 h3 cint s.heap.size p0 n0_size f1 tn0_size) (cwV 1 hts gX9_join_X9_width rfl rfl rfl ⟨rfl, kh_X9_width⟩ ⟨Nat.le_of_ble_eq_true rfl, Nat.le_of_ble_eq_true rfl⟩) ⟨fun a U g mk q => by obtain ⟨q0, q1, qP, qK, qD⟩ := q; exact ⟨q0, q1, qP, va_K.moved (u := U) (U := U.calling g mk a) (Vm.Alike.refl U.vm) qK, qD⟩, va_recv hKc hPc (ci := 9) (q0 := 0) rfl rfl, fun U hU hW => ⟨rfl, by rw [hU], by rw [hU]; exact hPc, va_K.moved hW.alike hKc, hDc.weaken (fun _ _ _ _ => trivial)⟩⟩ rfl rfl hl.1 rfl (lv_room (Nat.le_of_ble_eq_true rfl)) dX9_join_2 ⟨Nat.le_of_ble_eq_true rfl, Nat.le_of_ble_eq_true rfl⟩) hS (fun q _ h => hFc q h) hFc (fun r_1 u t H1 locs ht hvm hw hB hz1 hk1 hS => ?_)
  obtain ⟨hP1, hK1, hD1⟩ := hB
  rw [ht] at hP1
  have hK1 := va_K.moved hvm.symm hK1
  obtain ⟨hP, hD⟩ := va_join (wr := [(h2, kAi cint 40 f2), (h3, kAi cint 40 f3)]) (w1 := [(h0, kO9 h1 h2 h3 n0_size), (h1, kAi cint 40 f1)]) hP hD [0, 1] [2, 3] rfl rfl (by decide) (by decide) hk1 hFc hP1 hD1
  generalize H1 = H at hP hS ⊢
  have hP : va_P (dC, dI) vwCl [(h2, kAi cint 40 f2), (h3, kAi cint 40 f3), (h0, kO9 h1 h2 h3 n0_size), (h1, kAi cint 40 f1)] H := hP
  have hD : va_D A [(h2, kAi cint 40 f2), (h3, kAi cint 40 f3), (h0, kO9 h1 h2 h3 n0_size), (h1, kAi cint 40 f1)] := hD
  refine lv_aload_n hx hb dX9_join_5 rfl (lv_at hl 0 rfl) ?_
  refine lv_iload_n hx hb dX9_join_6 rfl (lv_at hl 1 rfl) ?_
  refine lv_iconst (v := 1) hx hb dX9_join_7 kk_ic_1 ?_
  refine lv_iadd hx hb dX9_join_8 ?_
  have hPc := kk_Ps (wq := [(h0, kO9 h1 h2 h3 n0_size), (h1, kAi cint 40 f1)]) hP [2, 3] rfl
  have hDc := kk_Ds (wq := [(h0, kO9 h1 h2 h3 n0_size), (h1, kAi cint 40 f1)]) hD [2, 3] (by decide) rfl
  have hKc := kk_Ks (tq := [(cint, .int)]) hK [0] rfl
  have hFc := va_free (wc := [(h0, kO9 h1 h2 h3 n0_size), (h1, kAi cint 40 f1)]) hD hS hA [2, 3] rfl
  refine va_calli (va_runV (As := [.int (p0 + 1)]) (rest := [.int r_1]) ⟨hx, hb, hml, hown, hts⟩ (g_X9_width_0 l dC dI h0 h1 h2 h3 cint H.size (p0 + 1) n0_size f1 tn0_size) (cwV 1 hts gX9_join_X9_width rfl rfl rfl ⟨rfl, kh_X9_width⟩ ⟨Nat.le_of_ble_eq_true rfl, Nat.le_of_ble_eq_true rfl⟩) ⟨fun a U g mk q => by obtain ⟨q0, q1, qP, qK, qD⟩ := q; exact ⟨q0, q1, qP, va_K.moved (u := U) (U := U.calling g mk a) (Vm.Alike.refl U.vm) qK, qD⟩, va_recv hKc hPc (ci := 9) (q0 := 0) rfl rfl, fun U hU hW => ⟨rfl, by rw [hU], by rw [hU]; exact hPc, va_K.moved hW.alike hKc, hDc.weaken (fun _ _ _ _ => trivial)⟩⟩ rfl rfl hl.1 rfl (lv_room (Nat.le_of_ble_eq_true rfl)) dX9_join_9 ⟨Nat.le_of_ble_eq_true rfl, Nat.le_of_ble_eq_true rfl⟩) hS (fun q _ h => hFc q h) hFc (fun r_2 u t H1 locs ht hvm hw hB hz1 hk1 hS => ?_)
  obtain ⟨hP1, hK1, hD1⟩ := hB
  rw [ht] at hP1
  have hK1 := va_K.moved hvm.symm hK1
  obtain ⟨hP, hD⟩ := va_join (wr := [(h2, kAi cint 40 f2), (h3, kAi cint 40 f3)]) (w1 := [(h0, kO9 h1 h2 h3 n0_size), (h1, kAi cint 40 f1)]) hP hD [2, 3] [0, 1] rfl rfl (by decide) (by decide) hk1 hFc hP1 hD1
  generalize H1 = H at hP hS ⊢
  have hP : va_P (dC, dI) vwCl [(h2, kAi cint 40 f2), (h3, kAi cint 40 f3), (h0, kO9 h1 h2 h3 n0_size), (h1, kAi cint 40 f1)] H := hP
  have hD : va_D A [(h2, kAi cint 40 f2), (h3, kAi cint 40 f3), (h0, kO9 h1 h2 h3 n0_size), (h1, kAi cint 40 f1)] := hD
  refine lv_iadd hx hb dX9_join_12 ?_
  refine lv_istore_n hx hb dX9_join_13 rfl hl (by decide) (rfl : _ = ([(2, .int (r_1 + r_2)), (0, .ref h0), (1, .int p0)] : List (Nat × Value))) (fun ls hl => ?_)
  refine lv_aload_n hx hb dX9_join_14 rfl (lv_at hl 1 rfl) ?_
  refine lv_iload_n hx hb dX9_join_15 rfl (lv_at hl 2 rfl) ?_
  have hPc := kk_Ps (wq := [(h0, kO9 h1 h2 h3 n0_size)]) hP [2] rfl
  have hDc := kk_Ds (wq := [(h0, kO9 h1 h2 h3 n0_size)]) hD [2] (by decide) rfl
  have hKc := kk_Ks (tq := []) hK [] rfl
  have hFc := va_free (wc := [(h0, kO9 h1 h2 h3 n0_size)]) hD hS hA [2] rfl
  refine va_calli (va_runV (As := [.int p0]) (rest := []) ⟨hx, hb, hml, hown, hts⟩ (g_X9_has_0 l dC dI h0 h1 h2 h3 H.size p0 n0_size tn0_size) (cwV 1 hts gX9_join_X9_has rfl rfl rfl ⟨rfl, kh_X9_has⟩ ⟨Nat.le_of_ble_eq_true rfl, Nat.le_of_ble_eq_true rfl⟩) ⟨fun a U g mk q => by obtain ⟨q0, q1, qP, qK, qD⟩ := q; exact ⟨q0, q1, qP, va_K.moved (u := U) (U := U.calling g mk a) (Vm.Alike.refl U.vm) qK, qD⟩, va_recv hKc hPc (ci := 9) (q0 := 0) rfl rfl, fun U hU hW => ⟨rfl, by rw [hU], by rw [hU]; exact hPc, va_K.moved hW.alike hKc, hDc.weaken (fun _ _ _ _ => trivial)⟩⟩ rfl rfl hl.1 rfl (lv_room (Nat.le_of_ble_eq_true rfl)) dX9_join_16 ⟨Nat.le_of_ble_eq_true rfl, Nat.le_of_ble_eq_true rfl⟩) hS (fun q _ h => hFc q h) hFc (fun r_3 u t H1 locs ht hvm hw hB hz1 hk1 hS => ?_)
  obtain ⟨hP1, hK1, hD1⟩ := hB
  rw [ht] at hP1
  have hK1 := va_K.moved hvm.symm hK1
  obtain ⟨hP, hD⟩ := va_join (wr := [(h2, kAi cint 40 f2), (h3, kAi cint 40 f3), (h1, kAi cint 40 f1)]) (w1 := [(h0, kO9 h1 h2 h3 n0_size)]) hP hD [2] [0, 1, 3] rfl rfl (by decide) (by decide) hk1 hFc hP1 hD1
  generalize H1 = H at hP hS ⊢
  have hP : va_P (dC, dI) vwCl [(h2, kAi cint 40 f2), (h3, kAi cint 40 f3), (h1, kAi cint 40 f1), (h0, kO9 h1 h2 h3 n0_size)] H := hP
  have hD : va_D A [(h2, kAi cint 40 f2), (h3, kAi cint 40 f3), (h1, kAi cint 40 f1), (h0, kO9 h1 h2 h3 n0_size)] := hD
  rcases hw with ⟨rfl⟩ | ⟨t_3_0, t_3_1, t_3_2, rfl⟩
  · skip
    refine lv_if_eq (tgt := 53) hx hb dX9_join_19 (by decide) (fun _ => ?_) (fun c => absurd c (by decide))
    have hP9 := kk_Ps (wq := [(h0, kO9 h1 h2 h3 n0_size), (h1, kAi cint 40 f1), (h2, kAi cint 40 f2), (h3, kAi cint 40 f3)]) hP [3, 2, 0, 1] rfl
    have hD9 := kk_Ds (wq := [(h0, kO9 h1 h2 h3 n0_size), (h1, kAi cint 40 f1), (h2, kAi cint 40 f2), (h3, kAi cint 40 f3)]) hD [3, 2, 0, 1] (by decide) rfl
    have hK9 := kk_Ks (tq := []) hK [] rfl
    exact W.vret hx hb hr (fun t ht hW => ⟨⟨(), rfl, trivial, n0_size, f1, f2, f3, tn0_size, by rw [ht]; exact hP9, va_K.moved hW.alike hK9, hD9⟩, hS.F ht⟩) hS.2.2 dX9_join_53
  · skip
    have t_3_0 : (0 : Int) ≤ p0.toInt := t_3_0
    have t_3_2 : (p0.toInt : Int) ≤ 39 := t_3_2
    refine lv_if_eq (tgt := 53) hx hb dX9_join_19 (by decide) (fun c => absurd c (by decide)) (fun _ => ?_)
    refine lv_aload_n hx hb dX9_join_22 rfl (lv_at hl 1 rfl) ?_
    refine lv_iload_n hx hb dX9_join_23 rfl (lv_at hl 2 rfl) ?_
    refine lv_iconst (v := 1) hx hb dX9_join_24 kk_ic_1 ?_
    refine lv_iadd hx hb dX9_join_25 ?_
    have hPc := kk_Ps (wq := [(h0, kO9 h1 h2 h3 n0_size)]) hP [3] rfl
    have hDc := kk_Ds (wq := [(h0, kO9 h1 h2 h3 n0_size)]) hD [3] (by decide) rfl
    have hKc := kk_Ks (tq := []) hK [] rfl
    have hFc := va_free (wc := [(h0, kO9 h1 h2 h3 n0_size)]) hD hS hA [3] rfl
    refine va_calli (va_runV (As := [.int (p0 + 1)]) (rest := []) ⟨hx, hb, hml, hown, hts⟩ (g_X9_has_0 l dC dI h0 h1 h2 h3 H.size (p0 + 1) n0_size tn0_size) (cwV 1 hts gX9_join_X9_has rfl rfl rfl ⟨rfl, kh_X9_has⟩ ⟨Nat.le_of_ble_eq_true rfl, Nat.le_of_ble_eq_true rfl⟩) ⟨fun a U g mk q => by obtain ⟨q0, q1, qP, qK, qD⟩ := q; exact ⟨q0, q1, qP, va_K.moved (u := U) (U := U.calling g mk a) (Vm.Alike.refl U.vm) qK, qD⟩, va_recv hKc hPc (ci := 9) (q0 := 0) rfl rfl, fun U hU hW => ⟨rfl, by rw [hU], by rw [hU]; exact hPc, va_K.moved hW.alike hKc, hDc.weaken (fun _ _ _ _ => trivial)⟩⟩ rfl rfl hl.1 rfl (lv_room (Nat.le_of_ble_eq_true rfl)) dX9_join_26 ⟨Nat.le_of_ble_eq_true rfl, Nat.le_of_ble_eq_true rfl⟩) hS (fun q _ h => hFc q h) hFc (fun r_4 u t H1 locs ht hvm hw hB hz1 hk1 hS => ?_)
    obtain ⟨hP1, hK1, hD1⟩ := hB
    rw [ht] at hP1
    have hK1 := va_K.moved hvm.symm hK1
    obtain ⟨hP, hD⟩ := va_join (wr := [(h2, kAi cint 40 f2), (h3, kAi cint 40 f3), (h1, kAi cint 40 f1)]) (w1 := [(h0, kO9 h1 h2 h3 n0_size)]) hP hD [3] [0, 1, 2] rfl rfl (by decide) (by decide) hk1 hFc hP1 hD1
    generalize H1 = H at hP hS ⊢
    have hP : va_P (dC, dI) vwCl [(h2, kAi cint 40 f2), (h3, kAi cint 40 f3), (h1, kAi cint 40 f1), (h0, kO9 h1 h2 h3 n0_size)] H := hP
    have hD : va_D A [(h2, kAi cint 40 f2), (h3, kAi cint 40 f3), (h1, kAi cint 40 f1), (h0, kO9 h1 h2 h3 n0_size)] := hD
    rcases hw with ⟨rfl⟩ | ⟨t_4_0, t_4_1, t_4_2, rfl⟩
    · skip
      refine lv_if_eq (tgt := 53) hx hb dX9_join_29 (by decide) (fun _ => ?_) (fun c => absurd c (by decide))
      have hP9 := kk_Ps (wq := [(h0, kO9 h1 h2 h3 n0_size), (h1, kAi cint 40 f1), (h2, kAi cint 40 f2), (h3, kAi cint 40 f3)]) hP [3, 2, 0, 1] rfl
      have hD9 := kk_Ds (wq := [(h0, kO9 h1 h2 h3 n0_size), (h1, kAi cint 40 f1), (h2, kAi cint 40 f2), (h3, kAi cint 40 f3)]) hD [3, 2, 0, 1] (by decide) rfl
      have hK9 := kk_Ks (tq := []) hK [] rfl
      exact W.vret hx hb hr (fun t ht hW => ⟨⟨(), rfl, trivial, n0_size, f1, f2, f3, tn0_size, by rw [ht]; exact hP9, va_K.moved hW.alike hK9, hD9⟩, hS.F ht⟩) hS.2.2 dX9_join_53
    · skip
      have t_4_0 : (0 : Int) ≤ (p0 + 1).toInt := t_4_0
      have t_4_2 : ((p0 + 1).toInt : Int) ≤ 39 := t_4_2
      refine lv_if_eq (tgt := 53) hx hb dX9_join_29 (by decide) (fun c => absurd c (by decide)) (fun _ => ?_)
      refine lv_iload_n hx hb dX9_join_32 rfl (lv_at hl 0 rfl) ?_
      refine lv_sipush (v := 999) hx hb dX9_join_33 kk_si_999 ?_
      refine lv_icmp_gt (tgt := 53) hx hb dX9_join_36 (by decide) (fun c_5 => ?_) (fun c_5 => ?_)
      · have t_5 : 999 < (r_1 + r_2).toInt := kk_lt c_5
        have hP9 := kk_Ps (wq := [(h0, kO9 h1 h2 h3 n0_size), (h1, kAi cint 40 f1), (h2, kAi cint 40 f2), (h3, kAi cint 40 f3)]) hP [3, 2, 0, 1] rfl
        have hD9 := kk_Ds (wq := [(h0, kO9 h1 h2 h3 n0_size), (h1, kAi cint 40 f1), (h2, kAi cint 40 f2), (h3, kAi cint 40 f3)]) hD [3, 2, 0, 1] (by decide) rfl
        have hK9 := kk_Ks (tq := []) hK [] rfl
        exact W.vret hx hb hr (fun t ht hW => ⟨⟨(), rfl, trivial, n0_size, f1, f2, f3, tn0_size, by rw [ht]; exact hP9, va_K.moved hW.alike hK9, hD9⟩, hS.F ht⟩) hS.2.2 dX9_join_53
      · have t_5 : (r_1 + r_2).toInt ≤ 999 := kk_nlt c_5
        refine lv_aload_n hx hb dX9_join_39 rfl (lv_at hl 1 rfl) ?_
        refine va_get (D := (dC, dI)) (ci := 9) (v := .ref h1) (C := RX9) (T := TX9) (N := 4) hx hb hts (fun _ h => List.mem_cons_of_mem _ (List.mem_append_right _ h)) hown hK hP 3 rfl rfl 0 (by decide) (hts (.fieldLink RX9 9 "KinkStreet$Street" "widths" "[I") (List.mem_of_getElem? (i := 1) rfl)) (fun _ h9 => h9) rfl dX9_join_40 ?_
        refine lv_iload_n hx hb dX9_join_43 rfl (lv_at hl 2 rfl) ?_
        refine lv_iload_n hx hb dX9_join_44 rfl (lv_at hl 0 rfl) ?_
        try have := kk_rng r_2
        try have := kk_rng r_1
        try have := kk_add2 (x := p0) (y := 1) (a := p0.toInt) (b := 1) rfl rfl (by omega) (by omega)
        refine va_iast hx hb hK hP hD hS 2 0 rfl rfl (vp_in_iff.mpr ⟨by omega, by omega⟩) dX9_join_45 (fun H locs hP hD hS => ?_)
        generalize upd f1 (p0 : Int32).toNatClampNeg (r_1 + r_2) = f_6 at hP hD
        have hP : va_P (dC, dI) vwCl [(h2, kAi cint 40 f2), (h3, kAi cint 40 f3), (h1, kAi cint 40 f_6), (h0, kO9 h1 h2 h3 n0_size)] H := hP
        have hD : va_D A [(h2, kAi cint 40 f2), (h3, kAi cint 40 f3), (h1, kAi cint 40 f_6), (h0, kO9 h1 h2 h3 n0_size)] := hD
        refine lv_aload_n hx hb dX9_join_46 rfl (lv_at hl 1 rfl) ?_
        refine lv_iload_n hx hb dX9_join_47 rfl (lv_at hl 2 rfl) ?_
        refine lv_iconst (v := 1) hx hb dX9_join_48 kk_ic_1 ?_
        refine lv_iadd hx hb dX9_join_49 ?_
        have hPc := kk_Ps (wq := [(h0, kO9 h1 h2 h3 n0_size), (h1, kAi cint 40 f_6), (h2, kAi cint 40 f2), (h3, kAi cint 40 f3)]) hP [3, 2, 0, 1] rfl
        have hDc := kk_Ds (wq := [(h0, kO9 h1 h2 h3 n0_size), (h1, kAi cint 40 f_6), (h2, kAi cint 40 f2), (h3, kAi cint 40 f3)]) hD [3, 2, 0, 1] (by decide) rfl
        have hKc := kk_Ks (tq := [(cint, .int)]) hK [0] rfl
        have hFc := va_free (wc := [(h0, kO9 h1 h2 h3 n0_size), (h1, kAi cint 40 f_6), (h2, kAi cint 40 f2), (h3, kAi cint 40 f3)]) hD hS hA [3, 2, 0, 1] rfl
        refine va_callv (va_runV (As := [.int (p0 + 1)]) (rest := []) ⟨hx, hb, hml, hown, hts⟩ (g_X9_remove_0 l dC dI h0 h1 h2 h3 cint H.size (p0 + 1) n0_size f_6 f2 f3 tn0_size) (cwV 1 hts gX9_join_X9_remove rfl rfl rfl ⟨rfl, kh_X9_remove⟩ ⟨Nat.le_of_ble_eq_true rfl, Nat.le_of_ble_eq_true rfl⟩) ⟨fun a U g mk q => by obtain ⟨q0, q1, qP, qK, qD⟩ := q; exact ⟨q0, q1, qP, va_K.moved (u := U) (U := U.calling g mk a) (Vm.Alike.refl U.vm) qK, qD⟩, va_recv hKc hPc (ci := 9) (q0 := 0) rfl rfl, fun U hU hW => ⟨rfl, by rw [hU], by rw [hU]; exact hPc, va_K.moved hW.alike hKc, hDc.weaken (fun _ _ _ _ => trivial)⟩⟩ rfl rfl hl.1 rfl (lv_room (Nat.le_of_ble_eq_true rfl)) dX9_join_50 ⟨Nat.le_of_ble_eq_true rfl, Nat.le_of_ble_eq_true rfl⟩) hS (fun q _ h => hFc q h) hFc (fun u t H1 locs ht hvm hw hB hz1 hk1 hS => ?_)
        refine hB.elim (fun y_8 hB => ?_)
        refine hB.elim (fun f_9 hB => ?_)
        refine hB.elim (fun f_10 hB => ?_)
        refine hB.elim (fun f_11 hB => ?_)
        refine hB.elim (fun by_8 hB => ?_)
        have hP1 := hB.1
        have hK1 := hB.2.1
        have hD1 := hB.2.2
        rw [ht] at hP1
        have hK1 := va_K.moved hvm.symm hK1
        obtain ⟨hP, hD⟩ := va_join (wr := []) (w1 := [(h0, kO9 h1 h2 h3 y_8), (h1, kAi cint 40 f_9), (h2, kAi cint 40 f_10), (h3, kAi cint 40 f_11)]) hP hD [3, 2, 0, 1] [] rfl rfl (by decide) (by decide) hk1 hFc hP1 hD1
        generalize H1 = H at hP hS ⊢
        have hP : va_P (dC, dI) vwCl [(h0, kO9 h1 h2 h3 y_8), (h1, kAi cint 40 f_9), (h2, kAi cint 40 f_10), (h3, kAi cint 40 f_11)] H := hP
        have hD : va_D A [(h0, kO9 h1 h2 h3 y_8), (h1, kAi cint 40 f_9), (h2, kAi cint 40 f_10), (h3, kAi cint 40 f_11)] := hD
        have hP9 := kk_Ps (wq := [(h0, kO9 h1 h2 h3 y_8), (h1, kAi cint 40 f_9), (h2, kAi cint 40 f_10), (h3, kAi cint 40 f_11)]) hP [0, 1, 2, 3] rfl
        have hD9 := kk_Ds (wq := [(h0, kO9 h1 h2 h3 y_8), (h1, kAi cint 40 f_9), (h2, kAi cint 40 f_10), (h3, kAi cint 40 f_11)]) hD [0, 1, 2, 3] (by decide) rfl
        have hK9 := kk_Ks (tq := []) hK [] rfl
        exact W.vret hx hb hr (fun t ht hW => ⟨⟨(), rfl, trivial, y_8, f_9, f_10, f_11, (by show 0 ≤ (y_8 : Int32).toInt ∧ (y_8 : Int32).toInt ≤ 40; first | decide | ((omega))), by rw [ht]; exact hP9, va_K.moved hW.alike hK9, hD9⟩, hS.F ht⟩) hS.2.2 dX9_join_53
set_option maxHeartbeats 4000000 in
set_option maxRecDepth 100000 in
theorem g_X9_part_0 (l : Launch) (dC : Nat → ClassId) (dI : Nat → Nat → Nat) (h0 : Nat) (h1 : Nat) (h2 : Nat) (h3 : Nat) (cint : ClassId) (sz : Nat) (p0 : Int32) (n0_size : Int32) (f1 : Nat → Int32) (f2 : Nat → Int32) (f3 : Nat → Int32) (tn0_size : 0 ≤ n0_size.toInt ∧ n0_size.toInt ≤ 40) : Met l yX9_part wsX9_part ({ frames := 2, cells := 0, slots := 0, locals := 45 }) (va_Pc [.ref h0, .int p0] (fun U => U.heap.size = sz ∧ va_P (dC, dI) vwCl [(h0, kO9 h1 h2 h3 n0_size), (h1, kAi cint 40 f1), (h2, kAi cint 40 f2), (h3, kAi cint 40 f3)] U.heap ∧ va_K (dC, dI) vwCl [(cint, .int)] U ∧ va_D (fun _ => True) [(h0, kO9 h1 h2 h3 n0_size), (h1, kAi cint 40 f1), (h2, kAi cint 40 f2), (h3, kAi cint 40 f3)])) (va_Qv (fun (_ : Unit) => True) (fun (_ : Unit) t => ∃ (m0_size : Int32) (g1 : Nat → Int32) (g2 : Nat → Int32) (g3 : Nat → Int32), (0 ≤ m0_size.toInt ∧ m0_size.toInt ≤ 40) ∧ va_P (dC, dI) vwCl [(h0, kO9 h1 h2 h3 m0_size), (h1, kAi cint 40 g1), (h2, kAi cint 40 g2), (h3, kAi cint 40 g3)] t.heap ∧ va_K (dC, dI) vwCl [] t ∧ va_D (va_A [(h0, kO9 h1 h2 h3 n0_size), (h1, kAi cint 40 f1), (h2, kAi cint 40 f2), (h3, kAi cint 40 f3)] sz) [(h0, kO9 h1 h2 h3 m0_size), (h1, kAi cint 40 g1), (h2, kAi cint 40 g2), (h3, kAi cint 40 g3)]) (va_A [(h0, kO9 h1 h2 h3 n0_size), (h1, kAi cint 40 f1), (h2, kAi cint 40 f2), (h3, kAi cint 40 f3)] sz)) 0 0 (va_A [(h0, kO9 h1 h2 h3 n0_size), (h1, kAi cint 40 f1), (h2, kAi cint 40 f2), (h3, kAi cint 40 f3)] sz) := by
  refine Met.ofW (cc := cX9_part) (maxL := 3) (ret := none) (by decide) rfl ?_
  intro p e s m args below meth c s₁ B hml hv
  obtain ⟨rfl, hsz, hP, hK, hD0⟩ := hv
  have hx := B.exec
  have hb := B.bytes
  have hr := B.returns
  have hts := atoms_spec (ws := wsX9_part) B.pre
  have hown : s.vm.findClass RX9 = some m.cls := findClass_of_methodNamed B.named
  have hlocks := B.notSynchronized
  subst hsz
  have hD := hD0.self (sz := s.heap.size)
  generalize hAe : va_A [(h0, kO9 h1 h2 h3 n0_size), (h1, kAi cint 40 f1), (h2, kAi cint 40 f2), (h3, kAi cint 40 f3)] s.heap.size = A at hD ⊢
  have hA : ∀ q : Nat, s.heap.size ≤ q → A q := fun q h => by rw [← hAe]; exact Or.inr h
  have hS : va_S A s.heap s.heap [] := va_S.rf
  have hP : va_P (dC, dI) vwCl [(h0, kO9 h1 h2 h3 n0_size), (h1, kAi cint 40 f1), (h2, kAi cint 40 f2), (h3, kAi cint 40 f3)] s.heap := hP
  have hl := lv_entry ([.ref h0, .int p0]) (n := 3) (Nat.le_of_ble_eq_true rfl)
  rw [lg_entry_eq]
  generalize (lg_sl ([.ref h0, .int p0]) ++ List.replicate (3 - (lg_sl ([.ref h0, .int p0])).length) Slot.unset).toArray = ls at hl ⊢
  have hl : lv_has ls 3 [(0, .ref h0), (1, .int p0)] := hl
  refine lv_aload_n hx hb dX9_part_0 rfl (lv_at hl 0 rfl) ?_
  refine lv_iload_n hx hb dX9_part_1 rfl (lv_at hl 1 rfl) ?_
  have hPc := kk_Ps (wq := [(h0, kO9 h1 h2 h3 n0_size), (h1, kAi cint 40 f1)]) hP [0, 1] rfl
  have hDc := kk_Ds (wq := [(h0, kO9 h1 h2 h3 n0_size), (h1, kAi cint 40 f1)]) hD [0, 1] (by decide) rfl
  have hKc := kk_Ks (tq := [(cint, .int)]) hK [0] rfl
  have hFc := va_free (wc := [(h0, kO9 h1 h2 h3 n0_size), (h1, kAi cint 40 f1)]) hD hS hA [0, 1] rfl
  refine va_calli (va_runV (As := [.int p0]) (rest := []) ⟨hx, hb, hml, hown, hts⟩ (g_X9_width_0 l dC dI h0 h1 h2 h3 cint s.heap.size p0 n0_size f1 tn0_size) (cwV 1 hts gX9_part_X9_width rfl rfl rfl ⟨rfl, kh_X9_width⟩ ⟨Nat.le_of_ble_eq_true rfl, Nat.le_of_ble_eq_true rfl⟩) ⟨fun a U g mk q => by obtain ⟨q0, q1, qP, qK, qD⟩ := q; exact ⟨q0, q1, qP, va_K.moved (u := U) (U := U.calling g mk a) (Vm.Alike.refl U.vm) qK, qD⟩, va_recv hKc hPc (ci := 9) (q0 := 0) rfl rfl, fun U hU hW => ⟨rfl, by rw [hU], by rw [hU]; exact hPc, va_K.moved hW.alike hKc, hDc.weaken (fun _ _ _ _ => trivial)⟩⟩ rfl rfl hl.1 rfl (lv_room (Nat.le_of_ble_eq_true rfl)) dX9_part_2 ⟨Nat.le_of_ble_eq_true rfl, Nat.le_of_ble_eq_true rfl⟩) hS (fun q _ h => hFc q h) hFc (fun r_1 u t H1 locs ht hvm hw hB hz1 hk1 hS => ?_)
  obtain ⟨hP1, hK1, hD1⟩ := hB
  rw [ht] at hP1
  have hK1 := va_K.moved hvm.symm hK1
  obtain ⟨hP, hD⟩ := va_join (wr := [(h2, kAi cint 40 f2), (h3, kAi cint 40 f3)]) (w1 := [(h0, kO9 h1 h2 h3 n0_size), (h1, kAi cint 40 f1)]) hP hD [0, 1] [2, 3] rfl rfl (by decide) (by decide) hk1 hFc hP1 hD1
  generalize H1 = H at hP hS ⊢
  have hP : va_P (dC, dI) vwCl [(h2, kAi cint 40 f2), (h3, kAi cint 40 f3), (h0, kO9 h1 h2 h3 n0_size), (h1, kAi cint 40 f1)] H := hP
  have hD : va_D A [(h2, kAi cint 40 f2), (h3, kAi cint 40 f3), (h0, kO9 h1 h2 h3 n0_size), (h1, kAi cint 40 f1)] := hD
  refine lv_istore_n hx hb dX9_part_5 rfl hl (by decide) (rfl : _ = ([(2, .int r_1), (0, .ref h0), (1, .int p0)] : List (Nat × Value))) (fun ls hl => ?_)
  refine lv_iload_n hx hb dX9_part_6 rfl (lv_at hl 0 rfl) ?_
  refine lv_iconst (v := 1) hx hb dX9_part_7 kk_ic_1 ?_
  refine lv_icmp_le (tgt := 46) hx hb dX9_part_8 (by decide) (fun c_2 => ?_) (fun c_2 => ?_)
  · have t_2 : r_1.toInt ≤ 1 := kk_le c_2
    have hP9 := kk_Ps (wq := [(h0, kO9 h1 h2 h3 n0_size), (h1, kAi cint 40 f1), (h2, kAi cint 40 f2), (h3, kAi cint 40 f3)]) hP [2, 3, 0, 1] rfl
    have hD9 := kk_Ds (wq := [(h0, kO9 h1 h2 h3 n0_size), (h1, kAi cint 40 f1), (h2, kAi cint 40 f2), (h3, kAi cint 40 f3)]) hD [2, 3, 0, 1] (by decide) rfl
    have hK9 := kk_Ks (tq := []) hK [] rfl
    exact W.vret hx hb hr (fun t ht hW => ⟨⟨(), rfl, trivial, n0_size, f1, f2, f3, tn0_size, by rw [ht]; exact hP9, va_K.moved hW.alike hK9, hD9⟩, hS.F ht⟩) hS.2.2 dX9_part_46
  · have t_2 : 1 < r_1.toInt := kk_nle c_2
    refine lv_aload_n hx hb dX9_part_11 rfl (lv_at hl 1 rfl) ?_
    have hPc := kk_Ps (wq := [(h0, kO9 h1 h2 h3 n0_size)]) hP [2] rfl
    have hDc := kk_Ds (wq := [(h0, kO9 h1 h2 h3 n0_size)]) hD [2] (by decide) rfl
    have hKc := kk_Ks (tq := []) hK [] rfl
    have hFc := va_free (wc := [(h0, kO9 h1 h2 h3 n0_size)]) hD hS hA [2] rfl
    refine va_calli (va_runV (As := []) (rest := []) ⟨hx, hb, hml, hown, hts⟩ (g_X9_isFull_0 l dC dI h0 h1 h2 h3 H.size n0_size tn0_size) (cwV 0 hts gX9_part_X9_isFull rfl rfl rfl ⟨rfl, kh_X9_isFull⟩ ⟨Nat.le_of_ble_eq_true rfl, Nat.le_of_ble_eq_true rfl⟩) ⟨fun a U g mk q => by obtain ⟨q0, q1, qP, qK, qD⟩ := q; exact ⟨q0, q1, qP, va_K.moved (u := U) (U := U.calling g mk a) (Vm.Alike.refl U.vm) qK, qD⟩, va_recv hKc hPc (ci := 9) (q0 := 0) rfl rfl, fun U hU hW => ⟨rfl, by rw [hU], by rw [hU]; exact hPc, va_K.moved hW.alike hKc, hDc.weaken (fun _ _ _ _ => trivial)⟩⟩ rfl rfl hl.1 rfl (lv_room (Nat.le_of_ble_eq_true rfl)) dX9_part_12 ⟨Nat.le_of_ble_eq_true rfl, Nat.le_of_ble_eq_true rfl⟩) hS (fun q _ h => hFc q h) hFc (fun r_3 u t H1 locs ht hvm hw hB hz1 hk1 hS => ?_)
    obtain ⟨hP1, hK1, hD1⟩ := hB
    rw [ht] at hP1
    have hK1 := va_K.moved hvm.symm hK1
    obtain ⟨hP, hD⟩ := va_join (wr := [(h2, kAi cint 40 f2), (h3, kAi cint 40 f3), (h1, kAi cint 40 f1)]) (w1 := [(h0, kO9 h1 h2 h3 n0_size)]) hP hD [2] [0, 1, 3] rfl rfl (by decide) (by decide) hk1 hFc hP1 hD1
    generalize H1 = H at hP hS ⊢
    have hP : va_P (dC, dI) vwCl [(h2, kAi cint 40 f2), (h3, kAi cint 40 f3), (h1, kAi cint 40 f1), (h0, kO9 h1 h2 h3 n0_size)] H := hP
    have hD : va_D A [(h2, kAi cint 40 f2), (h3, kAi cint 40 f3), (h1, kAi cint 40 f1), (h0, kO9 h1 h2 h3 n0_size)] := hD
    rcases hw with ⟨t_3_0, rfl⟩ | ⟨t_3_0, rfl⟩
    · skip
      have t_3_0 : (n0_size.toInt : Int) < 40 := t_3_0
      refine lv_if_ne (tgt := 46) hx hb dX9_part_15 (by decide) (fun c => absurd c (by decide)) (fun _ => ?_)
      refine lv_aload_n hx hb dX9_part_18 rfl (lv_at hl 1 rfl) ?_
      refine lv_iconst (v := 0) hx hb dX9_part_19 kk_ic_0 ?_
      refine lv_iload_n hx hb dX9_part_20 rfl (lv_at hl 2 rfl) ?_
      refine lv_iload_n hx hb dX9_part_21 rfl (lv_at hl 0 rfl) ?_
      refine lv_iconst (v := 2) hx hb dX9_part_22 kk_ic_2 ?_
      refine lv_idiv hx hb dX9_part_23 (by decide) ?_
      have hPc := kk_Ps (wq := [(h0, kO9 h1 h2 h3 n0_size), (h1, kAi cint 40 f1), (h2, kAi cint 40 f2), (h3, kAi cint 40 f3)]) hP [3, 2, 0, 1] rfl
      have hDc := kk_Ds (wq := [(h0, kO9 h1 h2 h3 n0_size), (h1, kAi cint 40 f1), (h2, kAi cint 40 f2), (h3, kAi cint 40 f3)]) hD [3, 2, 0, 1] (by decide) rfl
      have hKc := kk_Ks (tq := [(cint, .int)]) hK [0] rfl
      have hFc := va_free (wc := [(h0, kO9 h1 h2 h3 n0_size), (h1, kAi cint 40 f1), (h2, kAi cint 40 f2), (h3, kAi cint 40 f3)]) hD hS hA [3, 2, 0, 1] rfl
      refine va_callv (va_runV (As := [.int 0, .int p0, .int (r_1 / 2)]) (rest := []) ⟨hx, hb, hml, hown, hts⟩ (g_X9_tell_0 l dC dI h0 h1 h2 h3 cint H.size 0 p0 (r_1 / 2) n0_size f1 f2 f3 tn0_size) (cwV 3 hts gX9_part_X9_tell rfl rfl rfl ⟨rfl, kh_X9_tell⟩ ⟨Nat.le_of_ble_eq_true rfl, Nat.le_of_ble_eq_true rfl⟩) ⟨fun a U g mk q => by obtain ⟨q0, q1, qP, qK, qD⟩ := q; exact ⟨q0, q1, qP, va_K.moved (u := U) (U := U.calling g mk a) (Vm.Alike.refl U.vm) qK, qD⟩, va_recv hKc hPc (ci := 9) (q0 := 0) rfl rfl, fun U hU hW => ⟨rfl, by rw [hU], by rw [hU]; exact hPc, va_K.moved hW.alike hKc, hDc.weaken (fun _ _ _ _ => trivial)⟩⟩ rfl rfl hl.1 rfl (lv_room (Nat.le_of_ble_eq_true rfl)) dX9_part_24 ⟨Nat.le_of_ble_eq_true rfl, Nat.le_of_ble_eq_true rfl⟩) hS (fun q _ h => hFc q h) hFc (fun u t H1 locs ht hvm hw hB hz1 hk1 hS => ?_)
      refine hB.elim (fun f_5 hB => ?_)
      refine hB.elim (fun f_6 hB => ?_)
      refine hB.elim (fun f_7 hB => ?_)
      have hP1 := hB.1
      have hK1 := hB.2.1
      have hD1 := hB.2.2
      rw [ht] at hP1
      have hK1 := va_K.moved hvm.symm hK1
      obtain ⟨hP, hD⟩ := va_join (wr := []) (w1 := [(h0, kO9 h1 h2 h3 n0_size), (h1, kAi cint 40 f_5), (h2, kAi cint 40 f_6), (h3, kAi cint 40 f_7)]) hP hD [3, 2, 0, 1] [] rfl rfl (by decide) (by decide) hk1 hFc hP1 hD1
      generalize H1 = H at hP hS ⊢
      have hP : va_P (dC, dI) vwCl [(h0, kO9 h1 h2 h3 n0_size), (h1, kAi cint 40 f_5), (h2, kAi cint 40 f_6), (h3, kAi cint 40 f_7)] H := hP
      have hD : va_D A [(h0, kO9 h1 h2 h3 n0_size), (h1, kAi cint 40 f_5), (h2, kAi cint 40 f_6), (h3, kAi cint 40 f_7)] := hD
      refine lv_aload_n hx hb dX9_part_27 rfl (lv_at hl 1 rfl) ?_
      refine lv_iload_n hx hb dX9_part_28 rfl (lv_at hl 2 rfl) ?_
      refine lv_iconst (v := 1) hx hb dX9_part_29 kk_ic_1 ?_
      refine lv_iadd hx hb dX9_part_30 ?_
      refine lv_iload_n hx hb dX9_part_31 rfl (lv_at hl 0 rfl) ?_
      refine lv_iload_n hx hb dX9_part_32 rfl (lv_at hl 0 rfl) ?_
      refine lv_iconst (v := 2) hx hb dX9_part_33 kk_ic_2 ?_
      refine lv_idiv hx hb dX9_part_34 (by decide) ?_
      refine lv_isub hx hb dX9_part_35 ?_
      refine lv_aload_n hx hb dX9_part_36 rfl (lv_at hl 1 rfl) ?_
      refine lv_iconst (v := 1) hx hb dX9_part_37 kk_ic_1 ?_
      refine lv_iload_n hx hb dX9_part_38 rfl (lv_at hl 2 rfl) ?_
      have hPc := kk_Ps (wq := [(h0, kO9 h1 h2 h3 n0_size), (h1, kAi cint 40 f_5), (h2, kAi cint 40 f_6), (h3, kAi cint 40 f_7)]) hP [0, 1, 2, 3] rfl
      have hDc := kk_Ds (wq := [(h0, kO9 h1 h2 h3 n0_size), (h1, kAi cint 40 f_5), (h2, kAi cint 40 f_6), (h3, kAi cint 40 f_7)]) hD [0, 1, 2, 3] (by decide) rfl
      have hKc := kk_Ks (tq := [(cint, .int)]) hK [0] rfl
      have hFc := va_free (wc := [(h0, kO9 h1 h2 h3 n0_size), (h1, kAi cint 40 f_5), (h2, kAi cint 40 f_6), (h3, kAi cint 40 f_7)]) hD hS hA [0, 1, 2, 3] rfl
      refine va_calli (va_runV (As := [.int 1, .int p0]) (rest := [.int (r_1 - (r_1 / 2)), .int (p0 + 1), .ref h0]) ⟨hx, hb, hml, hown, hts⟩ (g_X9_fact_0 l dC dI h0 h1 h2 h3 cint H.size 1 p0 n0_size f_5 f_6 f_7 tn0_size) (cwV 2 hts gX9_part_X9_fact rfl rfl rfl ⟨rfl, kh_X9_fact⟩ ⟨Nat.le_of_ble_eq_true rfl, Nat.le_of_ble_eq_true rfl⟩) ⟨fun a U g mk q => by obtain ⟨q0, q1, qP, qK, qD⟩ := q; exact ⟨q0, q1, qP, va_K.moved (u := U) (U := U.calling g mk a) (Vm.Alike.refl U.vm) qK, qD⟩, va_recv hKc hPc (ci := 9) (q0 := 0) rfl rfl, fun U hU hW => ⟨rfl, by rw [hU], by rw [hU]; exact hPc, va_K.moved hW.alike hKc, hDc.weaken (fun _ _ _ _ => trivial)⟩⟩ rfl rfl hl.1 rfl (lv_room (Nat.le_of_ble_eq_true rfl)) dX9_part_39 ⟨Nat.le_of_ble_eq_true rfl, Nat.le_of_ble_eq_true rfl⟩) hS (fun q _ h => hFc q h) hFc (fun r_8 u t H1 locs ht hvm hw hB hz1 hk1 hS => ?_)
      obtain ⟨hP1, hK1, hD1⟩ := hB
      rw [ht] at hP1
      have hK1 := va_K.moved hvm.symm hK1
      obtain ⟨hP, hD⟩ := va_join (wr := []) (w1 := [(h0, kO9 h1 h2 h3 n0_size), (h1, kAi cint 40 f_5), (h2, kAi cint 40 f_6), (h3, kAi cint 40 f_7)]) hP hD [0, 1, 2, 3] [] rfl rfl (by decide) (by decide) hk1 hFc hP1 hD1
      generalize H1 = H at hP hS ⊢
      have hP : va_P (dC, dI) vwCl [(h0, kO9 h1 h2 h3 n0_size), (h1, kAi cint 40 f_5), (h2, kAi cint 40 f_6), (h3, kAi cint 40 f_7)] H := hP
      have hD : va_D A [(h0, kO9 h1 h2 h3 n0_size), (h1, kAi cint 40 f_5), (h2, kAi cint 40 f_6), (h3, kAi cint 40 f_7)] := hD
      refine lv_iconst (v := 0) hx hb dX9_part_42 kk_ic_0 ?_
      have hPc := kk_Ps (wq := [(h0, kO9 h1 h2 h3 n0_size), (h1, kAi cint 40 f_5), (h2, kAi cint 40 f_6), (h3, kAi cint 40 f_7)]) hP [0, 1, 2, 3] rfl
      have hDc := kk_Ds (wq := [(h0, kO9 h1 h2 h3 n0_size), (h1, kAi cint 40 f_5), (h2, kAi cint 40 f_6), (h3, kAi cint 40 f_7)]) hD [0, 1, 2, 3] (by decide) rfl
      have hKc := kk_Ks (tq := [(cint, .int)]) hK [0] rfl
      have hFc := va_free (wc := [(h0, kO9 h1 h2 h3 n0_size), (h1, kAi cint 40 f_5), (h2, kAi cint 40 f_6), (h3, kAi cint 40 f_7)]) hD hS hA [0, 1, 2, 3] rfl
      refine va_callv (va_runV (As := [.int (p0 + 1), .int (r_1 - (r_1 / 2)), .int r_8, .int 0]) (rest := []) ⟨hx, hb, hml, hown, hts⟩ (g_X9_insert_0 l dC dI h0 h1 h2 h3 cint H.size (p0 + 1) (r_1 - (r_1 / 2)) r_8 0 n0_size f_5 f_6 f_7 tn0_size) (cwV 4 hts gX9_part_X9_insert rfl rfl rfl ⟨rfl, kh_X9_insert⟩ ⟨Nat.le_of_ble_eq_true rfl, Nat.le_of_ble_eq_true rfl⟩) ⟨fun a U g mk q => by obtain ⟨q0, q1, qP, qK, qD⟩ := q; exact ⟨q0, q1, qP, va_K.moved (u := U) (U := U.calling g mk a) (Vm.Alike.refl U.vm) qK, qD⟩, va_recv hKc hPc (ci := 9) (q0 := 0) rfl rfl, fun U hU hW => ⟨rfl, by rw [hU], by rw [hU]; exact hPc, va_K.moved hW.alike hKc, hDc.weaken (fun _ _ _ _ => trivial)⟩⟩ rfl rfl hl.1 rfl (lv_room (Nat.le_of_ble_eq_true rfl)) dX9_part_43 ⟨Nat.le_of_ble_eq_true rfl, Nat.le_of_ble_eq_true rfl⟩) hS (fun q _ h => hFc q h) hFc (fun u t H1 locs ht hvm hw hB hz1 hk1 hS => ?_)
      refine hB.elim (fun y_10 hB => ?_)
      refine hB.elim (fun f_11 hB => ?_)
      refine hB.elim (fun f_12 hB => ?_)
      refine hB.elim (fun f_13 hB => ?_)
      refine hB.elim (fun by_10 hB => ?_)
      have hP1 := hB.1
      have hK1 := hB.2.1
      have hD1 := hB.2.2
      rw [ht] at hP1
      have hK1 := va_K.moved hvm.symm hK1
      obtain ⟨hP, hD⟩ := va_join (wr := []) (w1 := [(h0, kO9 h1 h2 h3 y_10), (h1, kAi cint 40 f_11), (h2, kAi cint 40 f_12), (h3, kAi cint 40 f_13)]) hP hD [0, 1, 2, 3] [] rfl rfl (by decide) (by decide) hk1 hFc hP1 hD1
      generalize H1 = H at hP hS ⊢
      have hP : va_P (dC, dI) vwCl [(h0, kO9 h1 h2 h3 y_10), (h1, kAi cint 40 f_11), (h2, kAi cint 40 f_12), (h3, kAi cint 40 f_13)] H := hP
      have hD : va_D A [(h0, kO9 h1 h2 h3 y_10), (h1, kAi cint 40 f_11), (h2, kAi cint 40 f_12), (h3, kAi cint 40 f_13)] := hD
      have hP9 := kk_Ps (wq := [(h0, kO9 h1 h2 h3 y_10), (h1, kAi cint 40 f_11), (h2, kAi cint 40 f_12), (h3, kAi cint 40 f_13)]) hP [0, 1, 2, 3] rfl
      have hD9 := kk_Ds (wq := [(h0, kO9 h1 h2 h3 y_10), (h1, kAi cint 40 f_11), (h2, kAi cint 40 f_12), (h3, kAi cint 40 f_13)]) hD [0, 1, 2, 3] (by decide) rfl
      have hK9 := kk_Ks (tq := []) hK [] rfl
      try have := kk_rng r_1
      try have := kk_div (x := r_1) (k := 2) (n := 2) rfl (by decide) (by omega)
      try have := kk_sub2 (x := r_1) (y := (r_1 / 2)) (a := r_1.toInt) (b := (r_1 / 2).toInt) rfl rfl (by omega) (by omega)
      exact W.vret hx hb hr (fun t ht hW => ⟨⟨(), rfl, trivial, y_10, f_11, f_12, f_13, (by show 0 ≤ (y_10 : Int32).toInt ∧ (y_10 : Int32).toInt ≤ 40; first | decide | ((omega))), by rw [ht]; exact hP9, va_K.moved hW.alike hK9, hD9⟩, hS.F ht⟩) hS.2.2 dX9_part_46
    · skip
      have t_3_0 : (40 : Int) ≤ n0_size.toInt := t_3_0
      refine lv_if_ne (tgt := 46) hx hb dX9_part_15 (by decide) (fun _ => ?_) (fun c => absurd c (by decide))
      have hP9 := kk_Ps (wq := [(h0, kO9 h1 h2 h3 n0_size), (h1, kAi cint 40 f1), (h2, kAi cint 40 f2), (h3, kAi cint 40 f3)]) hP [3, 2, 0, 1] rfl
      have hD9 := kk_Ds (wq := [(h0, kO9 h1 h2 h3 n0_size), (h1, kAi cint 40 f1), (h2, kAi cint 40 f2), (h3, kAi cint 40 f3)]) hD [3, 2, 0, 1] (by decide) rfl
      have hK9 := kk_Ks (tq := []) hK [] rfl
      exact W.vret hx hb hr (fun t ht hW => ⟨⟨(), rfl, trivial, n0_size, f1, f2, f3, tn0_size, by rw [ht]; exact hP9, va_K.moved hW.alike hK9, hD9⟩, hS.F ht⟩) hS.2.2 dX9_part_46
set_option maxHeartbeats 4000000 in
set_option maxRecDepth 100000 in
theorem g_X9_stepAside_0 (l : Launch) (dC : Nat → ClassId) (dI : Nat → Nat → Nat) (h0 : Nat) (h1 : Nat) (h2 : Nat) (h3 : Nat) (cint : ClassId) (sz : Nat) (p0 : Int32) (n0_size : Int32) (f1 : Nat → Int32) (f2 : Nat → Int32) (f3 : Nat → Int32) (tn0_size : kk_bx (0 ≤ n0_size.toInt ∧ n0_size.toInt ≤ 40)) : Met l yX9_stepAside wsX9_stepAside ({ frames := 2, cells := 0, slots := 0, locals := 44 }) (va_Pc [.ref h0, .int p0] (fun U => U.heap.size = sz ∧ va_P (dC, dI) vwCl [(h0, kO9 h1 h2 h3 n0_size), (h1, kAi cint 40 f1), (h2, kAi cint 40 f2), (h3, kAi cint 40 f3)] U.heap ∧ va_K (dC, dI) vwCl [(cint, .int)] U ∧ va_D (fun _ => True) [(h0, kO9 h1 h2 h3 n0_size), (h1, kAi cint 40 f1), (h2, kAi cint 40 f2), (h3, kAi cint 40 f3)])) (va_Qv (fun (_ : Unit) => True) (fun (_ : Unit) t => ∃ (g1 : Nat → Int32) (g2 : Nat → Int32) (g3 : Nat → Int32), va_P (dC, dI) vwCl [(h0, kO9 h1 h2 h3 n0_size), (h1, kAi cint 40 g1), (h2, kAi cint 40 g2), (h3, kAi cint 40 g3)] t.heap ∧ va_K (dC, dI) vwCl [] t ∧ va_D (va_A [(h0, kO9 h1 h2 h3 n0_size), (h1, kAi cint 40 f1), (h2, kAi cint 40 f2), (h3, kAi cint 40 f3)] sz) [(h0, kO9 h1 h2 h3 n0_size), (h1, kAi cint 40 g1), (h2, kAi cint 40 g2), (h3, kAi cint 40 g3)]) (va_A [(h0, kO9 h1 h2 h3 n0_size), (h1, kAi cint 40 f1), (h2, kAi cint 40 f2), (h3, kAi cint 40 f3)] sz)) 0 0 (va_A [(h0, kO9 h1 h2 h3 n0_size), (h1, kAi cint 40 f1), (h2, kAi cint 40 f2), (h3, kAi cint 40 f3)] sz) := by
  refine Met.ofW (cc := cX9_stepAside) (maxL := 2) (ret := none) (by decide) rfl ?_
  intro p e s m args below meth c s₁ B hml hv
  obtain ⟨rfl, hsz, hP, hK, hD0⟩ := hv
  have hx := B.exec
  have hb := B.bytes
  have hr := B.returns
  have hts := atoms_spec (ws := wsX9_stepAside) B.pre
  have hown : s.vm.findClass RX9 = some m.cls := findClass_of_methodNamed B.named
  have hlocks := B.notSynchronized
  subst hsz
  have hD := hD0.self (sz := s.heap.size)
  generalize hAe : va_A [(h0, kO9 h1 h2 h3 n0_size), (h1, kAi cint 40 f1), (h2, kAi cint 40 f2), (h3, kAi cint 40 f3)] s.heap.size = A at hD ⊢
  have hA : ∀ q : Nat, s.heap.size ≤ q → A q := fun q h => by rw [← hAe]; exact Or.inr h
  have hS : va_S A s.heap s.heap [] := va_S.rf
  have hP : va_P (dC, dI) vwCl [(h0, kO9 h1 h2 h3 n0_size), (h1, kAi cint 40 f1), (h2, kAi cint 40 f2), (h3, kAi cint 40 f3)] s.heap := hP
  have hl := lv_entry ([.ref h0, .int p0]) (n := 2) (Nat.le_of_ble_eq_true rfl)
  rw [lg_entry_eq]
  generalize (lg_sl ([.ref h0, .int p0]) ++ List.replicate (2 - (lg_sl ([.ref h0, .int p0])).length) Slot.unset).toArray = ls at hl ⊢
  have hl : lv_has ls 2 [(0, .ref h0), (1, .int p0)] := hl
  refine lv_iload_n hx hb dX9_stepAside_0 rfl (lv_at hl 1 rfl) ?_
  refine lv_if_le (tgt := 22) hx hb dX9_stepAside_1 (by decide) (fun c_1 => ?_) (fun c_1 => ?_)
  · have t_1 : p0.toInt ≤ 0 := kk_le c_1
    have hP9 := kk_Ps (wq := [(h0, kO9 h1 h2 h3 n0_size), (h1, kAi cint 40 f1), (h2, kAi cint 40 f2), (h3, kAi cint 40 f3)]) hP [0, 1, 2, 3] rfl
    have hD9 := kk_Ds (wq := [(h0, kO9 h1 h2 h3 n0_size), (h1, kAi cint 40 f1), (h2, kAi cint 40 f2), (h3, kAi cint 40 f3)]) hD [0, 1, 2, 3] (by decide) rfl
    have hK9 := kk_Ks (tq := []) hK [] rfl
    exact W.vret hx hb hr (fun t ht hW => ⟨⟨(), rfl, trivial, f1, f2, f3, by rw [ht]; exact hP9, va_K.moved hW.alike hK9, hD9⟩, hS.F ht⟩) hS.2.2 dX9_stepAside_22
  · have t_1 : 0 < p0.toInt := kk_nle c_1
    refine lv_aload_n hx hb dX9_stepAside_4 rfl (lv_at hl 0 rfl) ?_
    refine lv_iconst (v := 2) hx hb dX9_stepAside_5 kk_ic_2 ?_
    refine lv_iload_n hx hb dX9_stepAside_6 rfl (lv_at hl 1 rfl) ?_
    refine lv_bipush (v := 99) hx hb dX9_stepAside_7 kk_bi_99 ?_
    refine lv_aload_n hx hb dX9_stepAside_9 rfl (lv_at hl 0 rfl) ?_
    refine lv_iload_n hx hb dX9_stepAside_10 rfl (lv_at hl 1 rfl) ?_
    have hPc := kk_Ps (wq := [(h0, kO9 h1 h2 h3 n0_size), (h3, kAi cint 40 f3)]) hP [0, 3] rfl
    have hDc := kk_Ds (wq := [(h0, kO9 h1 h2 h3 n0_size), (h3, kAi cint 40 f3)]) hD [0, 3] (by decide) rfl
    have hKc := kk_Ks (tq := [(cint, .int)]) hK [0] rfl
    have hFc := va_free (wc := [(h0, kO9 h1 h2 h3 n0_size), (h3, kAi cint 40 f3)]) hD hS hA [0, 3] rfl
    refine va_calli (va_runV (As := [.int p0]) (rest := [.int 99, .int p0, .int 2, .ref h0]) ⟨hx, hb, hml, hown, hts⟩ (g_X9_aside_0 l dC dI h0 h3 h1 h2 cint s.heap.size p0 n0_size f3 tn0_size) (cwV 1 hts gX9_stepAside_X9_aside rfl rfl rfl ⟨rfl, kh_X9_aside⟩ ⟨Nat.le_of_ble_eq_true rfl, Nat.le_of_ble_eq_true rfl⟩) ⟨fun a U g mk q => by obtain ⟨q0, q1, qP, qK, qD⟩ := q; exact ⟨q0, q1, qP, va_K.moved (u := U) (U := U.calling g mk a) (Vm.Alike.refl U.vm) qK, qD⟩, va_recv hKc hPc (ci := 9) (q0 := 0) rfl rfl, fun U hU hW => ⟨rfl, by rw [hU], by rw [hU]; exact hPc, va_K.moved hW.alike hKc, hDc.weaken (fun _ _ _ _ => trivial)⟩⟩ rfl rfl hl.1 rfl (lv_room (Nat.le_of_ble_eq_true rfl)) dX9_stepAside_11 ⟨Nat.le_of_ble_eq_true rfl, Nat.le_of_ble_eq_true rfl⟩) hS (fun q _ h => hFc q h) hFc (fun r_2 u t H1 locs ht hvm hw hB hz1 hk1 hS => ?_)
    obtain ⟨hP1, hK1, hD1⟩ := hB
    rw [ht] at hP1
    have hK1 := va_K.moved hvm.symm hK1
    obtain ⟨hP, hD⟩ := va_join (wr := [(h1, kAi cint 40 f1), (h2, kAi cint 40 f2)]) (w1 := [(h0, kO9 h1 h2 h3 n0_size), (h3, kAi cint 40 f3)]) hP hD [0, 3] [1, 2] rfl rfl (by decide) (by decide) hk1 hFc hP1 hD1
    generalize H1 = H at hP hS ⊢
    have hP : va_P (dC, dI) vwCl [(h1, kAi cint 40 f1), (h2, kAi cint 40 f2), (h0, kO9 h1 h2 h3 n0_size), (h3, kAi cint 40 f3)] H := hP
    have hD : va_D A [(h1, kAi cint 40 f1), (h2, kAi cint 40 f2), (h0, kO9 h1 h2 h3 n0_size), (h3, kAi cint 40 f3)] := hD
    refine lv_iconst (v := 5) hx hb dX9_stepAside_14 kk_ic_5 ?_
    refine lv_iadd hx hb dX9_stepAside_15 ?_
    refine va_mmin hx hb (hml.trans hl.1.symm) hown (hts (.methodLink RX9 75 Lib.Math.min.name) (List.mem_of_getElem? (i := 1) rfl)) (hts (.static Lib.Math.min.name) (List.mem_of_getElem? (i := 2) rfl)) (hts (.initialized "java/lang/Math") (List.mem_of_getElem? (i := 3) rfl)) (hts (.code Lib.Math.min.name Lib.Math.min.code 2 (some .int)) (List.mem_of_getElem? (i := 4) rfl)) (Nat.le_of_ble_eq_true rfl) (Nat.le_of_ble_eq_true rfl) (Nat.le_of_ble_eq_true rfl) (Nat.le_of_ble_eq_true rfl) dX9_stepAside_16 ?_
    refine lv_topi (fun y_3 e_3 => ?_)
    have t_3 : y_3.toInt ≤ 99 ∧ y_3.toInt ≤ (r_2 + 5).toInt ∧ (y_3.toInt = 99 ∨ y_3.toInt = (r_2 + 5).toInt) := by rw [e_3]; exact kk_min _ _
    clear e_3
    have hPc := kk_Ps (wq := [(h0, kO9 h1 h2 h3 n0_size), (h1, kAi cint 40 f1), (h2, kAi cint 40 f2), (h3, kAi cint 40 f3)]) hP [2, 0, 1, 3] rfl
    have hDc := kk_Ds (wq := [(h0, kO9 h1 h2 h3 n0_size), (h1, kAi cint 40 f1), (h2, kAi cint 40 f2), (h3, kAi cint 40 f3)]) hD [2, 0, 1, 3] (by decide) rfl
    have hKc := kk_Ks (tq := [(cint, .int)]) hK [0] rfl
    have hFc := va_free (wc := [(h0, kO9 h1 h2 h3 n0_size), (h1, kAi cint 40 f1), (h2, kAi cint 40 f2), (h3, kAi cint 40 f3)]) hD hS hA [2, 0, 1, 3] rfl
    refine va_callv (va_runV (As := [.int 2, .int p0, .int y_3]) (rest := []) ⟨hx, hb, hml, hown, hts⟩ (g_X9_tell_0 l dC dI h0 h1 h2 h3 cint H.size 2 p0 y_3 n0_size f1 f2 f3 tn0_size) (cwV 3 hts gX9_stepAside_X9_tell rfl rfl rfl ⟨rfl, kh_X9_tell⟩ ⟨Nat.le_of_ble_eq_true rfl, Nat.le_of_ble_eq_true rfl⟩) ⟨fun a U g mk q => by obtain ⟨q0, q1, qP, qK, qD⟩ := q; exact ⟨q0, q1, qP, va_K.moved (u := U) (U := U.calling g mk a) (Vm.Alike.refl U.vm) qK, qD⟩, va_recv hKc hPc (ci := 9) (q0 := 0) rfl rfl, fun U hU hW => ⟨rfl, by rw [hU], by rw [hU]; exact hPc, va_K.moved hW.alike hKc, hDc.weaken (fun _ _ _ _ => trivial)⟩⟩ rfl rfl hl.1 rfl (lv_room (Nat.le_of_ble_eq_true rfl)) dX9_stepAside_19 ⟨Nat.le_of_ble_eq_true rfl, Nat.le_of_ble_eq_true rfl⟩) hS (fun q _ h => hFc q h) hFc (fun u t H1 locs ht hvm hw hB hz1 hk1 hS => ?_)
    refine hB.elim (fun f_5 hB => ?_)
    refine hB.elim (fun f_6 hB => ?_)
    refine hB.elim (fun f_7 hB => ?_)
    have hP1 := hB.1
    have hK1 := hB.2.1
    have hD1 := hB.2.2
    rw [ht] at hP1
    have hK1 := va_K.moved hvm.symm hK1
    obtain ⟨hP, hD⟩ := va_join (wr := []) (w1 := [(h0, kO9 h1 h2 h3 n0_size), (h1, kAi cint 40 f_5), (h2, kAi cint 40 f_6), (h3, kAi cint 40 f_7)]) hP hD [2, 0, 1, 3] [] rfl rfl (by decide) (by decide) hk1 hFc hP1 hD1
    generalize H1 = H at hP hS ⊢
    have hP : va_P (dC, dI) vwCl [(h0, kO9 h1 h2 h3 n0_size), (h1, kAi cint 40 f_5), (h2, kAi cint 40 f_6), (h3, kAi cint 40 f_7)] H := hP
    have hD : va_D A [(h0, kO9 h1 h2 h3 n0_size), (h1, kAi cint 40 f_5), (h2, kAi cint 40 f_6), (h3, kAi cint 40 f_7)] := hD
    have hP9 := kk_Ps (wq := [(h0, kO9 h1 h2 h3 n0_size), (h1, kAi cint 40 f_5), (h2, kAi cint 40 f_6), (h3, kAi cint 40 f_7)]) hP [0, 1, 2, 3] rfl
    have hD9 := kk_Ds (wq := [(h0, kO9 h1 h2 h3 n0_size), (h1, kAi cint 40 f_5), (h2, kAi cint 40 f_6), (h3, kAi cint 40 f_7)]) hD [0, 1, 2, 3] (by decide) rfl
    have hK9 := kk_Ks (tq := []) hK [] rfl
    exact W.vret hx hb hr (fun t ht hW => ⟨⟨(), rfl, trivial, f_5, f_6, f_7, by rw [ht]; exact hP9, va_K.moved hW.alike hK9, hD9⟩, hS.F ht⟩) hS.2.2 dX9_stepAside_22
set_option maxHeartbeats 4000000 in
set_option maxRecDepth 100000 in
theorem g_X3_isWidthAndSlack_0 (l : Launch) (dC : Nat → ClassId) (dI : Nat → Nat → Nat) (sz : Nat) (p0 : Int32) : Met l yX3_isWidthAndSlack wsX3_isWidthAndSlack ({ frames := 0, cells := 0, slots := 0, locals := 0 }) (va_Pc [.int p0] (fun U => U.heap.size = sz ∧ va_P (dC, dI) vwCl [] U.heap ∧ va_K (dC, dI) vwCl [] U ∧ va_D (fun _ => True) [])) (va_Qi (fun (r : Int32) (_ : Unit) => ((0 : Int32) = r) ∨ (1000 ≤ p0.toInt ∧ p0.toInt ≤ 99999 ∧ (1 : Int32) = r)) (fun (_ : Unit) t => va_P (dC, dI) vwCl [] t.heap ∧ va_K (dC, dI) vwCl [] t ∧ va_D (va_A [] sz) []) (va_A [] sz)) 0 0 (va_A [] sz) := by
  refine Met.ofW (cc := cX3_isWidthAndSlack) (maxL := 1) (ret := (some .boolean)) (by decide) rfl ?_
  intro p e s m args below meth c s₁ B hml hv
  obtain ⟨rfl, hsz, hP, hK, hD0⟩ := hv
  have hx := B.exec
  have hb := B.bytes
  have hr := B.returns
  have hts := atoms_spec (ws := wsX3_isWidthAndSlack) B.pre
  have hown : s.vm.findClass RX3 = some m.cls := findClass_of_methodNamed B.named
  have hlocks := B.notSynchronized
  subst hsz
  have hD := hD0.self (sz := s.heap.size)
  generalize hAe : va_A [] s.heap.size = A at hD ⊢
  have hA : ∀ q : Nat, s.heap.size ≤ q → A q := fun q h => by rw [← hAe]; exact Or.inr h
  have hS : va_S A s.heap s.heap [] := va_S.rf
  have hP : va_P (dC, dI) vwCl [] s.heap := hP
  have hl := lv_entry ([.int p0]) (n := 1) (Nat.le_of_ble_eq_true rfl)
  rw [lg_entry_eq]
  generalize (lg_sl ([.int p0]) ++ List.replicate (1 - (lg_sl ([.int p0])).length) Slot.unset).toArray = ls at hl ⊢
  have hl : lv_has ls 1 [(0, .int p0)] := hl
  refine lv_iload_n hx hb dX3_isWidthAndSlack_0 rfl (lv_at hl 0 rfl) ?_
  refine lv_sipush (v := 1000) hx hb dX3_isWidthAndSlack_1 kk_si_1000 ?_
  refine lv_icmp_lt (tgt := 17) hx hb dX3_isWidthAndSlack_4 (by decide) (fun c_1 => ?_) (fun c_1 => ?_)
  · have t_1 : p0.toInt < 1000 := kk_lt c_1
    refine lv_iconst (v := 0) hx hb dX3_isWidthAndSlack_17 kk_ic_0 ?_
    have hP9 := kk_Ps (wq := []) hP [] rfl
    have hD9 := kk_Ds (wq := []) hD [] (by decide) rfl
    have hK9 := kk_Ks (tq := []) hK [] rfl
    exact W.zret (v := 0) hx hb hr rfl (fun t ht hW => ⟨⟨0, (), rfl, Or.inl rfl, by rw [ht]; exact hP9, va_K.moved hW.alike hK9, hD9⟩, hS.F ht⟩) hS.2.2 dX3_isWidthAndSlack_18
  · have t_1 : 1000 ≤ p0.toInt := kk_nlt c_1
    refine lv_iload_n hx hb dX3_isWidthAndSlack_7 rfl (lv_at hl 0 rfl) ?_
    refine lv_ldc hx hb hown (hts _ (List.mem_of_getElem? (i := 1) rfl)) dX3_isWidthAndSlack_8 ?_
    refine lv_icmp_gt (tgt := 17) hx hb dX3_isWidthAndSlack_10 (by decide) (fun c_2 => ?_) (fun c_2 => ?_)
    · have t_2 : 99999 < p0.toInt := kk_lt c_2
      refine lv_iconst (v := 0) hx hb dX3_isWidthAndSlack_17 kk_ic_0 ?_
      have hP9 := kk_Ps (wq := []) hP [] rfl
      have hD9 := kk_Ds (wq := []) hD [] (by decide) rfl
      have hK9 := kk_Ks (tq := []) hK [] rfl
      exact W.zret (v := 0) hx hb hr rfl (fun t ht hW => ⟨⟨0, (), rfl, Or.inl rfl, by rw [ht]; exact hP9, va_K.moved hW.alike hK9, hD9⟩, hS.F ht⟩) hS.2.2 dX3_isWidthAndSlack_18
    · have t_2 : p0.toInt ≤ 99999 := kk_nlt c_2
      refine lv_iconst (v := 1) hx hb dX3_isWidthAndSlack_13 kk_ic_1 ?_
      refine lv_goto (tgt := 18) hx hb dX3_isWidthAndSlack_14 (by decide) ?_
      have hP9 := kk_Ps (wq := []) hP [] rfl
      have hD9 := kk_Ds (wq := []) hD [] (by decide) rfl
      have hK9 := kk_Ks (tq := []) hK [] rfl
      exact W.zret (v := 1) hx hb hr rfl (fun t ht hW => ⟨⟨1, (), rfl, Or.inr (⟨by first | with_reducible assumption | (omega) | assumption, by first | with_reducible assumption | (omega) | assumption, rfl⟩), by rw [ht]; exact hP9, va_K.moved hW.alike hK9, hD9⟩, hS.F ht⟩) hS.2.2 dX3_isWidthAndSlack_18
set_option maxHeartbeats 4000000 in
set_option maxRecDepth 100000 in
theorem g_X3_offer_0 (l : Launch) (dC : Nat → ClassId) (dI : Nat → Nat → Nat) (h0 : Nat) (h1 : Nat) (h2 : Nat) (h3 : Nat) (h4 : Nat) (cint : ClassId) (sz : Nat) (p0 : Int32) (p1 : Int32) (p2 : Int32) (tp0 : 0 ≤ p0.toInt ∧ p0.toInt ≤ 40) (tp1 : 1 ≤ p1.toInt ∧ p1.toInt ≤ 6) (tp2 : 1 ≤ p2.toInt ∧ p2.toInt ≤ 6) (f1 : Nat → Int32) (f2 : Nat → Int32) (f3 : Nat → Int32) (f4 : Nat → Int32) (bf3 : ∀ j, j < 41 → 0 ≤ (f3 j).toInt ∧ (f3 j).toInt ≤ 6) : Met l yX3_offer wsX3_offer ({ frames := 0, cells := 0, slots := 0, locals := 0 }) (va_Pc [.ref h0, .int p0, .int p1, .int p2] (fun U => U.heap.size = sz ∧ va_P (dC, dI) vwCl [(h0, kO3 h1 h2 h3 h4), (h1, kAi cint 41 f1), (h2, kAi cint 41 f2), (h3, kAi cint 41 f3), (h4, kAi cint 41 f4)] U.heap ∧ va_K (dC, dI) vwCl [(cint, .int)] U ∧ va_D (fun _ => True) [(h0, kO3 h1 h2 h3 h4), (h1, kAi cint 41 f1), (h2, kAi cint 41 f2), (h3, kAi cint 41 f3), (h4, kAi cint 41 f4)])) (va_Qv (fun (_ : Unit) => True) (fun (_ : Unit) t => ∃ (g1 : Nat → Int32) (g2 : Nat → Int32) (g3 : Nat → Int32) (g4 : Nat → Int32), (∀ j, j < 41 → 0 ≤ (g3 j).toInt ∧ (g3 j).toInt ≤ 6) ∧ va_P (dC, dI) vwCl [(h0, kO3 h1 h2 h3 h4), (h1, kAi cint 41 g1), (h2, kAi cint 41 g2), (h3, kAi cint 41 g3), (h4, kAi cint 41 g4)] t.heap ∧ va_K (dC, dI) vwCl [] t ∧ va_D (va_A [(h0, kO3 h1 h2 h3 h4), (h1, kAi cint 41 f1), (h2, kAi cint 41 f2), (h3, kAi cint 41 f3), (h4, kAi cint 41 f4)] sz) [(h0, kO3 h1 h2 h3 h4), (h1, kAi cint 41 g1), (h2, kAi cint 41 g2), (h3, kAi cint 41 g3), (h4, kAi cint 41 g4)]) (va_A [(h0, kO3 h1 h2 h3 h4), (h1, kAi cint 41 f1), (h2, kAi cint 41 f2), (h3, kAi cint 41 f3), (h4, kAi cint 41 f4)] sz)) 0 0 (va_A [(h0, kO3 h1 h2 h3 h4), (h1, kAi cint 41 f1), (h2, kAi cint 41 f2), (h3, kAi cint 41 f3), (h4, kAi cint 41 f4)] sz) := by
  refine Met.ofW (cc := cX3_offer) (maxL := 7) (ret := none) (by decide) rfl ?_
  intro p e s m args below meth c s₁ B hml hv
  obtain ⟨rfl, hsz, hP, hK, hD0⟩ := hv
  have hx := B.exec
  have hb := B.bytes
  have hr := B.returns
  have hts := atoms_spec (ws := wsX3_offer) B.pre
  have hown : s.vm.findClass RX3 = some m.cls := findClass_of_methodNamed B.named
  have hlocks := B.notSynchronized
  subst hsz
  have hD := hD0.self (sz := s.heap.size)
  generalize hAe : va_A [(h0, kO3 h1 h2 h3 h4), (h1, kAi cint 41 f1), (h2, kAi cint 41 f2), (h3, kAi cint 41 f3), (h4, kAi cint 41 f4)] s.heap.size = A at hD ⊢
  have hA : ∀ q : Nat, s.heap.size ≤ q → A q := fun q h => by rw [← hAe]; exact Or.inr h
  have hS : va_S A s.heap s.heap [] := va_S.rf
  have hP : va_P (dC, dI) vwCl [(h0, kO3 h1 h2 h3 h4), (h1, kAi cint 41 f1), (h2, kAi cint 41 f2), (h3, kAi cint 41 f3), (h4, kAi cint 41 f4)] s.heap := hP
  have hl := lv_entry ([.ref h0, .int p0, .int p1, .int p2]) (n := 7) (Nat.le_of_ble_eq_true rfl)
  rw [lg_entry_eq]
  generalize (lg_sl ([.ref h0, .int p0, .int p1, .int p2]) ++ List.replicate (7 - (lg_sl ([.ref h0, .int p0, .int p1, .int p2])).length) Slot.unset).toArray = ls at hl ⊢
  have hl : lv_has ls 7 [(0, .ref h0), (1, .int p0), (2, .int p1), (3, .int p2)] := hl
  refine lv_iload_n hx hb dX3_offer_0 rfl (lv_at hl 1 rfl) ?_
  refine lv_iload_n hx hb dX3_offer_1 rfl (lv_at hl 2 rfl) ?_
  refine lv_iadd hx hb dX3_offer_2 ?_
  refine lv_istore hx hb dX3_offer_3 hl (by decide) (rfl : _ = ([(4, .int (p0 + p1)), (0, .ref h0), (1, .int p0), (2, .int p1), (3, .int p2)] : List (Nat × Value))) (fun ls hl => ?_)
  refine lv_iload hx hb dX3_offer_5 (lv_at hl 0 rfl) ?_
  refine lv_aload_n hx hb dX3_offer_7 rfl (lv_at hl 1 rfl) ?_
  refine va_get (D := (dC, dI)) (ci := 3) (v := .ref h1) (C := RX3) (T := TX3) (N := 4) hx hb hts (fun _ h => List.mem_cons_of_mem _ (List.mem_append_right _ h)) hown hK hP 0 rfl rfl 0 (by decide) (hts (.fieldLink RX3 9 "KinkStreet$FirstPlots" "costs" "[I") (List.mem_of_getElem? (i := 1) rfl)) (fun _ h9 => h9) rfl dX3_offer_8 ?_
  refine va_alen (v := 41) hx hb hK hP 1 0 rfl rfl rfl dX3_offer_11 ?_
  refine lv_icmp_ge (tgt := 27) hx hb dX3_offer_12 (by decide) (fun c_1 => ?_) (fun c_1 => ?_)
  · have t_1 : 41 ≤ (p0 + p1).toInt := kk_le c_1
    have hP9 := kk_Ps (wq := [(h0, kO3 h1 h2 h3 h4), (h1, kAi cint 41 f1), (h2, kAi cint 41 f2), (h3, kAi cint 41 f3), (h4, kAi cint 41 f4)]) hP [0, 1, 2, 3, 4] rfl
    have hD9 := kk_Ds (wq := [(h0, kO3 h1 h2 h3 h4), (h1, kAi cint 41 f1), (h2, kAi cint 41 f2), (h3, kAi cint 41 f3), (h4, kAi cint 41 f4)]) hD [0, 1, 2, 3, 4] (by decide) rfl
    have hK9 := kk_Ks (tq := []) hK [] rfl
    exact W.vret hx hb hr (fun t ht hW => ⟨⟨(), rfl, trivial, f1, f2, f3, f4, bf3, by rw [ht]; exact hP9, va_K.moved hW.alike hK9, hD9⟩, hS.F ht⟩) hS.2.2 dX3_offer_27
  · have t_1 : (p0 + p1).toInt < 41 := kk_nle c_1
    refine lv_aload_n hx hb dX3_offer_15 rfl (lv_at hl 1 rfl) ?_
    refine va_get (D := (dC, dI)) (ci := 3) (v := .ref h1) (C := RX3) (T := TX3) (N := 4) hx hb hts (fun _ h => List.mem_cons_of_mem _ (List.mem_append_right _ h)) hown hK hP 0 rfl rfl 0 (by decide) (hts (.fieldLink RX3 9 "KinkStreet$FirstPlots" "costs" "[I") (List.mem_of_getElem? (i := 1) rfl)) (fun _ h9 => h9) rfl dX3_offer_16 ?_
    refine lv_iload hx hb dX3_offer_19 (lv_at hl 0 rfl) ?_
    try have := kk_add2 (x := p0) (y := p1) (a := p0.toInt) (b := p1.toInt) rfl rfl (by omega) (by omega)
    have hi_2 : vp_in (p0 + p1) 41 := (vp_in_iff.mpr ⟨by omega, by omega⟩)
    refine va_iald hx hb hK hP 1 0 rfl rfl hi_2 dX3_offer_21 ?_
    refine lv_topi (fun y_2 e_2 => ?_)
    clear e_2
    refine lv_ldc hx hb hown (hts _ (List.mem_of_getElem? (i := 2) rfl)) dX3_offer_22 ?_
    refine lv_icmp_lt (tgt := 28) hx hb dX3_offer_24 (by decide) (fun c_3 => ?_) (fun c_3 => ?_)
    · have t_3 : y_2.toInt < 1000000000 := kk_lt c_3
      refine lv_aload_n hx hb dX3_offer_28 rfl (lv_at hl 1 rfl) ?_
      refine va_get (D := (dC, dI)) (ci := 3) (v := .ref h1) (C := RX3) (T := TX3) (N := 4) hx hb hts (fun _ h => List.mem_cons_of_mem _ (List.mem_append_right _ h)) hown hK hP 0 rfl rfl 0 (by decide) (hts (.fieldLink RX3 9 "KinkStreet$FirstPlots" "costs" "[I") (List.mem_of_getElem? (i := 1) rfl)) (fun _ h9 => h9) rfl dX3_offer_29 ?_
      refine lv_iload hx hb dX3_offer_32 (lv_at hl 0 rfl) ?_
      try have := kk_rng y_2
      have hi_4 : vp_in (p0 + p1) 41 := (vp_in_iff.mpr ⟨by omega, by omega⟩)
      refine va_iald hx hb hK hP 1 0 rfl rfl hi_4 dX3_offer_34 ?_
      refine lv_topi (fun y_4 e_4 => ?_)
      clear e_4
      refine lv_iload_n hx hb dX3_offer_35 rfl (lv_at hl 3 rfl) ?_
      refine lv_iadd hx hb dX3_offer_36 ?_
      refine lv_iconst (v := 1) hx hb dX3_offer_37 kk_ic_1 ?_
      refine lv_isub hx hb dX3_offer_38 ?_
      refine lv_iload_n hx hb dX3_offer_39 rfl (lv_at hl 4 rfl) ?_
      refine lv_iadd hx hb dX3_offer_40 ?_
      refine lv_iconst (v := 1) hx hb dX3_offer_41 kk_ic_1 ?_
      refine lv_isub hx hb dX3_offer_42 ?_
      refine lv_istore hx hb dX3_offer_43 hl (by decide) (rfl : _ = ([(5, .int ((((y_4 + p1) - 1) + p2) - 1)), (4, .int (p0 + p1)), (0, .ref h0), (1, .int p0), (2, .int p1), (3, .int p2)] : List (Nat × Value))) (fun ls hl => ?_)
      refine lv_aload_n hx hb dX3_offer_45 rfl (lv_at hl 2 rfl) ?_
      refine va_get (D := (dC, dI)) (ci := 3) (v := .ref h2) (C := RX3) (T := TX3) (N := 4) hx hb hts (fun _ h => List.mem_cons_of_mem _ (List.mem_append_right _ h)) hown hK hP 0 rfl rfl 1 (by decide) (hts (.fieldLink RX3 15 "KinkStreet$FirstPlots" "groupCounts" "[I") (List.mem_of_getElem? (i := 3) rfl)) (fun _ h9 => h9) rfl dX3_offer_46 ?_
      refine lv_iload hx hb dX3_offer_49 (lv_at hl 1 rfl) ?_
      have hi_5 : vp_in (p0 + p1) 41 := (vp_in_iff.mpr ⟨by omega, by omega⟩)
      refine va_iald hx hb hK hP 2 0 rfl rfl hi_5 dX3_offer_51 ?_
      refine lv_topi (fun y_5 e_5 => ?_)
      clear e_5
      refine lv_iconst (v := 1) hx hb dX3_offer_52 kk_ic_1 ?_
      refine lv_iadd hx hb dX3_offer_53 ?_
      refine lv_istore hx hb dX3_offer_54 hl (by decide) (rfl : _ = ([(6, .int (y_5 + 1)), (5, .int ((((y_4 + p1) - 1) + p2) - 1)), (4, .int (p0 + p1)), (0, .ref h0), (1, .int p0), (2, .int p1), (3, .int p2)] : List (Nat × Value))) (fun ls hl => ?_)
      refine lv_iload hx hb dX3_offer_56 (lv_at hl 1 rfl) ?_
      refine lv_aload_n hx hb dX3_offer_58 rfl (lv_at hl 3 rfl) ?_
      refine va_get (D := (dC, dI)) (ci := 3) (v := .ref h1) (C := RX3) (T := TX3) (N := 4) hx hb hts (fun _ h => List.mem_cons_of_mem _ (List.mem_append_right _ h)) hown hK hP 0 rfl rfl 0 (by decide) (hts (.fieldLink RX3 9 "KinkStreet$FirstPlots" "costs" "[I") (List.mem_of_getElem? (i := 1) rfl)) (fun _ h9 => h9) rfl dX3_offer_59 ?_
      refine lv_iload_n hx hb dX3_offer_62 rfl (lv_at hl 4 rfl) ?_
      have hi_6 : vp_in p0 41 := (vp_in_iff.mpr ⟨by omega, by omega⟩)
      refine va_iald hx hb hK hP 1 0 rfl rfl hi_6 dX3_offer_63 ?_
      refine lv_topi (fun y_6 e_6 => ?_)
      clear e_6
      refine lv_icmp_lt (tgt := 89) hx hb dX3_offer_64 (by decide) (fun c_7 => ?_) (fun c_7 => ?_)
      · have t_7 : ((((y_4 + p1) - 1) + p2) - 1).toInt < y_6.toInt := kk_lt c_7
        refine lv_aload_n hx hb dX3_offer_89 rfl (lv_at hl 3 rfl) ?_
        refine va_get (D := (dC, dI)) (ci := 3) (v := .ref h1) (C := RX3) (T := TX3) (N := 4) hx hb hts (fun _ h => List.mem_cons_of_mem _ (List.mem_append_right _ h)) hown hK hP 0 rfl rfl 0 (by decide) (hts (.fieldLink RX3 9 "KinkStreet$FirstPlots" "costs" "[I") (List.mem_of_getElem? (i := 1) rfl)) (fun _ h9 => h9) rfl dX3_offer_90 ?_
        refine lv_iload_n hx hb dX3_offer_93 rfl (lv_at hl 4 rfl) ?_
        refine lv_iload hx hb dX3_offer_94 (lv_at hl 1 rfl) ?_
        try have := kk_rng y_4
        try have := kk_rng y_6
        refine va_iast hx hb hK hP hD hS 1 0 rfl rfl (vp_in_iff.mpr ⟨by omega, by omega⟩) dX3_offer_96 (fun H locs hP hD hS => ?_)
        generalize upd f1 (p0 : Int32).toNatClampNeg ((((y_4 + p1) - 1) + p2) - 1) = f_8 at hP hD
        have hP : va_P (dC, dI) vwCl [(h0, kO3 h1 h2 h3 h4), (h1, kAi cint 41 f_8), (h2, kAi cint 41 f2), (h3, kAi cint 41 f3), (h4, kAi cint 41 f4)] H := hP
        have hD : va_D A [(h0, kO3 h1 h2 h3 h4), (h1, kAi cint 41 f_8), (h2, kAi cint 41 f2), (h3, kAi cint 41 f3), (h4, kAi cint 41 f4)] := hD
        refine lv_aload_n hx hb dX3_offer_97 rfl (lv_at hl 3 rfl) ?_
        refine va_get (D := (dC, dI)) (ci := 3) (v := .ref h2) (C := RX3) (T := TX3) (N := 4) hx hb hts (fun _ h => List.mem_cons_of_mem _ (List.mem_append_right _ h)) hown hK hP 0 rfl rfl 1 (by decide) (hts (.fieldLink RX3 15 "KinkStreet$FirstPlots" "groupCounts" "[I") (List.mem_of_getElem? (i := 3) rfl)) (fun _ h9 => h9) rfl dX3_offer_98 ?_
        refine lv_iload_n hx hb dX3_offer_101 rfl (lv_at hl 4 rfl) ?_
        refine lv_iload hx hb dX3_offer_102 (lv_at hl 0 rfl) ?_
        refine va_iast hx hb hK hP hD hS 2 0 rfl rfl (vp_in_iff.mpr ⟨by omega, by omega⟩) dX3_offer_104 (fun H locs hP hD hS => ?_)
        generalize upd f2 (p0 : Int32).toNatClampNeg (y_5 + 1) = f_9 at hP hD
        have hP : va_P (dC, dI) vwCl [(h0, kO3 h1 h2 h3 h4), (h1, kAi cint 41 f_8), (h2, kAi cint 41 f_9), (h3, kAi cint 41 f3), (h4, kAi cint 41 f4)] H := hP
        have hD : va_D A [(h0, kO3 h1 h2 h3 h4), (h1, kAi cint 41 f_8), (h2, kAi cint 41 f_9), (h3, kAi cint 41 f3), (h4, kAi cint 41 f4)] := hD
        refine lv_aload_n hx hb dX3_offer_105 rfl (lv_at hl 3 rfl) ?_
        refine va_get (D := (dC, dI)) (ci := 3) (v := .ref h3) (C := RX3) (T := TX3) (N := 4) hx hb hts (fun _ h => List.mem_cons_of_mem _ (List.mem_append_right _ h)) hown hK hP 0 rfl rfl 2 (by decide) (hts (.fieldLink RX3 18 "KinkStreet$FirstPlots" "groupPlots" "[I") (List.mem_of_getElem? (i := 4) rfl)) (fun _ h9 => h9) rfl dX3_offer_106 ?_
        refine lv_iload_n hx hb dX3_offer_109 rfl (lv_at hl 4 rfl) ?_
        refine lv_iload_n hx hb dX3_offer_110 rfl (lv_at hl 5 rfl) ?_
        refine va_iast hx hb hK hP hD hS 3 0 rfl rfl (vp_in_iff.mpr ⟨by omega, by omega⟩) dX3_offer_111 (fun H locs hP hD hS => ?_)
        have b_10 := kk_upb (k := (p0 : Int32).toNatClampNeg) bf3 (show 0 ≤ (p1 : Int32).toInt ∧ (p1 : Int32).toInt ≤ 6 from by first | decide | ((omega)))
        generalize upd f3 (p0 : Int32).toNatClampNeg p1 = f_10 at hP hD b_10
        have hP : va_P (dC, dI) vwCl [(h0, kO3 h1 h2 h3 h4), (h1, kAi cint 41 f_8), (h2, kAi cint 41 f_9), (h3, kAi cint 41 f_10), (h4, kAi cint 41 f4)] H := hP
        have hD : va_D A [(h0, kO3 h1 h2 h3 h4), (h1, kAi cint 41 f_8), (h2, kAi cint 41 f_9), (h3, kAi cint 41 f_10), (h4, kAi cint 41 f4)] := hD
        refine lv_aload_n hx hb dX3_offer_112 rfl (lv_at hl 3 rfl) ?_
        refine va_get (D := (dC, dI)) (ci := 3) (v := .ref h4) (C := RX3) (T := TX3) (N := 4) hx hb hts (fun _ h => List.mem_cons_of_mem _ (List.mem_append_right _ h)) hown hK hP 0 rfl rfl 3 (by decide) (hts (.fieldLink RX3 21 "KinkStreet$FirstPlots" "groupFirstOnes" "[I") (List.mem_of_getElem? (i := 5) rfl)) (fun _ h9 => h9) rfl dX3_offer_113 ?_
        refine lv_iload_n hx hb dX3_offer_116 rfl (lv_at hl 4 rfl) ?_
        refine lv_iload_n hx hb dX3_offer_117 rfl (lv_at hl 6 rfl) ?_
        refine va_iast hx hb hK hP hD hS 4 0 rfl rfl (vp_in_iff.mpr ⟨by omega, by omega⟩) dX3_offer_118 (fun H locs hP hD hS => ?_)
        generalize upd f4 (p0 : Int32).toNatClampNeg p2 = f_11 at hP hD
        have hP : va_P (dC, dI) vwCl [(h0, kO3 h1 h2 h3 h4), (h1, kAi cint 41 f_8), (h2, kAi cint 41 f_9), (h3, kAi cint 41 f_10), (h4, kAi cint 41 f_11)] H := hP
        have hD : va_D A [(h0, kO3 h1 h2 h3 h4), (h1, kAi cint 41 f_8), (h2, kAi cint 41 f_9), (h3, kAi cint 41 f_10), (h4, kAi cint 41 f_11)] := hD
        have hP9 := kk_Ps (wq := [(h0, kO3 h1 h2 h3 h4), (h1, kAi cint 41 f_8), (h2, kAi cint 41 f_9), (h3, kAi cint 41 f_10), (h4, kAi cint 41 f_11)]) hP [0, 1, 2, 3, 4] rfl
        have hD9 := kk_Ds (wq := [(h0, kO3 h1 h2 h3 h4), (h1, kAi cint 41 f_8), (h2, kAi cint 41 f_9), (h3, kAi cint 41 f_10), (h4, kAi cint 41 f_11)]) hD [0, 1, 2, 3, 4] (by decide) rfl
        have hK9 := kk_Ks (tq := []) hK [] rfl
        exact W.vret hx hb hr (fun t ht hW => ⟨⟨(), rfl, trivial, f_8, f_9, f_10, f_11, b_10, by rw [ht]; exact hP9, va_K.moved hW.alike hK9, hD9⟩, hS.F ht⟩) hS.2.2 dX3_offer_119
      · have t_7 : y_6.toInt ≤ ((((y_4 + p1) - 1) + p2) - 1).toInt := kk_nlt c_7
        refine lv_iload hx hb dX3_offer_67 (lv_at hl 1 rfl) ?_
        refine lv_aload_n hx hb dX3_offer_69 rfl (lv_at hl 3 rfl) ?_
        refine va_get (D := (dC, dI)) (ci := 3) (v := .ref h1) (C := RX3) (T := TX3) (N := 4) hx hb hts (fun _ h => List.mem_cons_of_mem _ (List.mem_append_right _ h)) hown hK hP 0 rfl rfl 0 (by decide) (hts (.fieldLink RX3 9 "KinkStreet$FirstPlots" "costs" "[I") (List.mem_of_getElem? (i := 1) rfl)) (fun _ h9 => h9) rfl dX3_offer_70 ?_
        refine lv_iload_n hx hb dX3_offer_73 rfl (lv_at hl 4 rfl) ?_
        try have := kk_rng y_6
        try have := kk_rng y_4
        have hi_12 : vp_in p0 41 := (vp_in_iff.mpr ⟨by omega, by omega⟩)
        refine va_iald hx hb hK hP 1 0 rfl rfl hi_12 dX3_offer_74 ?_
        refine lv_topi (fun y_12 e_12 => ?_)
        clear e_12
        refine lv_icmp_ne (tgt := 119) hx hb dX3_offer_75 (by decide) (fun c_13 => ?_) (fun c_13 => ?_)
        · have t_13 : ((((y_4 + p1) - 1) + p2) - 1).toInt ≠ y_12.toInt := kk_ne c_13
          have hP9 := kk_Ps (wq := [(h0, kO3 h1 h2 h3 h4), (h1, kAi cint 41 f1), (h2, kAi cint 41 f2), (h3, kAi cint 41 f3), (h4, kAi cint 41 f4)]) hP [0, 1, 2, 3, 4] rfl
          have hD9 := kk_Ds (wq := [(h0, kO3 h1 h2 h3 h4), (h1, kAi cint 41 f1), (h2, kAi cint 41 f2), (h3, kAi cint 41 f3), (h4, kAi cint 41 f4)]) hD [0, 1, 2, 3, 4] (by decide) rfl
          have hK9 := kk_Ks (tq := []) hK [] rfl
          exact W.vret hx hb hr (fun t ht hW => ⟨⟨(), rfl, trivial, f1, f2, f3, f4, bf3, by rw [ht]; exact hP9, va_K.moved hW.alike hK9, hD9⟩, hS.F ht⟩) hS.2.2 dX3_offer_119
        · have t_13 : ((((y_4 + p1) - 1) + p2) - 1).toInt = y_12.toInt := kk_eq c_13
          refine lv_iload hx hb dX3_offer_78 (lv_at hl 0 rfl) ?_
          refine lv_aload_n hx hb dX3_offer_80 rfl (lv_at hl 3 rfl) ?_
          refine va_get (D := (dC, dI)) (ci := 3) (v := .ref h2) (C := RX3) (T := TX3) (N := 4) hx hb hts (fun _ h => List.mem_cons_of_mem _ (List.mem_append_right _ h)) hown hK hP 0 rfl rfl 1 (by decide) (hts (.fieldLink RX3 15 "KinkStreet$FirstPlots" "groupCounts" "[I") (List.mem_of_getElem? (i := 3) rfl)) (fun _ h9 => h9) rfl dX3_offer_81 ?_
          refine lv_iload_n hx hb dX3_offer_84 rfl (lv_at hl 4 rfl) ?_
          try have := kk_rng y_12
          have hi_14 : vp_in p0 41 := (vp_in_iff.mpr ⟨by omega, by omega⟩)
          refine va_iald hx hb hK hP 2 0 rfl rfl hi_14 dX3_offer_85 ?_
          refine lv_topi (fun y_14 e_14 => ?_)
          clear e_14
          refine lv_icmp_ge (tgt := 119) hx hb dX3_offer_86 (by decide) (fun c_15 => ?_) (fun c_15 => ?_)
          · have t_15 : y_14.toInt ≤ (y_5 + 1).toInt := kk_le c_15
            have hP9 := kk_Ps (wq := [(h0, kO3 h1 h2 h3 h4), (h1, kAi cint 41 f1), (h2, kAi cint 41 f2), (h3, kAi cint 41 f3), (h4, kAi cint 41 f4)]) hP [0, 1, 2, 3, 4] rfl
            have hD9 := kk_Ds (wq := [(h0, kO3 h1 h2 h3 h4), (h1, kAi cint 41 f1), (h2, kAi cint 41 f2), (h3, kAi cint 41 f3), (h4, kAi cint 41 f4)]) hD [0, 1, 2, 3, 4] (by decide) rfl
            have hK9 := kk_Ks (tq := []) hK [] rfl
            exact W.vret hx hb hr (fun t ht hW => ⟨⟨(), rfl, trivial, f1, f2, f3, f4, bf3, by rw [ht]; exact hP9, va_K.moved hW.alike hK9, hD9⟩, hS.F ht⟩) hS.2.2 dX3_offer_119
          · have t_15 : (y_5 + 1).toInt < y_14.toInt := kk_nle c_15
            refine lv_aload_n hx hb dX3_offer_89 rfl (lv_at hl 3 rfl) ?_
            refine va_get (D := (dC, dI)) (ci := 3) (v := .ref h1) (C := RX3) (T := TX3) (N := 4) hx hb hts (fun _ h => List.mem_cons_of_mem _ (List.mem_append_right _ h)) hown hK hP 0 rfl rfl 0 (by decide) (hts (.fieldLink RX3 9 "KinkStreet$FirstPlots" "costs" "[I") (List.mem_of_getElem? (i := 1) rfl)) (fun _ h9 => h9) rfl dX3_offer_90 ?_
            refine lv_iload_n hx hb dX3_offer_93 rfl (lv_at hl 4 rfl) ?_
            refine lv_iload hx hb dX3_offer_94 (lv_at hl 1 rfl) ?_
            try have := kk_rng y_5
            try have := kk_rng y_14
            refine va_iast hx hb hK hP hD hS 1 0 rfl rfl (vp_in_iff.mpr ⟨by omega, by omega⟩) dX3_offer_96 (fun H locs hP hD hS => ?_)
            generalize upd f1 (p0 : Int32).toNatClampNeg ((((y_4 + p1) - 1) + p2) - 1) = f_16 at hP hD
            have hP : va_P (dC, dI) vwCl [(h0, kO3 h1 h2 h3 h4), (h1, kAi cint 41 f_16), (h2, kAi cint 41 f2), (h3, kAi cint 41 f3), (h4, kAi cint 41 f4)] H := hP
            have hD : va_D A [(h0, kO3 h1 h2 h3 h4), (h1, kAi cint 41 f_16), (h2, kAi cint 41 f2), (h3, kAi cint 41 f3), (h4, kAi cint 41 f4)] := hD
            refine lv_aload_n hx hb dX3_offer_97 rfl (lv_at hl 3 rfl) ?_
            refine va_get (D := (dC, dI)) (ci := 3) (v := .ref h2) (C := RX3) (T := TX3) (N := 4) hx hb hts (fun _ h => List.mem_cons_of_mem _ (List.mem_append_right _ h)) hown hK hP 0 rfl rfl 1 (by decide) (hts (.fieldLink RX3 15 "KinkStreet$FirstPlots" "groupCounts" "[I") (List.mem_of_getElem? (i := 3) rfl)) (fun _ h9 => h9) rfl dX3_offer_98 ?_
            refine lv_iload_n hx hb dX3_offer_101 rfl (lv_at hl 4 rfl) ?_
            refine lv_iload hx hb dX3_offer_102 (lv_at hl 0 rfl) ?_
            refine va_iast hx hb hK hP hD hS 2 0 rfl rfl (vp_in_iff.mpr ⟨by omega, by omega⟩) dX3_offer_104 (fun H locs hP hD hS => ?_)
            generalize upd f2 (p0 : Int32).toNatClampNeg (y_5 + 1) = f_17 at hP hD
            have hP : va_P (dC, dI) vwCl [(h0, kO3 h1 h2 h3 h4), (h1, kAi cint 41 f_16), (h2, kAi cint 41 f_17), (h3, kAi cint 41 f3), (h4, kAi cint 41 f4)] H := hP
            have hD : va_D A [(h0, kO3 h1 h2 h3 h4), (h1, kAi cint 41 f_16), (h2, kAi cint 41 f_17), (h3, kAi cint 41 f3), (h4, kAi cint 41 f4)] := hD
            refine lv_aload_n hx hb dX3_offer_105 rfl (lv_at hl 3 rfl) ?_
            refine va_get (D := (dC, dI)) (ci := 3) (v := .ref h3) (C := RX3) (T := TX3) (N := 4) hx hb hts (fun _ h => List.mem_cons_of_mem _ (List.mem_append_right _ h)) hown hK hP 0 rfl rfl 2 (by decide) (hts (.fieldLink RX3 18 "KinkStreet$FirstPlots" "groupPlots" "[I") (List.mem_of_getElem? (i := 4) rfl)) (fun _ h9 => h9) rfl dX3_offer_106 ?_
            refine lv_iload_n hx hb dX3_offer_109 rfl (lv_at hl 4 rfl) ?_
            refine lv_iload_n hx hb dX3_offer_110 rfl (lv_at hl 5 rfl) ?_
            refine va_iast hx hb hK hP hD hS 3 0 rfl rfl (vp_in_iff.mpr ⟨by omega, by omega⟩) dX3_offer_111 (fun H locs hP hD hS => ?_)
            have b_18 := kk_upb (k := (p0 : Int32).toNatClampNeg) bf3 (show 0 ≤ (p1 : Int32).toInt ∧ (p1 : Int32).toInt ≤ 6 from by first | decide | ((omega)))
            generalize upd f3 (p0 : Int32).toNatClampNeg p1 = f_18 at hP hD b_18
            have hP : va_P (dC, dI) vwCl [(h0, kO3 h1 h2 h3 h4), (h1, kAi cint 41 f_16), (h2, kAi cint 41 f_17), (h3, kAi cint 41 f_18), (h4, kAi cint 41 f4)] H := hP
            have hD : va_D A [(h0, kO3 h1 h2 h3 h4), (h1, kAi cint 41 f_16), (h2, kAi cint 41 f_17), (h3, kAi cint 41 f_18), (h4, kAi cint 41 f4)] := hD
            refine lv_aload_n hx hb dX3_offer_112 rfl (lv_at hl 3 rfl) ?_
            refine va_get (D := (dC, dI)) (ci := 3) (v := .ref h4) (C := RX3) (T := TX3) (N := 4) hx hb hts (fun _ h => List.mem_cons_of_mem _ (List.mem_append_right _ h)) hown hK hP 0 rfl rfl 3 (by decide) (hts (.fieldLink RX3 21 "KinkStreet$FirstPlots" "groupFirstOnes" "[I") (List.mem_of_getElem? (i := 5) rfl)) (fun _ h9 => h9) rfl dX3_offer_113 ?_
            refine lv_iload_n hx hb dX3_offer_116 rfl (lv_at hl 4 rfl) ?_
            refine lv_iload_n hx hb dX3_offer_117 rfl (lv_at hl 6 rfl) ?_
            refine va_iast hx hb hK hP hD hS 4 0 rfl rfl (vp_in_iff.mpr ⟨by omega, by omega⟩) dX3_offer_118 (fun H locs hP hD hS => ?_)
            generalize upd f4 (p0 : Int32).toNatClampNeg p2 = f_19 at hP hD
            have hP : va_P (dC, dI) vwCl [(h0, kO3 h1 h2 h3 h4), (h1, kAi cint 41 f_16), (h2, kAi cint 41 f_17), (h3, kAi cint 41 f_18), (h4, kAi cint 41 f_19)] H := hP
            have hD : va_D A [(h0, kO3 h1 h2 h3 h4), (h1, kAi cint 41 f_16), (h2, kAi cint 41 f_17), (h3, kAi cint 41 f_18), (h4, kAi cint 41 f_19)] := hD
            have hP9 := kk_Ps (wq := [(h0, kO3 h1 h2 h3 h4), (h1, kAi cint 41 f_16), (h2, kAi cint 41 f_17), (h3, kAi cint 41 f_18), (h4, kAi cint 41 f_19)]) hP [0, 1, 2, 3, 4] rfl
            have hD9 := kk_Ds (wq := [(h0, kO3 h1 h2 h3 h4), (h1, kAi cint 41 f_16), (h2, kAi cint 41 f_17), (h3, kAi cint 41 f_18), (h4, kAi cint 41 f_19)]) hD [0, 1, 2, 3, 4] (by decide) rfl
            have hK9 := kk_Ks (tq := []) hK [] rfl
            exact W.vret hx hb hr (fun t ht hW => ⟨⟨(), rfl, trivial, f_16, f_17, f_18, f_19, b_18, by rw [ht]; exact hP9, va_K.moved hW.alike hK9, hD9⟩, hS.F ht⟩) hS.2.2 dX3_offer_119
    · have t_3 : 1000000000 ≤ y_2.toInt := kk_nlt c_3
      have hP9 := kk_Ps (wq := [(h0, kO3 h1 h2 h3 h4), (h1, kAi cint 41 f1), (h2, kAi cint 41 f2), (h3, kAi cint 41 f3), (h4, kAi cint 41 f4)]) hP [0, 1, 2, 3, 4] rfl
      have hD9 := kk_Ds (wq := [(h0, kO3 h1 h2 h3 h4), (h1, kAi cint 41 f1), (h2, kAi cint 41 f2), (h3, kAi cint 41 f3), (h4, kAi cint 41 f4)]) hD [0, 1, 2, 3, 4] (by decide) rfl
      have hK9 := kk_Ks (tq := []) hK [] rfl
      exact W.vret hx hb hr (fun t ht hW => ⟨⟨(), rfl, trivial, f1, f2, f3, f4, bf3, by rw [ht]; exact hP9, va_K.moved hW.alike hK9, hD9⟩, hS.F ht⟩) hS.2.2 dX3_offer_27
set_option maxHeartbeats 4000000 in
set_option maxRecDepth 100000 in
theorem g_X3_chooseGroup_0 (l : Launch) (dC : Nat → ClassId) (dI : Nat → Nat → Nat) (h0 : Nat) (h1 : Nat) (h2 : Nat) (h3 : Nat) (h4 : Nat) (h5 : Nat) (h6 : Nat) (h7 : Nat) (h8 : Nat) (cint : ClassId) (sz : Nat) (p1 : Int32) (p2 : Int32) (p3 : Int32) (tp1 : 0 ≤ p1.toInt ∧ p1.toInt ≤ 39) (n1_size : Int32) (f2 : Nat → Int32) (f3 : Nat → Int32) (f4 : Nat → Int32) (f5 : Nat → Int32) (f6 : Nat → Int32) (tn1_size : 0 ≤ n1_size.toInt ∧ n1_size.toInt ≤ 40) (bf4 : ∀ j, j < 41 → 0 ≤ (f4 j).toInt ∧ (f4 j).toInt ≤ 6) : Met l yX3_chooseGroup wsX3_chooseGroup ({ frames := 2, cells := 0, slots := 0, locals := 42 }) (va_Pc [.ref h0, .ref h1, .int p1, .int p2, .int p3] (fun U => U.heap.size = sz ∧ va_P (dC, dI) vwCl [(h0, kO3 h2 h3 h4 h5), (h1, kO9 h6 h7 h8 n1_size), (h2, kAi cint 41 f2), (h3, kAi cint 41 f3), (h4, kAi cint 41 f4), (h5, kAi cint 41 f5), (h6, kAi cint 40 f6)] U.heap ∧ va_K (dC, dI) vwCl [(cint, .int)] U ∧ va_D (fun _ => True) [(h0, kO3 h2 h3 h4 h5), (h1, kO9 h6 h7 h8 n1_size), (h2, kAi cint 41 f2), (h3, kAi cint 41 f3), (h4, kAi cint 41 f4), (h5, kAi cint 41 f5), (h6, kAi cint 40 f6)])) (va_Qv (fun (_ : Unit) => True) (fun (_ : Unit) t => ∃ (g2 : Nat → Int32) (g3 : Nat → Int32) (g4 : Nat → Int32) (g5 : Nat → Int32), (∀ j, j < 41 → 0 ≤ (g4 j).toInt ∧ (g4 j).toInt ≤ 6) ∧ va_P (dC, dI) vwCl [(h0, kO3 h2 h3 h4 h5), (h1, kO9 h6 h7 h8 n1_size), (h2, kAi cint 41 g2), (h3, kAi cint 41 g3), (h4, kAi cint 41 g4), (h5, kAi cint 41 g5), (h6, kAi cint 40 f6)] t.heap ∧ va_K (dC, dI) vwCl [] t ∧ va_D (va_A [(h0, kO3 h2 h3 h4 h5), (h1, kO9 h6 h7 h8 n1_size), (h2, kAi cint 41 f2), (h3, kAi cint 41 f3), (h4, kAi cint 41 f4), (h5, kAi cint 41 f5), (h6, kAi cint 40 f6)] sz) [(h0, kO3 h2 h3 h4 h5), (h1, kO9 h6 h7 h8 n1_size), (h2, kAi cint 41 g2), (h3, kAi cint 41 g3), (h4, kAi cint 41 g4), (h5, kAi cint 41 g5), (h6, kAi cint 40 f6)]) (va_A [(h0, kO3 h2 h3 h4 h5), (h1, kO9 h6 h7 h8 n1_size), (h2, kAi cint 41 f2), (h3, kAi cint 41 f3), (h4, kAi cint 41 f4), (h5, kAi cint 41 f5), (h6, kAi cint 40 f6)] sz)) 0 0 (va_A [(h0, kO3 h2 h3 h4 h5), (h1, kO9 h6 h7 h8 n1_size), (h2, kAi cint 41 f2), (h3, kAi cint 41 f3), (h4, kAi cint 41 f4), (h5, kAi cint 41 f5), (h6, kAi cint 40 f6)] sz) := by
  refine Met.ofW (cc := cX3_chooseGroup) (maxL := 8) (ret := none) (by decide) rfl ?_
  intro p e s m args below meth c s₁ B hml hv
  obtain ⟨rfl, hsz, hP, hK, hD0⟩ := hv
  have hx := B.exec
  have hb := B.bytes
  have hr := B.returns
  have hts := atoms_spec (ws := wsX3_chooseGroup) B.pre
  have hown : s.vm.findClass RX3 = some m.cls := findClass_of_methodNamed B.named
  have hlocks := B.notSynchronized
  subst hsz
  have hD := hD0.self (sz := s.heap.size)
  generalize hAe : va_A [(h0, kO3 h2 h3 h4 h5), (h1, kO9 h6 h7 h8 n1_size), (h2, kAi cint 41 f2), (h3, kAi cint 41 f3), (h4, kAi cint 41 f4), (h5, kAi cint 41 f5), (h6, kAi cint 40 f6)] s.heap.size = A at hD ⊢
  have hA : ∀ q : Nat, s.heap.size ≤ q → A q := fun q h => by rw [← hAe]; exact Or.inr h
  have hS : va_S A s.heap s.heap [] := va_S.rf
  have hP : va_P (dC, dI) vwCl [(h0, kO3 h2 h3 h4 h5), (h1, kO9 h6 h7 h8 n1_size), (h2, kAi cint 41 f2), (h3, kAi cint 41 f3), (h4, kAi cint 41 f4), (h5, kAi cint 41 f5), (h6, kAi cint 40 f6)] s.heap := hP
  have hl := lv_entry ([.ref h0, .ref h1, .int p1, .int p2, .int p3]) (n := 8) (Nat.le_of_ble_eq_true rfl)
  rw [lg_entry_eq]
  generalize (lg_sl ([.ref h0, .ref h1, .int p1, .int p2, .int p3]) ++ List.replicate (8 - (lg_sl ([.ref h0, .ref h1, .int p1, .int p2, .int p3])).length) Slot.unset).toArray = ls at hl ⊢
  have hl : lv_has ls 8 [(0, .ref h0), (1, .ref h1), (2, .int p1), (3, .int p2), (4, .int p3)] := hl
  refine lv_aload_n hx hb dX3_chooseGroup_0 rfl (lv_at hl 0 rfl) ?_
  refine va_get (D := (dC, dI)) (ci := 3) (v := .ref h2) (C := RX3) (T := TX3) (N := 4) hx hb hts (fun _ h => List.mem_cons_of_mem _ (List.mem_append_left _ (List.mem_append_right _ h))) hown hK hP 0 rfl rfl 0 (by decide) (hts (.fieldLink RX3 9 "KinkStreet$FirstPlots" "costs" "[I") (List.mem_of_getElem? (i := 1) rfl)) (fun _ h9 => h9) rfl dX3_chooseGroup_1 ?_
  refine lv_iload_n hx hb dX3_chooseGroup_4 rfl (lv_at hl 2 rfl) ?_
  refine lv_ldc hx hb hown (hts _ (List.mem_of_getElem? (i := 2) rfl)) dX3_chooseGroup_5 ?_
  refine va_iast hx hb hK hP hD hS 2 0 rfl rfl (vp_in_iff.mpr ⟨by omega, by omega⟩) dX3_chooseGroup_7 (fun H locs hP hD hS => ?_)
  generalize upd f2 (p1 : Int32).toNatClampNeg 1000000000 = f_1 at hP hD
  have hP : va_P (dC, dI) vwCl [(h0, kO3 h2 h3 h4 h5), (h1, kO9 h6 h7 h8 n1_size), (h2, kAi cint 41 f_1), (h3, kAi cint 41 f3), (h4, kAi cint 41 f4), (h5, kAi cint 41 f5), (h6, kAi cint 40 f6)] H := hP
  have hD : va_D A [(h0, kO3 h2 h3 h4 h5), (h1, kO9 h6 h7 h8 n1_size), (h2, kAi cint 41 f_1), (h3, kAi cint 41 f3), (h4, kAi cint 41 f4), (h5, kAi cint 41 f5), (h6, kAi cint 40 f6)] := hD
  refine lv_aload_n hx hb dX3_chooseGroup_8 rfl (lv_at hl 0 rfl) ?_
  refine va_get (D := (dC, dI)) (ci := 3) (v := .ref h3) (C := RX3) (T := TX3) (N := 4) hx hb hts (fun _ h => List.mem_cons_of_mem _ (List.mem_append_left _ (List.mem_append_right _ h))) hown hK hP 0 rfl rfl 1 (by decide) (hts (.fieldLink RX3 15 "KinkStreet$FirstPlots" "groupCounts" "[I") (List.mem_of_getElem? (i := 3) rfl)) (fun _ h9 => h9) rfl dX3_chooseGroup_9 ?_
  refine lv_iload_n hx hb dX3_chooseGroup_12 rfl (lv_at hl 2 rfl) ?_
  refine lv_iconst (v := 0) hx hb dX3_chooseGroup_13 kk_ic_0 ?_
  refine va_iast hx hb hK hP hD hS 3 0 rfl rfl (vp_in_iff.mpr ⟨by omega, by omega⟩) dX3_chooseGroup_14 (fun H locs hP hD hS => ?_)
  generalize upd f3 (p1 : Int32).toNatClampNeg 0 = f_2 at hP hD
  have hP : va_P (dC, dI) vwCl [(h0, kO3 h2 h3 h4 h5), (h1, kO9 h6 h7 h8 n1_size), (h2, kAi cint 41 f_1), (h3, kAi cint 41 f_2), (h4, kAi cint 41 f4), (h5, kAi cint 41 f5), (h6, kAi cint 40 f6)] H := hP
  have hD : va_D A [(h0, kO3 h2 h3 h4 h5), (h1, kO9 h6 h7 h8 n1_size), (h2, kAi cint 41 f_1), (h3, kAi cint 41 f_2), (h4, kAi cint 41 f4), (h5, kAi cint 41 f5), (h6, kAi cint 40 f6)] := hD
  refine lv_iconst (v := 0) hx hb dX3_chooseGroup_15 kk_ic_0 ?_
  refine lv_istore hx hb dX3_chooseGroup_16 hl (by decide) (rfl : _ = ([(5, .int 0), (0, .ref h0), (1, .ref h1), (2, .int p1), (3, .int p2), (4, .int p3)] : List (Nat × Value))) (fun ls hl => ?_)
  refine lv_iconst (v := 1) hx hb dX3_chooseGroup_18 kk_ic_1 ?_
  refine lv_istore hx hb dX3_chooseGroup_19 hl (by decide) (rfl : _ = ([(6, .int 1), (5, .int 0), (0, .ref h0), (1, .ref h1), (2, .int p1), (3, .int p2), (4, .int p3)] : List (Nat × Value))) (fun ls hl => ?_)
  refine kk_loop (σ := Int32 × Int32 × (Nat → Int32) × (Nat → Int32) × (Nat → Int32) × (Nat → Int32)) (fun x H locs ls => (1 ≤ x.1.toInt ∧ x.1.toInt ≤ 7) ∧ (∀ j, j < 41 → 0 ≤ (x.2.2.2.2.1 j).toInt ∧ (x.2.2.2.2.1 j).toInt ≤ 6) ∧ va_P (dC, dI) vwCl [(h0, kO3 h2 h3 h4 h5), (h1, kO9 h6 h7 h8 n1_size), (h2, kAi cint 41 x.2.2.1), (h3, kAi cint 41 x.2.2.2.1), (h4, kAi cint 41 x.2.2.2.2.1), (h5, kAi cint 41 x.2.2.2.2.2), (h6, kAi cint 40 f6)] H ∧ va_D A [(h0, kO3 h2 h3 h4 h5), (h1, kO9 h6 h7 h8 n1_size), (h2, kAi cint 41 x.2.2.1), (h3, kAi cint 41 x.2.2.2.1), (h4, kAi cint 41 x.2.2.2.2.1), (h5, kAi cint 41 x.2.2.2.2.2), (h6, kAi cint 40 f6)] ∧ va_S A s.heap H locs ∧ lv_has ls 8 [(6, .int x.1), (5, .int x.2.1), (0, .ref h0), (1, .ref h1), (2, .int p1), (3, .int p2), (4, .int p3)]) (fun x => ((7 : Int) - x.1.toInt).toNat) ?_ (1, 0, f_1, f_2, f4, f5) _ _ _ ⟨(by show 1 ≤ (1 : Int32).toInt ∧ (1 : Int32).toInt ≤ 7; first | decide | ((omega))), bf4, hP, hD, hS, hl⟩
  rintro ⟨i_3_0, i_3_1, f_3_2, f_3_3, f_3_4, f_3_5⟩ H locs ls ⟨t_3_0, b_3_4, hP, hD, hS, hl⟩ ih_3
  have t_3_0 : (1 ≤ i_3_0.toInt ∧ i_3_0.toInt ≤ 7) := t_3_0
  have b_3_4 : (∀ j, j < 41 → 0 ≤ (f_3_4 j).toInt ∧ (f_3_4 j).toInt ≤ 6) := b_3_4
  have hl : lv_has ls 8 [(6, .int i_3_0), (5, .int i_3_1), (0, .ref h0), (1, .ref h1), (2, .int p1), (3, .int p2), (4, .int p3)] := hl
  have hP : va_P (dC, dI) vwCl [(h0, kO3 h2 h3 h4 h5), (h1, kO9 h6 h7 h8 n1_size), (h2, kAi cint 41 f_3_2), (h3, kAi cint 41 f_3_3), (h4, kAi cint 41 f_3_4), (h5, kAi cint 41 f_3_5), (h6, kAi cint 40 f6)] H := hP
  have hD : va_D A [(h0, kO3 h2 h3 h4 h5), (h1, kO9 h6 h7 h8 n1_size), (h2, kAi cint 41 f_3_2), (h3, kAi cint 41 f_3_3), (h4, kAi cint 41 f_3_4), (h5, kAi cint 41 f_3_5), (h6, kAi cint 40 f6)] := hD
  refine lv_iload hx hb dX3_chooseGroup_21 (lv_at hl 0 rfl) ?_
  refine lv_bipush (v := 6) hx hb dX3_chooseGroup_23 kk_bi_6 ?_
  refine lv_icmp_gt (tgt := 103) hx hb dX3_chooseGroup_25 (by decide) (fun c_611 => ?_) (fun c_611 => ?_)
  · have t_611 : 6 < i_3_0.toInt := kk_lt c_611
    have hP9 := kk_Ps (wq := [(h0, kO3 h2 h3 h4 h5), (h1, kO9 h6 h7 h8 n1_size), (h2, kAi cint 41 f_3_2), (h3, kAi cint 41 f_3_3), (h4, kAi cint 41 f_3_4), (h5, kAi cint 41 f_3_5), (h6, kAi cint 40 f6)]) hP [0, 1, 2, 3, 4, 5, 6] rfl
    have hD9 := kk_Ds (wq := [(h0, kO3 h2 h3 h4 h5), (h1, kO9 h6 h7 h8 n1_size), (h2, kAi cint 41 f_3_2), (h3, kAi cint 41 f_3_3), (h4, kAi cint 41 f_3_4), (h5, kAi cint 41 f_3_5), (h6, kAi cint 40 f6)]) hD [0, 1, 2, 3, 4, 5, 6] (by decide) rfl
    have hK9 := kk_Ks (tq := []) hK [] rfl
    exact W.vret hx hb hr (fun t ht hW => ⟨⟨(), rfl, trivial, f_3_2, f_3_3, f_3_4, f_3_5, b_3_4, by rw [ht]; exact hP9, va_K.moved hW.alike hK9, hD9⟩, hS.F ht⟩) hS.2.2 dX3_chooseGroup_103
  · have t_611 : i_3_0.toInt ≤ 6 := kk_nlt c_611
    refine lv_iload_n hx hb dX3_chooseGroup_28 rfl (lv_at hl 4 rfl) ?_
    refine lv_iload hx hb dX3_chooseGroup_29 (lv_at hl 0 rfl) ?_
    refine lv_iadd hx hb dX3_chooseGroup_31 ?_
    refine lv_aload_n hx hb dX3_chooseGroup_32 rfl (lv_at hl 3 rfl) ?_
    have hPc := kk_Ps (wq := [(h1, kO9 h6 h7 h8 n1_size)]) hP [1] rfl
    have hDc := kk_Ds (wq := [(h1, kO9 h6 h7 h8 n1_size)]) hD [1] (by decide) rfl
    have hKc := kk_Ks (tq := []) hK [] rfl
    have hFc := va_free (wc := [(h1, kO9 h6 h7 h8 n1_size)]) hD hS hA [1] rfl
    refine va_calli (va_runV (As := []) (rest := [.int (p1 + i_3_0)]) ⟨hx, hb, hml, hown, hts⟩ (g_X9_size_0 l dC dI h1 h6 h7 h8 H.size n1_size tn1_size) (cwV 0 hts gX3_chooseGroup_X9_size rfl rfl rfl ⟨rfl, kh_X9_size⟩ ⟨Nat.le_of_ble_eq_true rfl, Nat.le_of_ble_eq_true rfl⟩) ⟨fun a U g mk q => by obtain ⟨q0, q1, qP, qK, qD⟩ := q; exact ⟨q0, q1, qP, va_K.moved (u := U) (U := U.calling g mk a) (Vm.Alike.refl U.vm) qK, qD⟩, va_recv hKc hPc (ci := 9) (q0 := 0) rfl rfl, fun U hU hW => ⟨rfl, by rw [hU], by rw [hU]; exact hPc, va_K.moved hW.alike hKc, hDc.weaken (fun _ _ _ _ => trivial)⟩⟩ rfl rfl hl.1 rfl (lv_room (Nat.le_of_ble_eq_true rfl)) dX3_chooseGroup_33 ⟨Nat.le_of_ble_eq_true rfl, Nat.le_of_ble_eq_true rfl⟩) hS (fun q _ h => hFc q h) hFc (fun r_612 u t H1 locs ht hvm hw hB hz1 hk1 hS => ?_)
    obtain ⟨hP1, hK1, hD1⟩ := hB
    rw [ht] at hP1
    have hK1 := va_K.moved hvm.symm hK1
    obtain ⟨hP, hD⟩ := va_join (wr := [(h0, kO3 h2 h3 h4 h5), (h2, kAi cint 41 f_3_2), (h3, kAi cint 41 f_3_3), (h4, kAi cint 41 f_3_4), (h5, kAi cint 41 f_3_5), (h6, kAi cint 40 f6)]) (w1 := [(h1, kO9 h6 h7 h8 n1_size)]) hP hD [1] [0, 2, 3, 4, 5, 6] rfl rfl (by decide) (by decide) hk1 hFc hP1 hD1
    generalize H1 = H at hP hS ⊢
    have hP : va_P (dC, dI) vwCl [(h0, kO3 h2 h3 h4 h5), (h2, kAi cint 41 f_3_2), (h3, kAi cint 41 f_3_3), (h4, kAi cint 41 f_3_4), (h5, kAi cint 41 f_3_5), (h6, kAi cint 40 f6), (h1, kO9 h6 h7 h8 n1_size)] H := hP
    have hD : va_D A [(h0, kO3 h2 h3 h4 h5), (h2, kAi cint 41 f_3_2), (h3, kAi cint 41 f_3_3), (h4, kAi cint 41 f_3_4), (h5, kAi cint 41 f_3_5), (h6, kAi cint 40 f6), (h1, kO9 h6 h7 h8 n1_size)] := hD
    obtain rfl := hw
    refine lv_icmp_gt (tgt := 103) hx hb dX3_chooseGroup_36 (by decide) (fun c_613 => ?_) (fun c_613 => ?_)
    · have t_613 : n1_size.toInt < (p1 + i_3_0).toInt := kk_lt c_613
      have hP9 := kk_Ps (wq := [(h0, kO3 h2 h3 h4 h5), (h1, kO9 h6 h7 h8 n1_size), (h2, kAi cint 41 f_3_2), (h3, kAi cint 41 f_3_3), (h4, kAi cint 41 f_3_4), (h5, kAi cint 41 f_3_5), (h6, kAi cint 40 f6)]) hP [0, 6, 1, 2, 3, 4, 5] rfl
      have hD9 := kk_Ds (wq := [(h0, kO3 h2 h3 h4 h5), (h1, kO9 h6 h7 h8 n1_size), (h2, kAi cint 41 f_3_2), (h3, kAi cint 41 f_3_3), (h4, kAi cint 41 f_3_4), (h5, kAi cint 41 f_3_5), (h6, kAi cint 40 f6)]) hD [0, 6, 1, 2, 3, 4, 5] (by decide) rfl
      have hK9 := kk_Ks (tq := []) hK [] rfl
      exact W.vret hx hb hr (fun t ht hW => ⟨⟨(), rfl, trivial, f_3_2, f_3_3, f_3_4, f_3_5, b_3_4, by rw [ht]; exact hP9, va_K.moved hW.alike hK9, hD9⟩, hS.F ht⟩) hS.2.2 dX3_chooseGroup_103
    · have t_613 : (p1 + i_3_0).toInt ≤ n1_size.toInt := kk_nlt c_613
      refine lv_iload hx hb dX3_chooseGroup_39 (lv_at hl 1 rfl) ?_
      refine lv_aload_n hx hb dX3_chooseGroup_41 rfl (lv_at hl 3 rfl) ?_
      refine lv_iload_n hx hb dX3_chooseGroup_42 rfl (lv_at hl 4 rfl) ?_
      refine lv_iload hx hb dX3_chooseGroup_43 (lv_at hl 0 rfl) ?_
      refine lv_iadd hx hb dX3_chooseGroup_45 ?_
      refine lv_iconst (v := 1) hx hb dX3_chooseGroup_46 kk_ic_1 ?_
      refine lv_isub hx hb dX3_chooseGroup_47 ?_
      have hPc := kk_Ps (wq := [(h1, kO9 h6 h7 h8 n1_size), (h6, kAi cint 40 f6)]) hP [6, 5] rfl
      have hDc := kk_Ds (wq := [(h1, kO9 h6 h7 h8 n1_size), (h6, kAi cint 40 f6)]) hD [6, 5] (by decide) rfl
      have hKc := kk_Ks (tq := [(cint, .int)]) hK [0] rfl
      have hFc := va_free (wc := [(h1, kO9 h6 h7 h8 n1_size), (h6, kAi cint 40 f6)]) hD hS hA [6, 5] rfl
      refine va_calli (va_runV (As := [.int ((p1 + i_3_0) - 1)]) (rest := [.int i_3_1]) ⟨hx, hb, hml, hown, hts⟩ (g_X9_width_0 l dC dI h1 h6 h7 h8 cint H.size ((p1 + i_3_0) - 1) n1_size f6 tn1_size) (cwV 1 hts gX3_chooseGroup_X9_width rfl rfl rfl ⟨rfl, kh_X9_width⟩ ⟨Nat.le_of_ble_eq_true rfl, Nat.le_of_ble_eq_true rfl⟩) ⟨fun a U g mk q => by obtain ⟨q0, q1, qP, qK, qD⟩ := q; exact ⟨q0, q1, qP, va_K.moved (u := U) (U := U.calling g mk a) (Vm.Alike.refl U.vm) qK, qD⟩, va_recv hKc hPc (ci := 9) (q0 := 0) rfl rfl, fun U hU hW => ⟨rfl, by rw [hU], by rw [hU]; exact hPc, va_K.moved hW.alike hKc, hDc.weaken (fun _ _ _ _ => trivial)⟩⟩ rfl rfl hl.1 rfl (lv_room (Nat.le_of_ble_eq_true rfl)) dX3_chooseGroup_48 ⟨Nat.le_of_ble_eq_true rfl, Nat.le_of_ble_eq_true rfl⟩) hS (fun q _ h => hFc q h) hFc (fun r_614 u t H1 locs ht hvm hw hB hz1 hk1 hS => ?_)
      obtain ⟨hP1, hK1, hD1⟩ := hB
      rw [ht] at hP1
      have hK1 := va_K.moved hvm.symm hK1
      obtain ⟨hP, hD⟩ := va_join (wr := [(h0, kO3 h2 h3 h4 h5), (h2, kAi cint 41 f_3_2), (h3, kAi cint 41 f_3_3), (h4, kAi cint 41 f_3_4), (h5, kAi cint 41 f_3_5)]) (w1 := [(h1, kO9 h6 h7 h8 n1_size), (h6, kAi cint 40 f6)]) hP hD [6, 5] [0, 1, 2, 3, 4] rfl rfl (by decide) (by decide) hk1 hFc hP1 hD1
      generalize H1 = H at hP hS ⊢
      have hP : va_P (dC, dI) vwCl [(h0, kO3 h2 h3 h4 h5), (h2, kAi cint 41 f_3_2), (h3, kAi cint 41 f_3_3), (h4, kAi cint 41 f_3_4), (h5, kAi cint 41 f_3_5), (h1, kO9 h6 h7 h8 n1_size), (h6, kAi cint 40 f6)] H := hP
      have hD : va_D A [(h0, kO3 h2 h3 h4 h5), (h2, kAi cint 41 f_3_2), (h3, kAi cint 41 f_3_3), (h4, kAi cint 41 f_3_4), (h5, kAi cint 41 f_3_5), (h1, kO9 h6 h7 h8 n1_size), (h6, kAi cint 40 f6)] := hD
      refine lv_iadd hx hb dX3_chooseGroup_51 ?_
      refine lv_istore hx hb dX3_chooseGroup_52 hl (by decide) (rfl : _ = ([(5, .int (i_3_1 + r_614)), (6, .int i_3_0), (0, .ref h0), (1, .ref h1), (2, .int p1), (3, .int p2), (4, .int p3)] : List (Nat × Value))) (fun ls hl => ?_)
      refine lv_iconst (v := 1) hx hb dX3_chooseGroup_54 kk_ic_1 ?_
      refine lv_istore hx hb dX3_chooseGroup_55 hl (by decide) (rfl : _ = ([(7, .int 1), (5, .int (i_3_1 + r_614)), (6, .int i_3_0), (0, .ref h0), (1, .ref h1), (2, .int p1), (3, .int p2), (4, .int p3)] : List (Nat × Value))) (fun ls hl => ?_)
      try have := kk_add2 (x := p1) (y := i_3_0) (a := p1.toInt) (b := i_3_0.toInt) rfl rfl (by omega) (by omega)
      try have := kk_sub2 (x := (p1 + i_3_0)) (y := 1) (a := (p1 + i_3_0).toInt) (b := 1) rfl rfl (by omega) (by omega)
      refine kk_loop (σ := Int32 × (Nat → Int32) × (Nat → Int32) × (Nat → Int32) × (Nat → Int32)) (fun x H locs ls => (1 ≤ x.1.toInt ∧ x.1.toInt ≤ 7) ∧ (∀ j, j < 41 → 0 ≤ (x.2.2.2.1 j).toInt ∧ (x.2.2.2.1 j).toInt ≤ 6) ∧ va_P (dC, dI) vwCl [(h0, kO3 h2 h3 h4 h5), (h2, kAi cint 41 x.2.1), (h3, kAi cint 41 x.2.2.1), (h4, kAi cint 41 x.2.2.2.1), (h5, kAi cint 41 x.2.2.2.2), (h1, kO9 h6 h7 h8 n1_size), (h6, kAi cint 40 f6)] H ∧ va_D A [(h0, kO3 h2 h3 h4 h5), (h2, kAi cint 41 x.2.1), (h3, kAi cint 41 x.2.2.1), (h4, kAi cint 41 x.2.2.2.1), (h5, kAi cint 41 x.2.2.2.2), (h1, kO9 h6 h7 h8 n1_size), (h6, kAi cint 40 f6)] ∧ va_S A s.heap H locs ∧ lv_has ls 8 [(7, .int x.1), (5, .int (i_3_1 + r_614)), (6, .int i_3_0), (0, .ref h0), (1, .ref h1), (2, .int p1), (3, .int p2), (4, .int p3)]) (fun x => ((7 : Int) - x.1.toInt).toNat) ?_ (1, f_3_2, f_3_3, f_3_4, f_3_5) _ _ _ ⟨(by show 1 ≤ (1 : Int32).toInt ∧ (1 : Int32).toInt ≤ 7; first | decide | ((omega))), b_3_4, hP, hD, hS, hl⟩
      rintro ⟨i_615_0, f_615_1, f_615_2, f_615_3, f_615_4⟩ H locs ls ⟨t_615_0, b_615_3, hP, hD, hS, hl⟩ ih_615
      have t_615_0 : (1 ≤ i_615_0.toInt ∧ i_615_0.toInt ≤ 7) := t_615_0
      have b_615_3 : (∀ j, j < 41 → 0 ≤ (f_615_3 j).toInt ∧ (f_615_3 j).toInt ≤ 6) := b_615_3
      have hl : lv_has ls 8 [(7, .int i_615_0), (5, .int (i_3_1 + r_614)), (6, .int i_3_0), (0, .ref h0), (1, .ref h1), (2, .int p1), (3, .int p2), (4, .int p3)] := hl
      have hP : va_P (dC, dI) vwCl [(h0, kO3 h2 h3 h4 h5), (h2, kAi cint 41 f_615_1), (h3, kAi cint 41 f_615_2), (h4, kAi cint 41 f_615_3), (h5, kAi cint 41 f_615_4), (h1, kO9 h6 h7 h8 n1_size), (h6, kAi cint 40 f6)] H := hP
      have hD : va_D A [(h0, kO3 h2 h3 h4 h5), (h2, kAi cint 41 f_615_1), (h3, kAi cint 41 f_615_2), (h4, kAi cint 41 f_615_3), (h5, kAi cint 41 f_615_4), (h1, kO9 h6 h7 h8 n1_size), (h6, kAi cint 40 f6)] := hD
      refine lv_iload hx hb dX3_chooseGroup_57 (lv_at hl 0 rfl) ?_
      refine lv_bipush (v := 6) hx hb dX3_chooseGroup_59 kk_bi_6 ?_
      refine lv_icmp_gt (tgt := 97) hx hb dX3_chooseGroup_61 (by decide) (fun c_679 => ?_) (fun c_679 => ?_)
      · have t_679 : 6 < i_615_0.toInt := kk_lt c_679
        refine lv_iinc (v := (i_3_0 + 1)) hx hb dX3_chooseGroup_97 hl (k := 2) rfl (by first | rfl | decide) (by decide) (rfl : _ = ([(6, .int (i_3_0 + 1)), (7, .int i_615_0), (5, .int (i_3_1 + r_614)), (0, .ref h0), (1, .ref h1), (2, .int p1), (3, .int p2), (4, .int p3)] : List (Nat × Value))) (fun ls hl => ?_)
        refine lv_goto (tgt := 21) hx hb dX3_chooseGroup_100 (by decide) ?_
        try have := kk_add2 (x := i_3_0) (y := 1) (a := i_3_0.toInt) (b := 1) rfl rfl (by omega) (by omega)
        exact ih_3 ((i_3_0 + 1), (i_3_1 + r_614), f_615_1, f_615_2, f_615_3, f_615_4) _ _ _ (by show ((7 : Int) - ((i_3_0 + 1)).toInt).toNat < ((7 : Int) - i_3_0.toInt).toNat; exact kk_mu (by omega) (by omega)) ⟨(by show 1 ≤ ((i_3_0 + 1) : Int32).toInt ∧ ((i_3_0 + 1) : Int32).toInt ≤ 7; first | decide | ((omega))), b_615_3, hP.sub [0, 5, 1, 2, 3, 4, 6] rfl, hD.sub [0, 5, 1, 2, 3, 4, 6] (by decide) rfl, hS, lv_sub hl [0, 2, 3, 4, 5, 6, 7] rfl⟩
      · have t_679 : i_615_0.toInt ≤ 6 := kk_nlt c_679
        refine lv_iload hx hb dX3_chooseGroup_64 (lv_at hl 1 rfl) ?_
        refine lv_iload hx hb dX3_chooseGroup_66 (lv_at hl 0 rfl) ?_
        refine lv_iload_n hx hb dX3_chooseGroup_68 rfl (lv_at hl 6 rfl) ?_
        refine lv_imul hx hb dX3_chooseGroup_69 ?_
        refine lv_isub hx hb dX3_chooseGroup_70 ?_
        refine va_mabs hx hb (hml.trans hl.1.symm) hown (hts (.methodLink RX3 40 Lib.Math.abs.name) (List.mem_of_getElem? (i := 4) rfl)) (hts (.static Lib.Math.abs.name) (List.mem_of_getElem? (i := 5) rfl)) (hts (.initialized "java/lang/Math") (List.mem_of_getElem? (i := 6) rfl)) (hts (.code Lib.Math.abs.name Lib.Math.abs.code 1 (some .int)) (List.mem_of_getElem? (i := 7) rfl)) (Nat.le_of_ble_eq_true rfl) (Nat.le_of_ble_eq_true rfl) (Nat.le_of_ble_eq_true rfl) (Nat.le_of_ble_eq_true rfl) dX3_chooseGroup_71 ?_
        refine lv_topi (fun y_680 e_680 => ?_)
        clear e_680
        refine lv_iload hx hb dX3_chooseGroup_74 (lv_at hl 0 rfl) ?_
        refine lv_iload hx hb dX3_chooseGroup_76 (lv_at hl 7 rfl) ?_
        refine lv_imul hx hb dX3_chooseGroup_78 ?_
        refine lv_icmp_gt (tgt := 91) hx hb dX3_chooseGroup_79 (by decide) (fun c_681 => ?_) (fun c_681 => ?_)
        · have t_681 : (i_615_0 * p3).toInt < y_680.toInt := kk_lt c_681
          refine lv_iinc (v := (i_615_0 + 1)) hx hb dX3_chooseGroup_91 hl (k := 0) rfl (by first | rfl | decide) (by decide) (rfl : _ = ([(7, .int (i_615_0 + 1)), (5, .int (i_3_1 + r_614)), (6, .int i_3_0), (0, .ref h0), (1, .ref h1), (2, .int p1), (3, .int p2), (4, .int p3)] : List (Nat × Value))) (fun ls hl => ?_)
          refine lv_goto (tgt := 57) hx hb dX3_chooseGroup_94 (by decide) ?_
          try have := kk_rng p3
          try have := kk_rng y_680
          try have := kk_add2 (x := i_615_0) (y := 1) (a := i_615_0.toInt) (b := 1) rfl rfl (by omega) (by omega)
          exact ih_615 ((i_615_0 + 1), f_615_1, f_615_2, f_615_3, f_615_4) _ _ _ (by show ((7 : Int) - ((i_615_0 + 1)).toInt).toNat < ((7 : Int) - i_615_0.toInt).toNat; exact kk_mu (by omega) (by omega)) ⟨(by show 1 ≤ ((i_615_0 + 1) : Int32).toInt ∧ ((i_615_0 + 1) : Int32).toInt ≤ 7; first | decide | ((omega))), b_615_3, hP, hD, hS, lv_sub hl [0, 1, 2, 3, 4, 5, 6, 7] rfl⟩
        · have t_681 : y_680.toInt ≤ (i_615_0 * p3).toInt := kk_nlt c_681
          refine lv_aload_n hx hb dX3_chooseGroup_82 rfl (lv_at hl 3 rfl) ?_
          refine lv_iload_n hx hb dX3_chooseGroup_83 rfl (lv_at hl 5 rfl) ?_
          refine lv_iload hx hb dX3_chooseGroup_84 (lv_at hl 2 rfl) ?_
          refine lv_iload hx hb dX3_chooseGroup_86 (lv_at hl 0 rfl) ?_
          have hPc := kk_Ps (wq := [(h0, kO3 h2 h3 h4 h5), (h2, kAi cint 41 f_615_1), (h3, kAi cint 41 f_615_2), (h4, kAi cint 41 f_615_3), (h5, kAi cint 41 f_615_4)]) hP [0, 1, 2, 3, 4] rfl
          have hDc := kk_Ds (wq := [(h0, kO3 h2 h3 h4 h5), (h2, kAi cint 41 f_615_1), (h3, kAi cint 41 f_615_2), (h4, kAi cint 41 f_615_3), (h5, kAi cint 41 f_615_4)]) hD [0, 1, 2, 3, 4] (by decide) rfl
          have hKc := kk_Ks (tq := [(cint, .int)]) hK [0] rfl
          have hFc := va_free (wc := [(h0, kO3 h2 h3 h4 h5), (h2, kAi cint 41 f_615_1), (h3, kAi cint 41 f_615_2), (h4, kAi cint 41 f_615_3), (h5, kAi cint 41 f_615_4)]) hD hS hA [0, 1, 2, 3, 4] rfl
          try have := kk_rng y_680
          try have := kk_rng p3
          refine va_callv (va_runV (As := [.int p1, .int i_3_0, .int i_615_0]) (rest := []) ⟨hx, hb, hml, hown, hts⟩ (g_X3_offer_0 l dC dI h0 h2 h3 h4 h5 cint H.size p1 i_3_0 i_615_0 (by show 0 ≤ (p1 : Int32).toInt ∧ (p1 : Int32).toInt ≤ 40; first | decide | ((omega))) (by show 1 ≤ (i_3_0 : Int32).toInt ∧ (i_3_0 : Int32).toInt ≤ 6; first | decide | ((omega))) (by show 1 ≤ (i_615_0 : Int32).toInt ∧ (i_615_0 : Int32).toInt ≤ 6; first | decide | ((omega))) f_615_1 f_615_2 f_615_3 f_615_4 b_615_3) (cwV 3 hts gX3_chooseGroup_X3_offer rfl rfl rfl ⟨rfl, kh_X3_offer⟩ ⟨Nat.le_of_ble_eq_true rfl, Nat.le_of_ble_eq_true rfl⟩) ⟨fun a U g mk q => by obtain ⟨q0, q1, qP, qK, qD⟩ := q; exact ⟨q0, q1, qP, va_K.moved (u := U) (U := U.calling g mk a) (Vm.Alike.refl U.vm) qK, qD⟩, va_recv hKc hPc (ci := 3) (q0 := 0) rfl rfl, fun U hU hW => ⟨rfl, by rw [hU], by rw [hU]; exact hPc, va_K.moved hW.alike hKc, hDc.weaken (fun _ _ _ _ => trivial)⟩⟩ rfl rfl hl.1 rfl (lv_room (Nat.le_of_ble_eq_true rfl)) dX3_chooseGroup_88 ⟨Nat.le_of_ble_eq_true rfl, Nat.le_of_ble_eq_true rfl⟩) hS (fun q _ h => hFc q h) hFc (fun u t H1 locs ht hvm hw hB hz1 hk1 hS => ?_)
          refine hB.elim (fun f_683 hB => ?_)
          refine hB.elim (fun f_684 hB => ?_)
          refine hB.elim (fun f_685 hB => ?_)
          refine hB.elim (fun f_686 hB => ?_)
          refine hB.elim (fun bf_685 hB => ?_)
          have hP1 := hB.1
          have hK1 := hB.2.1
          have hD1 := hB.2.2
          rw [ht] at hP1
          have hK1 := va_K.moved hvm.symm hK1
          obtain ⟨hP, hD⟩ := va_join (wr := [(h1, kO9 h6 h7 h8 n1_size), (h6, kAi cint 40 f6)]) (w1 := [(h0, kO3 h2 h3 h4 h5), (h2, kAi cint 41 f_683), (h3, kAi cint 41 f_684), (h4, kAi cint 41 f_685), (h5, kAi cint 41 f_686)]) hP hD [0, 1, 2, 3, 4] [5, 6] rfl rfl (by decide) (by decide) hk1 hFc hP1 hD1
          generalize H1 = H at hP hS ⊢
          have hP : va_P (dC, dI) vwCl [(h1, kO9 h6 h7 h8 n1_size), (h6, kAi cint 40 f6), (h0, kO3 h2 h3 h4 h5), (h2, kAi cint 41 f_683), (h3, kAi cint 41 f_684), (h4, kAi cint 41 f_685), (h5, kAi cint 41 f_686)] H := hP
          have hD : va_D A [(h1, kO9 h6 h7 h8 n1_size), (h6, kAi cint 40 f6), (h0, kO3 h2 h3 h4 h5), (h2, kAi cint 41 f_683), (h3, kAi cint 41 f_684), (h4, kAi cint 41 f_685), (h5, kAi cint 41 f_686)] := hD
          refine lv_iinc (v := (i_615_0 + 1)) hx hb dX3_chooseGroup_91 hl (k := 0) rfl (by first | rfl | decide) (by decide) (rfl : _ = ([(7, .int (i_615_0 + 1)), (5, .int (i_3_1 + r_614)), (6, .int i_3_0), (0, .ref h0), (1, .ref h1), (2, .int p1), (3, .int p2), (4, .int p3)] : List (Nat × Value))) (fun ls hl => ?_)
          refine lv_goto (tgt := 57) hx hb dX3_chooseGroup_94 (by decide) ?_
          try have := kk_add2 (x := i_615_0) (y := 1) (a := i_615_0.toInt) (b := 1) rfl rfl (by omega) (by omega)
          exact ih_615 ((i_615_0 + 1), f_683, f_684, f_685, f_686) _ _ _ (by show ((7 : Int) - ((i_615_0 + 1)).toInt).toNat < ((7 : Int) - i_615_0.toInt).toNat; exact kk_mu (by omega) (by omega)) ⟨(by show 1 ≤ ((i_615_0 + 1) : Int32).toInt ∧ ((i_615_0 + 1) : Int32).toInt ≤ 7; first | decide | ((omega))), bf_685, hP.sub [2, 3, 4, 5, 6, 0, 1] rfl, hD.sub [2, 3, 4, 5, 6, 0, 1] (by decide) rfl, hS, lv_sub hl [0, 1, 2, 3, 4, 5, 6, 7] rfl⟩
set_option maxHeartbeats 4000000 in
set_option maxRecDepth 100000 in
theorem g_X3_canPart_0 (l : Launch) (dC : Nat → ClassId) (dI : Nat → Nat → Nat) (h0 : Nat) (h1 : Nat) (h2 : Nat) (h3 : Nat) (h4 : Nat) (h5 : Nat) (h6 : Nat) (h7 : Nat) (h8 : Nat) (cint : ClassId) (sz : Nat) (p1 : Int32) (p2 : Int32) (n1_size : Int32) (f2 : Nat → Int32) (f3 : Nat → Int32) (f4 : Nat → Int32) (f5 : Nat → Int32) (f6 : Nat → Int32) (tn1_size : 0 ≤ n1_size.toInt ∧ n1_size.toInt ≤ 40) (bf4 : ∀ j, j < 41 → 0 ≤ (f4 j).toInt ∧ (f4 j).toInt ≤ 6) : Met l yX3_canPart wsX3_canPart ({ frames := 3, cells := 0, slots := 0, locals := 69 }) (va_Pc [.ref h0, .ref h1, .int p1, .int p2] (fun U => U.heap.size = sz ∧ va_P (dC, dI) vwCl [(h0, kO3 h2 h3 h4 h5), (h1, kO9 h6 h7 h8 n1_size), (h2, kAi cint 41 f2), (h3, kAi cint 41 f3), (h4, kAi cint 41 f4), (h5, kAi cint 41 f5), (h6, kAi cint 40 f6)] U.heap ∧ va_K (dC, dI) vwCl [(cint, .int)] U ∧ va_D (fun _ => True) [(h0, kO3 h2 h3 h4 h5), (h1, kO9 h6 h7 h8 n1_size), (h2, kAi cint 41 f2), (h3, kAi cint 41 f3), (h4, kAi cint 41 f4), (h5, kAi cint 41 f5), (h6, kAi cint 40 f6)])) (va_Qi (fun (r : Int32) (_ : Unit) => (n1_size.toInt < 41 ∧ (0 : Int32) = r) ∨ (n1_size.toInt < 41 ∧ (1 : Int32) = r)) (fun (_ : Unit) t => ∃ (g2 : Nat → Int32) (g3 : Nat → Int32) (g4 : Nat → Int32) (g5 : Nat → Int32), (∀ j, j < 41 → 0 ≤ (g4 j).toInt ∧ (g4 j).toInt ≤ 6) ∧ va_P (dC, dI) vwCl [(h0, kO3 h2 h3 h4 h5), (h1, kO9 h6 h7 h8 n1_size), (h2, kAi cint 41 g2), (h3, kAi cint 41 g3), (h4, kAi cint 41 g4), (h5, kAi cint 41 g5), (h6, kAi cint 40 f6)] t.heap ∧ va_K (dC, dI) vwCl [] t ∧ va_D (va_A [(h0, kO3 h2 h3 h4 h5), (h1, kO9 h6 h7 h8 n1_size), (h2, kAi cint 41 f2), (h3, kAi cint 41 f3), (h4, kAi cint 41 f4), (h5, kAi cint 41 f5), (h6, kAi cint 40 f6)] sz) [(h0, kO3 h2 h3 h4 h5), (h1, kO9 h6 h7 h8 n1_size), (h2, kAi cint 41 g2), (h3, kAi cint 41 g3), (h4, kAi cint 41 g4), (h5, kAi cint 41 g5), (h6, kAi cint 40 f6)]) (va_A [(h0, kO3 h2 h3 h4 h5), (h1, kO9 h6 h7 h8 n1_size), (h2, kAi cint 41 f2), (h3, kAi cint 41 f3), (h4, kAi cint 41 f4), (h5, kAi cint 41 f5), (h6, kAi cint 40 f6)] sz)) 0 0 (va_A [(h0, kO3 h2 h3 h4 h5), (h1, kO9 h6 h7 h8 n1_size), (h2, kAi cint 41 f2), (h3, kAi cint 41 f3), (h4, kAi cint 41 f4), (h5, kAi cint 41 f5), (h6, kAi cint 40 f6)] sz) := by
  refine Met.ofW (cc := cX3_canPart) (maxL := 6) (ret := (some .boolean)) (by decide) rfl ?_
  intro p e s m args below meth c s₁ B hml hv
  obtain ⟨rfl, hsz, hP, hK, hD0⟩ := hv
  have hx := B.exec
  have hb := B.bytes
  have hr := B.returns
  have hts := atoms_spec (ws := wsX3_canPart) B.pre
  have hown : s.vm.findClass RX3 = some m.cls := findClass_of_methodNamed B.named
  have hlocks := B.notSynchronized
  subst hsz
  have hD := hD0.self (sz := s.heap.size)
  generalize hAe : va_A [(h0, kO3 h2 h3 h4 h5), (h1, kO9 h6 h7 h8 n1_size), (h2, kAi cint 41 f2), (h3, kAi cint 41 f3), (h4, kAi cint 41 f4), (h5, kAi cint 41 f5), (h6, kAi cint 40 f6)] s.heap.size = A at hD ⊢
  have hA : ∀ q : Nat, s.heap.size ≤ q → A q := fun q h => by rw [← hAe]; exact Or.inr h
  have hS : va_S A s.heap s.heap [] := va_S.rf
  have hP : va_P (dC, dI) vwCl [(h0, kO3 h2 h3 h4 h5), (h1, kO9 h6 h7 h8 n1_size), (h2, kAi cint 41 f2), (h3, kAi cint 41 f3), (h4, kAi cint 41 f4), (h5, kAi cint 41 f5), (h6, kAi cint 40 f6)] s.heap := hP
  have hl := lv_entry ([.ref h0, .ref h1, .int p1, .int p2]) (n := 6) (Nat.le_of_ble_eq_true rfl)
  rw [lg_entry_eq]
  generalize (lg_sl ([.ref h0, .ref h1, .int p1, .int p2]) ++ List.replicate (6 - (lg_sl ([.ref h0, .ref h1, .int p1, .int p2])).length) Slot.unset).toArray = ls at hl ⊢
  have hl : lv_has ls 6 [(0, .ref h0), (1, .ref h1), (2, .int p1), (3, .int p2)] := hl
  refine lv_aload_n hx hb dX3_canPart_0 rfl (lv_at hl 1 rfl) ?_
  have hPc := kk_Ps (wq := [(h1, kO9 h6 h7 h8 n1_size)]) hP [1] rfl
  have hDc := kk_Ds (wq := [(h1, kO9 h6 h7 h8 n1_size)]) hD [1] (by decide) rfl
  have hKc := kk_Ks (tq := []) hK [] rfl
  have hFc := va_free (wc := [(h1, kO9 h6 h7 h8 n1_size)]) hD hS hA [1] rfl
  refine va_calli (va_runV (As := []) (rest := []) ⟨hx, hb, hml, hown, hts⟩ (g_X9_size_0 l dC dI h1 h6 h7 h8 s.heap.size n1_size tn1_size) (cwV 0 hts gX3_canPart_X9_size rfl rfl rfl ⟨rfl, kh_X9_size⟩ ⟨Nat.le_of_ble_eq_true rfl, Nat.le_of_ble_eq_true rfl⟩) ⟨fun a U g mk q => by obtain ⟨q0, q1, qP, qK, qD⟩ := q; exact ⟨q0, q1, qP, va_K.moved (u := U) (U := U.calling g mk a) (Vm.Alike.refl U.vm) qK, qD⟩, va_recv hKc hPc (ci := 9) (q0 := 0) rfl rfl, fun U hU hW => ⟨rfl, by rw [hU], by rw [hU]; exact hPc, va_K.moved hW.alike hKc, hDc.weaken (fun _ _ _ _ => trivial)⟩⟩ rfl rfl hl.1 rfl (lv_room (Nat.le_of_ble_eq_true rfl)) dX3_canPart_1 ⟨Nat.le_of_ble_eq_true rfl, Nat.le_of_ble_eq_true rfl⟩) hS (fun q _ h => hFc q h) hFc (fun r_1 u t H1 locs ht hvm hw hB hz1 hk1 hS => ?_)
  obtain ⟨hP1, hK1, hD1⟩ := hB
  rw [ht] at hP1
  have hK1 := va_K.moved hvm.symm hK1
  obtain ⟨hP, hD⟩ := va_join (wr := [(h0, kO3 h2 h3 h4 h5), (h2, kAi cint 41 f2), (h3, kAi cint 41 f3), (h4, kAi cint 41 f4), (h5, kAi cint 41 f5), (h6, kAi cint 40 f6)]) (w1 := [(h1, kO9 h6 h7 h8 n1_size)]) hP hD [1] [0, 2, 3, 4, 5, 6] rfl rfl (by decide) (by decide) hk1 hFc hP1 hD1
  generalize H1 = H at hP hS ⊢
  have hP : va_P (dC, dI) vwCl [(h0, kO3 h2 h3 h4 h5), (h2, kAi cint 41 f2), (h3, kAi cint 41 f3), (h4, kAi cint 41 f4), (h5, kAi cint 41 f5), (h6, kAi cint 40 f6), (h1, kO9 h6 h7 h8 n1_size)] H := hP
  have hD : va_D A [(h0, kO3 h2 h3 h4 h5), (h2, kAi cint 41 f2), (h3, kAi cint 41 f3), (h4, kAi cint 41 f4), (h5, kAi cint 41 f5), (h6, kAi cint 40 f6), (h1, kO9 h6 h7 h8 n1_size)] := hD
  obtain rfl := hw
  refine lv_istore hx hb dX3_canPart_4 hl (by decide) (rfl : _ = ([(4, .int n1_size), (0, .ref h0), (1, .ref h1), (2, .int p1), (3, .int p2)] : List (Nat × Value))) (fun ls hl => ?_)
  refine lv_iload hx hb dX3_canPart_6 (lv_at hl 0 rfl) ?_
  refine lv_if_lt (tgt := 21) hx hb dX3_canPart_8 (by decide) (fun c_2 => ?_) (fun c_2 => ?_)
  · have t_2 : n1_size.toInt < 0 := kk_lt c_2
    exfalso; omega
  · have t_2 : 0 ≤ n1_size.toInt := kk_nlt c_2
    refine lv_iload hx hb dX3_canPart_11 (lv_at hl 0 rfl) ?_
    refine lv_aload_n hx hb dX3_canPart_13 rfl (lv_at hl 1 rfl) ?_
    refine va_get (D := (dC, dI)) (ci := 3) (v := .ref h2) (C := RX3) (T := TX3) (N := 4) hx hb hts (fun _ h => List.mem_cons_of_mem _ (List.mem_append_left _ (List.mem_append_right _ h))) hown hK hP 0 rfl rfl 0 (by decide) (hts (.fieldLink RX3 9 "KinkStreet$FirstPlots" "costs" "[I") (List.mem_of_getElem? (i := 1) rfl)) (fun _ h9 => h9) rfl dX3_canPart_14 ?_
    refine va_alen (v := 41) hx hb hK hP 1 0 rfl rfl rfl dX3_canPart_17 ?_
    refine lv_icmp_lt (tgt := 23) hx hb dX3_canPart_18 (by decide) (fun c_3 => ?_) (fun c_3 => ?_)
    · have t_3 : n1_size.toInt < 41 := kk_lt c_3
      refine lv_aload_n hx hb dX3_canPart_23 rfl (lv_at hl 1 rfl) ?_
      refine va_get (D := (dC, dI)) (ci := 3) (v := .ref h2) (C := RX3) (T := TX3) (N := 4) hx hb hts (fun _ h => List.mem_cons_of_mem _ (List.mem_append_left _ (List.mem_append_right _ h))) hown hK hP 0 rfl rfl 0 (by decide) (hts (.fieldLink RX3 9 "KinkStreet$FirstPlots" "costs" "[I") (List.mem_of_getElem? (i := 1) rfl)) (fun _ h9 => h9) rfl dX3_canPart_24 ?_
      refine lv_iload hx hb dX3_canPart_27 (lv_at hl 0 rfl) ?_
      refine lv_iconst (v := 0) hx hb dX3_canPart_29 kk_ic_0 ?_
      refine va_iast hx hb hK hP hD hS 1 0 rfl rfl (vp_in_iff.mpr ⟨by omega, by omega⟩) dX3_canPart_30 (fun H locs hP hD hS => ?_)
      generalize upd f2 (n1_size : Int32).toNatClampNeg 0 = f_4 at hP hD
      have hP : va_P (dC, dI) vwCl [(h0, kO3 h2 h3 h4 h5), (h2, kAi cint 41 f_4), (h3, kAi cint 41 f3), (h4, kAi cint 41 f4), (h5, kAi cint 41 f5), (h6, kAi cint 40 f6), (h1, kO9 h6 h7 h8 n1_size)] H := hP
      have hD : va_D A [(h0, kO3 h2 h3 h4 h5), (h2, kAi cint 41 f_4), (h3, kAi cint 41 f3), (h4, kAi cint 41 f4), (h5, kAi cint 41 f5), (h6, kAi cint 40 f6), (h1, kO9 h6 h7 h8 n1_size)] := hD
      refine lv_aload_n hx hb dX3_canPart_31 rfl (lv_at hl 1 rfl) ?_
      refine va_get (D := (dC, dI)) (ci := 3) (v := .ref h3) (C := RX3) (T := TX3) (N := 4) hx hb hts (fun _ h => List.mem_cons_of_mem _ (List.mem_append_left _ (List.mem_append_right _ h))) hown hK hP 0 rfl rfl 1 (by decide) (hts (.fieldLink RX3 15 "KinkStreet$FirstPlots" "groupCounts" "[I") (List.mem_of_getElem? (i := 2) rfl)) (fun _ h9 => h9) rfl dX3_canPart_32 ?_
      refine lv_iload hx hb dX3_canPart_35 (lv_at hl 0 rfl) ?_
      refine lv_iconst (v := 0) hx hb dX3_canPart_37 kk_ic_0 ?_
      refine va_iast hx hb hK hP hD hS 2 0 rfl rfl (vp_in_iff.mpr ⟨by omega, by omega⟩) dX3_canPart_38 (fun H locs hP hD hS => ?_)
      generalize upd f3 (n1_size : Int32).toNatClampNeg 0 = f_5 at hP hD
      have hP : va_P (dC, dI) vwCl [(h0, kO3 h2 h3 h4 h5), (h2, kAi cint 41 f_4), (h3, kAi cint 41 f_5), (h4, kAi cint 41 f4), (h5, kAi cint 41 f5), (h6, kAi cint 40 f6), (h1, kO9 h6 h7 h8 n1_size)] H := hP
      have hD : va_D A [(h0, kO3 h2 h3 h4 h5), (h2, kAi cint 41 f_4), (h3, kAi cint 41 f_5), (h4, kAi cint 41 f4), (h5, kAi cint 41 f5), (h6, kAi cint 40 f6), (h1, kO9 h6 h7 h8 n1_size)] := hD
      refine lv_aload_n hx hb dX3_canPart_39 rfl (lv_at hl 1 rfl) ?_
      refine va_get (D := (dC, dI)) (ci := 3) (v := .ref h4) (C := RX3) (T := TX3) (N := 4) hx hb hts (fun _ h => List.mem_cons_of_mem _ (List.mem_append_left _ (List.mem_append_right _ h))) hown hK hP 0 rfl rfl 2 (by decide) (hts (.fieldLink RX3 18 "KinkStreet$FirstPlots" "groupPlots" "[I") (List.mem_of_getElem? (i := 3) rfl)) (fun _ h9 => h9) rfl dX3_canPart_40 ?_
      refine lv_iload hx hb dX3_canPart_43 (lv_at hl 0 rfl) ?_
      refine lv_iconst (v := 0) hx hb dX3_canPart_45 kk_ic_0 ?_
      refine va_iast hx hb hK hP hD hS 3 0 rfl rfl (vp_in_iff.mpr ⟨by omega, by omega⟩) dX3_canPart_46 (fun H locs hP hD hS => ?_)
      have b_6 := kk_upb (k := (n1_size : Int32).toNatClampNeg) bf4 (show 0 ≤ (0 : Int32).toInt ∧ (0 : Int32).toInt ≤ 6 from by first | decide | ((omega)))
      generalize upd f4 (n1_size : Int32).toNatClampNeg 0 = f_6 at hP hD b_6
      have hP : va_P (dC, dI) vwCl [(h0, kO3 h2 h3 h4 h5), (h2, kAi cint 41 f_4), (h3, kAi cint 41 f_5), (h4, kAi cint 41 f_6), (h5, kAi cint 41 f5), (h6, kAi cint 40 f6), (h1, kO9 h6 h7 h8 n1_size)] H := hP
      have hD : va_D A [(h0, kO3 h2 h3 h4 h5), (h2, kAi cint 41 f_4), (h3, kAi cint 41 f_5), (h4, kAi cint 41 f_6), (h5, kAi cint 41 f5), (h6, kAi cint 40 f6), (h1, kO9 h6 h7 h8 n1_size)] := hD
      refine lv_aload_n hx hb dX3_canPart_47 rfl (lv_at hl 1 rfl) ?_
      refine va_get (D := (dC, dI)) (ci := 3) (v := .ref h5) (C := RX3) (T := TX3) (N := 4) hx hb hts (fun _ h => List.mem_cons_of_mem _ (List.mem_append_left _ (List.mem_append_right _ h))) hown hK hP 0 rfl rfl 3 (by decide) (hts (.fieldLink RX3 21 "KinkStreet$FirstPlots" "groupFirstOnes" "[I") (List.mem_of_getElem? (i := 4) rfl)) (fun _ h9 => h9) rfl dX3_canPart_48 ?_
      refine lv_iload hx hb dX3_canPart_51 (lv_at hl 0 rfl) ?_
      refine lv_iconst (v := 0) hx hb dX3_canPart_53 kk_ic_0 ?_
      refine va_iast hx hb hK hP hD hS 4 0 rfl rfl (vp_in_iff.mpr ⟨by omega, by omega⟩) dX3_canPart_54 (fun H locs hP hD hS => ?_)
      generalize upd f5 (n1_size : Int32).toNatClampNeg 0 = f_7 at hP hD
      have hP : va_P (dC, dI) vwCl [(h0, kO3 h2 h3 h4 h5), (h2, kAi cint 41 f_4), (h3, kAi cint 41 f_5), (h4, kAi cint 41 f_6), (h5, kAi cint 41 f_7), (h6, kAi cint 40 f6), (h1, kO9 h6 h7 h8 n1_size)] H := hP
      have hD : va_D A [(h0, kO3 h2 h3 h4 h5), (h2, kAi cint 41 f_4), (h3, kAi cint 41 f_5), (h4, kAi cint 41 f_6), (h5, kAi cint 41 f_7), (h6, kAi cint 40 f6), (h1, kO9 h6 h7 h8 n1_size)] := hD
      refine lv_iload hx hb dX3_canPart_55 (lv_at hl 0 rfl) ?_
      refine lv_iconst (v := 1) hx hb dX3_canPart_57 kk_ic_1 ?_
      refine lv_isub hx hb dX3_canPart_58 ?_
      refine lv_istore hx hb dX3_canPart_59 hl (by decide) (rfl : _ = ([(5, .int (n1_size - 1)), (4, .int n1_size), (0, .ref h0), (1, .ref h1), (2, .int p1), (3, .int p2)] : List (Nat × Value))) (fun ls hl => ?_)
      try have := kk_sub2 (x := n1_size) (y := 1) (a := n1_size.toInt) (b := 1) rfl rfl (by omega) (by omega)
      refine kk_loop (σ := Int32 × (Nat → Int32) × (Nat → Int32) × (Nat → Int32) × (Nat → Int32)) (fun x H locs ls => ((-1) ≤ x.1.toInt ∧ x.1.toInt ≤ 39) ∧ (∀ j, j < 41 → 0 ≤ (x.2.2.2.1 j).toInt ∧ (x.2.2.2.1 j).toInt ≤ 6) ∧ x.1.toInt ≤ (n1_size - 1).toInt ∧ va_P (dC, dI) vwCl [(h0, kO3 h2 h3 h4 h5), (h2, kAi cint 41 x.2.1), (h3, kAi cint 41 x.2.2.1), (h4, kAi cint 41 x.2.2.2.1), (h5, kAi cint 41 x.2.2.2.2), (h6, kAi cint 40 f6), (h1, kO9 h6 h7 h8 n1_size)] H ∧ va_D A [(h0, kO3 h2 h3 h4 h5), (h2, kAi cint 41 x.2.1), (h3, kAi cint 41 x.2.2.1), (h4, kAi cint 41 x.2.2.2.1), (h5, kAi cint 41 x.2.2.2.2), (h6, kAi cint 40 f6), (h1, kO9 h6 h7 h8 n1_size)] ∧ va_S A s.heap H locs ∧ lv_has ls 6 [(5, .int x.1), (4, .int n1_size), (0, .ref h0), (1, .ref h1), (2, .int p1), (3, .int p2)]) (fun x => (x.1.toInt + (1 : Int)).toNat) ?_ ((n1_size - 1), f_4, f_5, f_6, f_7) _ _ _ ⟨(by show (-1) ≤ ((n1_size - 1) : Int32).toInt ∧ ((n1_size - 1) : Int32).toInt ≤ 39; first | decide | ((omega))), b_6, (by show ((n1_size - 1) : Int32).toInt ≤ ((n1_size - 1) : Int32).toInt; first | decide | (omega)), hP, hD, hS, hl⟩
      rintro ⟨i_8_0, f_8_1, f_8_2, f_8_3, f_8_4⟩ H locs ls ⟨t_8_0, b_8_3, z_8_0, hP, hD, hS, hl⟩ ih_8
      have t_8_0 : ((-1) ≤ i_8_0.toInt ∧ i_8_0.toInt ≤ 39) := t_8_0
      have b_8_3 : (∀ j, j < 41 → 0 ≤ (f_8_3 j).toInt ∧ (f_8_3 j).toInt ≤ 6) := b_8_3
      have z_8_0 : i_8_0.toInt ≤ (n1_size - 1).toInt := z_8_0
      have hl : lv_has ls 6 [(5, .int i_8_0), (4, .int n1_size), (0, .ref h0), (1, .ref h1), (2, .int p1), (3, .int p2)] := hl
      have hP : va_P (dC, dI) vwCl [(h0, kO3 h2 h3 h4 h5), (h2, kAi cint 41 f_8_1), (h3, kAi cint 41 f_8_2), (h4, kAi cint 41 f_8_3), (h5, kAi cint 41 f_8_4), (h6, kAi cint 40 f6), (h1, kO9 h6 h7 h8 n1_size)] H := hP
      have hD : va_D A [(h0, kO3 h2 h3 h4 h5), (h2, kAi cint 41 f_8_1), (h3, kAi cint 41 f_8_2), (h4, kAi cint 41 f_8_3), (h5, kAi cint 41 f_8_4), (h6, kAi cint 40 f6), (h1, kO9 h6 h7 h8 n1_size)] := hD
      refine lv_iload hx hb dX3_canPart_61 (lv_at hl 0 rfl) ?_
      refine lv_if_lt (tgt := 81) hx hb dX3_canPart_63 (by decide) (fun c_33 => ?_) (fun c_33 => ?_)
      · have t_33 : i_8_0.toInt < 0 := kk_lt c_33
        refine lv_aload_n hx hb dX3_canPart_81 rfl (lv_at hl 2 rfl) ?_
        refine va_get (D := (dC, dI)) (ci := 3) (v := .ref h2) (C := RX3) (T := TX3) (N := 4) hx hb hts (fun _ h => List.mem_cons_of_mem _ (List.mem_append_left _ (List.mem_append_right _ h))) hown hK hP 0 rfl rfl 0 (by decide) (hts (.fieldLink RX3 9 "KinkStreet$FirstPlots" "costs" "[I") (List.mem_of_getElem? (i := 1) rfl)) (fun _ h9 => h9) rfl dX3_canPart_82 ?_
        refine lv_iconst (v := 0) hx hb dX3_canPart_85 kk_ic_0 ?_
        have hi_34 : vp_in 0 41 := (by unfold vp_in; decide)
        refine va_iald hx hb hK hP 1 0 rfl rfl hi_34 dX3_canPart_86 ?_
        refine lv_topi (fun y_34 e_34 => ?_)
        clear e_34
        refine lv_ldc hx hb hown (hts _ (List.mem_of_getElem? (i := 5) rfl)) dX3_canPart_87 ?_
        refine lv_icmp_ge (tgt := 96) hx hb dX3_canPart_89 (by decide) (fun c_35 => ?_) (fun c_35 => ?_)
        · have t_35 : 1000000000 ≤ y_34.toInt := kk_le c_35
          refine lv_iconst (v := 0) hx hb dX3_canPart_96 kk_ic_0 ?_
          have hP9 := kk_Ps (wq := [(h0, kO3 h2 h3 h4 h5), (h1, kO9 h6 h7 h8 n1_size), (h2, kAi cint 41 f_8_1), (h3, kAi cint 41 f_8_2), (h4, kAi cint 41 f_8_3), (h5, kAi cint 41 f_8_4), (h6, kAi cint 40 f6)]) hP [0, 6, 1, 2, 3, 4, 5] rfl
          have hD9 := kk_Ds (wq := [(h0, kO3 h2 h3 h4 h5), (h1, kO9 h6 h7 h8 n1_size), (h2, kAi cint 41 f_8_1), (h3, kAi cint 41 f_8_2), (h4, kAi cint 41 f_8_3), (h5, kAi cint 41 f_8_4), (h6, kAi cint 40 f6)]) hD [0, 6, 1, 2, 3, 4, 5] (by decide) rfl
          have hK9 := kk_Ks (tq := []) hK [] rfl
          try have := kk_rng y_34
          exact W.zret (v := 0) hx hb hr rfl (fun t ht hW => ⟨⟨0, (), rfl, Or.inl ⟨by first | with_reducible assumption | (omega) | assumption, rfl⟩, f_8_1, f_8_2, f_8_3, f_8_4, b_8_3, by rw [ht]; exact hP9, va_K.moved hW.alike hK9, hD9⟩, hS.F ht⟩) hS.2.2 dX3_canPart_97
        · have t_35 : y_34.toInt < 1000000000 := kk_nle c_35
          refine lv_iconst (v := 1) hx hb dX3_canPart_92 kk_ic_1 ?_
          refine lv_goto (tgt := 97) hx hb dX3_canPart_93 (by decide) ?_
          have hP9 := kk_Ps (wq := [(h0, kO3 h2 h3 h4 h5), (h1, kO9 h6 h7 h8 n1_size), (h2, kAi cint 41 f_8_1), (h3, kAi cint 41 f_8_2), (h4, kAi cint 41 f_8_3), (h5, kAi cint 41 f_8_4), (h6, kAi cint 40 f6)]) hP [0, 6, 1, 2, 3, 4, 5] rfl
          have hD9 := kk_Ds (wq := [(h0, kO3 h2 h3 h4 h5), (h1, kO9 h6 h7 h8 n1_size), (h2, kAi cint 41 f_8_1), (h3, kAi cint 41 f_8_2), (h4, kAi cint 41 f_8_3), (h5, kAi cint 41 f_8_4), (h6, kAi cint 40 f6)]) hD [0, 6, 1, 2, 3, 4, 5] (by decide) rfl
          have hK9 := kk_Ks (tq := []) hK [] rfl
          try have := kk_rng y_34
          exact W.zret (v := 1) hx hb hr rfl (fun t ht hW => ⟨⟨1, (), rfl, Or.inr (⟨by first | with_reducible assumption | (omega) | assumption, rfl⟩), f_8_1, f_8_2, f_8_3, f_8_4, b_8_3, by rw [ht]; exact hP9, va_K.moved hW.alike hK9, hD9⟩, hS.F ht⟩) hS.2.2 dX3_canPart_97
      · have t_33 : 0 ≤ i_8_0.toInt := kk_nlt c_33
        refine lv_aload_n hx hb dX3_canPart_66 rfl (lv_at hl 2 rfl) ?_
        refine lv_aload_n hx hb dX3_canPart_67 rfl (lv_at hl 3 rfl) ?_
        refine lv_iload hx hb dX3_canPart_68 (lv_at hl 0 rfl) ?_
        refine lv_iload_n hx hb dX3_canPart_70 rfl (lv_at hl 4 rfl) ?_
        refine lv_iload_n hx hb dX3_canPart_71 rfl (lv_at hl 5 rfl) ?_
        have hPc := kk_Ps (wq := [(h0, kO3 h2 h3 h4 h5), (h1, kO9 h6 h7 h8 n1_size), (h2, kAi cint 41 f_8_1), (h3, kAi cint 41 f_8_2), (h4, kAi cint 41 f_8_3), (h5, kAi cint 41 f_8_4), (h6, kAi cint 40 f6)]) hP [0, 6, 1, 2, 3, 4, 5] rfl
        have hDc := kk_Ds (wq := [(h0, kO3 h2 h3 h4 h5), (h1, kO9 h6 h7 h8 n1_size), (h2, kAi cint 41 f_8_1), (h3, kAi cint 41 f_8_2), (h4, kAi cint 41 f_8_3), (h5, kAi cint 41 f_8_4), (h6, kAi cint 40 f6)]) hD [0, 6, 1, 2, 3, 4, 5] (by decide) rfl
        have hKc := kk_Ks (tq := [(cint, .int)]) hK [0] rfl
        have hFc := va_free (wc := [(h0, kO3 h2 h3 h4 h5), (h1, kO9 h6 h7 h8 n1_size), (h2, kAi cint 41 f_8_1), (h3, kAi cint 41 f_8_2), (h4, kAi cint 41 f_8_3), (h5, kAi cint 41 f_8_4), (h6, kAi cint 40 f6)]) hD hS hA [0, 6, 1, 2, 3, 4, 5] rfl
        refine va_callv (va_runV (As := [.ref h1, .int i_8_0, .int p1, .int p2]) (rest := []) ⟨hx, hb, hml, hown, hts⟩ (g_X3_chooseGroup_0 l dC dI h0 h1 h2 h3 h4 h5 h6 h7 h8 cint H.size i_8_0 p1 p2 (by show 0 ≤ (i_8_0 : Int32).toInt ∧ (i_8_0 : Int32).toInt ≤ 39; first | decide | ((omega))) n1_size f_8_1 f_8_2 f_8_3 f_8_4 f6 tn1_size b_8_3) (cwV 4 hts gX3_canPart_X3_chooseGroup rfl rfl rfl ⟨rfl, kh_X3_chooseGroup⟩ ⟨Nat.le_of_ble_eq_true rfl, Nat.le_of_ble_eq_true rfl⟩) ⟨fun a U g mk q => by obtain ⟨q0, q1, qP, qK, qD⟩ := q; exact ⟨q0, q1, qP, va_K.moved (u := U) (U := U.calling g mk a) (Vm.Alike.refl U.vm) qK, qD⟩, va_recv hKc hPc (ci := 3) (q0 := 0) rfl rfl, fun U hU hW => ⟨rfl, by rw [hU], by rw [hU]; exact hPc, va_K.moved hW.alike hKc, hDc.weaken (fun _ _ _ _ => trivial)⟩⟩ rfl rfl hl.1 rfl (lv_room (Nat.le_of_ble_eq_true rfl)) dX3_canPart_72 ⟨Nat.le_of_ble_eq_true rfl, Nat.le_of_ble_eq_true rfl⟩) hS (fun q _ h => hFc q h) hFc (fun u t H1 locs ht hvm hw hB hz1 hk1 hS => ?_)
        refine hB.elim (fun f_37 hB => ?_)
        refine hB.elim (fun f_38 hB => ?_)
        refine hB.elim (fun f_39 hB => ?_)
        refine hB.elim (fun f_40 hB => ?_)
        refine hB.elim (fun bf_39 hB => ?_)
        have hP1 := hB.1
        have hK1 := hB.2.1
        have hD1 := hB.2.2
        rw [ht] at hP1
        have hK1 := va_K.moved hvm.symm hK1
        obtain ⟨hP, hD⟩ := va_join (wr := []) (w1 := [(h0, kO3 h2 h3 h4 h5), (h1, kO9 h6 h7 h8 n1_size), (h2, kAi cint 41 f_37), (h3, kAi cint 41 f_38), (h4, kAi cint 41 f_39), (h5, kAi cint 41 f_40), (h6, kAi cint 40 f6)]) hP hD [0, 6, 1, 2, 3, 4, 5] [] rfl rfl (by decide) (by decide) hk1 hFc hP1 hD1
        generalize H1 = H at hP hS ⊢
        have hP : va_P (dC, dI) vwCl [(h0, kO3 h2 h3 h4 h5), (h1, kO9 h6 h7 h8 n1_size), (h2, kAi cint 41 f_37), (h3, kAi cint 41 f_38), (h4, kAi cint 41 f_39), (h5, kAi cint 41 f_40), (h6, kAi cint 40 f6)] H := hP
        have hD : va_D A [(h0, kO3 h2 h3 h4 h5), (h1, kO9 h6 h7 h8 n1_size), (h2, kAi cint 41 f_37), (h3, kAi cint 41 f_38), (h4, kAi cint 41 f_39), (h5, kAi cint 41 f_40), (h6, kAi cint 40 f6)] := hD
        refine lv_iinc (v := (i_8_0 + (-1))) hx hb dX3_canPart_75 hl (k := 0) rfl (by first | rfl | decide) (by decide) (rfl : _ = ([(5, .int (i_8_0 + (-1))), (4, .int n1_size), (0, .ref h0), (1, .ref h1), (2, .int p1), (3, .int p2)] : List (Nat × Value))) (fun ls hl => ?_)
        refine lv_goto (tgt := 61) hx hb dX3_canPart_78 (by decide) ?_
        try have := kk_add2 (x := i_8_0) (y := (-1)) (a := i_8_0.toInt) (b := (-1)) rfl rfl (by omega) (by omega)
        exact ih_8 ((i_8_0 + (-1)), f_37, f_38, f_39, f_40) _ _ _ (by show (((i_8_0 + (-1))).toInt + (1 : Int)).toNat < (i_8_0.toInt + (1 : Int)).toNat; exact kk_mu (by omega) (by omega)) ⟨(by show (-1) ≤ ((i_8_0 + (-1)) : Int32).toInt ∧ ((i_8_0 + (-1)) : Int32).toInt ≤ 39; first | decide | ((omega))), bf_39, (by show ((i_8_0 + (-1)) : Int32).toInt ≤ ((n1_size - 1) : Int32).toInt; first | decide | (omega)), hP.sub [0, 2, 3, 4, 5, 6, 1] rfl, hD.sub [0, 2, 3, 4, 5, 6, 1] (by decide) rfl, hS, lv_sub hl [0, 1, 2, 3, 4, 5] rfl⟩
    · have t_3 : 41 ≤ n1_size.toInt := kk_nlt c_3
      exfalso; omega
set_option maxHeartbeats 4000000 in
set_option maxRecDepth 100000 in
theorem g_X3_cost_0 (l : Launch) (dC : Nat → ClassId) (dI : Nat → Nat → Nat) (h0 : Nat) (h1 : Nat) (h2 : Nat) (h3 : Nat) (h4 : Nat) (cint : ClassId) (sz : Nat) (f1 : Nat → Int32) : Met l yX3_cost wsX3_cost ({ frames := 0, cells := 0, slots := 0, locals := 0 }) (va_Pc [.ref h0] (fun U => U.heap.size = sz ∧ va_P (dC, dI) vwCl [(h0, kO3 h1 h2 h3 h4), (h1, kAi cint 41 f1)] U.heap ∧ va_K (dC, dI) vwCl [(cint, .int)] U ∧ va_D (fun _ => True) [(h0, kO3 h1 h2 h3 h4), (h1, kAi cint 41 f1)])) (va_Qi (fun (r : Int32) (_ : Unit) => True) (fun (_ : Unit) t => va_P (dC, dI) vwCl [(h0, kO3 h1 h2 h3 h4), (h1, kAi cint 41 f1)] t.heap ∧ va_K (dC, dI) vwCl [] t ∧ va_D (va_A [(h0, kO3 h1 h2 h3 h4), (h1, kAi cint 41 f1)] sz) [(h0, kO3 h1 h2 h3 h4), (h1, kAi cint 41 f1)]) (va_A [(h0, kO3 h1 h2 h3 h4), (h1, kAi cint 41 f1)] sz)) 0 0 (va_A [(h0, kO3 h1 h2 h3 h4), (h1, kAi cint 41 f1)] sz) := by
  refine Met.ofW (cc := cX3_cost) (maxL := 1) (ret := (some .int)) (by decide) rfl ?_
  intro p e s m args below meth c s₁ B hml hv
  obtain ⟨rfl, hsz, hP, hK, hD0⟩ := hv
  have hx := B.exec
  have hb := B.bytes
  have hr := B.returns
  have hts := atoms_spec (ws := wsX3_cost) B.pre
  have hown : s.vm.findClass RX3 = some m.cls := findClass_of_methodNamed B.named
  have hlocks := B.notSynchronized
  subst hsz
  have hD := hD0.self (sz := s.heap.size)
  generalize hAe : va_A [(h0, kO3 h1 h2 h3 h4), (h1, kAi cint 41 f1)] s.heap.size = A at hD ⊢
  have hA : ∀ q : Nat, s.heap.size ≤ q → A q := fun q h => by rw [← hAe]; exact Or.inr h
  have hS : va_S A s.heap s.heap [] := va_S.rf
  have hP : va_P (dC, dI) vwCl [(h0, kO3 h1 h2 h3 h4), (h1, kAi cint 41 f1)] s.heap := hP
  have hl := lv_entry ([.ref h0]) (n := 1) (Nat.le_of_ble_eq_true rfl)
  rw [lg_entry_eq]
  generalize (lg_sl ([.ref h0]) ++ List.replicate (1 - (lg_sl ([.ref h0])).length) Slot.unset).toArray = ls at hl ⊢
  have hl : lv_has ls 1 [(0, .ref h0)] := hl
  refine lv_aload_n hx hb dX3_cost_0 rfl (lv_at hl 0 rfl) ?_
  refine va_get (D := (dC, dI)) (ci := 3) (v := .ref h1) (C := RX3) (T := TX3) (N := 4) hx hb hts (fun _ h => List.mem_cons_of_mem _ (List.mem_append_right _ h)) hown hK hP 0 rfl rfl 0 (by decide) (hts (.fieldLink RX3 9 "KinkStreet$FirstPlots" "costs" "[I") (List.mem_of_getElem? (i := 1) rfl)) (fun _ h9 => h9) rfl dX3_cost_1 ?_
  refine lv_iconst (v := 0) hx hb dX3_cost_4 kk_ic_0 ?_
  have hi_1 : vp_in 0 41 := (by unfold vp_in; decide)
  refine va_iald hx hb hK hP 1 0 rfl rfl hi_1 dX3_cost_5 ?_
  refine lv_topi (fun y_1 e_1 => ?_)
  clear e_1
  have hP9 := kk_Ps (wq := [(h0, kO3 h1 h2 h3 h4), (h1, kAi cint 41 f1)]) hP [0, 1] rfl
  have hD9 := kk_Ds (wq := [(h0, kO3 h1 h2 h3 h4), (h1, kAi cint 41 f1)]) hD [0, 1] (by decide) rfl
  have hK9 := kk_Ks (tq := []) hK [] rfl
  exact W.iret (v := y_1) hx hb hr (fun t ht hW => ⟨⟨y_1, (), rfl, trivial, by rw [ht]; exact hP9, va_K.moved hW.alike hK9, hD9⟩, hS.F ht⟩) hS.2.2 dX3_cost_6
set_option maxHeartbeats 4000000 in
set_option maxRecDepth 100000 in
theorem g_X3_groups_0 (l : Launch) (dC : Nat → ClassId) (dI : Nat → Nat → Nat) (h0 : Nat) (h1 : Nat) (h2 : Nat) (h3 : Nat) (h4 : Nat) (cint : ClassId) (sz : Nat) (f1 : Nat → Int32) : Met l yX3_groups wsX3_groups ({ frames := 0, cells := 0, slots := 0, locals := 0 }) (va_Pc [.ref h0] (fun U => U.heap.size = sz ∧ va_P (dC, dI) vwCl [(h0, kO3 h2 h1 h3 h4), (h1, kAi cint 41 f1)] U.heap ∧ va_K (dC, dI) vwCl [(cint, .int)] U ∧ va_D (fun _ => True) [(h0, kO3 h2 h1 h3 h4), (h1, kAi cint 41 f1)])) (va_Qi (fun (r : Int32) (_ : Unit) => True) (fun (_ : Unit) t => va_P (dC, dI) vwCl [(h0, kO3 h2 h1 h3 h4), (h1, kAi cint 41 f1)] t.heap ∧ va_K (dC, dI) vwCl [] t ∧ va_D (va_A [(h0, kO3 h2 h1 h3 h4), (h1, kAi cint 41 f1)] sz) [(h0, kO3 h2 h1 h3 h4), (h1, kAi cint 41 f1)]) (va_A [(h0, kO3 h2 h1 h3 h4), (h1, kAi cint 41 f1)] sz)) 0 0 (va_A [(h0, kO3 h2 h1 h3 h4), (h1, kAi cint 41 f1)] sz) := by
  refine Met.ofW (cc := cX3_groups) (maxL := 1) (ret := (some .int)) (by decide) rfl ?_
  intro p e s m args below meth c s₁ B hml hv
  obtain ⟨rfl, hsz, hP, hK, hD0⟩ := hv
  have hx := B.exec
  have hb := B.bytes
  have hr := B.returns
  have hts := atoms_spec (ws := wsX3_groups) B.pre
  have hown : s.vm.findClass RX3 = some m.cls := findClass_of_methodNamed B.named
  have hlocks := B.notSynchronized
  subst hsz
  have hD := hD0.self (sz := s.heap.size)
  generalize hAe : va_A [(h0, kO3 h2 h1 h3 h4), (h1, kAi cint 41 f1)] s.heap.size = A at hD ⊢
  have hA : ∀ q : Nat, s.heap.size ≤ q → A q := fun q h => by rw [← hAe]; exact Or.inr h
  have hS : va_S A s.heap s.heap [] := va_S.rf
  have hP : va_P (dC, dI) vwCl [(h0, kO3 h2 h1 h3 h4), (h1, kAi cint 41 f1)] s.heap := hP
  have hl := lv_entry ([.ref h0]) (n := 1) (Nat.le_of_ble_eq_true rfl)
  rw [lg_entry_eq]
  generalize (lg_sl ([.ref h0]) ++ List.replicate (1 - (lg_sl ([.ref h0])).length) Slot.unset).toArray = ls at hl ⊢
  have hl : lv_has ls 1 [(0, .ref h0)] := hl
  refine lv_aload_n hx hb dX3_groups_0 rfl (lv_at hl 0 rfl) ?_
  refine va_get (D := (dC, dI)) (ci := 3) (v := .ref h1) (C := RX3) (T := TX3) (N := 4) hx hb hts (fun _ h => List.mem_cons_of_mem _ (List.mem_append_right _ h)) hown hK hP 0 rfl rfl 1 (by decide) (hts (.fieldLink RX3 15 "KinkStreet$FirstPlots" "groupCounts" "[I") (List.mem_of_getElem? (i := 1) rfl)) (fun _ h9 => h9) rfl dX3_groups_1 ?_
  refine lv_iconst (v := 0) hx hb dX3_groups_4 kk_ic_0 ?_
  have hi_1 : vp_in 0 41 := (by unfold vp_in; decide)
  refine va_iald hx hb hK hP 1 0 rfl rfl hi_1 dX3_groups_5 ?_
  refine lv_topi (fun y_1 e_1 => ?_)
  clear e_1
  have hP9 := kk_Ps (wq := [(h0, kO3 h2 h1 h3 h4), (h1, kAi cint 41 f1)]) hP [0, 1] rfl
  have hD9 := kk_Ds (wq := [(h0, kO3 h2 h1 h3 h4), (h1, kAi cint 41 f1)]) hD [0, 1] (by decide) rfl
  have hK9 := kk_Ks (tq := []) hK [] rfl
  exact W.iret (v := y_1) hx hb hr (fun t ht hW => ⟨⟨y_1, (), rfl, trivial, by rw [ht]; exact hP9, va_K.moved hW.alike hK9, hD9⟩, hS.F ht⟩) hS.2.2 dX3_groups_6
set_option maxHeartbeats 4000000 in
set_option maxRecDepth 100000 in
theorem g_X3_firstOnesAhead_0 (l : Launch) (dC : Nat → ClassId) (dI : Nat → Nat → Nat) (h0 : Nat) (h1 : Nat) (h2 : Nat) (h3 : Nat) (h4 : Nat) (cint : ClassId) (sz : Nat) (p0 : Int32) (f1 : Nat → Int32) (f2 : Nat → Int32) (bf1 : ∀ j, j < 41 → 0 ≤ (f1 j).toInt ∧ (f1 j).toInt ≤ 6) : Met l yX3_firstOnesAhead wsX3_firstOnesAhead ({ frames := 0, cells := 0, slots := 0, locals := 0 }) (va_Pc [.ref h0, .int p0] (fun U => U.heap.size = sz ∧ va_P (dC, dI) vwCl [(h0, kO3 h3 h4 h1 h2), (h1, kAi cint 41 f1), (h2, kAi cint 41 f2)] U.heap ∧ va_K (dC, dI) vwCl [(cint, .int)] U ∧ va_D (fun _ => True) [(h0, kO3 h3 h4 h1 h2), (h1, kAi cint 41 f1), (h2, kAi cint 41 f2)])) (va_Qi (fun (r : Int32) (_ : Unit) => True) (fun (_ : Unit) t => va_P (dC, dI) vwCl [(h0, kO3 h3 h4 h1 h2), (h1, kAi cint 41 f1), (h2, kAi cint 41 f2)] t.heap ∧ va_K (dC, dI) vwCl [] t ∧ va_D (va_A [(h0, kO3 h3 h4 h1 h2), (h1, kAi cint 41 f1), (h2, kAi cint 41 f2)] sz) [(h0, kO3 h3 h4 h1 h2), (h1, kAi cint 41 f1), (h2, kAi cint 41 f2)]) (va_A [(h0, kO3 h3 h4 h1 h2), (h1, kAi cint 41 f1), (h2, kAi cint 41 f2)] sz)) 0 0 (va_A [(h0, kO3 h3 h4 h1 h2), (h1, kAi cint 41 f1), (h2, kAi cint 41 f2)] sz) := by
  refine Met.ofW (cc := cX3_firstOnesAhead) (maxL := 6) (ret := (some .int)) (by decide) rfl ?_
  intro p e s m args below meth c s₁ B hml hv
  obtain ⟨rfl, hsz, hP, hK, hD0⟩ := hv
  have hx := B.exec
  have hb := B.bytes
  have hr := B.returns
  have hts := atoms_spec (ws := wsX3_firstOnesAhead) B.pre
  have hown : s.vm.findClass RX3 = some m.cls := findClass_of_methodNamed B.named
  have hlocks := B.notSynchronized
  subst hsz
  have hD := hD0.self (sz := s.heap.size)
  generalize hAe : va_A [(h0, kO3 h3 h4 h1 h2), (h1, kAi cint 41 f1), (h2, kAi cint 41 f2)] s.heap.size = A at hD ⊢
  have hA : ∀ q : Nat, s.heap.size ≤ q → A q := fun q h => by rw [← hAe]; exact Or.inr h
  have hS : va_S A s.heap s.heap [] := va_S.rf
  have hP : va_P (dC, dI) vwCl [(h0, kO3 h3 h4 h1 h2), (h1, kAi cint 41 f1), (h2, kAi cint 41 f2)] s.heap := hP
  have hl := lv_entry ([.ref h0, .int p0]) (n := 6) (Nat.le_of_ble_eq_true rfl)
  rw [lg_entry_eq]
  generalize (lg_sl ([.ref h0, .int p0]) ++ List.replicate (6 - (lg_sl ([.ref h0, .int p0])).length) Slot.unset).toArray = ls at hl ⊢
  have hl : lv_has ls 6 [(0, .ref h0), (1, .int p0)] := hl
  refine lv_iconst (v := 0) hx hb dX3_firstOnesAhead_0 kk_ic_0 ?_
  refine lv_istore_n hx hb dX3_firstOnesAhead_1 rfl hl (by decide) (rfl : _ = ([(2, .int 0), (0, .ref h0), (1, .int p0)] : List (Nat × Value))) (fun ls hl => ?_)
  refine lv_iconst (v := 0) hx hb dX3_firstOnesAhead_2 kk_ic_0 ?_
  refine lv_istore_n hx hb dX3_firstOnesAhead_3 rfl hl (by decide) (rfl : _ = ([(3, .int 0), (2, .int 0), (0, .ref h0), (1, .int p0)] : List (Nat × Value))) (fun ls hl => ?_)
  refine lv_iconst (v := 0) hx hb dX3_firstOnesAhead_4 kk_ic_0 ?_
  refine lv_istore hx hb dX3_firstOnesAhead_5 hl (by decide) (rfl : _ = ([(4, .int 0), (3, .int 0), (2, .int 0), (0, .ref h0), (1, .int p0)] : List (Nat × Value))) (fun ls hl => ?_)
  refine kk_loop (σ := Int32 × Int32 × Int32) (fun x H locs ls => (0 ≤ x.1.toInt ∧ x.1.toInt ≤ 40) ∧ (0 ≤ x.2.1.toInt ∧ x.2.1.toInt ≤ 45) ∧ va_P (dC, dI) vwCl [(h0, kO3 h3 h4 h1 h2), (h1, kAi cint 41 f1), (h2, kAi cint 41 f2)] H ∧ va_D A [(h0, kO3 h3 h4 h1 h2), (h1, kAi cint 41 f1), (h2, kAi cint 41 f2)] ∧ va_S A s.heap H locs ∧ lv_has ls 6 [(4, .int x.1), (3, .int x.2.1), (2, .int x.2.2), (0, .ref h0), (1, .int p0)]) (fun x => ((40 : Int) - x.1.toInt).toNat) ?_ (0, 0, 0) _ _ _ ⟨(by show 0 ≤ (0 : Int32).toInt ∧ (0 : Int32).toInt ≤ 40; first | decide | ((omega))), (by show 0 ≤ (0 : Int32).toInt ∧ (0 : Int32).toInt ≤ 45; first | decide | ((omega))), hP, hD, hS, hl⟩
  rintro ⟨i_1_0, i_1_1, i_1_2⟩ H locs ls ⟨t_1_0, t_1_1, hP, hD, hS, hl⟩ ih_1
  have t_1_0 : (0 ≤ i_1_0.toInt ∧ i_1_0.toInt ≤ 40) := t_1_0
  have t_1_1 : (0 ≤ i_1_1.toInt ∧ i_1_1.toInt ≤ 45) := t_1_1
  have hl : lv_has ls 6 [(4, .int i_1_0), (3, .int i_1_1), (2, .int i_1_2), (0, .ref h0), (1, .int p0)] := hl
  have hP : va_P (dC, dI) vwCl [(h0, kO3 h3 h4 h1 h2), (h1, kAi cint 41 f1), (h2, kAi cint 41 f2)] H := hP
  have hD : va_D A [(h0, kO3 h3 h4 h1 h2), (h1, kAi cint 41 f1), (h2, kAi cint 41 f2)] := hD
  refine lv_iload hx hb dX3_firstOnesAhead_7 (lv_at hl 0 rfl) ?_
  refine lv_bipush (v := 40) hx hb dX3_firstOnesAhead_9 kk_bi_40 ?_
  refine lv_icmp_ge (tgt := 66) hx hb dX3_firstOnesAhead_11 (by decide) (fun c_56 => ?_) (fun c_56 => ?_)
  · have t_56 : 40 ≤ i_1_0.toInt := kk_le c_56
    refine lv_iload_n hx hb dX3_firstOnesAhead_66 rfl (lv_at hl 2 rfl) ?_
    have hP9 := kk_Ps (wq := [(h0, kO3 h3 h4 h1 h2), (h1, kAi cint 41 f1), (h2, kAi cint 41 f2)]) hP [0, 1, 2] rfl
    have hD9 := kk_Ds (wq := [(h0, kO3 h3 h4 h1 h2), (h1, kAi cint 41 f1), (h2, kAi cint 41 f2)]) hD [0, 1, 2] (by decide) rfl
    have hK9 := kk_Ks (tq := []) hK [] rfl
    exact W.iret (v := i_1_2) hx hb hr (fun t ht hW => ⟨⟨i_1_2, (), rfl, trivial, by rw [ht]; exact hP9, va_K.moved hW.alike hK9, hD9⟩, hS.F ht⟩) hS.2.2 dX3_firstOnesAhead_67
  · have t_56 : i_1_0.toInt < 40 := kk_nle c_56
    refine lv_iload_n hx hb dX3_firstOnesAhead_14 rfl (lv_at hl 1 rfl) ?_
    refine lv_bipush (v := 40) hx hb dX3_firstOnesAhead_15 kk_bi_40 ?_
    refine lv_icmp_ge (tgt := 66) hx hb dX3_firstOnesAhead_17 (by decide) (fun c_57 => ?_) (fun c_57 => ?_)
    · have t_57 : 40 ≤ i_1_1.toInt := kk_le c_57
      refine lv_iload_n hx hb dX3_firstOnesAhead_66 rfl (lv_at hl 2 rfl) ?_
      have hP9 := kk_Ps (wq := [(h0, kO3 h3 h4 h1 h2), (h1, kAi cint 41 f1), (h2, kAi cint 41 f2)]) hP [0, 1, 2] rfl
      have hD9 := kk_Ds (wq := [(h0, kO3 h3 h4 h1 h2), (h1, kAi cint 41 f1), (h2, kAi cint 41 f2)]) hD [0, 1, 2] (by decide) rfl
      have hK9 := kk_Ks (tq := []) hK [] rfl
      exact W.iret (v := i_1_2) hx hb hr (fun t ht hW => ⟨⟨i_1_2, (), rfl, trivial, by rw [ht]; exact hP9, va_K.moved hW.alike hK9, hD9⟩, hS.F ht⟩) hS.2.2 dX3_firstOnesAhead_67
    · have t_57 : i_1_1.toInt < 40 := kk_nle c_57
      refine lv_iload_n hx hb dX3_firstOnesAhead_20 rfl (lv_at hl 1 rfl) ?_
      refine lv_aload_n hx hb dX3_firstOnesAhead_21 rfl (lv_at hl 3 rfl) ?_
      refine va_get (D := (dC, dI)) (ci := 3) (v := .ref h1) (C := RX3) (T := TX3) (N := 4) hx hb hts (fun _ h => List.mem_cons_of_mem _ (List.mem_append_right _ h)) hown hK hP 0 rfl rfl 2 (by decide) (hts (.fieldLink RX3 18 "KinkStreet$FirstPlots" "groupPlots" "[I") (List.mem_of_getElem? (i := 1) rfl)) (fun _ h9 => h9) rfl dX3_firstOnesAhead_22 ?_
      refine lv_iload_n hx hb dX3_firstOnesAhead_25 rfl (lv_at hl 1 rfl) ?_
      have hi_58 : vp_in i_1_1 41 := (vp_in_iff.mpr ⟨by omega, by omega⟩)
      refine va_iald hx hb hK hP 1 0 rfl rfl hi_58 dX3_firstOnesAhead_26 ?_
      refine lv_topi (fun y_58 e_58 => ?_)
      have t_58 : 0 ≤ y_58.toInt ∧ y_58.toInt ≤ 6 := by rw [e_58]; exact bf1 _ (Nat.not_le.mp fun q => hi_58 (Or.inr q))
      clear e_58
      refine lv_iadd hx hb dX3_firstOnesAhead_27 ?_
      refine lv_istore hx hb dX3_firstOnesAhead_28 hl (by decide) (rfl : _ = ([(5, .int (i_1_1 + y_58)), (4, .int i_1_0), (3, .int i_1_1), (2, .int i_1_2), (0, .ref h0), (1, .int p0)] : List (Nat × Value))) (fun ls hl => ?_)
      refine lv_aload_n hx hb dX3_firstOnesAhead_30 rfl (lv_at hl 4 rfl) ?_
      refine va_get (D := (dC, dI)) (ci := 3) (v := .ref h1) (C := RX3) (T := TX3) (N := 4) hx hb hts (fun _ h => List.mem_cons_of_mem _ (List.mem_append_right _ h)) hown hK hP 0 rfl rfl 2 (by decide) (hts (.fieldLink RX3 18 "KinkStreet$FirstPlots" "groupPlots" "[I") (List.mem_of_getElem? (i := 1) rfl)) (fun _ h9 => h9) rfl dX3_firstOnesAhead_31 ?_
      refine lv_iload_n hx hb dX3_firstOnesAhead_34 rfl (lv_at hl 2 rfl) ?_
      try have := kk_add2 (x := i_1_1) (y := y_58) (a := i_1_1.toInt) (b := y_58.toInt) rfl rfl (by omega) (by omega)
      have hi_59 : vp_in i_1_1 41 := (vp_in_iff.mpr ⟨by omega, by omega⟩)
      refine va_iald hx hb hK hP 1 0 rfl rfl hi_59 dX3_firstOnesAhead_35 ?_
      refine lv_topi (fun y_59 e_59 => ?_)
      have t_59 : 0 ≤ y_59.toInt ∧ y_59.toInt ≤ 6 := by rw [e_59]; exact bf1 _ (Nat.not_le.mp fun q => hi_59 (Or.inr q))
      clear e_59
      refine lv_iconst (v := 1) hx hb dX3_firstOnesAhead_36 kk_ic_1 ?_
      refine lv_icmp_lt (tgt := 46) hx hb dX3_firstOnesAhead_37 (by decide) (fun c_60 => ?_) (fun c_60 => ?_)
      · have t_60 : y_59.toInt < 1 := kk_lt c_60
        refine lv_iload_n hx hb dX3_firstOnesAhead_46 rfl (lv_at hl 3 rfl) ?_
        have hP9 := kk_Ps (wq := [(h0, kO3 h3 h4 h1 h2), (h1, kAi cint 41 f1), (h2, kAi cint 41 f2)]) hP [0, 1, 2] rfl
        have hD9 := kk_Ds (wq := [(h0, kO3 h3 h4 h1 h2), (h1, kAi cint 41 f1), (h2, kAi cint 41 f2)]) hD [0, 1, 2] (by decide) rfl
        have hK9 := kk_Ks (tq := []) hK [] rfl
        exact W.iret (v := i_1_2) hx hb hr (fun t ht hW => ⟨⟨i_1_2, (), rfl, trivial, by rw [ht]; exact hP9, va_K.moved hW.alike hK9, hD9⟩, hS.F ht⟩) hS.2.2 dX3_firstOnesAhead_47
      · have t_60 : 1 ≤ y_59.toInt := kk_nlt c_60
        refine lv_iload hx hb dX3_firstOnesAhead_40 (lv_at hl 0 rfl) ?_
        refine lv_iload_n hx hb dX3_firstOnesAhead_42 rfl (lv_at hl 5 rfl) ?_
        refine lv_icmp_le (tgt := 48) hx hb dX3_firstOnesAhead_43 (by decide) (fun c_61 => ?_) (fun c_61 => ?_)
        · have t_61 : (i_1_1 + y_58).toInt ≤ p0.toInt := kk_le c_61
          refine lv_iload_n hx hb dX3_firstOnesAhead_48 rfl (lv_at hl 3 rfl) ?_
          refine lv_aload_n hx hb dX3_firstOnesAhead_49 rfl (lv_at hl 4 rfl) ?_
          refine va_get (D := (dC, dI)) (ci := 3) (v := .ref h2) (C := RX3) (T := TX3) (N := 4) hx hb hts (fun _ h => List.mem_cons_of_mem _ (List.mem_append_right _ h)) hown hK hP 0 rfl rfl 3 (by decide) (hts (.fieldLink RX3 21 "KinkStreet$FirstPlots" "groupFirstOnes" "[I") (List.mem_of_getElem? (i := 2) rfl)) (fun _ h9 => h9) rfl dX3_firstOnesAhead_50 ?_
          refine lv_iload_n hx hb dX3_firstOnesAhead_53 rfl (lv_at hl 2 rfl) ?_
          try have := kk_rng p0
          have hi_62 : vp_in i_1_1 41 := (vp_in_iff.mpr ⟨by omega, by omega⟩)
          refine va_iald hx hb hK hP 2 0 rfl rfl hi_62 dX3_firstOnesAhead_54 ?_
          refine lv_topi (fun y_62 e_62 => ?_)
          clear e_62
          refine lv_iadd hx hb dX3_firstOnesAhead_55 ?_
          refine lv_istore_n hx hb dX3_firstOnesAhead_56 rfl hl (by decide) (rfl : _ = ([(2, .int (i_1_2 + y_62)), (5, .int (i_1_1 + y_58)), (4, .int i_1_0), (3, .int i_1_1), (0, .ref h0), (1, .int p0)] : List (Nat × Value))) (fun ls hl => ?_)
          refine lv_iload hx hb dX3_firstOnesAhead_57 (lv_at hl 1 rfl) ?_
          refine lv_istore_n hx hb dX3_firstOnesAhead_59 rfl hl (by decide) (rfl : _ = ([(3, .int (i_1_1 + y_58)), (2, .int (i_1_2 + y_62)), (5, .int (i_1_1 + y_58)), (4, .int i_1_0), (0, .ref h0), (1, .int p0)] : List (Nat × Value))) (fun ls hl => ?_)
          refine lv_iinc (v := (i_1_0 + 1)) hx hb dX3_firstOnesAhead_60 hl (k := 3) rfl (by first | rfl | decide) (by decide) (rfl : _ = ([(4, .int (i_1_0 + 1)), (3, .int (i_1_1 + y_58)), (2, .int (i_1_2 + y_62)), (5, .int (i_1_1 + y_58)), (0, .ref h0), (1, .int p0)] : List (Nat × Value))) (fun ls hl => ?_)
          refine lv_goto (tgt := 7) hx hb dX3_firstOnesAhead_63 (by decide) ?_
          try have := kk_add2 (x := i_1_0) (y := 1) (a := i_1_0.toInt) (b := 1) rfl rfl (by omega) (by omega)
          exact ih_1 ((i_1_0 + 1), (i_1_1 + y_58), (i_1_2 + y_62)) _ _ _ (by show ((40 : Int) - ((i_1_0 + 1)).toInt).toNat < ((40 : Int) - i_1_0.toInt).toNat; exact kk_mu (by omega) (by omega)) ⟨(by show 0 ≤ ((i_1_0 + 1) : Int32).toInt ∧ ((i_1_0 + 1) : Int32).toInt ≤ 40; first | decide | ((omega))), (by show 0 ≤ ((i_1_1 + y_58) : Int32).toInt ∧ ((i_1_1 + y_58) : Int32).toInt ≤ 45; first | decide | ((omega))), hP, hD, hS, lv_sub hl [0, 1, 2, 4, 5] rfl⟩
        · have t_61 : p0.toInt < (i_1_1 + y_58).toInt := kk_nle c_61
          refine lv_iload_n hx hb dX3_firstOnesAhead_46 rfl (lv_at hl 3 rfl) ?_
          have hP9 := kk_Ps (wq := [(h0, kO3 h3 h4 h1 h2), (h1, kAi cint 41 f1), (h2, kAi cint 41 f2)]) hP [0, 1, 2] rfl
          have hD9 := kk_Ds (wq := [(h0, kO3 h3 h4 h1 h2), (h1, kAi cint 41 f1), (h2, kAi cint 41 f2)]) hD [0, 1, 2] (by decide) rfl
          have hK9 := kk_Ks (tq := []) hK [] rfl
          exact W.iret (v := i_1_2) hx hb hr (fun t ht hW => ⟨⟨i_1_2, (), rfl, trivial, by rw [ht]; exact hP9, va_K.moved hW.alike hK9, hD9⟩, hS.F ht⟩) hS.2.2 dX3_firstOnesAhead_47
set_option maxHeartbeats 4000000 in
set_option maxRecDepth 100000 in
theorem g_X7_isRod_0 (l : Launch) (dC : Nat → ClassId) (dI : Nat → Nat → Nat) (sz : Nat) (p0 : Int32) : Met l yX7_isRod wsX7_isRod ({ frames := 0, cells := 0, slots := 0, locals := 0 }) (va_Pc [.int p0] (fun U => U.heap.size = sz ∧ va_P (dC, dI) vwCl [] U.heap ∧ va_K (dC, dI) vwCl [] U ∧ va_D (fun _ => True) [])) (va_Qi (fun (r : Int32) (_ : Unit) => ((0 : Int32) = r) ∨ (40 ≤ p0.toInt ∧ p0.toInt ≤ 330 ∧ (1 : Int32) = r)) (fun (_ : Unit) t => va_P (dC, dI) vwCl [] t.heap ∧ va_K (dC, dI) vwCl [] t ∧ va_D (va_A [] sz) []) (va_A [] sz)) 0 0 (va_A [] sz) := by
  refine Met.ofW (cc := cX7_isRod) (maxL := 1) (ret := (some .boolean)) (by decide) rfl ?_
  intro p e s m args below meth c s₁ B hml hv
  obtain ⟨rfl, hsz, hP, hK, hD0⟩ := hv
  have hx := B.exec
  have hb := B.bytes
  have hr := B.returns
  have hts := atoms_spec (ws := wsX7_isRod) B.pre
  have hown : s.vm.findClass RX7 = some m.cls := findClass_of_methodNamed B.named
  have hlocks := B.notSynchronized
  subst hsz
  have hD := hD0.self (sz := s.heap.size)
  generalize hAe : va_A [] s.heap.size = A at hD ⊢
  have hA : ∀ q : Nat, s.heap.size ≤ q → A q := fun q h => by rw [← hAe]; exact Or.inr h
  have hS : va_S A s.heap s.heap [] := va_S.rf
  have hP : va_P (dC, dI) vwCl [] s.heap := hP
  have hl := lv_entry ([.int p0]) (n := 1) (Nat.le_of_ble_eq_true rfl)
  rw [lg_entry_eq]
  generalize (lg_sl ([.int p0]) ++ List.replicate (1 - (lg_sl ([.int p0])).length) Slot.unset).toArray = ls at hl ⊢
  have hl : lv_has ls 1 [(0, .int p0)] := hl
  refine lv_iload_n hx hb dX7_isRod_0 rfl (lv_at hl 0 rfl) ?_
  refine lv_bipush (v := 40) hx hb dX7_isRod_1 kk_bi_40 ?_
  refine lv_icmp_lt (tgt := 17) hx hb dX7_isRod_3 (by decide) (fun c_1 => ?_) (fun c_1 => ?_)
  · have t_1 : p0.toInt < 40 := kk_lt c_1
    refine lv_iconst (v := 0) hx hb dX7_isRod_17 kk_ic_0 ?_
    have hP9 := kk_Ps (wq := []) hP [] rfl
    have hD9 := kk_Ds (wq := []) hD [] (by decide) rfl
    have hK9 := kk_Ks (tq := []) hK [] rfl
    exact W.zret (v := 0) hx hb hr rfl (fun t ht hW => ⟨⟨0, (), rfl, Or.inl rfl, by rw [ht]; exact hP9, va_K.moved hW.alike hK9, hD9⟩, hS.F ht⟩) hS.2.2 dX7_isRod_18
  · have t_1 : 40 ≤ p0.toInt := kk_nlt c_1
    refine lv_iload_n hx hb dX7_isRod_6 rfl (lv_at hl 0 rfl) ?_
    refine lv_sipush (v := 330) hx hb dX7_isRod_7 kk_si_330 ?_
    refine lv_icmp_gt (tgt := 17) hx hb dX7_isRod_10 (by decide) (fun c_2 => ?_) (fun c_2 => ?_)
    · have t_2 : 330 < p0.toInt := kk_lt c_2
      refine lv_iconst (v := 0) hx hb dX7_isRod_17 kk_ic_0 ?_
      have hP9 := kk_Ps (wq := []) hP [] rfl
      have hD9 := kk_Ds (wq := []) hD [] (by decide) rfl
      have hK9 := kk_Ks (tq := []) hK [] rfl
      exact W.zret (v := 0) hx hb hr rfl (fun t ht hW => ⟨⟨0, (), rfl, Or.inl rfl, by rw [ht]; exact hP9, va_K.moved hW.alike hK9, hD9⟩, hS.F ht⟩) hS.2.2 dX7_isRod_18
    · have t_2 : p0.toInt ≤ 330 := kk_nlt c_2
      refine lv_iconst (v := 1) hx hb dX7_isRod_13 kk_ic_1 ?_
      refine lv_goto (tgt := 18) hx hb dX7_isRod_14 (by decide) ?_
      have hP9 := kk_Ps (wq := []) hP [] rfl
      have hD9 := kk_Ds (wq := []) hD [] (by decide) rfl
      have hK9 := kk_Ks (tq := []) hK [] rfl
      exact W.zret (v := 1) hx hb hr rfl (fun t ht hW => ⟨⟨1, (), rfl, Or.inr (⟨by first | with_reducible assumption | (omega) | assumption, by first | with_reducible assumption | (omega) | assumption, rfl⟩), by rw [ht]; exact hP9, va_K.moved hW.alike hK9, hD9⟩, hS.F ht⟩) hS.2.2 dX7_isRod_18
set_option maxHeartbeats 4000000 in
set_option maxRecDepth 100000 in
theorem g_X7_isParts_0 (l : Launch) (dC : Nat → ClassId) (dI : Nat → Nat → Nat) (sz : Nat) (p0 : Int32) : Met l yX7_isParts wsX7_isParts ({ frames := 0, cells := 0, slots := 0, locals := 0 }) (va_Pc [.int p0] (fun U => U.heap.size = sz ∧ va_P (dC, dI) vwCl [] U.heap ∧ va_K (dC, dI) vwCl [] U ∧ va_D (fun _ => True) [])) (va_Qi (fun (r : Int32) (_ : Unit) => ((0 : Int32) = r) ∨ (1 ≤ p0.toInt ∧ p0.toInt ≤ 4 ∧ (1 : Int32) = r)) (fun (_ : Unit) t => va_P (dC, dI) vwCl [] t.heap ∧ va_K (dC, dI) vwCl [] t ∧ va_D (va_A [] sz) []) (va_A [] sz)) 0 0 (va_A [] sz) := by
  refine Met.ofW (cc := cX7_isParts) (maxL := 1) (ret := (some .boolean)) (by decide) rfl ?_
  intro p e s m args below meth c s₁ B hml hv
  obtain ⟨rfl, hsz, hP, hK, hD0⟩ := hv
  have hx := B.exec
  have hb := B.bytes
  have hr := B.returns
  have hts := atoms_spec (ws := wsX7_isParts) B.pre
  have hown : s.vm.findClass RX7 = some m.cls := findClass_of_methodNamed B.named
  have hlocks := B.notSynchronized
  subst hsz
  have hD := hD0.self (sz := s.heap.size)
  generalize hAe : va_A [] s.heap.size = A at hD ⊢
  have hA : ∀ q : Nat, s.heap.size ≤ q → A q := fun q h => by rw [← hAe]; exact Or.inr h
  have hS : va_S A s.heap s.heap [] := va_S.rf
  have hP : va_P (dC, dI) vwCl [] s.heap := hP
  have hl := lv_entry ([.int p0]) (n := 1) (Nat.le_of_ble_eq_true rfl)
  rw [lg_entry_eq]
  generalize (lg_sl ([.int p0]) ++ List.replicate (1 - (lg_sl ([.int p0])).length) Slot.unset).toArray = ls at hl ⊢
  have hl : lv_has ls 1 [(0, .int p0)] := hl
  refine lv_iload_n hx hb dX7_isParts_0 rfl (lv_at hl 0 rfl) ?_
  refine lv_iconst (v := 1) hx hb dX7_isParts_1 kk_ic_1 ?_
  refine lv_icmp_lt (tgt := 14) hx hb dX7_isParts_2 (by decide) (fun c_1 => ?_) (fun c_1 => ?_)
  · have t_1 : p0.toInt < 1 := kk_lt c_1
    refine lv_iconst (v := 0) hx hb dX7_isParts_14 kk_ic_0 ?_
    have hP9 := kk_Ps (wq := []) hP [] rfl
    have hD9 := kk_Ds (wq := []) hD [] (by decide) rfl
    have hK9 := kk_Ks (tq := []) hK [] rfl
    exact W.zret (v := 0) hx hb hr rfl (fun t ht hW => ⟨⟨0, (), rfl, Or.inl rfl, by rw [ht]; exact hP9, va_K.moved hW.alike hK9, hD9⟩, hS.F ht⟩) hS.2.2 dX7_isParts_15
  · have t_1 : 1 ≤ p0.toInt := kk_nlt c_1
    refine lv_iload_n hx hb dX7_isParts_5 rfl (lv_at hl 0 rfl) ?_
    refine lv_iconst (v := 4) hx hb dX7_isParts_6 kk_ic_4 ?_
    refine lv_icmp_gt (tgt := 14) hx hb dX7_isParts_7 (by decide) (fun c_2 => ?_) (fun c_2 => ?_)
    · have t_2 : 4 < p0.toInt := kk_lt c_2
      refine lv_iconst (v := 0) hx hb dX7_isParts_14 kk_ic_0 ?_
      have hP9 := kk_Ps (wq := []) hP [] rfl
      have hD9 := kk_Ds (wq := []) hD [] (by decide) rfl
      have hK9 := kk_Ks (tq := []) hK [] rfl
      exact W.zret (v := 0) hx hb hr rfl (fun t ht hW => ⟨⟨0, (), rfl, Or.inl rfl, by rw [ht]; exact hP9, va_K.moved hW.alike hK9, hD9⟩, hS.F ht⟩) hS.2.2 dX7_isParts_15
    · have t_2 : p0.toInt ≤ 4 := kk_nlt c_2
      refine lv_iconst (v := 1) hx hb dX7_isParts_10 kk_ic_1 ?_
      refine lv_goto (tgt := 15) hx hb dX7_isParts_11 (by decide) ?_
      have hP9 := kk_Ps (wq := []) hP [] rfl
      have hD9 := kk_Ds (wq := []) hD [] (by decide) rfl
      have hK9 := kk_Ks (tq := []) hK [] rfl
      exact W.zret (v := 1) hx hb hr rfl (fun t ht hW => ⟨⟨1, (), rfl, Or.inr (⟨by first | with_reducible assumption | (omega) | assumption, by first | with_reducible assumption | (omega) | assumption, rfl⟩), by rw [ht]; exact hP9, va_K.moved hW.alike hK9, hD9⟩, hS.F ht⟩) hS.2.2 dX7_isParts_15
set_option maxHeartbeats 4000000 in
set_option maxRecDepth 100000 in
theorem g_X7_lookAt_0 (l : Launch) (dC : Nat → ClassId) (dI : Nat → Nat → Nat) (h0 : Nat) (h1 : Nat) (h2 : Nat) (h3 : Nat) (h4 : Nat) (h5 : Nat) (cint : ClassId) (sz : Nat) (p1 : Int32) (n0_many : Int32) (n1_size : Int32) (f2 : Nat → Int32) (f3 : Nat → Int32) (tn0_many : kk_bx (0 ≤ n0_many.toInt ∧ n0_many.toInt ≤ 40)) (tn1_size : kk_bx (0 ≤ n1_size.toInt ∧ n1_size.toInt ≤ 40)) : Met l yX7_lookAt wsX7_lookAt ({ frames := 2, cells := 0, slots := 0, locals := 42 }) (va_Pc [.ref h0, .ref h1, .int p1] (fun U => U.heap.size = sz ∧ va_P (dC, dI) vwCl [(h0, kO7 h2 n0_many), (h1, kO9 h3 h4 h5 n1_size), (h2, kAi cint 40 f2), (h3, kAi cint 40 f3)] U.heap ∧ va_K (dC, dI) vwCl [(cint, .int)] U ∧ va_D (fun _ => True) [(h0, kO7 h2 n0_many), (h1, kO9 h3 h4 h5 n1_size), (h2, kAi cint 40 f2), (h3, kAi cint 40 f3)])) (va_Qv (fun (_ : Unit) => True) (fun (_ : Unit) t => ∃ (m0_many : Int32) (g2 : Nat → Int32), (0 ≤ m0_many.toInt ∧ m0_many.toInt ≤ 40) ∧ va_P (dC, dI) vwCl [(h0, kO7 h2 m0_many), (h1, kO9 h3 h4 h5 n1_size), (h2, kAi cint 40 g2), (h3, kAi cint 40 f3)] t.heap ∧ va_K (dC, dI) vwCl [] t ∧ va_D (va_A [(h0, kO7 h2 n0_many), (h1, kO9 h3 h4 h5 n1_size), (h2, kAi cint 40 f2), (h3, kAi cint 40 f3)] sz) [(h0, kO7 h2 m0_many), (h1, kO9 h3 h4 h5 n1_size), (h2, kAi cint 40 g2), (h3, kAi cint 40 f3)]) (va_A [(h0, kO7 h2 n0_many), (h1, kO9 h3 h4 h5 n1_size), (h2, kAi cint 40 f2), (h3, kAi cint 40 f3)] sz)) 0 0 (va_A [(h0, kO7 h2 n0_many), (h1, kO9 h3 h4 h5 n1_size), (h2, kAi cint 40 f2), (h3, kAi cint 40 f3)] sz) := by
  refine Met.ofW (cc := cX7_lookAt) (maxL := 4) (ret := none) (by decide) rfl ?_
  intro p e s m args below meth c s₁ B hml hv
  obtain ⟨rfl, hsz, hP, hK, hD0⟩ := hv
  have hx := B.exec
  have hb := B.bytes
  have hr := B.returns
  have hts := atoms_spec (ws := wsX7_lookAt) B.pre
  have hown : s.vm.findClass RX7 = some m.cls := findClass_of_methodNamed B.named
  have hlocks := B.notSynchronized
  subst hsz
  have hD := hD0.self (sz := s.heap.size)
  generalize hAe : va_A [(h0, kO7 h2 n0_many), (h1, kO9 h3 h4 h5 n1_size), (h2, kAi cint 40 f2), (h3, kAi cint 40 f3)] s.heap.size = A at hD ⊢
  have hA : ∀ q : Nat, s.heap.size ≤ q → A q := fun q h => by rw [← hAe]; exact Or.inr h
  have hS : va_S A s.heap s.heap [] := va_S.rf
  have hP : va_P (dC, dI) vwCl [(h0, kO7 h2 n0_many), (h1, kO9 h3 h4 h5 n1_size), (h2, kAi cint 40 f2), (h3, kAi cint 40 f3)] s.heap := hP
  have hl := lv_entry ([.ref h0, .ref h1, .int p1]) (n := 4) (Nat.le_of_ble_eq_true rfl)
  rw [lg_entry_eq]
  generalize (lg_sl ([.ref h0, .ref h1, .int p1]) ++ List.replicate (4 - (lg_sl ([.ref h0, .ref h1, .int p1])).length) Slot.unset).toArray = ls at hl ⊢
  have hl : lv_has ls 4 [(0, .ref h0), (1, .ref h1), (2, .int p1)] := hl
  refine lv_aload_n hx hb dX7_lookAt_0 rfl (lv_at hl 0 rfl) ?_
  refine lv_iconst (v := 0) hx hb dX7_lookAt_1 kk_ic_0 ?_
  refine va_put (D := (dC, dI)) (ci := 7) (v := .int 0) (ty := .int) (C := RX7) (T := TX7) (N := 2) hx hb hts (fun _ h => List.mem_cons_of_mem _ (List.mem_append_left _ (List.mem_append_right _ h))) tyX7 tyX7_ok nmX7 hown hK hP hD hS 0 rfl rfl 1 (by decide) (hts (.fieldLink RX7 15 "KinkStreet$Rods" "many" "I") (List.mem_of_getElem? (i := 1) rfl)) (fun _ h9 => h9) rfl (by decide +kernel) rfl rfl (Nat.le_of_ble_eq_true rfl) dX7_lookAt_2 (fun H locs hP hD hS => ?_)
  have hP : va_P (dC, dI) vwCl [(h0, kO7 h2 0), (h1, kO9 h3 h4 h5 n1_size), (h2, kAi cint 40 f2), (h3, kAi cint 40 f3)] H := hP
  have hD : va_D A [(h0, kO7 h2 0), (h1, kO9 h3 h4 h5 n1_size), (h2, kAi cint 40 f2), (h3, kAi cint 40 f3)] := hD
  refine lv_iload_n hx hb dX7_lookAt_5 rfl (lv_at hl 2 rfl) ?_
  refine lv_bipush (v := 100) hx hb dX7_lookAt_6 kk_bi_100 ?_
  refine lv_idiv hx hb dX7_lookAt_8 (by decide) ?_
  refine lv_istore_n hx hb dX7_lookAt_9 rfl hl (by decide) (rfl : _ = ([(3, .int (p1 / 100)), (0, .ref h0), (1, .ref h1), (2, .int p1)] : List (Nat × Value))) (fun ls hl => ?_)
  try have := kk_divb (x := p1) (k := 100) (n := 100) rfl (by decide)
  refine kk_loop (σ := Int32 × Int32 × (Nat → Int32)) (fun x H locs ls => ((-21474836) ≤ x.1.toInt ∧ x.1.toInt ≤ 21474836) ∧ (0 ≤ x.2.1.toInt ∧ x.2.1.toInt ≤ 40) ∧ (p1 / 100).toInt ≤ x.1.toInt ∧ va_P (dC, dI) vwCl [(h0, kO7 h2 x.2.1), (h1, kO9 h3 h4 h5 n1_size), (h2, kAi cint 40 x.2.2), (h3, kAi cint 40 f3)] H ∧ va_D A [(h0, kO7 h2 x.2.1), (h1, kO9 h3 h4 h5 n1_size), (h2, kAi cint 40 x.2.2), (h3, kAi cint 40 f3)] ∧ va_S A s.heap H locs ∧ lv_has ls 4 [(3, .int x.1), (0, .ref h0), (1, .ref h1), (2, .int p1)]) (fun x => ((21474836 : Int) - x.1.toInt).toNat) ?_ ((p1 / 100), 0, f2) _ _ _ ⟨(by show (-21474836) ≤ ((p1 / 100) : Int32).toInt ∧ ((p1 / 100) : Int32).toInt ≤ 21474836; first | decide | ((omega))), (by show 0 ≤ (0 : Int32).toInt ∧ (0 : Int32).toInt ≤ 40; first | decide | ((omega))), (by show ((p1 / 100) : Int32).toInt ≤ ((p1 / 100) : Int32).toInt; first | decide | (omega)), hP, hD, hS, hl⟩
  rintro ⟨i_1_0, i_1_1, f_1_2⟩ H locs ls ⟨t_1_0, t_1_1, z_1_0, hP, hD, hS, hl⟩ ih_1
  have t_1_0 : ((-21474836) ≤ i_1_0.toInt ∧ i_1_0.toInt ≤ 21474836) := t_1_0
  have t_1_1 : (0 ≤ i_1_1.toInt ∧ i_1_1.toInt ≤ 40) := t_1_1
  have z_1_0 : (p1 / 100).toInt ≤ i_1_0.toInt := z_1_0
  have hl : lv_has ls 4 [(3, .int i_1_0), (0, .ref h0), (1, .ref h1), (2, .int p1)] := hl
  have hP : va_P (dC, dI) vwCl [(h0, kO7 h2 i_1_1), (h1, kO9 h3 h4 h5 n1_size), (h2, kAi cint 40 f_1_2), (h3, kAi cint 40 f3)] H := hP
  have hD : va_D A [(h0, kO7 h2 i_1_1), (h1, kO9 h3 h4 h5 n1_size), (h2, kAi cint 40 f_1_2), (h3, kAi cint 40 f3)] := hD
  refine lv_iload_n hx hb dX7_lookAt_10 rfl (lv_at hl 0 rfl) ?_
  refine lv_iload_n hx hb dX7_lookAt_11 rfl (lv_at hl 3 rfl) ?_
  refine lv_bipush (v := 100) hx hb dX7_lookAt_12 kk_bi_100 ?_
  refine lv_irem hx hb dX7_lookAt_14 (by decide) ?_
  refine lv_icmp_gt (tgt := 54) hx hb dX7_lookAt_15 (by decide) (fun c_18 => ?_) (fun c_18 => ?_)
  · have t_18 : (p1 - p1 / 100 * 100).toInt < i_1_0.toInt := kk_lt c_18
    have hP9 := kk_Ps (wq := [(h0, kO7 h2 i_1_1), (h1, kO9 h3 h4 h5 n1_size), (h2, kAi cint 40 f_1_2), (h3, kAi cint 40 f3)]) hP [0, 1, 2, 3] rfl
    have hD9 := kk_Ds (wq := [(h0, kO7 h2 i_1_1), (h1, kO9 h3 h4 h5 n1_size), (h2, kAi cint 40 f_1_2), (h3, kAi cint 40 f3)]) hD [0, 1, 2, 3] (by decide) rfl
    have hK9 := kk_Ks (tq := []) hK [] rfl
    try have := kk_rng p1
    try have := kk_remb (x := p1) (k := 100) (n := 100) rfl (by decide)
    exact W.vret hx hb hr (fun t ht hW => ⟨⟨(), rfl, trivial, i_1_1, f_1_2, (by show 0 ≤ (i_1_1 : Int32).toInt ∧ (i_1_1 : Int32).toInt ≤ 40; first | decide | ((omega))), by rw [ht]; exact hP9, va_K.moved hW.alike hK9, hD9⟩, hS.F ht⟩) hS.2.2 dX7_lookAt_54
  · have t_18 : i_1_0.toInt ≤ (p1 - p1 / 100 * 100).toInt := kk_nlt c_18
    refine lv_aload_n hx hb dX7_lookAt_18 rfl (lv_at hl 1 rfl) ?_
    refine va_get (D := (dC, dI)) (ci := 7) (v := .int i_1_1) (C := RX7) (T := TX7) (N := 2) hx hb hts (fun _ h => List.mem_cons_of_mem _ (List.mem_append_left _ (List.mem_append_right _ h))) hown hK hP 0 rfl rfl 1 (by decide) (hts (.fieldLink RX7 15 "KinkStreet$Rods" "many" "I") (List.mem_of_getElem? (i := 1) rfl)) (fun _ h9 => h9) rfl dX7_lookAt_19 ?_
    refine lv_bipush (v := 40) hx hb dX7_lookAt_22 kk_bi_40 ?_
    refine lv_icmp_ge (tgt := 54) hx hb dX7_lookAt_24 (by decide) (fun c_19 => ?_) (fun c_19 => ?_)
    · have t_19 : 40 ≤ i_1_1.toInt := kk_le c_19
      have hP9 := kk_Ps (wq := [(h0, kO7 h2 i_1_1), (h1, kO9 h3 h4 h5 n1_size), (h2, kAi cint 40 f_1_2), (h3, kAi cint 40 f3)]) hP [0, 1, 2, 3] rfl
      have hD9 := kk_Ds (wq := [(h0, kO7 h2 i_1_1), (h1, kO9 h3 h4 h5 n1_size), (h2, kAi cint 40 f_1_2), (h3, kAi cint 40 f3)]) hD [0, 1, 2, 3] (by decide) rfl
      have hK9 := kk_Ks (tq := []) hK [] rfl
      try have := kk_rng p1
      try have := kk_remb (x := p1) (k := 100) (n := 100) rfl (by decide)
      exact W.vret hx hb hr (fun t ht hW => ⟨⟨(), rfl, trivial, i_1_1, f_1_2, (by show 0 ≤ (i_1_1 : Int32).toInt ∧ (i_1_1 : Int32).toInt ≤ 40; first | decide | ((omega))), by rw [ht]; exact hP9, va_K.moved hW.alike hK9, hD9⟩, hS.F ht⟩) hS.2.2 dX7_lookAt_54
    · have t_19 : i_1_1.toInt < 40 := kk_nle c_19
      refine lv_aload_n hx hb dX7_lookAt_27 rfl (lv_at hl 1 rfl) ?_
      refine va_get (D := (dC, dI)) (ci := 7) (v := .ref h2) (C := RX7) (T := TX7) (N := 2) hx hb hts (fun _ h => List.mem_cons_of_mem _ (List.mem_append_left _ (List.mem_append_right _ h))) hown hK hP 0 rfl rfl 0 (by decide) (hts (.fieldLink RX7 9 "KinkStreet$Rods" "widths" "[I") (List.mem_of_getElem? (i := 2) rfl)) (fun _ h9 => h9) rfl dX7_lookAt_28 ?_
      refine lv_aload_n hx hb dX7_lookAt_31 rfl (lv_at hl 1 rfl) ?_
      refine lv_dup hx hb dX7_lookAt_32 rfl ?_
      refine va_get (D := (dC, dI)) (ci := 7) (v := .int i_1_1) (C := RX7) (T := TX7) (N := 2) hx hb hts (fun _ h => List.mem_cons_of_mem _ (List.mem_append_left _ (List.mem_append_right _ h))) hown hK hP 0 rfl rfl 1 (by decide) (hts (.fieldLink RX7 15 "KinkStreet$Rods" "many" "I") (List.mem_of_getElem? (i := 1) rfl)) (fun _ h9 => h9) rfl dX7_lookAt_33 ?_
      refine lv_dup_x1 hx hb dX7_lookAt_36 rfl rfl ?_
      refine lv_iconst (v := 1) hx hb dX7_lookAt_37 kk_ic_1 ?_
      refine lv_iadd hx hb dX7_lookAt_38 ?_
      refine va_put (D := (dC, dI)) (ci := 7) (v := .int (i_1_1 + 1)) (ty := .int) (C := RX7) (T := TX7) (N := 2) hx hb hts (fun _ h => List.mem_cons_of_mem _ (List.mem_append_left _ (List.mem_append_right _ h))) tyX7 tyX7_ok nmX7 hown hK hP hD hS 0 rfl rfl 1 (by decide) (hts (.fieldLink RX7 15 "KinkStreet$Rods" "many" "I") (List.mem_of_getElem? (i := 1) rfl)) (fun _ h9 => h9) rfl (by decide +kernel) rfl rfl (Nat.le_of_ble_eq_true rfl) dX7_lookAt_39 (fun H locs hP hD hS => ?_)
      have hP : va_P (dC, dI) vwCl [(h0, kO7 h2 (i_1_1 + 1)), (h1, kO9 h3 h4 h5 n1_size), (h2, kAi cint 40 f_1_2), (h3, kAi cint 40 f3)] H := hP
      have hD : va_D A [(h0, kO7 h2 (i_1_1 + 1)), (h1, kO9 h3 h4 h5 n1_size), (h2, kAi cint 40 f_1_2), (h3, kAi cint 40 f3)] := hD
      refine lv_aload_n hx hb dX7_lookAt_42 rfl (lv_at hl 2 rfl) ?_
      refine lv_iload_n hx hb dX7_lookAt_43 rfl (lv_at hl 0 rfl) ?_
      have hPc := kk_Ps (wq := [(h1, kO9 h3 h4 h5 n1_size), (h3, kAi cint 40 f3)]) hP [1, 3] rfl
      have hDc := kk_Ds (wq := [(h1, kO9 h3 h4 h5 n1_size), (h3, kAi cint 40 f3)]) hD [1, 3] (by decide) rfl
      have hKc := kk_Ks (tq := [(cint, .int)]) hK [0] rfl
      have hFc := va_free (wc := [(h1, kO9 h3 h4 h5 n1_size), (h3, kAi cint 40 f3)]) hD hS hA [1, 3] rfl
      refine va_calli (va_runV (As := [.int i_1_0]) (rest := [.int i_1_1, .ref h2]) ⟨hx, hb, hml, hown, hts⟩ (g_X9_width_0 l dC dI h1 h3 h4 h5 cint H.size i_1_0 n1_size f3 tn1_size) (cwV 1 hts gX7_lookAt_X9_width rfl rfl rfl ⟨rfl, kh_X9_width⟩ ⟨Nat.le_of_ble_eq_true rfl, Nat.le_of_ble_eq_true rfl⟩) ⟨fun a U g mk q => by obtain ⟨q0, q1, qP, qK, qD⟩ := q; exact ⟨q0, q1, qP, va_K.moved (u := U) (U := U.calling g mk a) (Vm.Alike.refl U.vm) qK, qD⟩, va_recv hKc hPc (ci := 9) (q0 := 0) rfl rfl, fun U hU hW => ⟨rfl, by rw [hU], by rw [hU]; exact hPc, va_K.moved hW.alike hKc, hDc.weaken (fun _ _ _ _ => trivial)⟩⟩ rfl rfl hl.1 rfl (lv_room (Nat.le_of_ble_eq_true rfl)) dX7_lookAt_44 ⟨Nat.le_of_ble_eq_true rfl, Nat.le_of_ble_eq_true rfl⟩) hS (fun q _ h => hFc q h) hFc (fun r_20 u t H1 locs ht hvm hw hB hz1 hk1 hS => ?_)
      obtain ⟨hP1, hK1, hD1⟩ := hB
      rw [ht] at hP1
      have hK1 := va_K.moved hvm.symm hK1
      obtain ⟨hP, hD⟩ := va_join (wr := [(h0, kO7 h2 (i_1_1 + 1)), (h2, kAi cint 40 f_1_2)]) (w1 := [(h1, kO9 h3 h4 h5 n1_size), (h3, kAi cint 40 f3)]) hP hD [1, 3] [0, 2] rfl rfl (by decide) (by decide) hk1 hFc hP1 hD1
      generalize H1 = H at hP hS ⊢
      have hP : va_P (dC, dI) vwCl [(h0, kO7 h2 (i_1_1 + 1)), (h2, kAi cint 40 f_1_2), (h1, kO9 h3 h4 h5 n1_size), (h3, kAi cint 40 f3)] H := hP
      have hD : va_D A [(h0, kO7 h2 (i_1_1 + 1)), (h2, kAi cint 40 f_1_2), (h1, kO9 h3 h4 h5 n1_size), (h3, kAi cint 40 f3)] := hD
      try have := kk_rng p1
      try have := kk_remb (x := p1) (k := 100) (n := 100) rfl (by decide)
      try have := kk_add2 (x := i_1_1) (y := 1) (a := i_1_1.toInt) (b := 1) rfl rfl (by omega) (by omega)
      refine va_iast hx hb hK hP hD hS 1 0 rfl rfl (vp_in_iff.mpr ⟨by omega, by omega⟩) dX7_lookAt_47 (fun H locs hP hD hS => ?_)
      generalize upd f_1_2 (i_1_1 : Int32).toNatClampNeg r_20 = f_21 at hP hD
      have hP : va_P (dC, dI) vwCl [(h0, kO7 h2 (i_1_1 + 1)), (h2, kAi cint 40 f_21), (h1, kO9 h3 h4 h5 n1_size), (h3, kAi cint 40 f3)] H := hP
      have hD : va_D A [(h0, kO7 h2 (i_1_1 + 1)), (h2, kAi cint 40 f_21), (h1, kO9 h3 h4 h5 n1_size), (h3, kAi cint 40 f3)] := hD
      refine lv_iinc (v := (i_1_0 + 1)) hx hb dX7_lookAt_48 hl (k := 0) rfl (by first | rfl | decide) (by decide) (rfl : _ = ([(3, .int (i_1_0 + 1)), (0, .ref h0), (1, .ref h1), (2, .int p1)] : List (Nat × Value))) (fun ls hl => ?_)
      refine lv_goto (tgt := 10) hx hb dX7_lookAt_51 (by decide) ?_
      try have := kk_add2 (x := i_1_0) (y := 1) (a := i_1_0.toInt) (b := 1) rfl rfl (by omega) (by omega)
      exact ih_1 ((i_1_0 + 1), (i_1_1 + 1), f_21) _ _ _ (by show ((21474836 : Int) - ((i_1_0 + 1)).toInt).toNat < ((21474836 : Int) - i_1_0.toInt).toNat; exact kk_mu (by omega) (by omega)) ⟨(by show (-21474836) ≤ ((i_1_0 + 1) : Int32).toInt ∧ ((i_1_0 + 1) : Int32).toInt ≤ 21474836; first | decide | ((omega))), (by show 0 ≤ ((i_1_1 + 1) : Int32).toInt ∧ ((i_1_1 + 1) : Int32).toInt ≤ 40; first | decide | ((omega))), (by show ((p1 / 100) : Int32).toInt ≤ ((i_1_0 + 1) : Int32).toInt; first | decide | (omega)), hP.sub [0, 2, 1, 3] rfl, hD.sub [0, 2, 1, 3] (by decide) rfl, hS, lv_sub hl [0, 1, 2, 3] rfl⟩
set_option maxHeartbeats 4000000 in
set_option maxRecDepth 100000 in
theorem g_X7_err_0 (l : Launch) (dC : Nat → ClassId) (dI : Nat → Nat → Nat) (sz : Nat) (p0 : Int32) (p1 : Int32) : Met l yX7_err wsX7_err ({ frames := 1, cells := 0, slots := 0, locals := 21 }) (va_Pc [.int p0, .int p1] (fun U => U.heap.size = sz ∧ va_P (dC, dI) vwCl [] U.heap ∧ va_K (dC, dI) vwCl [] U ∧ va_D (fun _ => True) [])) (va_Qi (fun (r : Int32) (_ : Unit) => True) (fun (_ : Unit) t => va_P (dC, dI) vwCl [] t.heap ∧ va_K (dC, dI) vwCl [] t ∧ va_D (va_A [] sz) []) (va_A [] sz)) 0 0 (va_A [] sz) := by
  refine Met.ofW (cc := cX7_err) (maxL := 3) (ret := (some .int)) (by decide) rfl ?_
  intro p e s m args below meth c s₁ B hml hv
  obtain ⟨rfl, hsz, hP, hK, hD0⟩ := hv
  have hx := B.exec
  have hb := B.bytes
  have hr := B.returns
  have hts := atoms_spec (ws := wsX7_err) B.pre
  have hown : s.vm.findClass RX7 = some m.cls := findClass_of_methodNamed B.named
  have hlocks := B.notSynchronized
  subst hsz
  have hD := hD0.self (sz := s.heap.size)
  generalize hAe : va_A [] s.heap.size = A at hD ⊢
  have hA : ∀ q : Nat, s.heap.size ≤ q → A q := fun q h => by rw [← hAe]; exact Or.inr h
  have hS : va_S A s.heap s.heap [] := va_S.rf
  have hP : va_P (dC, dI) vwCl [] s.heap := hP
  have hl := lv_entry ([.int p0, .int p1]) (n := 3) (Nat.le_of_ble_eq_true rfl)
  rw [lg_entry_eq]
  generalize (lg_sl ([.int p0, .int p1]) ++ List.replicate (3 - (lg_sl ([.int p0, .int p1])).length) Slot.unset).toArray = ls at hl ⊢
  have hl : lv_has ls 3 [(0, .int p0), (1, .int p1)] := hl
  refine lv_iload_n hx hb dX7_err_0 rfl (lv_at hl 1 rfl) ?_
  refine lv_if_gt (tgt := 6) hx hb dX7_err_1 (by decide) (fun c_1 => ?_) (fun c_1 => ?_)
  · have t_1 : 0 < p1.toInt := kk_lt c_1
    refine lv_iload_n hx hb dX7_err_6 rfl (lv_at hl 0 rfl) ?_
    refine lv_iload_n hx hb dX7_err_7 rfl (lv_at hl 1 rfl) ?_
    refine lv_irem hx hb dX7_err_8 (fun h => by have h : p1.toInt = 0 := kk_eq h; have := kk_rng p1; omega) ?_
    refine lv_topi (fun y_2 e_2 => ?_)
    clear e_2
    refine lv_istore_n hx hb dX7_err_9 rfl hl (by decide) (rfl : _ = ([(2, .int y_2), (0, .int p0), (1, .int p1)] : List (Nat × Value))) (fun ls hl => ?_)
    refine lv_iload_n hx hb dX7_err_10 rfl (lv_at hl 1 rfl) ?_
    refine lv_iload_n hx hb dX7_err_11 rfl (lv_at hl 2 rfl) ?_
    refine lv_icmp_ge (tgt := 21) hx hb dX7_err_12 (by decide) (fun c_3 => ?_) (fun c_3 => ?_)
    · have t_3 : p1.toInt ≤ p0.toInt := kk_le c_3
      refine lv_iload_n hx hb dX7_err_21 rfl (lv_at hl 0 rfl) ?_
      refine lv_iload_n hx hb dX7_err_22 rfl (lv_at hl 2 rfl) ?_
      refine lv_iload_n hx hb dX7_err_23 rfl (lv_at hl 0 rfl) ?_
      refine lv_isub hx hb dX7_err_24 ?_
      refine va_mmin hx hb (hml.trans hl.1.symm) hown (hts (.methodLink RX7 29 Lib.Math.min.name) (List.mem_of_getElem? (i := 1) rfl)) (hts (.static Lib.Math.min.name) (List.mem_of_getElem? (i := 2) rfl)) (hts (.initialized "java/lang/Math") (List.mem_of_getElem? (i := 3) rfl)) (hts (.code Lib.Math.min.name Lib.Math.min.code 2 (some .int)) (List.mem_of_getElem? (i := 4) rfl)) (Nat.le_of_ble_eq_true rfl) (Nat.le_of_ble_eq_true rfl) (Nat.le_of_ble_eq_true rfl) (Nat.le_of_ble_eq_true rfl) dX7_err_25 ?_
      refine lv_topi (fun y_4 e_4 => ?_)
      have t_4 : y_4.toInt ≤ y_2.toInt ∧ y_4.toInt ≤ (p1 - y_2).toInt ∧ (y_4.toInt = y_2.toInt ∨ y_4.toInt = (p1 - y_2).toInt) := by rw [e_4]; exact kk_min _ _
      clear e_4
      have hP9 := kk_Ps (wq := []) hP [] rfl
      have hD9 := kk_Ds (wq := []) hD [] (by decide) rfl
      have hK9 := kk_Ks (tq := []) hK [] rfl
      exact W.iret (v := y_4) hx hb hr (fun t ht hW => ⟨⟨y_4, (), rfl, trivial, by rw [ht]; exact hP9, va_K.moved hW.alike hK9, hD9⟩, hS.F ht⟩) hS.2.2 dX7_err_28
    · have t_3 : p0.toInt < p1.toInt := kk_nle c_3
      refine lv_iload_n hx hb dX7_err_15 rfl (lv_at hl 2 rfl) ?_
      refine lv_iload_n hx hb dX7_err_16 rfl (lv_at hl 1 rfl) ?_
      refine lv_isub hx hb dX7_err_17 ?_
      refine lv_goto (tgt := 28) hx hb dX7_err_18 (by decide) ?_
      have hP9 := kk_Ps (wq := []) hP [] rfl
      have hD9 := kk_Ds (wq := []) hD [] (by decide) rfl
      have hK9 := kk_Ks (tq := []) hK [] rfl
      exact W.iret (v := (p1 - p0)) hx hb hr (fun t ht hW => ⟨⟨(p1 - p0), (), rfl, trivial, by rw [ht]; exact hP9, va_K.moved hW.alike hK9, hD9⟩, hS.F ht⟩) hS.2.2 dX7_err_28
  · have t_1 : p1.toInt ≤ 0 := kk_nlt c_1
    refine lv_iconst (v := 0) hx hb dX7_err_4 kk_ic_0 ?_
    have hP9 := kk_Ps (wq := []) hP [] rfl
    have hD9 := kk_Ds (wq := []) hD [] (by decide) rfl
    have hK9 := kk_Ks (tq := []) hK [] rfl
    exact W.iret (v := 0) hx hb hr (fun t ht hW => ⟨⟨0, (), rfl, trivial, by rw [ht]; exact hP9, va_K.moved hW.alike hK9, hD9⟩, hS.F ht⟩) hS.2.2 dX7_err_5
set_option maxHeartbeats 4000000 in
set_option maxRecDepth 100000 in
theorem g_X7_misfitBy_0 (l : Launch) (dC : Nat → ClassId) (dI : Nat → Nat → Nat) (h0 : Nat) (h1 : Nat) (cint : ClassId) (sz : Nat) (p0 : Int32) (p1 : Int32) (tp0 : 0 ≤ p0.toInt ∧ p0.toInt ≤ 330) (n0_many : Int32) (f1 : Nat → Int32) (tn0_many : 0 ≤ n0_many.toInt ∧ n0_many.toInt ≤ 40) : Met l yX7_misfitBy wsX7_misfitBy ({ frames := 2, cells := 0, slots := 0, locals := 43 }) (va_Pc [.ref h0, .int p0, .int p1] (fun U => U.heap.size = sz ∧ va_P (dC, dI) vwCl [(h0, kO7 h1 n0_many), (h1, kAi cint 40 f1)] U.heap ∧ va_K (dC, dI) vwCl [(cint, .int)] U ∧ va_D (fun _ => True) [(h0, kO7 h1 n0_many), (h1, kAi cint 40 f1)])) (va_Qi (fun (r : Int32) (_ : Unit) => True) (fun (_ : Unit) t => va_P (dC, dI) vwCl [(h0, kO7 h1 n0_many), (h1, kAi cint 40 f1)] t.heap ∧ va_K (dC, dI) vwCl [] t ∧ va_D (va_A [(h0, kO7 h1 n0_many), (h1, kAi cint 40 f1)] sz) [(h0, kO7 h1 n0_many), (h1, kAi cint 40 f1)]) (va_A [(h0, kO7 h1 n0_many), (h1, kAi cint 40 f1)] sz)) 0 0 (va_A [(h0, kO7 h1 n0_many), (h1, kAi cint 40 f1)] sz) := by
  refine Met.ofW (cc := cX7_misfitBy) (maxL := 5) (ret := (some .int)) (by decide) rfl ?_
  intro p e s m args below meth c s₁ B hml hv
  obtain ⟨rfl, hsz, hP, hK, hD0⟩ := hv
  have hx := B.exec
  have hb := B.bytes
  have hr := B.returns
  have hts := atoms_spec (ws := wsX7_misfitBy) B.pre
  have hown : s.vm.findClass RX7 = some m.cls := findClass_of_methodNamed B.named
  have hlocks := B.notSynchronized
  subst hsz
  have hD := hD0.self (sz := s.heap.size)
  generalize hAe : va_A [(h0, kO7 h1 n0_many), (h1, kAi cint 40 f1)] s.heap.size = A at hD ⊢
  have hA : ∀ q : Nat, s.heap.size ≤ q → A q := fun q h => by rw [← hAe]; exact Or.inr h
  have hS : va_S A s.heap s.heap [] := va_S.rf
  have hP : va_P (dC, dI) vwCl [(h0, kO7 h1 n0_many), (h1, kAi cint 40 f1)] s.heap := hP
  have hl := lv_entry ([.ref h0, .int p0, .int p1]) (n := 5) (Nat.le_of_ble_eq_true rfl)
  rw [lg_entry_eq]
  generalize (lg_sl ([.ref h0, .int p0, .int p1]) ++ List.replicate (5 - (lg_sl ([.ref h0, .int p0, .int p1])).length) Slot.unset).toArray = ls at hl ⊢
  have hl : lv_has ls 5 [(0, .ref h0), (1, .int p0), (2, .int p1)] := hl
  refine lv_iload_n hx hb dX7_misfitBy_0 rfl (lv_at hl 1 rfl) ?_
  refine lv_if_le (tgt := 11) hx hb dX7_misfitBy_1 (by decide) (fun c_1 => ?_) (fun c_1 => ?_)
  · have t_1 : p0.toInt ≤ 0 := kk_le c_1
    refine lv_iconst (v := (-1)) hx hb dX7_misfitBy_11 kk_ic_m1 ?_
    have hP9 := kk_Ps (wq := [(h0, kO7 h1 n0_many), (h1, kAi cint 40 f1)]) hP [0, 1] rfl
    have hD9 := kk_Ds (wq := [(h0, kO7 h1 n0_many), (h1, kAi cint 40 f1)]) hD [0, 1] (by decide) rfl
    have hK9 := kk_Ks (tq := []) hK [] rfl
    exact W.iret (v := (-1)) hx hb hr (fun t ht hW => ⟨⟨(-1), (), rfl, trivial, by rw [ht]; exact hP9, va_K.moved hW.alike hK9, hD9⟩, hS.F ht⟩) hS.2.2 dX7_misfitBy_12
  · have t_1 : 0 < p0.toInt := kk_nle c_1
    refine lv_aload_n hx hb dX7_misfitBy_4 rfl (lv_at hl 0 rfl) ?_
    refine va_get (D := (dC, dI)) (ci := 7) (v := .int n0_many) (C := RX7) (T := TX7) (N := 2) hx hb hts (fun _ h => List.mem_cons_of_mem _ (List.mem_append_right _ h)) hown hK hP 0 rfl rfl 1 (by decide) (hts (.fieldLink RX7 15 "KinkStreet$Rods" "many" "I") (List.mem_of_getElem? (i := 1) rfl)) (fun _ h9 => h9) rfl dX7_misfitBy_5 ?_
    refine lv_if_gt (tgt := 13) hx hb dX7_misfitBy_8 (by decide) (fun c_2 => ?_) (fun c_2 => ?_)
    · have t_2 : 0 < n0_many.toInt := kk_lt c_2
      refine lv_iconst (v := 0) hx hb dX7_misfitBy_13 kk_ic_0 ?_
      refine lv_istore_n hx hb dX7_misfitBy_14 rfl hl (by decide) (rfl : _ = ([(3, .int 0), (0, .ref h0), (1, .int p0), (2, .int p1)] : List (Nat × Value))) (fun ls hl => ?_)
      refine lv_iconst (v := 0) hx hb dX7_misfitBy_15 kk_ic_0 ?_
      refine lv_istore hx hb dX7_misfitBy_16 hl (by decide) (rfl : _ = ([(4, .int 0), (3, .int 0), (0, .ref h0), (1, .int p0), (2, .int p1)] : List (Nat × Value))) (fun ls hl => ?_)
      refine kk_loop (σ := Int32 × Int32) (fun x H locs ls => (0 ≤ x.1.toInt ∧ x.1.toInt ≤ 40) ∧ va_P (dC, dI) vwCl [(h0, kO7 h1 n0_many), (h1, kAi cint 40 f1)] H ∧ va_D A [(h0, kO7 h1 n0_many), (h1, kAi cint 40 f1)] ∧ va_S A s.heap H locs ∧ lv_has ls 5 [(4, .int x.1), (3, .int x.2), (0, .ref h0), (1, .int p0), (2, .int p1)]) (fun x => ((40 : Int) - x.1.toInt).toNat) ?_ (0, 0) _ _ _ ⟨(by show 0 ≤ (0 : Int32).toInt ∧ (0 : Int32).toInt ≤ 40; first | decide | ((omega))), hP, hD, hS, hl⟩
      rintro ⟨i_3_0, i_3_1⟩ H locs ls ⟨t_3_0, hP, hD, hS, hl⟩ ih_3
      have t_3_0 : (0 ≤ i_3_0.toInt ∧ i_3_0.toInt ≤ 40) := t_3_0
      have hl : lv_has ls 5 [(4, .int i_3_0), (3, .int i_3_1), (0, .ref h0), (1, .int p0), (2, .int p1)] := hl
      have hP : va_P (dC, dI) vwCl [(h0, kO7 h1 n0_many), (h1, kAi cint 40 f1)] H := hP
      have hD : va_D A [(h0, kO7 h1 n0_many), (h1, kAi cint 40 f1)] := hD
      refine lv_iload hx hb dX7_misfitBy_18 (lv_at hl 0 rfl) ?_
      refine lv_aload_n hx hb dX7_misfitBy_20 rfl (lv_at hl 2 rfl) ?_
      refine va_get (D := (dC, dI)) (ci := 7) (v := .int n0_many) (C := RX7) (T := TX7) (N := 2) hx hb hts (fun _ h => List.mem_cons_of_mem _ (List.mem_append_right _ h)) hown hK hP 0 rfl rfl 1 (by decide) (hts (.fieldLink RX7 15 "KinkStreet$Rods" "many" "I") (List.mem_of_getElem? (i := 1) rfl)) (fun _ h9 => h9) rfl dX7_misfitBy_21 ?_
      refine lv_icmp_ge (tgt := 49) hx hb dX7_misfitBy_24 (by decide) (fun c_28 => ?_) (fun c_28 => ?_)
      · have t_28 : n0_many.toInt ≤ i_3_0.toInt := kk_le c_28
        refine lv_iload_n hx hb dX7_misfitBy_49 rfl (lv_at hl 1 rfl) ?_
        refine lv_sipush (v := 1000) hx hb dX7_misfitBy_50 kk_si_1000 ?_
        refine lv_imul hx hb dX7_misfitBy_53 ?_
        refine lv_iload_n hx hb dX7_misfitBy_54 rfl (lv_at hl 3 rfl) ?_
        refine lv_aload_n hx hb dX7_misfitBy_55 rfl (lv_at hl 2 rfl) ?_
        refine va_get (D := (dC, dI)) (ci := 7) (v := .int n0_many) (C := RX7) (T := TX7) (N := 2) hx hb hts (fun _ h => List.mem_cons_of_mem _ (List.mem_append_right _ h)) hown hK hP 0 rfl rfl 1 (by decide) (hts (.fieldLink RX7 15 "KinkStreet$Rods" "many" "I") (List.mem_of_getElem? (i := 1) rfl)) (fun _ h9 => h9) rfl dX7_misfitBy_56 ?_
        refine lv_imul hx hb dX7_misfitBy_59 ?_
        refine lv_idiv hx hb dX7_misfitBy_60 (fun h => by have h : (p0 * n0_many).toInt = 0 := kk_eq h; have := kk_mulb (x := p0) (y := n0_many) (la := 1) (ha := 330) (lb := 1) (hb := 40) (by decide) (by decide) (by decide) (by omega) (by omega) (by omega) (by omega); omega) ?_
        refine lv_topi (fun y_29 e_29 => ?_)
        clear e_29
        have hP9 := kk_Ps (wq := [(h0, kO7 h1 n0_many), (h1, kAi cint 40 f1)]) hP [0, 1] rfl
        have hD9 := kk_Ds (wq := [(h0, kO7 h1 n0_many), (h1, kAi cint 40 f1)]) hD [0, 1] (by decide) rfl
        have hK9 := kk_Ks (tq := []) hK [] rfl
        exact W.iret (v := y_29) hx hb hr (fun t ht hW => ⟨⟨y_29, (), rfl, trivial, by rw [ht]; exact hP9, va_K.moved hW.alike hK9, hD9⟩, hS.F ht⟩) hS.2.2 dX7_misfitBy_61
      · have t_28 : i_3_0.toInt < n0_many.toInt := kk_nle c_28
        refine lv_iload_n hx hb dX7_misfitBy_27 rfl (lv_at hl 1 rfl) ?_
        refine lv_iload_n hx hb dX7_misfitBy_28 rfl (lv_at hl 4 rfl) ?_
        refine lv_aload_n hx hb dX7_misfitBy_29 rfl (lv_at hl 2 rfl) ?_
        refine va_get (D := (dC, dI)) (ci := 7) (v := .ref h1) (C := RX7) (T := TX7) (N := 2) hx hb hts (fun _ h => List.mem_cons_of_mem _ (List.mem_append_right _ h)) hown hK hP 0 rfl rfl 0 (by decide) (hts (.fieldLink RX7 9 "KinkStreet$Rods" "widths" "[I") (List.mem_of_getElem? (i := 2) rfl)) (fun _ h9 => h9) rfl dX7_misfitBy_30 ?_
        refine lv_iload hx hb dX7_misfitBy_33 (lv_at hl 0 rfl) ?_
        have hi_30 : vp_in i_3_0 40 := (vp_in_iff.mpr ⟨by omega, by omega⟩)
        refine va_iald hx hb hK hP 1 0 rfl rfl hi_30 dX7_misfitBy_35 ?_
        refine lv_topi (fun y_30 e_30 => ?_)
        clear e_30
        refine lv_imul hx hb dX7_misfitBy_36 ?_
        refine lv_iload_n hx hb dX7_misfitBy_37 rfl (lv_at hl 3 rfl) ?_
        have hPc := kk_Ps (wq := []) hP [] rfl
        have hDc := kk_Ds (wq := []) hD [] (by decide) rfl
        have hKc := kk_Ks (tq := []) hK [] rfl
        have hFc := va_free (wc := []) hD hS hA [] rfl
        refine va_calli (va_runS (As := [.int (p1 * y_30), .int p0]) (rest := [.int i_3_1]) ⟨hx, hb, hml, hown, hts⟩ (g_X7_err_0 l dC dI H.size (p1 * y_30) p0) (va_cwS 2 hts gX7_misfitBy_X7_err rfl rfl rfl kh_X7_err ⟨Nat.le_of_ble_eq_true rfl, Nat.le_of_ble_eq_true rfl⟩) ⟨fun a U g mk q => by obtain ⟨q0, q1, qP, qK, qD⟩ := q; exact ⟨q0, q1, qP, va_K.moved (u := U) (U := U.calling g mk a) (Vm.Alike.refl U.vm) qK, qD⟩, fun U hU hW => ⟨rfl, by rw [hU], by rw [hU]; exact hPc, va_K.moved hW.alike hKc, hDc.weaken (fun _ _ _ _ => trivial)⟩⟩ rfl rfl hl.1 rfl (lv_room (Nat.le_of_ble_eq_true rfl)) dX7_misfitBy_38 ⟨Nat.le_of_ble_eq_true rfl, Nat.le_of_ble_eq_true rfl⟩) hS (fun q _ h => hFc q h) hFc (fun r_31 u t H1 locs ht hvm hw hB hz1 hk1 hS => ?_)
        obtain ⟨hP1, hK1, hD1⟩ := hB
        rw [ht] at hP1
        have hK1 := va_K.moved hvm.symm hK1
        obtain ⟨hP, hD⟩ := va_join (wr := [(h0, kO7 h1 n0_many), (h1, kAi cint 40 f1)]) (w1 := []) hP hD [] [0, 1] rfl rfl (by decide) (by decide) hk1 hFc hP1 hD1
        generalize H1 = H at hP hS ⊢
        have hP : va_P (dC, dI) vwCl [(h0, kO7 h1 n0_many), (h1, kAi cint 40 f1)] H := hP
        have hD : va_D A [(h0, kO7 h1 n0_many), (h1, kAi cint 40 f1)] := hD
        refine lv_iadd hx hb dX7_misfitBy_41 ?_
        refine lv_istore_n hx hb dX7_misfitBy_42 rfl hl (by decide) (rfl : _ = ([(3, .int (i_3_1 + r_31)), (4, .int i_3_0), (0, .ref h0), (1, .int p0), (2, .int p1)] : List (Nat × Value))) (fun ls hl => ?_)
        refine lv_iinc (v := (i_3_0 + 1)) hx hb dX7_misfitBy_43 hl (k := 1) rfl (by first | rfl | decide) (by decide) (rfl : _ = ([(4, .int (i_3_0 + 1)), (3, .int (i_3_1 + r_31)), (0, .ref h0), (1, .int p0), (2, .int p1)] : List (Nat × Value))) (fun ls hl => ?_)
        refine lv_goto (tgt := 18) hx hb dX7_misfitBy_46 (by decide) ?_
        try have := kk_add2 (x := i_3_0) (y := 1) (a := i_3_0.toInt) (b := 1) rfl rfl (by omega) (by omega)
        exact ih_3 ((i_3_0 + 1), (i_3_1 + r_31)) _ _ _ (by show ((40 : Int) - ((i_3_0 + 1)).toInt).toNat < ((40 : Int) - i_3_0.toInt).toNat; exact kk_mu (by omega) (by omega)) ⟨(by show 0 ≤ ((i_3_0 + 1) : Int32).toInt ∧ ((i_3_0 + 1) : Int32).toInt ≤ 40; first | decide | ((omega))), hP, hD, hS, lv_sub hl [0, 1, 2, 3, 4] rfl⟩
    · have t_2 : n0_many.toInt ≤ 0 := kk_nlt c_2
      refine lv_iconst (v := (-1)) hx hb dX7_misfitBy_11 kk_ic_m1 ?_
      have hP9 := kk_Ps (wq := [(h0, kO7 h1 n0_many), (h1, kAi cint 40 f1)]) hP [0, 1] rfl
      have hD9 := kk_Ds (wq := [(h0, kO7 h1 n0_many), (h1, kAi cint 40 f1)]) hD [0, 1] (by decide) rfl
      have hK9 := kk_Ks (tq := []) hK [] rfl
      exact W.iret (v := (-1)) hx hb hr (fun t ht hW => ⟨⟨(-1), (), rfl, trivial, by rw [ht]; exact hP9, va_K.moved hW.alike hK9, hD9⟩, hS.F ht⟩) hS.2.2 dX7_misfitBy_12
set_option maxHeartbeats 4000000 in
set_option maxRecDepth 100000 in
theorem g_X7_bestRod_0 (l : Launch) (dC : Nat → ClassId) (dI : Nat → Nat → Nat) (h0 : Nat) (h1 : Nat) (cint : ClassId) (sz : Nat) (p0 : Int32) (n0_many : Int32) (f1 : Nat → Int32) (tn0_many : kk_bx (0 ≤ n0_many.toInt ∧ n0_many.toInt ≤ 40)) : Met l yX7_bestRod wsX7_bestRod ({ frames := 3, cells := 0, slots := 0, locals := 67 }) (va_Pc [.ref h0, .int p0] (fun U => U.heap.size = sz ∧ va_P (dC, dI) vwCl [(h0, kO7 h1 n0_many), (h1, kAi cint 40 f1)] U.heap ∧ va_K (dC, dI) vwCl [(cint, .int)] U ∧ va_D (fun _ => True) [(h0, kO7 h1 n0_many), (h1, kAi cint 40 f1)])) (va_Qi (fun (r : Int32) (_ : Unit) => (40 ≤ r.toInt ∧ r.toInt ≤ 330)) (fun (_ : Unit) t => va_P (dC, dI) vwCl [(h0, kO7 h1 n0_many), (h1, kAi cint 40 f1)] t.heap ∧ va_K (dC, dI) vwCl [] t ∧ va_D (va_A [(h0, kO7 h1 n0_many), (h1, kAi cint 40 f1)] sz) [(h0, kO7 h1 n0_many), (h1, kAi cint 40 f1)]) (va_A [(h0, kO7 h1 n0_many), (h1, kAi cint 40 f1)] sz)) 0 0 (va_A [(h0, kO7 h1 n0_many), (h1, kAi cint 40 f1)] sz) := by
  refine Met.ofW (cc := cX7_bestRod) (maxL := 6) (ret := (some .int)) (by decide) rfl ?_
  intro p e s m args below meth c s₁ B hml hv
  obtain ⟨rfl, hsz, hP, hK, hD0⟩ := hv
  have hx := B.exec
  have hb := B.bytes
  have hr := B.returns
  have hts := atoms_spec (ws := wsX7_bestRod) B.pre
  have hown : s.vm.findClass RX7 = some m.cls := findClass_of_methodNamed B.named
  have hlocks := B.notSynchronized
  subst hsz
  have hD := hD0.self (sz := s.heap.size)
  generalize hAe : va_A [(h0, kO7 h1 n0_many), (h1, kAi cint 40 f1)] s.heap.size = A at hD ⊢
  have hA : ∀ q : Nat, s.heap.size ≤ q → A q := fun q h => by rw [← hAe]; exact Or.inr h
  have hS : va_S A s.heap s.heap [] := va_S.rf
  have hP : va_P (dC, dI) vwCl [(h0, kO7 h1 n0_many), (h1, kAi cint 40 f1)] s.heap := hP
  have hl := lv_entry ([.ref h0, .int p0]) (n := 6) (Nat.le_of_ble_eq_true rfl)
  rw [lg_entry_eq]
  generalize (lg_sl ([.ref h0, .int p0]) ++ List.replicate (6 - (lg_sl ([.ref h0, .int p0])).length) Slot.unset).toArray = ls at hl ⊢
  have hl : lv_has ls 6 [(0, .ref h0), (1, .int p0)] := hl
  refine lv_bipush (v := 40) hx hb dX7_bestRod_0 kk_bi_40 ?_
  refine lv_istore_n hx hb dX7_bestRod_2 rfl hl (by decide) (rfl : _ = ([(2, .int 40), (0, .ref h0), (1, .int p0)] : List (Nat × Value))) (fun ls hl => ?_)
  refine lv_ldc hx hb hown (hts _ (List.mem_of_getElem? (i := 1) rfl)) dX7_bestRod_3 ?_
  refine lv_istore_n hx hb dX7_bestRod_5 rfl hl (by decide) (rfl : _ = ([(3, .int 1000000000), (2, .int 40), (0, .ref h0), (1, .int p0)] : List (Nat × Value))) (fun ls hl => ?_)
  refine lv_bipush (v := 40) hx hb dX7_bestRod_6 kk_bi_40 ?_
  refine lv_istore hx hb dX7_bestRod_8 hl (by decide) (rfl : _ = ([(4, .int 40), (3, .int 1000000000), (2, .int 40), (0, .ref h0), (1, .int p0)] : List (Nat × Value))) (fun ls hl => ?_)
  refine kk_loop (σ := Int32 × Int32 × Int32) (fun x H locs ls => (40 ≤ x.1.toInt ∧ x.1.toInt ≤ 331) ∧ ((-2147483648) ≤ x.2.1.toInt ∧ x.2.1.toInt ≤ 1000000000) ∧ (40 ≤ x.2.2.toInt ∧ x.2.2.toInt ≤ 330) ∧ va_P (dC, dI) vwCl [(h0, kO7 h1 n0_many), (h1, kAi cint 40 f1)] H ∧ va_D A [(h0, kO7 h1 n0_many), (h1, kAi cint 40 f1)] ∧ va_S A s.heap H locs ∧ lv_has ls 6 [(4, .int x.1), (3, .int x.2.1), (2, .int x.2.2), (0, .ref h0), (1, .int p0)]) (fun x => ((331 : Int) - x.1.toInt).toNat) ?_ (40, 1000000000, 40) _ _ _ ⟨(by show 40 ≤ (40 : Int32).toInt ∧ (40 : Int32).toInt ≤ 331; first | decide | ((omega))), (by show (-2147483648) ≤ (1000000000 : Int32).toInt ∧ (1000000000 : Int32).toInt ≤ 1000000000; first | decide | ((omega))), (by show 40 ≤ (40 : Int32).toInt ∧ (40 : Int32).toInt ≤ 330; first | decide | ((omega))), hP, hD, hS, hl⟩
  rintro ⟨i_1_0, i_1_1, i_1_2⟩ H locs ls ⟨t_1_0, t_1_1, t_1_2, hP, hD, hS, hl⟩ ih_1
  have t_1_0 : (40 ≤ i_1_0.toInt ∧ i_1_0.toInt ≤ 331) := t_1_0
  have t_1_1 : ((-2147483648) ≤ i_1_1.toInt ∧ i_1_1.toInt ≤ 1000000000) := t_1_1
  have t_1_2 : (40 ≤ i_1_2.toInt ∧ i_1_2.toInt ≤ 330) := t_1_2
  have hl : lv_has ls 6 [(4, .int i_1_0), (3, .int i_1_1), (2, .int i_1_2), (0, .ref h0), (1, .int p0)] := hl
  have hP : va_P (dC, dI) vwCl [(h0, kO7 h1 n0_many), (h1, kAi cint 40 f1)] H := hP
  have hD : va_D A [(h0, kO7 h1 n0_many), (h1, kAi cint 40 f1)] := hD
  refine lv_iload hx hb dX7_bestRod_10 (lv_at hl 0 rfl) ?_
  refine lv_sipush (v := 330) hx hb dX7_bestRod_12 kk_si_330 ?_
  refine lv_icmp_gt (tgt := 45) hx hb dX7_bestRod_15 (by decide) (fun c_31 => ?_) (fun c_31 => ?_)
  · have t_31 : 330 < i_1_0.toInt := kk_lt c_31
    refine lv_iload_n hx hb dX7_bestRod_45 rfl (lv_at hl 2 rfl) ?_
    have hP9 := kk_Ps (wq := [(h0, kO7 h1 n0_many), (h1, kAi cint 40 f1)]) hP [0, 1] rfl
    have hD9 := kk_Ds (wq := [(h0, kO7 h1 n0_many), (h1, kAi cint 40 f1)]) hD [0, 1] (by decide) rfl
    have hK9 := kk_Ks (tq := []) hK [] rfl
    try have := kk_rng i_1_1
    exact W.iret (v := i_1_2) hx hb hr (fun t ht hW => ⟨⟨i_1_2, (), rfl, (by show 40 ≤ (i_1_2 : Int32).toInt ∧ (i_1_2 : Int32).toInt ≤ 330; first | decide | ((omega))), by rw [ht]; exact hP9, va_K.moved hW.alike hK9, hD9⟩, hS.F ht⟩) hS.2.2 dX7_bestRod_46
  · have t_31 : i_1_0.toInt ≤ 330 := kk_nlt c_31
    refine lv_aload_n hx hb dX7_bestRod_18 rfl (lv_at hl 3 rfl) ?_
    refine lv_iload hx hb dX7_bestRod_19 (lv_at hl 0 rfl) ?_
    refine lv_iload_n hx hb dX7_bestRod_21 rfl (lv_at hl 4 rfl) ?_
    have hPc := kk_Ps (wq := [(h0, kO7 h1 n0_many), (h1, kAi cint 40 f1)]) hP [0, 1] rfl
    have hDc := kk_Ds (wq := [(h0, kO7 h1 n0_many), (h1, kAi cint 40 f1)]) hD [0, 1] (by decide) rfl
    have hKc := kk_Ks (tq := [(cint, .int)]) hK [0] rfl
    have hFc := va_free (wc := [(h0, kO7 h1 n0_many), (h1, kAi cint 40 f1)]) hD hS hA [0, 1] rfl
    try have := kk_rng i_1_1
    refine va_calli (va_runV (As := [.int i_1_0, .int p0]) (rest := []) ⟨hx, hb, hml, hown, hts⟩ (g_X7_misfitBy_0 l dC dI h0 h1 cint H.size i_1_0 p0 (by show 0 ≤ (i_1_0 : Int32).toInt ∧ (i_1_0 : Int32).toInt ≤ 330; first | decide | ((omega))) n0_many f1 tn0_many) (cwV 2 hts gX7_bestRod_X7_misfitBy rfl rfl rfl ⟨rfl, kh_X7_misfitBy⟩ ⟨Nat.le_of_ble_eq_true rfl, Nat.le_of_ble_eq_true rfl⟩) ⟨fun a U g mk q => by obtain ⟨q0, q1, qP, qK, qD⟩ := q; exact ⟨q0, q1, qP, va_K.moved (u := U) (U := U.calling g mk a) (Vm.Alike.refl U.vm) qK, qD⟩, va_recv hKc hPc (ci := 7) (q0 := 0) rfl rfl, fun U hU hW => ⟨rfl, by rw [hU], by rw [hU]; exact hPc, va_K.moved hW.alike hKc, hDc.weaken (fun _ _ _ _ => trivial)⟩⟩ rfl rfl hl.1 rfl (lv_room (Nat.le_of_ble_eq_true rfl)) dX7_bestRod_22 ⟨Nat.le_of_ble_eq_true rfl, Nat.le_of_ble_eq_true rfl⟩) hS (fun q _ h => hFc q h) hFc (fun r_32 u t H1 locs ht hvm hw hB hz1 hk1 hS => ?_)
    obtain ⟨hP1, hK1, hD1⟩ := hB
    rw [ht] at hP1
    have hK1 := va_K.moved hvm.symm hK1
    obtain ⟨hP, hD⟩ := va_join (wr := []) (w1 := [(h0, kO7 h1 n0_many), (h1, kAi cint 40 f1)]) hP hD [0, 1] [] rfl rfl (by decide) (by decide) hk1 hFc hP1 hD1
    generalize H1 = H at hP hS ⊢
    have hP : va_P (dC, dI) vwCl [(h0, kO7 h1 n0_many), (h1, kAi cint 40 f1)] H := hP
    have hD : va_D A [(h0, kO7 h1 n0_many), (h1, kAi cint 40 f1)] := hD
    refine lv_istore hx hb dX7_bestRod_25 hl (by decide) (rfl : _ = ([(5, .int r_32), (4, .int i_1_0), (3, .int i_1_1), (2, .int i_1_2), (0, .ref h0), (1, .int p0)] : List (Nat × Value))) (fun ls hl => ?_)
    refine lv_iload hx hb dX7_bestRod_27 (lv_at hl 0 rfl) ?_
    refine lv_iload_n hx hb dX7_bestRod_29 rfl (lv_at hl 2 rfl) ?_
    refine lv_icmp_gt (tgt := 39) hx hb dX7_bestRod_30 (by decide) (fun c_33 => ?_) (fun c_33 => ?_)
    · have t_33 : i_1_1.toInt < r_32.toInt := kk_lt c_33
      refine lv_iinc (v := (i_1_0 + 1)) hx hb dX7_bestRod_39 hl (k := 1) rfl (by first | rfl | decide) (by decide) (rfl : _ = ([(4, .int (i_1_0 + 1)), (5, .int r_32), (3, .int i_1_1), (2, .int i_1_2), (0, .ref h0), (1, .int p0)] : List (Nat × Value))) (fun ls hl => ?_)
      refine lv_goto (tgt := 10) hx hb dX7_bestRod_42 (by decide) ?_
      try have := kk_rng r_32
      try have := kk_add2 (x := i_1_0) (y := 1) (a := i_1_0.toInt) (b := 1) rfl rfl (by omega) (by omega)
      exact ih_1 ((i_1_0 + 1), i_1_1, i_1_2) _ _ _ (by show ((331 : Int) - ((i_1_0 + 1)).toInt).toNat < ((331 : Int) - i_1_0.toInt).toNat; exact kk_mu (by omega) (by omega)) ⟨(by show 40 ≤ ((i_1_0 + 1) : Int32).toInt ∧ ((i_1_0 + 1) : Int32).toInt ≤ 331; first | decide | ((omega))), (by show (-2147483648) ≤ (i_1_1 : Int32).toInt ∧ (i_1_1 : Int32).toInt ≤ 1000000000; first | decide | ((omega))), (by show 40 ≤ (i_1_2 : Int32).toInt ∧ (i_1_2 : Int32).toInt ≤ 330; first | decide | ((omega))), hP, hD, hS, lv_sub hl [0, 2, 3, 4, 5] rfl⟩
    · have t_33 : r_32.toInt ≤ i_1_1.toInt := kk_nlt c_33
      refine lv_iload hx hb dX7_bestRod_33 (lv_at hl 0 rfl) ?_
      refine lv_istore_n hx hb dX7_bestRod_35 rfl hl (by decide) (rfl : _ = ([(3, .int r_32), (5, .int r_32), (4, .int i_1_0), (2, .int i_1_2), (0, .ref h0), (1, .int p0)] : List (Nat × Value))) (fun ls hl => ?_)
      refine lv_iload hx hb dX7_bestRod_36 (lv_at hl 2 rfl) ?_
      refine lv_istore_n hx hb dX7_bestRod_38 rfl hl (by decide) (rfl : _ = ([(2, .int i_1_0), (3, .int r_32), (5, .int r_32), (4, .int i_1_0), (0, .ref h0), (1, .int p0)] : List (Nat × Value))) (fun ls hl => ?_)
      refine lv_iinc (v := (i_1_0 + 1)) hx hb dX7_bestRod_39 hl (k := 3) rfl (by first | rfl | decide) (by decide) (rfl : _ = ([(4, .int (i_1_0 + 1)), (2, .int i_1_0), (3, .int r_32), (5, .int r_32), (0, .ref h0), (1, .int p0)] : List (Nat × Value))) (fun ls hl => ?_)
      refine lv_goto (tgt := 10) hx hb dX7_bestRod_42 (by decide) ?_
      try have := kk_rng r_32
      try have := kk_add2 (x := i_1_0) (y := 1) (a := i_1_0.toInt) (b := 1) rfl rfl (by omega) (by omega)
      exact ih_1 ((i_1_0 + 1), r_32, i_1_0) _ _ _ (by show ((331 : Int) - ((i_1_0 + 1)).toInt).toNat < ((331 : Int) - i_1_0.toInt).toNat; exact kk_mu (by omega) (by omega)) ⟨(by show 40 ≤ ((i_1_0 + 1) : Int32).toInt ∧ ((i_1_0 + 1) : Int32).toInt ≤ 331; first | decide | ((omega))), (by show (-2147483648) ≤ (r_32 : Int32).toInt ∧ (r_32 : Int32).toInt ≤ 1000000000; first | decide | ((omega))), (by show 40 ≤ (i_1_0 : Int32).toInt ∧ (i_1_0 : Int32).toInt ≤ 330; first | decide | ((omega))), hP, hD, hS, lv_sub hl [0, 2, 1, 4, 5] rfl⟩
set_option maxHeartbeats 4000000 in
set_option maxRecDepth 100000 in
theorem g_X11_drawAfter_0 (l : Launch) (dC : Nat → ClassId) (dI : Nat → Nat → Nat) (sz : Nat) (p0 : Int32) : Met l yX11_drawAfter wsX11_drawAfter ({ frames := 0, cells := 0, slots := 0, locals := 0 }) (va_Pc [.int p0] (fun U => U.heap.size = sz ∧ va_P (dC, dI) vwCl [] U.heap ∧ va_K (dC, dI) vwCl [] U ∧ va_D (fun _ => True) [])) (va_Qi (fun (r : Int32) (_ : Unit) => ((p0 * 1103515245) + 12345) = r) (fun (_ : Unit) t => va_P (dC, dI) vwCl [] t.heap ∧ va_K (dC, dI) vwCl [] t ∧ va_D (va_A [] sz) []) (va_A [] sz)) 0 0 (va_A [] sz) := by
  refine Met.ofW (cc := cX11_drawAfter) (maxL := 1) (ret := (some .int)) (by decide) rfl ?_
  intro p e s m args below meth c s₁ B hml hv
  obtain ⟨rfl, hsz, hP, hK, hD0⟩ := hv
  have hx := B.exec
  have hb := B.bytes
  have hr := B.returns
  have hts := atoms_spec (ws := wsX11_drawAfter) B.pre
  have hown : s.vm.findClass RX11 = some m.cls := findClass_of_methodNamed B.named
  have hlocks := B.notSynchronized
  subst hsz
  have hD := hD0.self (sz := s.heap.size)
  generalize hAe : va_A [] s.heap.size = A at hD ⊢
  have hA : ∀ q : Nat, s.heap.size ≤ q → A q := fun q h => by rw [← hAe]; exact Or.inr h
  have hS : va_S A s.heap s.heap [] := va_S.rf
  have hP : va_P (dC, dI) vwCl [] s.heap := hP
  have hl := lv_entry ([.int p0]) (n := 1) (Nat.le_of_ble_eq_true rfl)
  rw [lg_entry_eq]
  generalize (lg_sl ([.int p0]) ++ List.replicate (1 - (lg_sl ([.int p0])).length) Slot.unset).toArray = ls at hl ⊢
  have hl : lv_has ls 1 [(0, .int p0)] := hl
  refine lv_iload_n hx hb dX11_drawAfter_0 rfl (lv_at hl 0 rfl) ?_
  refine lv_ldcw hx hb hown (hts _ (List.mem_of_getElem? (i := 1) rfl)) dX11_drawAfter_1 ?_
  refine lv_imul hx hb dX11_drawAfter_4 ?_
  refine lv_sipush (v := 12345) hx hb dX11_drawAfter_5 kk_si_12345 ?_
  refine lv_iadd hx hb dX11_drawAfter_8 ?_
  have hP9 := kk_Ps (wq := []) hP [] rfl
  have hD9 := kk_Ds (wq := []) hD [] (by decide) rfl
  have hK9 := kk_Ks (tq := []) hK [] rfl
  exact W.iret (v := ((p0 * 1103515245) + 12345)) hx hb hr (fun t ht hW => ⟨⟨((p0 * 1103515245) + 12345), (), rfl, rfl, by rw [ht]; exact hP9, va_K.moved hW.alike hK9, hD9⟩, hS.F ht⟩) hS.2.2 dX11_drawAfter_9
set_option maxHeartbeats 4000000 in
set_option maxRecDepth 100000 in
theorem g_X7_drawnWidth_0 (l : Launch) (dC : Nat → ClassId) (dI : Nat → Nat → Nat) (sz : Nat) (p0 : Int32) (p1 : Int32) : Met l yX7_drawnWidth wsX7_drawnWidth ({ frames := 0, cells := 0, slots := 0, locals := 0 }) (va_Pc [.int p0, .int p1] (fun U => U.heap.size = sz ∧ va_P (dC, dI) vwCl [] U.heap ∧ va_K (dC, dI) vwCl [] U ∧ va_D (fun _ => True) [])) (va_Qi (fun (r : Int32) (_ : Unit) => True) (fun (_ : Unit) t => va_P (dC, dI) vwCl [] t.heap ∧ va_K (dC, dI) vwCl [] t ∧ va_D (va_A [] sz) []) (va_A [] sz)) 0 0 (va_A [] sz) := by
  refine Met.ofW (cc := cX7_drawnWidth) (maxL := 2) (ret := (some .int)) (by decide) rfl ?_
  intro p e s m args below meth c s₁ B hml hv
  obtain ⟨rfl, hsz, hP, hK, hD0⟩ := hv
  have hx := B.exec
  have hb := B.bytes
  have hr := B.returns
  have hts := atoms_spec (ws := wsX7_drawnWidth) B.pre
  have hown : s.vm.findClass RX7 = some m.cls := findClass_of_methodNamed B.named
  have hlocks := B.notSynchronized
  subst hsz
  have hD := hD0.self (sz := s.heap.size)
  generalize hAe : va_A [] s.heap.size = A at hD ⊢
  have hA : ∀ q : Nat, s.heap.size ≤ q → A q := fun q h => by rw [← hAe]; exact Or.inr h
  have hS : va_S A s.heap s.heap [] := va_S.rf
  have hP : va_P (dC, dI) vwCl [] s.heap := hP
  have hl := lv_entry ([.int p0, .int p1]) (n := 2) (Nat.le_of_ble_eq_true rfl)
  rw [lg_entry_eq]
  generalize (lg_sl ([.int p0, .int p1]) ++ List.replicate (2 - (lg_sl ([.int p0, .int p1])).length) Slot.unset).toArray = ls at hl ⊢
  have hl : lv_has ls 2 [(0, .int p0), (1, .int p1)] := hl
  refine lv_iload_n hx hb dX7_drawnWidth_0 rfl (lv_at hl 0 rfl) ?_
  refine lv_if_ge (tgt := 8) hx hb dX7_drawnWidth_1 (by decide) (fun c_1 => ?_) (fun c_1 => ?_)
  · have t_1 : 0 ≤ p0.toInt := kk_le c_1
    refine lv_iload_n hx hb dX7_drawnWidth_8 rfl (lv_at hl 0 rfl) ?_
    refine lv_iconst (v := 2) hx hb dX7_drawnWidth_9 kk_ic_2 ?_
    refine lv_idiv hx hb dX7_drawnWidth_10 (by decide) ?_
    refine lv_iload_n hx hb dX7_drawnWidth_11 rfl (lv_at hl 1 rfl) ?_
    refine lv_bipush (v := 8) hx hb dX7_drawnWidth_12 kk_bi_8 ?_
    refine lv_iushr hx hb dX7_drawnWidth_14 rfl ?_
    refine lv_topi (fun y_2 e_2 => ?_)
    have t_2 : 0 ≤ y_2.toInt ∧ y_2.toInt ≤ 16777215 := by rw [e_2]; exact kk_ushr8 _
    clear e_2
    refine lv_iload_n hx hb dX7_drawnWidth_15 rfl (lv_at hl 0 rfl) ?_
    refine lv_iconst (v := 1) hx hb dX7_drawnWidth_16 kk_ic_1 ?_
    refine lv_iadd hx hb dX7_drawnWidth_17 ?_
    try have := kk_rng p0
    try have := kk_div (x := p0) (k := 2) (n := 2) rfl (by decide) (by omega)
    refine lv_irem hx hb dX7_drawnWidth_18 (kk_succ0 (by omega)) ?_
    refine lv_topi (fun y_3 e_3 => ?_)
    clear e_3
    refine lv_iadd hx hb dX7_drawnWidth_19 ?_
    have hP9 := kk_Ps (wq := []) hP [] rfl
    have hD9 := kk_Ds (wq := []) hD [] (by decide) rfl
    have hK9 := kk_Ks (tq := []) hK [] rfl
    exact W.iret (v := ((p0 / 2) + y_3)) hx hb hr (fun t ht hW => ⟨⟨((p0 / 2) + y_3), (), rfl, trivial, by rw [ht]; exact hP9, va_K.moved hW.alike hK9, hD9⟩, hS.F ht⟩) hS.2.2 dX7_drawnWidth_20
  · have t_1 : p0.toInt < 0 := kk_nle c_1
    refine lv_iconst (v := 0) hx hb dX7_drawnWidth_4 kk_ic_0 ?_
    refine lv_goto (tgt := 20) hx hb dX7_drawnWidth_5 (by decide) ?_
    have hP9 := kk_Ps (wq := []) hP [] rfl
    have hD9 := kk_Ds (wq := []) hD [] (by decide) rfl
    have hK9 := kk_Ks (tq := []) hK [] rfl
    exact W.iret (v := 0) hx hb hr (fun t ht hW => ⟨⟨0, (), rfl, trivial, by rw [ht]; exact hP9, va_K.moved hW.alike hK9, hD9⟩, hS.F ht⟩) hS.2.2 dX7_drawnWidth_20
set_option maxHeartbeats 4000000 in
set_option maxRecDepth 100000 in
theorem g_X7_byChance_0 (l : Launch) (dC : Nat → ClassId) (dI : Nat → Nat → Nat) (h0 : Nat) (h1 : Nat) (h2 : Nat) (h3 : Nat) (h4 : Nat) (h5 : Nat) (cint : ClassId) (sz : Nat) (p1 : Int32) (p2 : Int32) (p3 : Int32) (p4 : Int32) (n0_many : Int32) (n1_size : Int32) (f2 : Nat → Int32) (f3 : Nat → Int32) (tn0_many : kk_bx (0 ≤ n0_many.toInt ∧ n0_many.toInt ≤ 40)) (tn1_size : kk_bx (0 ≤ n1_size.toInt ∧ n1_size.toInt ≤ 40)) : Met l yX7_byChance wsX7_byChance ({ frames := 4, cells := 0, slots := 0, locals := 92 }) (va_Pc [.ref h0, .ref h1, .int p1, .int p2, .int p3, .int p4] (fun U => U.heap.size = sz ∧ va_P (dC, dI) vwCl [(h0, kO7 h2 n0_many), (h1, kO9 h3 h4 h5 n1_size), (h2, kAi cint 40 f2), (h3, kAi cint 40 f3)] U.heap ∧ va_K (dC, dI) vwCl [(cint, .int)] U ∧ va_D (fun _ => True) [(h0, kO7 h2 n0_many), (h1, kO9 h3 h4 h5 n1_size), (h2, kAi cint 40 f2), (h3, kAi cint 40 f3)] ∧ va_Nw (.methodLinkNest RX7 45 yX11_drawAfter "KinkStreet") U)) (va_Qi (fun (r : Int32) (_ : Unit) => True) (fun (_ : Unit) t => ∃ (m0_many : Int32) (g2 : Nat → Int32), (0 ≤ m0_many.toInt ∧ m0_many.toInt ≤ 40) ∧ va_P (dC, dI) vwCl [(h0, kO7 h2 m0_many), (h1, kO9 h3 h4 h5 n1_size), (h2, kAi cint 40 g2), (h3, kAi cint 40 f3)] t.heap ∧ va_K (dC, dI) vwCl [] t ∧ va_D (va_A [(h0, kO7 h2 n0_many), (h1, kO9 h3 h4 h5 n1_size), (h2, kAi cint 40 f2), (h3, kAi cint 40 f3)] sz) [(h0, kO7 h2 m0_many), (h1, kO9 h3 h4 h5 n1_size), (h2, kAi cint 40 g2), (h3, kAi cint 40 f3)]) (va_A [(h0, kO7 h2 n0_many), (h1, kO9 h3 h4 h5 n1_size), (h2, kAi cint 40 f2), (h3, kAi cint 40 f3)] sz)) 0 0 (va_A [(h0, kO7 h2 n0_many), (h1, kO9 h3 h4 h5 n1_size), (h2, kAi cint 40 f2), (h3, kAi cint 40 f3)] sz) := by
  refine Met.ofW (cc := cX7_byChance) (maxL := 11) (ret := (some .int)) (by decide) rfl ?_
  intro p e s m args below meth c s₁ B hml hv
  obtain ⟨rfl, hsz, hP, hK, hD0, hN45⟩ := hv
  have hx := B.exec
  have hb := B.bytes
  have hr := B.returns
  have hts := atoms_spec (ws := wsX7_byChance) B.pre
  have hown : s.vm.findClass RX7 = some m.cls := findClass_of_methodNamed B.named
  have hlocks := B.notSynchronized
  subst hsz
  have hD := hD0.self (sz := s.heap.size)
  generalize hAe : va_A [(h0, kO7 h2 n0_many), (h1, kO9 h3 h4 h5 n1_size), (h2, kAi cint 40 f2), (h3, kAi cint 40 f3)] s.heap.size = A at hD ⊢
  have hA : ∀ q : Nat, s.heap.size ≤ q → A q := fun q h => by rw [← hAe]; exact Or.inr h
  have hS : va_S A s.heap s.heap [] := va_S.rf
  have hP : va_P (dC, dI) vwCl [(h0, kO7 h2 n0_many), (h1, kO9 h3 h4 h5 n1_size), (h2, kAi cint 40 f2), (h3, kAi cint 40 f3)] s.heap := hP
  have hl := lv_entry ([.ref h0, .ref h1, .int p1, .int p2, .int p3, .int p4]) (n := 11) (Nat.le_of_ble_eq_true rfl)
  rw [lg_entry_eq]
  generalize (lg_sl ([.ref h0, .ref h1, .int p1, .int p2, .int p3, .int p4]) ++ List.replicate (11 - (lg_sl ([.ref h0, .ref h1, .int p1, .int p2, .int p3, .int p4])).length) Slot.unset).toArray = ls at hl ⊢
  have hl : lv_has ls 11 [(0, .ref h0), (1, .ref h1), (2, .int p1), (3, .int p2), (4, .int p3), (5, .int p4)] := hl
  refine lv_aload_n hx hb dX7_byChance_0 rfl (lv_at hl 0 rfl) ?_
  refine lv_aload_n hx hb dX7_byChance_1 rfl (lv_at hl 1 rfl) ?_
  refine lv_iload_n hx hb dX7_byChance_2 rfl (lv_at hl 2 rfl) ?_
  have hPc := kk_Ps (wq := [(h0, kO7 h2 n0_many), (h1, kO9 h3 h4 h5 n1_size), (h2, kAi cint 40 f2), (h3, kAi cint 40 f3)]) hP [0, 1, 2, 3] rfl
  have hDc := kk_Ds (wq := [(h0, kO7 h2 n0_many), (h1, kO9 h3 h4 h5 n1_size), (h2, kAi cint 40 f2), (h3, kAi cint 40 f3)]) hD [0, 1, 2, 3] (by decide) rfl
  have hKc := kk_Ks (tq := [(cint, .int)]) hK [0] rfl
  have hFc := va_free (wc := [(h0, kO7 h2 n0_many), (h1, kO9 h3 h4 h5 n1_size), (h2, kAi cint 40 f2), (h3, kAi cint 40 f3)]) hD hS hA [0, 1, 2, 3] rfl
  refine va_callv (va_runV (As := [.ref h1, .int p1]) (rest := []) ⟨hx, hb, hml, hown, hts⟩ (g_X7_lookAt_0 l dC dI h0 h1 h2 h3 h4 h5 cint s.heap.size p1 n0_many n1_size f2 f3 tn0_many tn1_size) (cwV 2 hts gX7_byChance_X7_lookAt rfl rfl rfl ⟨rfl, kh_X7_lookAt⟩ ⟨Nat.le_of_ble_eq_true rfl, Nat.le_of_ble_eq_true rfl⟩) ⟨fun a U g mk q => by obtain ⟨q0, q1, qP, qK, qD⟩ := q; exact ⟨q0, q1, qP, va_K.moved (u := U) (U := U.calling g mk a) (Vm.Alike.refl U.vm) qK, qD⟩, va_recv hKc hPc (ci := 7) (q0 := 0) rfl rfl, fun U hU hW => ⟨rfl, by rw [hU], by rw [hU]; exact hPc, va_K.moved hW.alike hKc, hDc.weaken (fun _ _ _ _ => trivial)⟩⟩ rfl rfl hl.1 rfl (lv_room (Nat.le_of_ble_eq_true rfl)) dX7_byChance_3 ⟨Nat.le_of_ble_eq_true rfl, Nat.le_of_ble_eq_true rfl⟩) hS (fun q _ h => hFc q h) hFc (fun u t H1 locs ht hvm hw hB hz1 hk1 hS => ?_)
  refine hB.elim (fun y_2 hB => ?_)
  refine hB.elim (fun f_3 hB => ?_)
  refine hB.elim (fun by_2 hB => ?_)
  have hP1 := hB.1
  have hK1 := hB.2.1
  have hD1 := hB.2.2
  rw [ht] at hP1
  have hK1 := va_K.moved hvm.symm hK1
  obtain ⟨hP, hD⟩ := va_join (wr := []) (w1 := [(h0, kO7 h2 y_2), (h1, kO9 h3 h4 h5 n1_size), (h2, kAi cint 40 f_3), (h3, kAi cint 40 f3)]) hP hD [0, 1, 2, 3] [] rfl rfl (by decide) (by decide) hk1 hFc hP1 hD1
  generalize H1 = H at hP hS ⊢
  have hP : va_P (dC, dI) vwCl [(h0, kO7 h2 y_2), (h1, kO9 h3 h4 h5 n1_size), (h2, kAi cint 40 f_3), (h3, kAi cint 40 f3)] H := hP
  have hD : va_D A [(h0, kO7 h2 y_2), (h1, kO9 h3 h4 h5 n1_size), (h2, kAi cint 40 f_3), (h3, kAi cint 40 f3)] := hD
  refine lv_aload_n hx hb dX7_byChance_6 rfl (lv_at hl 0 rfl) ?_
  refine lv_aload_n hx hb dX7_byChance_7 rfl (lv_at hl 0 rfl) ?_
  refine lv_iload_n hx hb dX7_byChance_8 rfl (lv_at hl 3 rfl) ?_
  have hPc := kk_Ps (wq := [(h0, kO7 h2 y_2), (h2, kAi cint 40 f_3)]) hP [0, 2] rfl
  have hDc := kk_Ds (wq := [(h0, kO7 h2 y_2), (h2, kAi cint 40 f_3)]) hD [0, 2] (by decide) rfl
  have hKc := kk_Ks (tq := [(cint, .int)]) hK [0] rfl
  have hFc := va_free (wc := [(h0, kO7 h2 y_2), (h2, kAi cint 40 f_3)]) hD hS hA [0, 2] rfl
  refine va_calli (va_runV (As := [.int p2]) (rest := [.ref h0]) ⟨hx, hb, hml, hown, hts⟩ (g_X7_bestRod_0 l dC dI h0 h2 cint H.size p2 y_2 f_3 (by show 0 ≤ (y_2 : Int32).toInt ∧ (y_2 : Int32).toInt ≤ 40; first | decide | ((omega)))) (cwV 1 hts gX7_byChance_X7_bestRod rfl rfl rfl ⟨rfl, kh_X7_bestRod⟩ ⟨Nat.le_of_ble_eq_true rfl, Nat.le_of_ble_eq_true rfl⟩) ⟨fun a U g mk q => by obtain ⟨q0, q1, qP, qK, qD⟩ := q; exact ⟨q0, q1, qP, va_K.moved (u := U) (U := U.calling g mk a) (Vm.Alike.refl U.vm) qK, qD⟩, va_recv hKc hPc (ci := 7) (q0 := 0) rfl rfl, fun U hU hW => ⟨rfl, by rw [hU], by rw [hU]; exact hPc, va_K.moved hW.alike hKc, hDc.weaken (fun _ _ _ _ => trivial)⟩⟩ rfl rfl hl.1 rfl (lv_room (Nat.le_of_ble_eq_true rfl)) dX7_byChance_9 ⟨Nat.le_of_ble_eq_true rfl, Nat.le_of_ble_eq_true rfl⟩) hS (fun q _ h => hFc q h) hFc (fun r_4 u t H1 locs ht hvm hw hB hz1 hk1 hS => ?_)
  obtain ⟨hP1, hK1, hD1⟩ := hB
  rw [ht] at hP1
  have hK1 := va_K.moved hvm.symm hK1
  obtain ⟨hP, hD⟩ := va_join (wr := [(h1, kO9 h3 h4 h5 n1_size), (h3, kAi cint 40 f3)]) (w1 := [(h0, kO7 h2 y_2), (h2, kAi cint 40 f_3)]) hP hD [0, 2] [1, 3] rfl rfl (by decide) (by decide) hk1 hFc hP1 hD1
  generalize H1 = H at hP hS ⊢
  have hP : va_P (dC, dI) vwCl [(h1, kO9 h3 h4 h5 n1_size), (h3, kAi cint 40 f3), (h0, kO7 h2 y_2), (h2, kAi cint 40 f_3)] H := hP
  have hD : va_D A [(h1, kO9 h3 h4 h5 n1_size), (h3, kAi cint 40 f3), (h0, kO7 h2 y_2), (h2, kAi cint 40 f_3)] := hD
  have t_4 : 40 ≤ r_4.toInt ∧ r_4.toInt ≤ 330 := hw
  refine lv_iload_n hx hb dX7_byChance_12 rfl (lv_at hl 3 rfl) ?_
  have hPc := kk_Ps (wq := [(h0, kO7 h2 y_2), (h2, kAi cint 40 f_3)]) hP [2, 3] rfl
  have hDc := kk_Ds (wq := [(h0, kO7 h2 y_2), (h2, kAi cint 40 f_3)]) hD [2, 3] (by decide) rfl
  have hKc := kk_Ks (tq := [(cint, .int)]) hK [0] rfl
  have hFc := va_free (wc := [(h0, kO7 h2 y_2), (h2, kAi cint 40 f_3)]) hD hS hA [2, 3] rfl
  refine va_calli (va_runV (As := [.int r_4, .int p2]) (rest := []) ⟨hx, hb, hml, hown, hts⟩ (g_X7_misfitBy_0 l dC dI h0 h2 cint H.size r_4 p2 (by show 0 ≤ (r_4 : Int32).toInt ∧ (r_4 : Int32).toInt ≤ 330; first | decide | ((omega))) y_2 f_3 (by show 0 ≤ (y_2 : Int32).toInt ∧ (y_2 : Int32).toInt ≤ 40; first | decide | ((omega)))) (cwV 2 hts gX7_byChance_X7_misfitBy rfl rfl rfl ⟨rfl, kh_X7_misfitBy⟩ ⟨Nat.le_of_ble_eq_true rfl, Nat.le_of_ble_eq_true rfl⟩) ⟨fun a U g mk q => by obtain ⟨q0, q1, qP, qK, qD⟩ := q; exact ⟨q0, q1, qP, va_K.moved (u := U) (U := U.calling g mk a) (Vm.Alike.refl U.vm) qK, qD⟩, va_recv hKc hPc (ci := 7) (q0 := 0) rfl rfl, fun U hU hW => ⟨rfl, by rw [hU], by rw [hU]; exact hPc, va_K.moved hW.alike hKc, hDc.weaken (fun _ _ _ _ => trivial)⟩⟩ rfl rfl hl.1 rfl (lv_room (Nat.le_of_ble_eq_true rfl)) dX7_byChance_13 ⟨Nat.le_of_ble_eq_true rfl, Nat.le_of_ble_eq_true rfl⟩) hS (fun q _ h => hFc q h) hFc (fun r_5 u t H1 locs ht hvm hw hB hz1 hk1 hS => ?_)
  obtain ⟨hP1, hK1, hD1⟩ := hB
  rw [ht] at hP1
  have hK1 := va_K.moved hvm.symm hK1
  obtain ⟨hP, hD⟩ := va_join (wr := [(h1, kO9 h3 h4 h5 n1_size), (h3, kAi cint 40 f3)]) (w1 := [(h0, kO7 h2 y_2), (h2, kAi cint 40 f_3)]) hP hD [2, 3] [0, 1] rfl rfl (by decide) (by decide) hk1 hFc hP1 hD1
  generalize H1 = H at hP hS ⊢
  have hP : va_P (dC, dI) vwCl [(h1, kO9 h3 h4 h5 n1_size), (h3, kAi cint 40 f3), (h0, kO7 h2 y_2), (h2, kAi cint 40 f_3)] H := hP
  have hD : va_D A [(h1, kO9 h3 h4 h5 n1_size), (h3, kAi cint 40 f3), (h0, kO7 h2 y_2), (h2, kAi cint 40 f_3)] := hD
  refine lv_istore hx hb dX7_byChance_16 hl (by decide) (rfl : _ = ([(6, .int r_5), (0, .ref h0), (1, .ref h1), (2, .int p1), (3, .int p2), (4, .int p3), (5, .int p4)] : List (Nat × Value))) (fun ls hl => ?_)
  refine lv_iload hx hb dX7_byChance_18 (lv_at hl 6 rfl) ?_
  refine lv_istore hx hb dX7_byChance_20 hl (by decide) (rfl : _ = ([(7, .int p4), (6, .int r_5), (0, .ref h0), (1, .ref h1), (2, .int p1), (3, .int p2), (4, .int p3), (5, .int p4)] : List (Nat × Value))) (fun ls hl => ?_)
  refine lv_iconst (v := 0) hx hb dX7_byChance_22 kk_ic_0 ?_
  refine lv_istore hx hb dX7_byChance_23 hl (by decide) (rfl : _ = ([(8, .int 0), (7, .int p4), (6, .int r_5), (0, .ref h0), (1, .ref h1), (2, .int p1), (3, .int p2), (4, .int p3), (5, .int p4)] : List (Nat × Value))) (fun ls hl => ?_)
  refine lv_iconst (v := 0) hx hb dX7_byChance_25 kk_ic_0 ?_
  refine lv_istore hx hb dX7_byChance_26 hl (by decide) (rfl : _ = ([(9, .int 0), (8, .int 0), (7, .int p4), (6, .int r_5), (0, .ref h0), (1, .ref h1), (2, .int p1), (3, .int p2), (4, .int p3), (5, .int p4)] : List (Nat × Value))) (fun ls hl => ?_)
  refine kk_loop (σ := Int32 × Int32 × (Nat → Int32) × Int32) (fun x H locs ls => (0 ≤ x.1.toInt ∧ x.1.toInt ≤ 2147483647) ∧ va_P (dC, dI) vwCl [(h1, kO9 h3 h4 h5 n1_size), (h3, kAi cint 40 f3), (h0, kO7 h2 y_2), (h2, kAi cint 40 x.2.2.1)] H ∧ va_D A [(h1, kO9 h3 h4 h5 n1_size), (h3, kAi cint 40 f3), (h0, kO7 h2 y_2), (h2, kAi cint 40 x.2.2.1)] ∧ va_S A s.heap H locs ∧ lv_has ls 11 [(9, .int x.1), (8, .int x.2.2.2), (7, .int x.2.1), (6, .int r_5), (0, .ref h0), (1, .ref h1), (2, .int p1), (3, .int p2), (4, .int p3), (5, .int p4)]) (fun x => ((2147483647 : Int) - x.1.toInt).toNat) ?_ (0, p4, f_3, 0) _ _ _ ⟨(by show 0 ≤ (0 : Int32).toInt ∧ (0 : Int32).toInt ≤ 2147483647; first | decide | ((omega))), hP, hD, hS, hl⟩
  rintro ⟨i_6_0, i_6_1, f_6_2, i_6_3⟩ H locs ls ⟨t_6_0, hP, hD, hS, hl⟩ ih_6
  have t_6_0 : (0 ≤ i_6_0.toInt ∧ i_6_0.toInt ≤ 2147483647) := t_6_0
  have hl : lv_has ls 11 [(9, .int i_6_0), (8, .int i_6_3), (7, .int i_6_1), (6, .int r_5), (0, .ref h0), (1, .ref h1), (2, .int p1), (3, .int p2), (4, .int p3), (5, .int p4)] := hl
  have hP : va_P (dC, dI) vwCl [(h1, kO9 h3 h4 h5 n1_size), (h3, kAi cint 40 f3), (h0, kO7 h2 y_2), (h2, kAi cint 40 f_6_2)] H := hP
  have hD : va_D A [(h1, kO9 h3 h4 h5 n1_size), (h3, kAi cint 40 f3), (h0, kO7 h2 y_2), (h2, kAi cint 40 f_6_2)] := hD
  refine lv_iload hx hb dX7_byChance_28 (lv_at hl 0 rfl) ?_
  refine lv_iload hx hb dX7_byChance_30 (lv_at hl 8 rfl) ?_
  refine lv_icmp_ge (tgt := 107) hx hb dX7_byChance_32 (by decide) (fun c_407 => ?_) (fun c_407 => ?_)
  · have t_407 : p3.toInt ≤ i_6_0.toInt := kk_le c_407
    refine lv_iload hx hb dX7_byChance_107 (lv_at hl 1 rfl) ?_
    have hP9 := kk_Ps (wq := [(h0, kO7 h2 y_2), (h1, kO9 h3 h4 h5 n1_size), (h2, kAi cint 40 f_6_2), (h3, kAi cint 40 f3)]) hP [2, 0, 3, 1] rfl
    have hD9 := kk_Ds (wq := [(h0, kO7 h2 y_2), (h1, kO9 h3 h4 h5 n1_size), (h2, kAi cint 40 f_6_2), (h3, kAi cint 40 f3)]) hD [2, 0, 3, 1] (by decide) rfl
    have hK9 := kk_Ks (tq := []) hK [] rfl
    try have := kk_rng p3
    try have := kk_rng i_6_0
    exact W.iret (v := i_6_3) hx hb hr (fun t ht hW => ⟨⟨i_6_3, (), rfl, trivial, y_2, f_6_2, (by show 0 ≤ (y_2 : Int32).toInt ∧ (y_2 : Int32).toInt ≤ 40; first | decide | ((omega))), by rw [ht]; exact hP9, va_K.moved hW.alike hK9, hD9⟩, hS.F ht⟩) hS.2.2 dX7_byChance_109
  · have t_407 : i_6_0.toInt < p3.toInt := kk_nle c_407
    refine lv_iconst (v := 0) hx hb dX7_byChance_35 kk_ic_0 ?_
    refine lv_istore hx hb dX7_byChance_36 hl (by decide) (rfl : _ = ([(10, .int 0), (9, .int i_6_0), (8, .int i_6_3), (7, .int i_6_1), (6, .int r_5), (0, .ref h0), (1, .ref h1), (2, .int p1), (3, .int p2), (4, .int p3), (5, .int p4)] : List (Nat × Value))) (fun ls hl => ?_)
    try have := kk_rng p3
    refine kk_loop (σ := Int32 × Int32 × (Nat → Int32)) (fun x H locs ls => (0 ≤ x.1.toInt ∧ x.1.toInt ≤ 40) ∧ va_P (dC, dI) vwCl [(h1, kO9 h3 h4 h5 n1_size), (h3, kAi cint 40 f3), (h0, kO7 h2 y_2), (h2, kAi cint 40 x.2.2)] H ∧ va_D A [(h1, kO9 h3 h4 h5 n1_size), (h3, kAi cint 40 f3), (h0, kO7 h2 y_2), (h2, kAi cint 40 x.2.2)] ∧ va_S A s.heap H locs ∧ lv_has ls 11 [(10, .int x.1), (9, .int i_6_0), (8, .int i_6_3), (7, .int x.2.1), (6, .int r_5), (0, .ref h0), (1, .ref h1), (2, .int p1), (3, .int p2), (4, .int p3), (5, .int p4)]) (fun x => ((40 : Int) - x.1.toInt).toNat) ?_ (0, i_6_1, f_6_2) _ _ _ ⟨(by show 0 ≤ (0 : Int32).toInt ∧ (0 : Int32).toInt ≤ 40; first | decide | ((omega))), hP, hD, hS, hl⟩
    rintro ⟨i_408_0, i_408_1, f_408_2⟩ H locs ls ⟨t_408_0, hP, hD, hS, hl⟩ ih_408
    have t_408_0 : (0 ≤ i_408_0.toInt ∧ i_408_0.toInt ≤ 40) := t_408_0
    have hl : lv_has ls 11 [(10, .int i_408_0), (9, .int i_6_0), (8, .int i_6_3), (7, .int i_408_1), (6, .int r_5), (0, .ref h0), (1, .ref h1), (2, .int p1), (3, .int p2), (4, .int p3), (5, .int p4)] := hl
    have hP : va_P (dC, dI) vwCl [(h1, kO9 h3 h4 h5 n1_size), (h3, kAi cint 40 f3), (h0, kO7 h2 y_2), (h2, kAi cint 40 f_408_2)] H := hP
    have hD : va_D A [(h1, kO9 h3 h4 h5 n1_size), (h3, kAi cint 40 f3), (h0, kO7 h2 y_2), (h2, kAi cint 40 f_408_2)] := hD
    refine lv_iload hx hb dX7_byChance_38 (lv_at hl 0 rfl) ?_
    refine lv_aload_n hx hb dX7_byChance_40 rfl (lv_at hl 5 rfl) ?_
    refine va_get (D := (dC, dI)) (ci := 7) (v := .int y_2) (C := RX7) (T := TX7) (N := 2) hx hb hts (fun _ h => List.mem_cons_of_mem _ (List.mem_append_left _ (List.mem_append_right _ h))) hown hK hP 2 rfl rfl 1 (by decide) (hts (.fieldLink RX7 15 "KinkStreet$Rods" "many" "I") (List.mem_of_getElem? (i := 1) rfl)) (fun _ h9 => h9) rfl dX7_byChance_41 ?_
    refine lv_icmp_ge (tgt := 83) hx hb dX7_byChance_44 (by decide) (fun c_449 => ?_) (fun c_449 => ?_)
    · have t_449 : y_2.toInt ≤ i_408_0.toInt := kk_le c_449
      refine lv_aload_n hx hb dX7_byChance_83 rfl (lv_at hl 5 rfl) ?_
      refine lv_aload_n hx hb dX7_byChance_84 rfl (lv_at hl 5 rfl) ?_
      refine lv_iload_n hx hb dX7_byChance_85 rfl (lv_at hl 8 rfl) ?_
      have hPc := kk_Ps (wq := [(h0, kO7 h2 y_2), (h2, kAi cint 40 f_408_2)]) hP [2, 3] rfl
      have hDc := kk_Ds (wq := [(h0, kO7 h2 y_2), (h2, kAi cint 40 f_408_2)]) hD [2, 3] (by decide) rfl
      have hKc := kk_Ks (tq := [(cint, .int)]) hK [0] rfl
      have hFc := va_free (wc := [(h0, kO7 h2 y_2), (h2, kAi cint 40 f_408_2)]) hD hS hA [2, 3] rfl
      refine va_calli (va_runV (As := [.int p2]) (rest := [.ref h0]) ⟨hx, hb, hml, hown, hts⟩ (g_X7_bestRod_0 l dC dI h0 h2 cint H.size p2 y_2 f_408_2 (by show 0 ≤ (y_2 : Int32).toInt ∧ (y_2 : Int32).toInt ≤ 40; first | decide | ((omega)))) (cwV 1 hts gX7_byChance_X7_bestRod rfl rfl rfl ⟨rfl, kh_X7_bestRod⟩ ⟨Nat.le_of_ble_eq_true rfl, Nat.le_of_ble_eq_true rfl⟩) ⟨fun a U g mk q => by obtain ⟨q0, q1, qP, qK, qD⟩ := q; exact ⟨q0, q1, qP, va_K.moved (u := U) (U := U.calling g mk a) (Vm.Alike.refl U.vm) qK, qD⟩, va_recv hKc hPc (ci := 7) (q0 := 0) rfl rfl, fun U hU hW => ⟨rfl, by rw [hU], by rw [hU]; exact hPc, va_K.moved hW.alike hKc, hDc.weaken (fun _ _ _ _ => trivial)⟩⟩ rfl rfl hl.1 rfl (lv_room (Nat.le_of_ble_eq_true rfl)) dX7_byChance_86 ⟨Nat.le_of_ble_eq_true rfl, Nat.le_of_ble_eq_true rfl⟩) hS (fun q _ h => hFc q h) hFc (fun r_450 u t H1 locs ht hvm hw hB hz1 hk1 hS => ?_)
      obtain ⟨hP1, hK1, hD1⟩ := hB
      rw [ht] at hP1
      have hK1 := va_K.moved hvm.symm hK1
      obtain ⟨hP, hD⟩ := va_join (wr := [(h1, kO9 h3 h4 h5 n1_size), (h3, kAi cint 40 f3)]) (w1 := [(h0, kO7 h2 y_2), (h2, kAi cint 40 f_408_2)]) hP hD [2, 3] [0, 1] rfl rfl (by decide) (by decide) hk1 hFc hP1 hD1
      generalize H1 = H at hP hS ⊢
      have hP : va_P (dC, dI) vwCl [(h1, kO9 h3 h4 h5 n1_size), (h3, kAi cint 40 f3), (h0, kO7 h2 y_2), (h2, kAi cint 40 f_408_2)] H := hP
      have hD : va_D A [(h1, kO9 h3 h4 h5 n1_size), (h3, kAi cint 40 f3), (h0, kO7 h2 y_2), (h2, kAi cint 40 f_408_2)] := hD
      have t_450 : 40 ≤ r_450.toInt ∧ r_450.toInt ≤ 330 := hw
      refine lv_iload_n hx hb dX7_byChance_89 rfl (lv_at hl 8 rfl) ?_
      have hPc := kk_Ps (wq := [(h0, kO7 h2 y_2), (h2, kAi cint 40 f_408_2)]) hP [2, 3] rfl
      have hDc := kk_Ds (wq := [(h0, kO7 h2 y_2), (h2, kAi cint 40 f_408_2)]) hD [2, 3] (by decide) rfl
      have hKc := kk_Ks (tq := [(cint, .int)]) hK [0] rfl
      have hFc := va_free (wc := [(h0, kO7 h2 y_2), (h2, kAi cint 40 f_408_2)]) hD hS hA [2, 3] rfl
      refine va_calli (va_runV (As := [.int r_450, .int p2]) (rest := []) ⟨hx, hb, hml, hown, hts⟩ (g_X7_misfitBy_0 l dC dI h0 h2 cint H.size r_450 p2 (by show 0 ≤ (r_450 : Int32).toInt ∧ (r_450 : Int32).toInt ≤ 330; first | decide | ((omega))) y_2 f_408_2 (by show 0 ≤ (y_2 : Int32).toInt ∧ (y_2 : Int32).toInt ≤ 40; first | decide | ((omega)))) (cwV 2 hts gX7_byChance_X7_misfitBy rfl rfl rfl ⟨rfl, kh_X7_misfitBy⟩ ⟨Nat.le_of_ble_eq_true rfl, Nat.le_of_ble_eq_true rfl⟩) ⟨fun a U g mk q => by obtain ⟨q0, q1, qP, qK, qD⟩ := q; exact ⟨q0, q1, qP, va_K.moved (u := U) (U := U.calling g mk a) (Vm.Alike.refl U.vm) qK, qD⟩, va_recv hKc hPc (ci := 7) (q0 := 0) rfl rfl, fun U hU hW => ⟨rfl, by rw [hU], by rw [hU]; exact hPc, va_K.moved hW.alike hKc, hDc.weaken (fun _ _ _ _ => trivial)⟩⟩ rfl rfl hl.1 rfl (lv_room (Nat.le_of_ble_eq_true rfl)) dX7_byChance_90 ⟨Nat.le_of_ble_eq_true rfl, Nat.le_of_ble_eq_true rfl⟩) hS (fun q _ h => hFc q h) hFc (fun r_451 u t H1 locs ht hvm hw hB hz1 hk1 hS => ?_)
      obtain ⟨hP1, hK1, hD1⟩ := hB
      rw [ht] at hP1
      have hK1 := va_K.moved hvm.symm hK1
      obtain ⟨hP, hD⟩ := va_join (wr := [(h1, kO9 h3 h4 h5 n1_size), (h3, kAi cint 40 f3)]) (w1 := [(h0, kO7 h2 y_2), (h2, kAi cint 40 f_408_2)]) hP hD [2, 3] [0, 1] rfl rfl (by decide) (by decide) hk1 hFc hP1 hD1
      generalize H1 = H at hP hS ⊢
      have hP : va_P (dC, dI) vwCl [(h1, kO9 h3 h4 h5 n1_size), (h3, kAi cint 40 f3), (h0, kO7 h2 y_2), (h2, kAi cint 40 f_408_2)] H := hP
      have hD : va_D A [(h1, kO9 h3 h4 h5 n1_size), (h3, kAi cint 40 f3), (h0, kO7 h2 y_2), (h2, kAi cint 40 f_408_2)] := hD
      refine lv_iload hx hb dX7_byChance_93 (lv_at hl 4 rfl) ?_
      refine lv_icmp_gt (tgt := 101) hx hb dX7_byChance_95 (by decide) (fun c_452 => ?_) (fun c_452 => ?_)
      · have t_452 : r_5.toInt < r_451.toInt := kk_lt c_452
        refine lv_iinc (v := (i_6_0 + 1)) hx hb dX7_byChance_101 hl (k := 1) rfl (by first | rfl | decide) (by decide) (rfl : _ = ([(9, .int (i_6_0 + 1)), (10, .int i_408_0), (8, .int i_6_3), (7, .int i_408_1), (6, .int r_5), (0, .ref h0), (1, .ref h1), (2, .int p1), (3, .int p2), (4, .int p3), (5, .int p4)] : List (Nat × Value))) (fun ls hl => ?_)
        refine lv_goto (tgt := 28) hx hb dX7_byChance_104 (by decide) ?_
        try have := kk_rng r_5
        try have := kk_rng r_451
        try have := kk_add2 (x := i_6_0) (y := 1) (a := i_6_0.toInt) (b := 1) rfl rfl (by omega) (by omega)
        exact ih_6 ((i_6_0 + 1), i_408_1, f_408_2, i_6_3) _ _ _ (by show ((2147483647 : Int) - ((i_6_0 + 1)).toInt).toNat < ((2147483647 : Int) - i_6_0.toInt).toNat; exact kk_mu (by omega) (by omega)) ⟨(by show 0 ≤ ((i_6_0 + 1) : Int32).toInt ∧ ((i_6_0 + 1) : Int32).toInt ≤ 2147483647; first | decide | ((omega))), hP, hD, hS, lv_sub hl [0, 2, 3, 4, 5, 6, 7, 8, 9, 10] rfl⟩
      · have t_452 : r_451.toInt ≤ r_5.toInt := kk_nlt c_452
        refine lv_iinc (v := (i_6_3 + 1)) hx hb dX7_byChance_98 hl (k := 2) rfl (by first | rfl | decide) (by decide) (rfl : _ = ([(8, .int (i_6_3 + 1)), (10, .int i_408_0), (9, .int i_6_0), (7, .int i_408_1), (6, .int r_5), (0, .ref h0), (1, .ref h1), (2, .int p1), (3, .int p2), (4, .int p3), (5, .int p4)] : List (Nat × Value))) (fun ls hl => ?_)
        refine lv_iinc (v := (i_6_0 + 1)) hx hb dX7_byChance_101 hl (k := 2) rfl (by first | rfl | decide) (by decide) (rfl : _ = ([(9, .int (i_6_0 + 1)), (8, .int (i_6_3 + 1)), (10, .int i_408_0), (7, .int i_408_1), (6, .int r_5), (0, .ref h0), (1, .ref h1), (2, .int p1), (3, .int p2), (4, .int p3), (5, .int p4)] : List (Nat × Value))) (fun ls hl => ?_)
        refine lv_goto (tgt := 28) hx hb dX7_byChance_104 (by decide) ?_
        try have := kk_rng r_451
        try have := kk_rng r_5
        try have := kk_add2 (x := i_6_0) (y := 1) (a := i_6_0.toInt) (b := 1) rfl rfl (by omega) (by omega)
        exact ih_6 ((i_6_0 + 1), i_408_1, f_408_2, (i_6_3 + 1)) _ _ _ (by show ((2147483647 : Int) - ((i_6_0 + 1)).toInt).toNat < ((2147483647 : Int) - i_6_0.toInt).toNat; exact kk_mu (by omega) (by omega)) ⟨(by show 0 ≤ ((i_6_0 + 1) : Int32).toInt ∧ ((i_6_0 + 1) : Int32).toInt ≤ 2147483647; first | decide | ((omega))), hP, hD, hS, lv_sub hl [0, 1, 3, 4, 5, 6, 7, 8, 9, 10] rfl⟩
    · have t_449 : i_408_0.toInt < y_2.toInt := kk_nle c_449
      refine lv_iload hx hb dX7_byChance_47 (lv_at hl 3 rfl) ?_
      have hPc := kk_Ps (wq := []) hP [] rfl
      have hDc := kk_Ds (wq := []) hD [] (by decide) rfl
      have hKc := kk_Ks (tq := []) hK [] rfl
      have hFc := va_free (wc := []) hD hS hA [] rfl
      refine va_calli (va_runSN (As := [.int i_408_1]) (rest := []) ⟨hx, hb, hml, hown, hts⟩ (g_X11_drawAfter_0 l dC dI H.size i_408_1) ⟨(va_cnB 1 hts gX7_byChance_X11_drawAfter_n45 rfl rfl rfl hN45 (hts (.initialized RX11) (List.mem_of_getElem? (i := 36) rfl)) (by decide +kernel) ⟨Nat.le_of_ble_eq_true rfl, Nat.le_of_ble_eq_true rfl⟩), (hts (.static yX11_drawAfter) (List.mem_of_getElem? (i := 35) rfl)), trivial⟩ ⟨fun a U g mk q => by obtain ⟨q0, q1, qP, qK, qD⟩ := q; exact ⟨q0, q1, qP, va_K.moved (u := U) (U := U.calling g mk a) (Vm.Alike.refl U.vm) qK, qD⟩, fun U hU hW => ⟨rfl, by rw [hU], by rw [hU]; exact hPc, va_K.moved hW.alike hKc, hDc.weaken (fun _ _ _ _ => trivial)⟩⟩ rfl rfl hl.1 rfl (lv_room (Nat.le_of_ble_eq_true rfl)) dX7_byChance_49 ⟨Nat.le_of_ble_eq_true rfl, Nat.le_of_ble_eq_true rfl⟩) hS (fun q _ h => hFc q h) hFc (fun r_453 u t H1 locs ht hvm hw hB hz1 hk1 hS => ?_)
      obtain ⟨hP1, hK1, hD1⟩ := hB
      rw [ht] at hP1
      have hK1 := va_K.moved hvm.symm hK1
      obtain ⟨hP, hD⟩ := va_join (wr := [(h1, kO9 h3 h4 h5 n1_size), (h3, kAi cint 40 f3), (h0, kO7 h2 y_2), (h2, kAi cint 40 f_408_2)]) (w1 := []) hP hD [] [0, 1, 2, 3] rfl rfl (by decide) (by decide) hk1 hFc hP1 hD1
      generalize H1 = H at hP hS ⊢
      have hP : va_P (dC, dI) vwCl [(h1, kO9 h3 h4 h5 n1_size), (h3, kAi cint 40 f3), (h0, kO7 h2 y_2), (h2, kAi cint 40 f_408_2)] H := hP
      have hD : va_D A [(h1, kO9 h3 h4 h5 n1_size), (h3, kAi cint 40 f3), (h0, kO7 h2 y_2), (h2, kAi cint 40 f_408_2)] := hD
      obtain rfl := hw
      refine lv_istore hx hb dX7_byChance_52 hl (by decide) (rfl : _ = ([(7, .int ((i_408_1 * 1103515245) + 12345)), (10, .int i_408_0), (9, .int i_6_0), (8, .int i_6_3), (6, .int r_5), (0, .ref h0), (1, .ref h1), (2, .int p1), (3, .int p2), (4, .int p3), (5, .int p4)] : List (Nat × Value))) (fun ls hl => ?_)
      refine lv_aload_n hx hb dX7_byChance_54 rfl (lv_at hl 5 rfl) ?_
      refine va_get (D := (dC, dI)) (ci := 7) (v := .ref h2) (C := RX7) (T := TX7) (N := 2) hx hb hts (fun _ h => List.mem_cons_of_mem _ (List.mem_append_left _ (List.mem_append_right _ h))) hown hK hP 2 rfl rfl 0 (by decide) (hts (.fieldLink RX7 9 "KinkStreet$Rods" "widths" "[I") (List.mem_of_getElem? (i := 2) rfl)) (fun _ h9 => h9) rfl dX7_byChance_55 ?_
      refine lv_iload hx hb dX7_byChance_58 (lv_at hl 1 rfl) ?_
      refine lv_aload_n hx hb dX7_byChance_60 rfl (lv_at hl 6 rfl) ?_
      refine lv_iload_n hx hb dX7_byChance_61 rfl (lv_at hl 7 rfl) ?_
      refine lv_bipush (v := 100) hx hb dX7_byChance_62 kk_bi_100 ?_
      refine lv_idiv hx hb dX7_byChance_64 (by decide) ?_
      refine lv_iload hx hb dX7_byChance_65 (lv_at hl 1 rfl) ?_
      refine lv_iadd hx hb dX7_byChance_67 ?_
      have hPc := kk_Ps (wq := [(h1, kO9 h3 h4 h5 n1_size), (h3, kAi cint 40 f3)]) hP [0, 1] rfl
      have hDc := kk_Ds (wq := [(h1, kO9 h3 h4 h5 n1_size), (h3, kAi cint 40 f3)]) hD [0, 1] (by decide) rfl
      have hKc := kk_Ks (tq := [(cint, .int)]) hK [0] rfl
      have hFc := va_free (wc := [(h1, kO9 h3 h4 h5 n1_size), (h3, kAi cint 40 f3)]) hD hS hA [0, 1] rfl
      refine va_calli (va_runV (As := [.int ((p1 / 100) + i_408_0)]) (rest := [.int i_408_0, .ref h2]) ⟨hx, hb, hml, hown, hts⟩ (g_X9_width_0 l dC dI h1 h3 h4 h5 cint H.size ((p1 / 100) + i_408_0) n1_size f3 tn1_size) (cwV 1 hts gX7_byChance_X9_width rfl rfl rfl ⟨rfl, kh_X9_width⟩ ⟨Nat.le_of_ble_eq_true rfl, Nat.le_of_ble_eq_true rfl⟩) ⟨fun a U g mk q => by obtain ⟨q0, q1, qP, qK, qD⟩ := q; exact ⟨q0, q1, qP, va_K.moved (u := U) (U := U.calling g mk a) (Vm.Alike.refl U.vm) qK, qD⟩, va_recv hKc hPc (ci := 9) (q0 := 0) rfl rfl, fun U hU hW => ⟨rfl, by rw [hU], by rw [hU]; exact hPc, va_K.moved hW.alike hKc, hDc.weaken (fun _ _ _ _ => trivial)⟩⟩ rfl rfl hl.1 rfl (lv_room (Nat.le_of_ble_eq_true rfl)) dX7_byChance_68 ⟨Nat.le_of_ble_eq_true rfl, Nat.le_of_ble_eq_true rfl⟩) hS (fun q _ h => hFc q h) hFc (fun r_454 u t H1 locs ht hvm hw hB hz1 hk1 hS => ?_)
      obtain ⟨hP1, hK1, hD1⟩ := hB
      rw [ht] at hP1
      have hK1 := va_K.moved hvm.symm hK1
      obtain ⟨hP, hD⟩ := va_join (wr := [(h0, kO7 h2 y_2), (h2, kAi cint 40 f_408_2)]) (w1 := [(h1, kO9 h3 h4 h5 n1_size), (h3, kAi cint 40 f3)]) hP hD [0, 1] [2, 3] rfl rfl (by decide) (by decide) hk1 hFc hP1 hD1
      generalize H1 = H at hP hS ⊢
      have hP : va_P (dC, dI) vwCl [(h0, kO7 h2 y_2), (h2, kAi cint 40 f_408_2), (h1, kO9 h3 h4 h5 n1_size), (h3, kAi cint 40 f3)] H := hP
      have hD : va_D A [(h0, kO7 h2 y_2), (h2, kAi cint 40 f_408_2), (h1, kO9 h3 h4 h5 n1_size), (h3, kAi cint 40 f3)] := hD
      refine lv_iload hx hb dX7_byChance_71 (lv_at hl 0 rfl) ?_
      have hPc := kk_Ps (wq := []) hP [] rfl
      have hDc := kk_Ds (wq := []) hD [] (by decide) rfl
      have hKc := kk_Ks (tq := []) hK [] rfl
      have hFc := va_free (wc := []) hD hS hA [] rfl
      refine va_calli (va_runS (As := [.int r_454, .int ((i_408_1 * 1103515245) + 12345)]) (rest := [.int i_408_0, .ref h2]) ⟨hx, hb, hml, hown, hts⟩ (g_X7_drawnWidth_0 l dC dI H.size r_454 ((i_408_1 * 1103515245) + 12345)) (va_cwS 2 hts gX7_byChance_X7_drawnWidth rfl rfl rfl kh_X7_drawnWidth ⟨Nat.le_of_ble_eq_true rfl, Nat.le_of_ble_eq_true rfl⟩) ⟨fun a U g mk q => by obtain ⟨q0, q1, qP, qK, qD⟩ := q; exact ⟨q0, q1, qP, va_K.moved (u := U) (U := U.calling g mk a) (Vm.Alike.refl U.vm) qK, qD⟩, fun U hU hW => ⟨rfl, by rw [hU], by rw [hU]; exact hPc, va_K.moved hW.alike hKc, hDc.weaken (fun _ _ _ _ => trivial)⟩⟩ rfl rfl hl.1 rfl (lv_room (Nat.le_of_ble_eq_true rfl)) dX7_byChance_73 ⟨Nat.le_of_ble_eq_true rfl, Nat.le_of_ble_eq_true rfl⟩) hS (fun q _ h => hFc q h) hFc (fun r_455 u t H1 locs ht hvm hw hB hz1 hk1 hS => ?_)
      obtain ⟨hP1, hK1, hD1⟩ := hB
      rw [ht] at hP1
      have hK1 := va_K.moved hvm.symm hK1
      obtain ⟨hP, hD⟩ := va_join (wr := [(h0, kO7 h2 y_2), (h2, kAi cint 40 f_408_2), (h1, kO9 h3 h4 h5 n1_size), (h3, kAi cint 40 f3)]) (w1 := []) hP hD [] [0, 1, 2, 3] rfl rfl (by decide) (by decide) hk1 hFc hP1 hD1
      generalize H1 = H at hP hS ⊢
      have hP : va_P (dC, dI) vwCl [(h0, kO7 h2 y_2), (h2, kAi cint 40 f_408_2), (h1, kO9 h3 h4 h5 n1_size), (h3, kAi cint 40 f3)] H := hP
      have hD : va_D A [(h0, kO7 h2 y_2), (h2, kAi cint 40 f_408_2), (h1, kO9 h3 h4 h5 n1_size), (h3, kAi cint 40 f3)] := hD
      try have := kk_divb (x := p1) (k := 100) (n := 100) rfl (by decide)
      try have := kk_add2 (x := (p1 / 100)) (y := i_408_0) (a := (p1 / 100).toInt) (b := i_408_0.toInt) rfl rfl (by omega) (by omega)
      refine va_iast hx hb hK hP hD hS 1 0 rfl rfl (vp_in_iff.mpr ⟨by omega, by omega⟩) dX7_byChance_76 (fun H locs hP hD hS => ?_)
      generalize upd f_408_2 (i_408_0 : Int32).toNatClampNeg r_455 = f_456 at hP hD
      have hP : va_P (dC, dI) vwCl [(h0, kO7 h2 y_2), (h2, kAi cint 40 f_456), (h1, kO9 h3 h4 h5 n1_size), (h3, kAi cint 40 f3)] H := hP
      have hD : va_D A [(h0, kO7 h2 y_2), (h2, kAi cint 40 f_456), (h1, kO9 h3 h4 h5 n1_size), (h3, kAi cint 40 f3)] := hD
      refine lv_iinc (v := (i_408_0 + 1)) hx hb dX7_byChance_77 hl (k := 1) rfl (by first | rfl | decide) (by decide) (rfl : _ = ([(10, .int (i_408_0 + 1)), (7, .int ((i_408_1 * 1103515245) + 12345)), (9, .int i_6_0), (8, .int i_6_3), (6, .int r_5), (0, .ref h0), (1, .ref h1), (2, .int p1), (3, .int p2), (4, .int p3), (5, .int p4)] : List (Nat × Value))) (fun ls hl => ?_)
      refine lv_goto (tgt := 38) hx hb dX7_byChance_80 (by decide) ?_
      try have := kk_add2 (x := i_408_0) (y := 1) (a := i_408_0.toInt) (b := 1) rfl rfl (by omega) (by omega)
      exact ih_408 ((i_408_0 + 1), ((i_408_1 * 1103515245) + 12345), f_456) _ _ _ (by show ((40 : Int) - ((i_408_0 + 1)).toInt).toNat < ((40 : Int) - i_408_0.toInt).toNat; exact kk_mu (by omega) (by omega)) ⟨(by show 0 ≤ ((i_408_0 + 1) : Int32).toInt ∧ ((i_408_0 + 1) : Int32).toInt ≤ 40; first | decide | ((omega))), hP.sub [2, 3, 0, 1] rfl, hD.sub [2, 3, 0, 1] (by decide) rfl, hS, lv_sub hl [0, 2, 3, 1, 4, 5, 6, 7, 8, 9, 10] rfl⟩
