set_option maxHeartbeats 4000000 in
set_option maxRecDepth 100000 in
theorem g_X9_leastDeep_0 (l : Launch) (dC : Nat → ClassId) (dI : Nat → Nat → Nat) (h0 : Nat) (h1 : Nat) (h2 : Nat) (h3 : Nat) (cint : ClassId) (sz : Nat) (p0 : Int32) (n0_size : Int32) (f1 : Nat → Int32) (f2 : Nat → Int32) (f3 : Nat → Int32) (tn0_size : 0 ≤ n0_size.toInt ∧ n0_size.toInt ≤ 40) : Met l yX9_leastDeep wsX9_leastDeep ({ frames := 2, cells := 0, slots := 0, locals := 43 }) (va_Pc [.ref h0, .int p0] (fun U => U.heap.size = sz ∧ va_P (dC, dI) vwCl [(h0, Sum.inr (9, [Value.ref h1, Value.ref h2, Value.ref h3, Value.int n0_size])), (h1, Sum.inl (cint, 40, Sum.inl f1)), (h2, Sum.inl (cint, 40, Sum.inl f2)), (h3, Sum.inl (cint, 40, Sum.inl f3))] U.heap ∧ va_K (dC, dI) vwCl [(cint, .int)] U ∧ va_D (fun _ => True) [(h0, Sum.inr (9, [Value.ref h1, Value.ref h2, Value.ref h3, Value.int n0_size])), (h1, Sum.inl (cint, 40, Sum.inl f1)), (h2, Sum.inl (cint, 40, Sum.inl f2)), (h3, Sum.inl (cint, 40, Sum.inl f3))])) (va_Qi (fun (r : Int32) (_ : Unit) => ((-21474836) ≤ r.toInt ∧ r.toInt ≤ 21474836)) (fun (_ : Unit) t => va_P (dC, dI) vwCl [(h0, Sum.inr (9, [Value.ref h1, Value.ref h2, Value.ref h3, Value.int n0_size])), (h1, Sum.inl (cint, 40, Sum.inl f1)), (h2, Sum.inl (cint, 40, Sum.inl f2)), (h3, Sum.inl (cint, 40, Sum.inl f3))] t.heap ∧ va_K (dC, dI) vwCl [] t ∧ va_D (va_A [(h0, Sum.inr (9, [Value.ref h1, Value.ref h2, Value.ref h3, Value.int n0_size])), (h1, Sum.inl (cint, 40, Sum.inl f1)), (h2, Sum.inl (cint, 40, Sum.inl f2)), (h3, Sum.inl (cint, 40, Sum.inl f3))] sz) [(h0, Sum.inr (9, [Value.ref h1, Value.ref h2, Value.ref h3, Value.int n0_size])), (h1, Sum.inl (cint, 40, Sum.inl f1)), (h2, Sum.inl (cint, 40, Sum.inl f2)), (h3, Sum.inl (cint, 40, Sum.inl f3))]) (va_A [(h0, Sum.inr (9, [Value.ref h1, Value.ref h2, Value.ref h3, Value.int n0_size])), (h1, Sum.inl (cint, 40, Sum.inl f1)), (h2, Sum.inl (cint, 40, Sum.inl f2)), (h3, Sum.inl (cint, 40, Sum.inl f3))] sz)) 0 0 (va_A [(h0, Sum.inr (9, [Value.ref h1, Value.ref h2, Value.ref h3, Value.int n0_size])), (h1, Sum.inl (cint, 40, Sum.inl f1)), (h2, Sum.inl (cint, 40, Sum.inl f2)), (h3, Sum.inl (cint, 40, Sum.inl f3))] sz) := by
  refine Met.ofW (cc := cX9_leastDeep) (maxL := 4) (ret := (some .int)) (by decide) rfl ?_
  intro p e s m args below meth c s₁ B hml hv
  obtain ⟨rfl, hsz, hP, hK, hD0⟩ := hv
  have hx := B.exec
  have hb := B.bytes
  have hr := B.returns
  have hts := atoms_spec (ws := wsX9_leastDeep) B.pre
  have hown : s.vm.findClass RX9 = some m.cls := findClass_of_methodNamed B.named
  have hlocks := B.notSynchronized
  subst hsz
  have hD := hD0.self (sz := s.heap.size)
  generalize hAe : va_A [(h0, Sum.inr (9, [Value.ref h1, Value.ref h2, Value.ref h3, Value.int n0_size])), (h1, Sum.inl (cint, 40, Sum.inl f1)), (h2, Sum.inl (cint, 40, Sum.inl f2)), (h3, Sum.inl (cint, 40, Sum.inl f3))] s.heap.size = A at hD ⊢
  have hA : ∀ q : Nat, s.heap.size ≤ q → A q := fun q h => by rw [← hAe]; exact Or.inr h
  have hS : va_S A s.heap s.heap [] := va_S.rf
  have hP : va_P (dC, dI) vwCl [(h0, Sum.inr (9, [Value.ref h1, Value.ref h2, Value.ref h3, Value.int n0_size])), (h1, Sum.inl (cint, 40, Sum.inl f1)), (h2, Sum.inl (cint, 40, Sum.inl f2)), (h3, Sum.inl (cint, 40, Sum.inl f3))] s.heap := hP
  have hl := lv_entry ([.ref h0, .int p0]) (n := 4) (Nat.le_of_ble_eq_true rfl)
  rw [lg_entry_eq]
  generalize (lg_sl ([.ref h0, .int p0]) ++ List.replicate (4 - (lg_sl ([.ref h0, .int p0])).length) Slot.unset).toArray = ls at hl ⊢
  have hl : lv_has ls 4 [(0, .ref h0), (1, .int p0)] := hl
  refine lv_iload_n hx hb dX9_leastDeep_0 rfl (lv_at hl 1 rfl) ?_
  refine lv_bipush (v := 100) hx hb dX9_leastDeep_1 (by decide) ?_
  refine lv_idiv hx hb dX9_leastDeep_3 (by decide) ?_
  refine lv_istore_n (lv' := [(2, .int (p0 / 100)), (0, .ref h0), (1, .int p0)]) hx hb dX9_leastDeep_4 rfl hl (by decide) rfl (fun ls hl => ?_)
  refine lv_iload_n hx hb dX9_leastDeep_5 rfl (lv_at hl 0 rfl) ?_
  refine lv_istore_n (lv' := [(3, .int (p0 / 100)), (2, .int (p0 / 100)), (0, .ref h0), (1, .int p0)]) hx hb dX9_leastDeep_6 rfl hl (by decide) rfl (fun ls hl => ?_)
  refine kk_loop (σ := Int32 × Int32) (fun x H locs ls => ((-21474836) ≤ x.1.toInt ∧ x.1.toInt ≤ 21474836) ∧ ((-21474836) ≤ x.2.toInt ∧ x.2.toInt ≤ 21474836) ∧ (p0 / 100).toInt ≤ x.1.toInt ∧ va_P (dC, dI) vwCl [(h0, Sum.inr (9, [Value.ref h1, Value.ref h2, Value.ref h3, Value.int n0_size])), (h1, Sum.inl (cint, 40, Sum.inl f1)), (h2, Sum.inl (cint, 40, Sum.inl f2)), (h3, Sum.inl (cint, 40, Sum.inl f3))] H ∧ va_D A [(h0, Sum.inr (9, [Value.ref h1, Value.ref h2, Value.ref h3, Value.int n0_size])), (h1, Sum.inl (cint, 40, Sum.inl f1)), (h2, Sum.inl (cint, 40, Sum.inl f2)), (h3, Sum.inl (cint, 40, Sum.inl f3))] ∧ va_S A s.heap H locs ∧ lv_has ls 4 [(3, .int x.1), (2, .int x.2), (0, .ref h0), (1, .int p0)]) (fun x => ((21474836 : Int) - x.1.toInt).toNat) ?_ ((p0 / 100), (p0 / 100)) _ _ _ ⟨(by show (-21474836) ≤ ((p0 / 100) : Int32).toInt ∧ ((p0 / 100) : Int32).toInt ≤ 21474836; first | decide | (constructor <;> (have := kk_divb (x := p0) (k := 100) (n := 100) rfl (by decide); omega))), (by show (-21474836) ≤ ((p0 / 100) : Int32).toInt ∧ ((p0 / 100) : Int32).toInt ≤ 21474836; first | decide | (constructor <;> (have := kk_divb (x := p0) (k := 100) (n := 100) rfl (by decide); omega))), (by show ((p0 / 100) : Int32).toInt ≤ ((p0 / 100) : Int32).toInt; first | decide | (have := kk_divb (x := p0) (k := 100) (n := 100) rfl (by decide); omega)), hP, hD, hS, hl⟩
  rintro ⟨i_1_0, i_1_1⟩ H locs ls ⟨t_1_0, t_1_1, z_1_0, hP, hD, hS, hl⟩ ih_1
  have t_1_0 : ((-21474836) ≤ i_1_0.toInt ∧ i_1_0.toInt ≤ 21474836) := t_1_0
  have t_1_1 : ((-21474836) ≤ i_1_1.toInt ∧ i_1_1.toInt ≤ 21474836) := t_1_1
  have z_1_0 : (p0 / 100).toInt ≤ i_1_0.toInt := z_1_0
  have hl : lv_has ls 4 [(3, .int i_1_0), (2, .int i_1_1), (0, .ref h0), (1, .int p0)] := hl
  have hP : va_P (dC, dI) vwCl [(h0, Sum.inr (9, [Value.ref h1, Value.ref h2, Value.ref h3, Value.int n0_size])), (h1, Sum.inl (cint, 40, Sum.inl f1)), (h2, Sum.inl (cint, 40, Sum.inl f2)), (h3, Sum.inl (cint, 40, Sum.inl f3))] H := hP
  have hD : va_D A [(h0, Sum.inr (9, [Value.ref h1, Value.ref h2, Value.ref h3, Value.int n0_size])), (h1, Sum.inl (cint, 40, Sum.inl f1)), (h2, Sum.inl (cint, 40, Sum.inl f2)), (h3, Sum.inl (cint, 40, Sum.inl f3))] := hD
  refine lv_iload_n hx hb dX9_leastDeep_7 rfl (lv_at hl 0 rfl) ?_
  refine lv_iload_n hx hb dX9_leastDeep_8 rfl (lv_at hl 3 rfl) ?_
  refine lv_bipush (v := 100) hx hb dX9_leastDeep_9 (by decide) ?_
  refine lv_irem hx hb dX9_leastDeep_11 (by decide) ?_
  refine lv_icmp_gt (tgt := 38) hx hb dX9_leastDeep_12 (by decide) (fun c_22 => ?_) (fun c_22 => ?_)
  · have t_22 : (p0 - p0 / 100 * 100).toInt < i_1_0.toInt := kk_lt c_22
    refine lv_iload_n hx hb dX9_leastDeep_38 rfl (lv_at hl 1 rfl) ?_
    have hP9 := hP.sub (ws' := [(h0, Sum.inr (9, [Value.ref h1, Value.ref h2, Value.ref h3, Value.int n0_size])), (h1, Sum.inl (cint, 40, Sum.inl f1)), (h2, Sum.inl (cint, 40, Sum.inl f2)), (h3, Sum.inl (cint, 40, Sum.inl f3))]) [0, 1, 2, 3] rfl
    have hD9 := hD.sub (ws' := [(h0, Sum.inr (9, [Value.ref h1, Value.ref h2, Value.ref h3, Value.int n0_size])), (h1, Sum.inl (cint, 40, Sum.inl f1)), (h2, Sum.inl (cint, 40, Sum.inl f2)), (h3, Sum.inl (cint, 40, Sum.inl f3))]) [0, 1, 2, 3] (by decide) rfl
    have hK9 := hK.sub (tys' := []) [] rfl
    exact W.iret (v := i_1_1) hx hb hr (fun t ht hW => ⟨⟨i_1_1, (), rfl, (by show (-21474836) ≤ (i_1_1 : Int32).toInt ∧ (i_1_1 : Int32).toInt ≤ 21474836; first | decide | (constructor <;> (have := kk_rng p0; have := kk_divb (x := p0) (k := 100) (n := 100) rfl (by decide); have := kk_remb (x := p0) (k := 100) (n := 100) rfl (by decide); omega))), by rw [ht]; exact hP9, va_K.moved hW.alike hK9, hD9⟩, hS.F ht⟩) hS.2.2 dX9_leastDeep_39
  · have t_22 : i_1_0.toInt ≤ (p0 - p0 / 100 * 100).toInt := kk_nlt c_22
    refine lv_aload_n hx hb dX9_leastDeep_15 rfl (lv_at hl 2 rfl) ?_
    refine lv_iconst (v := 1) hx hb dX9_leastDeep_16 (by decide) ?_
    refine lv_iload_n hx hb dX9_leastDeep_17 rfl (lv_at hl 0 rfl) ?_
    have hPc := hP.sub (ws' := [(h0, Sum.inr (9, [Value.ref h1, Value.ref h2, Value.ref h3, Value.int n0_size])), (h1, Sum.inl (cint, 40, Sum.inl f1)), (h2, Sum.inl (cint, 40, Sum.inl f2)), (h3, Sum.inl (cint, 40, Sum.inl f3))]) [0, 1, 2, 3] rfl
    have hDc := hD.sub (ws' := [(h0, Sum.inr (9, [Value.ref h1, Value.ref h2, Value.ref h3, Value.int n0_size])), (h1, Sum.inl (cint, 40, Sum.inl f1)), (h2, Sum.inl (cint, 40, Sum.inl f2)), (h3, Sum.inl (cint, 40, Sum.inl f3))]) [0, 1, 2, 3] (by decide) rfl
    have hKc := hK.sub (tys' := [(cint, .int)]) [0] rfl
    have hFc := va_free (wc := [(h0, Sum.inr (9, [Value.ref h1, Value.ref h2, Value.ref h3, Value.int n0_size])), (h1, Sum.inl (cint, 40, Sum.inl f1)), (h2, Sum.inl (cint, 40, Sum.inl f2)), (h3, Sum.inl (cint, 40, Sum.inl f3))]) hD hS hA [0, 1, 2, 3] rfl
    refine va_calli (va_runV (As := [.int 1, .int i_1_0]) (rest := []) ⟨hx, hb, hml, hown, hts⟩ (g_X9_fact_0 l dC dI h0 h1 h2 h3 cint H.size 1 i_1_0 n0_size f1 f2 f3 tn0_size) (cwV 2 hts gX9_leastDeep_X9_fact rfl rfl rfl (by decide +kernel) ⟨Nat.le_of_ble_eq_true rfl, Nat.le_of_ble_eq_true rfl⟩) ⟨fun a U g mk q => by obtain ⟨q0, q1, qP, qK, qD⟩ := q; exact ⟨q0, q1, qP, va_K.moved (u := U) (U := U.calling g mk a) (Vm.Alike.refl U.vm) qK, qD⟩, va_recv hKc hPc (ci := 9) (q0 := 0) rfl rfl, fun U hU hW => ⟨rfl, by rw [hU], by rw [hU]; exact hPc, va_K.moved hW.alike hKc, hDc.weaken (fun _ _ _ _ => trivial)⟩⟩ rfl rfl hl.1 rfl (lv_room (Nat.le_of_ble_eq_true rfl)) dX9_leastDeep_18 ⟨Nat.le_of_ble_eq_true rfl, Nat.le_of_ble_eq_true rfl⟩) hS (fun q _ h => hFc q h) hFc (fun r_23 u t H1 locs ht hvm hw hB hz1 hk1 hS => ?_)
    obtain ⟨hP1, hK1, hD1⟩ := hB
    rw [ht] at hP1
    have hK1 := va_K.moved hvm.symm hK1
    obtain ⟨hP, hD⟩ := va_join (wr := []) (w1 := [(h0, Sum.inr (9, [Value.ref h1, Value.ref h2, Value.ref h3, Value.int n0_size])), (h1, Sum.inl (cint, 40, Sum.inl f1)), (h2, Sum.inl (cint, 40, Sum.inl f2)), (h3, Sum.inl (cint, 40, Sum.inl f3))]) hP hD [0, 1, 2, 3] [] rfl rfl (by decide) (by decide) hk1 hFc hP1 hD1
    generalize H1 = H at hP hS ⊢
    have hP : va_P (dC, dI) vwCl [(h0, Sum.inr (9, [Value.ref h1, Value.ref h2, Value.ref h3, Value.int n0_size])), (h1, Sum.inl (cint, 40, Sum.inl f1)), (h2, Sum.inl (cint, 40, Sum.inl f2)), (h3, Sum.inl (cint, 40, Sum.inl f3))] H := hP
    have hD : va_D A [(h0, Sum.inr (9, [Value.ref h1, Value.ref h2, Value.ref h3, Value.int n0_size])), (h1, Sum.inl (cint, 40, Sum.inl f1)), (h2, Sum.inl (cint, 40, Sum.inl f2)), (h3, Sum.inl (cint, 40, Sum.inl f3))] := hD
    refine lv_aload_n hx hb dX9_leastDeep_21 rfl (lv_at hl 2 rfl) ?_
    refine lv_iconst (v := 1) hx hb dX9_leastDeep_22 (by decide) ?_
    refine lv_iload_n hx hb dX9_leastDeep_23 rfl (lv_at hl 1 rfl) ?_
    have hPc := hP.sub (ws' := [(h0, Sum.inr (9, [Value.ref h1, Value.ref h2, Value.ref h3, Value.int n0_size])), (h1, Sum.inl (cint, 40, Sum.inl f1)), (h2, Sum.inl (cint, 40, Sum.inl f2)), (h3, Sum.inl (cint, 40, Sum.inl f3))]) [0, 1, 2, 3] rfl
    have hDc := hD.sub (ws' := [(h0, Sum.inr (9, [Value.ref h1, Value.ref h2, Value.ref h3, Value.int n0_size])), (h1, Sum.inl (cint, 40, Sum.inl f1)), (h2, Sum.inl (cint, 40, Sum.inl f2)), (h3, Sum.inl (cint, 40, Sum.inl f3))]) [0, 1, 2, 3] (by decide) rfl
    have hKc := hK.sub (tys' := [(cint, .int)]) [0] rfl
    have hFc := va_free (wc := [(h0, Sum.inr (9, [Value.ref h1, Value.ref h2, Value.ref h3, Value.int n0_size])), (h1, Sum.inl (cint, 40, Sum.inl f1)), (h2, Sum.inl (cint, 40, Sum.inl f2)), (h3, Sum.inl (cint, 40, Sum.inl f3))]) hD hS hA [0, 1, 2, 3] rfl
    refine va_calli (va_runV (As := [.int 1, .int i_1_1]) (rest := [.int r_23]) ⟨hx, hb, hml, hown, hts⟩ (g_X9_fact_0 l dC dI h0 h1 h2 h3 cint H.size 1 i_1_1 n0_size f1 f2 f3 tn0_size) (cwV 2 hts gX9_leastDeep_X9_fact rfl rfl rfl (by decide +kernel) ⟨Nat.le_of_ble_eq_true rfl, Nat.le_of_ble_eq_true rfl⟩) ⟨fun a U g mk q => by obtain ⟨q0, q1, qP, qK, qD⟩ := q; exact ⟨q0, q1, qP, va_K.moved (u := U) (U := U.calling g mk a) (Vm.Alike.refl U.vm) qK, qD⟩, va_recv hKc hPc (ci := 9) (q0 := 0) rfl rfl, fun U hU hW => ⟨rfl, by rw [hU], by rw [hU]; exact hPc, va_K.moved hW.alike hKc, hDc.weaken (fun _ _ _ _ => trivial)⟩⟩ rfl rfl hl.1 rfl (lv_room (Nat.le_of_ble_eq_true rfl)) dX9_leastDeep_24 ⟨Nat.le_of_ble_eq_true rfl, Nat.le_of_ble_eq_true rfl⟩) hS (fun q _ h => hFc q h) hFc (fun r_24 u t H1 locs ht hvm hw hB hz1 hk1 hS => ?_)
    obtain ⟨hP1, hK1, hD1⟩ := hB
    rw [ht] at hP1
    have hK1 := va_K.moved hvm.symm hK1
    obtain ⟨hP, hD⟩ := va_join (wr := []) (w1 := [(h0, Sum.inr (9, [Value.ref h1, Value.ref h2, Value.ref h3, Value.int n0_size])), (h1, Sum.inl (cint, 40, Sum.inl f1)), (h2, Sum.inl (cint, 40, Sum.inl f2)), (h3, Sum.inl (cint, 40, Sum.inl f3))]) hP hD [0, 1, 2, 3] [] rfl rfl (by decide) (by decide) hk1 hFc hP1 hD1
    generalize H1 = H at hP hS ⊢
    have hP : va_P (dC, dI) vwCl [(h0, Sum.inr (9, [Value.ref h1, Value.ref h2, Value.ref h3, Value.int n0_size])), (h1, Sum.inl (cint, 40, Sum.inl f1)), (h2, Sum.inl (cint, 40, Sum.inl f2)), (h3, Sum.inl (cint, 40, Sum.inl f3))] H := hP
    have hD : va_D A [(h0, Sum.inr (9, [Value.ref h1, Value.ref h2, Value.ref h3, Value.int n0_size])), (h1, Sum.inl (cint, 40, Sum.inl f1)), (h2, Sum.inl (cint, 40, Sum.inl f2)), (h3, Sum.inl (cint, 40, Sum.inl f3))] := hD
    refine lv_icmp_ge (tgt := 32) hx hb dX9_leastDeep_27 (by decide) (fun c_25 => ?_) (fun c_25 => ?_)
    · have t_25 : r_24.toInt ≤ r_23.toInt := kk_le c_25
      refine lv_iinc (v := (i_1_0 + 1)) (lv' := [(3, .int (i_1_0 + 1)), (2, .int i_1_1), (0, .ref h0), (1, .int p0)]) hx hb dX9_leastDeep_32 hl (k := 0) rfl (by first | rfl | decide) (by decide) rfl (fun ls hl => ?_)
      refine lv_goto (tgt := 7) hx hb dX9_leastDeep_35 (by decide) ?_
      exact ih_1 ((i_1_0 + 1), i_1_1) _ _ _ (by show ((21474836 : Int) - ((i_1_0 + 1)).toInt).toNat < ((21474836 : Int) - i_1_0.toInt).toNat; have := kk_rng r_24; have := kk_rng r_23; have := kk_rng p0; have := kk_divb (x := p0) (k := 100) (n := 100) rfl (by decide); have := kk_remb (x := p0) (k := 100) (n := 100) rfl (by decide); have := kk_add2 (x := i_1_0) (y := 1) (a := i_1_0.toInt) (b := 1) rfl rfl (by omega) (by omega); exact kk_mu (by omega) (by omega)) ⟨(by show (-21474836) ≤ ((i_1_0 + 1) : Int32).toInt ∧ ((i_1_0 + 1) : Int32).toInt ≤ 21474836; first | decide | (constructor <;> (have := kk_rng r_24; have := kk_rng r_23; have := kk_rng p0; have := kk_divb (x := p0) (k := 100) (n := 100) rfl (by decide); have := kk_remb (x := p0) (k := 100) (n := 100) rfl (by decide); have := kk_add2 (x := i_1_0) (y := 1) (a := i_1_0.toInt) (b := 1) rfl rfl (by omega) (by omega); omega))), (by show (-21474836) ≤ (i_1_1 : Int32).toInt ∧ (i_1_1 : Int32).toInt ≤ 21474836; first | decide | (constructor <;> (have := kk_rng r_24; have := kk_rng r_23; have := kk_rng p0; have := kk_divb (x := p0) (k := 100) (n := 100) rfl (by decide); have := kk_remb (x := p0) (k := 100) (n := 100) rfl (by decide); have := kk_add2 (x := i_1_0) (y := 1) (a := i_1_0.toInt) (b := 1) rfl rfl (by omega) (by omega); omega))), (by show ((p0 / 100) : Int32).toInt ≤ ((i_1_0 + 1) : Int32).toInt; first | decide | (have := kk_rng r_24; have := kk_rng r_23; have := kk_rng p0; have := kk_divb (x := p0) (k := 100) (n := 100) rfl (by decide); have := kk_remb (x := p0) (k := 100) (n := 100) rfl (by decide); have := kk_add2 (x := i_1_0) (y := 1) (a := i_1_0.toInt) (b := 1) rfl rfl (by omega) (by omega); omega)), hP, hD, hS, lv_sub hl [0, 1, 2, 3] rfl⟩
    · have t_25 : r_23.toInt < r_24.toInt := kk_nle c_25
      refine lv_iload_n hx hb dX9_leastDeep_30 rfl (lv_at hl 0 rfl) ?_
      refine lv_istore_n (lv' := [(2, .int i_1_0), (3, .int i_1_0), (0, .ref h0), (1, .int p0)]) hx hb dX9_leastDeep_31 rfl hl (by decide) rfl (fun ls hl => ?_)
      refine lv_iinc (v := (i_1_0 + 1)) (lv' := [(3, .int (i_1_0 + 1)), (2, .int i_1_0), (0, .ref h0), (1, .int p0)]) hx hb dX9_leastDeep_32 hl (k := 1) rfl (by first | rfl | decide) (by decide) rfl (fun ls hl => ?_)
      refine lv_goto (tgt := 7) hx hb dX9_leastDeep_35 (by decide) ?_
      exact ih_1 ((i_1_0 + 1), i_1_0) _ _ _ (by show ((21474836 : Int) - ((i_1_0 + 1)).toInt).toNat < ((21474836 : Int) - i_1_0.toInt).toNat; have := kk_rng r_23; have := kk_rng r_24; have := kk_rng p0; have := kk_divb (x := p0) (k := 100) (n := 100) rfl (by decide); have := kk_remb (x := p0) (k := 100) (n := 100) rfl (by decide); have := kk_add2 (x := i_1_0) (y := 1) (a := i_1_0.toInt) (b := 1) rfl rfl (by omega) (by omega); exact kk_mu (by omega) (by omega)) ⟨(by show (-21474836) ≤ ((i_1_0 + 1) : Int32).toInt ∧ ((i_1_0 + 1) : Int32).toInt ≤ 21474836; first | decide | (constructor <;> (have := kk_rng r_23; have := kk_rng r_24; have := kk_rng p0; have := kk_divb (x := p0) (k := 100) (n := 100) rfl (by decide); have := kk_remb (x := p0) (k := 100) (n := 100) rfl (by decide); have := kk_add2 (x := i_1_0) (y := 1) (a := i_1_0.toInt) (b := 1) rfl rfl (by omega) (by omega); omega))), (by show (-21474836) ≤ (i_1_0 : Int32).toInt ∧ (i_1_0 : Int32).toInt ≤ 21474836; first | decide | (constructor <;> (have := kk_rng r_23; have := kk_rng r_24; have := kk_rng p0; have := kk_divb (x := p0) (k := 100) (n := 100) rfl (by decide); have := kk_remb (x := p0) (k := 100) (n := 100) rfl (by decide); have := kk_add2 (x := i_1_0) (y := 1) (a := i_1_0.toInt) (b := 1) rfl rfl (by omega) (by omega); omega))), (by show ((p0 / 100) : Int32).toInt ≤ ((i_1_0 + 1) : Int32).toInt; first | decide | (have := kk_rng r_23; have := kk_rng r_24; have := kk_rng p0; have := kk_divb (x := p0) (k := 100) (n := 100) rfl (by decide); have := kk_remb (x := p0) (k := 100) (n := 100) rfl (by decide); have := kk_add2 (x := i_1_0) (y := 1) (a := i_1_0.toInt) (b := 1) rfl rfl (by omega) (by omega); omega)), hP, hD, hS, lv_sub hl [0, 1, 2, 3] rfl⟩
set_option maxHeartbeats 4000000 in
set_option maxRecDepth 100000 in
theorem g_X9_remove_0 (l : Launch) (dC : Nat → ClassId) (dI : Nat → Nat → Nat) (h0 : Nat) (h1 : Nat) (h2 : Nat) (h3 : Nat) (cint : ClassId) (sz : Nat) (p0 : Int32) (n0_size : Int32) (f1 : Nat → Int32) (f2 : Nat → Int32) (f3 : Nat → Int32) (tn0_size : 0 ≤ n0_size.toInt ∧ n0_size.toInt ≤ 40) : Met l yX9_remove wsX9_remove ({ frames := 1, cells := 0, slots := 0, locals := 21 }) (va_Pc [.ref h0, .int p0] (fun U => U.heap.size = sz ∧ va_P (dC, dI) vwCl [(h0, Sum.inr (9, [Value.ref h1, Value.ref h2, Value.ref h3, Value.int n0_size])), (h1, Sum.inl (cint, 40, Sum.inl f1)), (h2, Sum.inl (cint, 40, Sum.inl f2)), (h3, Sum.inl (cint, 40, Sum.inl f3))] U.heap ∧ va_K (dC, dI) vwCl [(cint, .int)] U ∧ va_D (fun _ => True) [(h0, Sum.inr (9, [Value.ref h1, Value.ref h2, Value.ref h3, Value.int n0_size])), (h1, Sum.inl (cint, 40, Sum.inl f1)), (h2, Sum.inl (cint, 40, Sum.inl f2)), (h3, Sum.inl (cint, 40, Sum.inl f3))])) (va_Qv (fun (_ : Unit) => True) (fun (_ : Unit) t => ∃ (m0_size : Int32) (g1 : Nat → Int32) (g2 : Nat → Int32) (g3 : Nat → Int32), (0 ≤ m0_size.toInt ∧ m0_size.toInt ≤ 40) ∧ va_P (dC, dI) vwCl [(h0, Sum.inr (9, [Value.ref h1, Value.ref h2, Value.ref h3, Value.int m0_size])), (h1, Sum.inl (cint, 40, Sum.inl g1)), (h2, Sum.inl (cint, 40, Sum.inl g2)), (h3, Sum.inl (cint, 40, Sum.inl g3))] t.heap ∧ va_K (dC, dI) vwCl [] t ∧ va_D (va_A [(h0, Sum.inr (9, [Value.ref h1, Value.ref h2, Value.ref h3, Value.int n0_size])), (h1, Sum.inl (cint, 40, Sum.inl f1)), (h2, Sum.inl (cint, 40, Sum.inl f2)), (h3, Sum.inl (cint, 40, Sum.inl f3))] sz) [(h0, Sum.inr (9, [Value.ref h1, Value.ref h2, Value.ref h3, Value.int m0_size])), (h1, Sum.inl (cint, 40, Sum.inl g1)), (h2, Sum.inl (cint, 40, Sum.inl g2)), (h3, Sum.inl (cint, 40, Sum.inl g3))]) (va_A [(h0, Sum.inr (9, [Value.ref h1, Value.ref h2, Value.ref h3, Value.int n0_size])), (h1, Sum.inl (cint, 40, Sum.inl f1)), (h2, Sum.inl (cint, 40, Sum.inl f2)), (h3, Sum.inl (cint, 40, Sum.inl f3))] sz)) 0 0 (va_A [(h0, Sum.inr (9, [Value.ref h1, Value.ref h2, Value.ref h3, Value.int n0_size])), (h1, Sum.inl (cint, 40, Sum.inl f1)), (h2, Sum.inl (cint, 40, Sum.inl f2)), (h3, Sum.inl (cint, 40, Sum.inl f3))] sz) := by
  refine Met.ofW (cc := cX9_remove) (maxL := 3) (ret := none) (by decide) rfl ?_
  intro p e s m args below meth c s₁ B hml hv
  obtain ⟨rfl, hsz, hP, hK, hD0⟩ := hv
  have hx := B.exec
  have hb := B.bytes
  have hr := B.returns
  have hts := atoms_spec (ws := wsX9_remove) B.pre
  have hown : s.vm.findClass RX9 = some m.cls := findClass_of_methodNamed B.named
  have hlocks := B.notSynchronized
  subst hsz
  have hD := hD0.self (sz := s.heap.size)
  generalize hAe : va_A [(h0, Sum.inr (9, [Value.ref h1, Value.ref h2, Value.ref h3, Value.int n0_size])), (h1, Sum.inl (cint, 40, Sum.inl f1)), (h2, Sum.inl (cint, 40, Sum.inl f2)), (h3, Sum.inl (cint, 40, Sum.inl f3))] s.heap.size = A at hD ⊢
  have hA : ∀ q : Nat, s.heap.size ≤ q → A q := fun q h => by rw [← hAe]; exact Or.inr h
  have hS : va_S A s.heap s.heap [] := va_S.rf
  have hP : va_P (dC, dI) vwCl [(h0, Sum.inr (9, [Value.ref h1, Value.ref h2, Value.ref h3, Value.int n0_size])), (h1, Sum.inl (cint, 40, Sum.inl f1)), (h2, Sum.inl (cint, 40, Sum.inl f2)), (h3, Sum.inl (cint, 40, Sum.inl f3))] s.heap := hP
  have hl := lv_entry ([.ref h0, .int p0]) (n := 3) (Nat.le_of_ble_eq_true rfl)
  rw [lg_entry_eq]
  generalize (lg_sl ([.ref h0, .int p0]) ++ List.replicate (3 - (lg_sl ([.ref h0, .int p0])).length) Slot.unset).toArray = ls at hl ⊢
  have hl : lv_has ls 3 [(0, .ref h0), (1, .int p0)] := hl
  refine lv_aload_n hx hb dX9_remove_0 rfl (lv_at hl 0 rfl) ?_
  refine lv_iload_n hx hb dX9_remove_1 rfl (lv_at hl 1 rfl) ?_
  have hPc := hP.sub (ws' := [(h0, Sum.inr (9, [Value.ref h1, Value.ref h2, Value.ref h3, Value.int n0_size]))]) [0] rfl
  have hDc := hD.sub (ws' := [(h0, Sum.inr (9, [Value.ref h1, Value.ref h2, Value.ref h3, Value.int n0_size]))]) [0] (by decide) rfl
  have hKc := hK.sub (tys' := []) [] rfl
  have hFc := va_free (wc := [(h0, Sum.inr (9, [Value.ref h1, Value.ref h2, Value.ref h3, Value.int n0_size]))]) hD hS hA [0] rfl
  refine va_calli (va_runV (As := [.int p0]) (rest := []) ⟨hx, hb, hml, hown, hts⟩ (g_X9_has_0 l dC dI h0 h1 h2 h3 s.heap.size p0 n0_size tn0_size) (cwV 1 hts gX9_remove_X9_has rfl rfl rfl (by decide +kernel) ⟨Nat.le_of_ble_eq_true rfl, Nat.le_of_ble_eq_true rfl⟩) ⟨fun a U g mk q => by obtain ⟨q0, q1, qP, qK, qD⟩ := q; exact ⟨q0, q1, qP, va_K.moved (u := U) (U := U.calling g mk a) (Vm.Alike.refl U.vm) qK, qD⟩, va_recv hKc hPc (ci := 9) (q0 := 0) rfl rfl, fun U hU hW => ⟨rfl, by rw [hU], by rw [hU]; exact hPc, va_K.moved hW.alike hKc, hDc.weaken (fun _ _ _ _ => trivial)⟩⟩ rfl rfl hl.1 rfl (lv_room (Nat.le_of_ble_eq_true rfl)) dX9_remove_2 ⟨Nat.le_of_ble_eq_true rfl, Nat.le_of_ble_eq_true rfl⟩) hS (fun q _ h => hFc q h) hFc (fun r_1 u t H1 locs ht hvm hw hB hz1 hk1 hS => ?_)
  obtain ⟨hP1, hK1, hD1⟩ := hB
  rw [ht] at hP1
  have hK1 := va_K.moved hvm.symm hK1
  obtain ⟨hP, hD⟩ := va_join (wr := [(h1, Sum.inl (cint, 40, Sum.inl f1)), (h2, Sum.inl (cint, 40, Sum.inl f2)), (h3, Sum.inl (cint, 40, Sum.inl f3))]) (w1 := [(h0, Sum.inr (9, [Value.ref h1, Value.ref h2, Value.ref h3, Value.int n0_size]))]) hP hD [0] [1, 2, 3] rfl rfl (by decide) (by decide) hk1 hFc hP1 hD1
  generalize H1 = H at hP hS ⊢
  have hP : va_P (dC, dI) vwCl [(h1, Sum.inl (cint, 40, Sum.inl f1)), (h2, Sum.inl (cint, 40, Sum.inl f2)), (h3, Sum.inl (cint, 40, Sum.inl f3)), (h0, Sum.inr (9, [Value.ref h1, Value.ref h2, Value.ref h3, Value.int n0_size]))] H := hP
  have hD : va_D A [(h1, Sum.inl (cint, 40, Sum.inl f1)), (h2, Sum.inl (cint, 40, Sum.inl f2)), (h3, Sum.inl (cint, 40, Sum.inl f3)), (h0, Sum.inr (9, [Value.ref h1, Value.ref h2, Value.ref h3, Value.int n0_size]))] := hD
  rcases hw with ⟨rfl⟩ | ⟨t_1_0, t_1_1, t_1_2, rfl⟩
  · skip
    refine lv_if_ne (tgt := 9) hx hb dX9_remove_5 (by decide) (fun c => absurd c (by decide)) (fun _ => ?_)
    have hP9 := hP.sub (ws' := [(h0, Sum.inr (9, [Value.ref h1, Value.ref h2, Value.ref h3, Value.int n0_size])), (h1, Sum.inl (cint, 40, Sum.inl f1)), (h2, Sum.inl (cint, 40, Sum.inl f2)), (h3, Sum.inl (cint, 40, Sum.inl f3))]) [3, 0, 1, 2] rfl
    have hD9 := hD.sub (ws' := [(h0, Sum.inr (9, [Value.ref h1, Value.ref h2, Value.ref h3, Value.int n0_size])), (h1, Sum.inl (cint, 40, Sum.inl f1)), (h2, Sum.inl (cint, 40, Sum.inl f2)), (h3, Sum.inl (cint, 40, Sum.inl f3))]) [3, 0, 1, 2] (by decide) rfl
    have hK9 := hK.sub (tys' := []) [] rfl
    exact W.vret hx hb hr (fun t ht hW => ⟨⟨(), rfl, trivial, n0_size, f1, f2, f3, tn0_size, by rw [ht]; exact hP9, va_K.moved hW.alike hK9, hD9⟩, hS.F ht⟩) hS.2.2 dX9_remove_8
  · skip
    have t_1_0 : (0 : Int) ≤ p0.toInt := t_1_0
    have t_1_2 : (p0.toInt : Int) ≤ 39 := t_1_2
    refine lv_if_ne (tgt := 9) hx hb dX9_remove_5 (by decide) (fun _ => ?_) (fun c => absurd c (by decide))
    refine lv_iload_n hx hb dX9_remove_9 rfl (lv_at hl 1 rfl) ?_
    refine lv_iconst (v := 1) hx hb dX9_remove_10 (by decide) ?_
    refine lv_iadd hx hb dX9_remove_11 ?_
    refine lv_istore_n (lv' := [(2, .int (p0 + 1)), (0, .ref h0), (1, .int p0)]) hx hb dX9_remove_12 rfl hl (by decide) rfl (fun ls hl => ?_)
    refine kk_loop (σ := Int32 × (Nat → Int32) × (Nat → Int32) × (Nat → Int32)) (fun x H locs ls => (1 ≤ x.1.toInt ∧ x.1.toInt ≤ 40) ∧ (p0 + 1).toInt ≤ x.1.toInt ∧ va_P (dC, dI) vwCl [(h1, Sum.inl (cint, 40, Sum.inl x.2.1)), (h2, Sum.inl (cint, 40, Sum.inl x.2.2.1)), (h3, Sum.inl (cint, 40, Sum.inl x.2.2.2)), (h0, Sum.inr (9, [Value.ref h1, Value.ref h2, Value.ref h3, Value.int n0_size]))] H ∧ va_D A [(h1, Sum.inl (cint, 40, Sum.inl x.2.1)), (h2, Sum.inl (cint, 40, Sum.inl x.2.2.1)), (h3, Sum.inl (cint, 40, Sum.inl x.2.2.2)), (h0, Sum.inr (9, [Value.ref h1, Value.ref h2, Value.ref h3, Value.int n0_size]))] ∧ va_S A s.heap H locs ∧ lv_has ls 3 [(2, .int x.1), (0, .ref h0), (1, .int p0)]) (fun x => ((40 : Int) - x.1.toInt).toNat) ?_ ((p0 + 1), f1, f2, f3) _ _ _ ⟨(by show 1 ≤ ((p0 + 1) : Int32).toInt ∧ ((p0 + 1) : Int32).toInt ≤ 40; first | decide | (constructor <;> (have := kk_add2 (x := p0) (y := 1) (a := p0.toInt) (b := 1) rfl rfl (by omega) (by omega); omega))), (by show ((p0 + 1) : Int32).toInt ≤ ((p0 + 1) : Int32).toInt; first | decide | (have := kk_add2 (x := p0) (y := 1) (a := p0.toInt) (b := 1) rfl rfl (by omega) (by omega); omega)), hP, hD, hS, hl⟩
    rintro ⟨i_2_0, f_2_1, f_2_2, f_2_3⟩ H locs ls ⟨t_2_0, z_2_0, hP, hD, hS, hl⟩ ih_2
    have t_2_0 : (1 ≤ i_2_0.toInt ∧ i_2_0.toInt ≤ 40) := t_2_0
    have z_2_0 : (p0 + 1).toInt ≤ i_2_0.toInt := z_2_0
    have hl : lv_has ls 3 [(2, .int i_2_0), (0, .ref h0), (1, .int p0)] := hl
    have hP : va_P (dC, dI) vwCl [(h1, Sum.inl (cint, 40, Sum.inl f_2_1)), (h2, Sum.inl (cint, 40, Sum.inl f_2_2)), (h3, Sum.inl (cint, 40, Sum.inl f_2_3)), (h0, Sum.inr (9, [Value.ref h1, Value.ref h2, Value.ref h3, Value.int n0_size]))] H := hP
    have hD : va_D A [(h1, Sum.inl (cint, 40, Sum.inl f_2_1)), (h2, Sum.inl (cint, 40, Sum.inl f_2_2)), (h3, Sum.inl (cint, 40, Sum.inl f_2_3)), (h0, Sum.inr (9, [Value.ref h1, Value.ref h2, Value.ref h3, Value.int n0_size]))] := hD
    refine lv_iload_n hx hb dX9_remove_13 rfl (lv_at hl 0 rfl) ?_
    refine lv_aload_n hx hb dX9_remove_14 rfl (lv_at hl 1 rfl) ?_
    refine va_get (D := (dC, dI)) (ci := 9) (v := .int n0_size) (C := RX9) (T := TX9) (N := 4) hx hb hts (fun _ h => List.mem_cons_of_mem _ (List.mem_append_right _ h)) hown hK hP 3 rfl rfl 3 (by decide) (hts (.fieldLink RX9 21 "KinkStreet$Street" "size" "I") (List.mem_of_getElem? (i := 1) rfl)) (fun _ h9 => h9) rfl dX9_remove_15 ?_
    refine lv_icmp_ge (tgt := 69) hx hb dX9_remove_18 (by decide) (fun c_31 => ?_) (fun c_31 => ?_)
    · have t_31 : n0_size.toInt ≤ i_2_0.toInt := kk_le c_31
      refine lv_aload_n hx hb dX9_remove_69 rfl (lv_at hl 1 rfl) ?_
      refine lv_dup hx hb dX9_remove_70 rfl ?_
      refine va_get (D := (dC, dI)) (ci := 9) (v := .int n0_size) (C := RX9) (T := TX9) (N := 4) hx hb hts (fun _ h => List.mem_cons_of_mem _ (List.mem_append_right _ h)) hown hK hP 3 rfl rfl 3 (by decide) (hts (.fieldLink RX9 21 "KinkStreet$Street" "size" "I") (List.mem_of_getElem? (i := 1) rfl)) (fun _ h9 => h9) rfl dX9_remove_71 ?_
      refine lv_iconst (v := 1) hx hb dX9_remove_74 (by decide) ?_
      refine lv_isub hx hb dX9_remove_75 ?_
      refine va_put (D := (dC, dI)) (ci := 9) (v := .int (n0_size - 1)) (ty := .int) (C := RX9) (T := TX9) (N := 4) hx hb hts (fun _ h => List.mem_cons_of_mem _ (List.mem_append_right _ h)) tyX9 tyX9_ok nmX9 hown hK hP hD hS 3 rfl rfl 3 (by decide) (hts (.fieldLink RX9 21 "KinkStreet$Street" "size" "I") (List.mem_of_getElem? (i := 1) rfl)) (fun _ h9 => h9) rfl (by decide +kernel) rfl rfl (Nat.le_of_ble_eq_true rfl) dX9_remove_76 (fun H locs hP hD hS => ?_)
      have hP : va_P (dC, dI) vwCl [(h1, Sum.inl (cint, 40, Sum.inl f_2_1)), (h2, Sum.inl (cint, 40, Sum.inl f_2_2)), (h3, Sum.inl (cint, 40, Sum.inl f_2_3)), (h0, Sum.inr (9, [Value.ref h1, Value.ref h2, Value.ref h3, Value.int (n0_size - 1)]))] H := hP
      have hD : va_D A [(h1, Sum.inl (cint, 40, Sum.inl f_2_1)), (h2, Sum.inl (cint, 40, Sum.inl f_2_2)), (h3, Sum.inl (cint, 40, Sum.inl f_2_3)), (h0, Sum.inr (9, [Value.ref h1, Value.ref h2, Value.ref h3, Value.int (n0_size - 1)]))] := hD
      have hP9 := hP.sub (ws' := [(h0, Sum.inr (9, [Value.ref h1, Value.ref h2, Value.ref h3, Value.int (n0_size - 1)])), (h1, Sum.inl (cint, 40, Sum.inl f_2_1)), (h2, Sum.inl (cint, 40, Sum.inl f_2_2)), (h3, Sum.inl (cint, 40, Sum.inl f_2_3))]) [3, 0, 1, 2] rfl
      have hD9 := hD.sub (ws' := [(h0, Sum.inr (9, [Value.ref h1, Value.ref h2, Value.ref h3, Value.int (n0_size - 1)])), (h1, Sum.inl (cint, 40, Sum.inl f_2_1)), (h2, Sum.inl (cint, 40, Sum.inl f_2_2)), (h3, Sum.inl (cint, 40, Sum.inl f_2_3))]) [3, 0, 1, 2] (by decide) rfl
      have hK9 := hK.sub (tys' := []) [] rfl
      exact W.vret hx hb hr (fun t ht hW => ⟨⟨(), rfl, trivial, (n0_size - 1), f_2_1, f_2_2, f_2_3, (by show 0 ≤ ((n0_size - 1) : Int32).toInt ∧ ((n0_size - 1) : Int32).toInt ≤ 40; first | decide | (constructor <;> (have := kk_add2 (x := p0) (y := 1) (a := p0.toInt) (b := 1) rfl rfl (by omega) (by omega); have := kk_sub2 (x := n0_size) (y := 1) (a := n0_size.toInt) (b := 1) rfl rfl (by omega) (by omega); omega))), by rw [ht]; exact hP9, va_K.moved hW.alike hK9, hD9⟩, hS.F ht⟩) hS.2.2 dX9_remove_79
    · have t_31 : i_2_0.toInt < n0_size.toInt := kk_nle c_31
      refine lv_aload_n hx hb dX9_remove_21 rfl (lv_at hl 1 rfl) ?_
      refine va_get (D := (dC, dI)) (ci := 9) (v := .ref h1) (C := RX9) (T := TX9) (N := 4) hx hb hts (fun _ h => List.mem_cons_of_mem _ (List.mem_append_right _ h)) hown hK hP 3 rfl rfl 0 (by decide) (hts (.fieldLink RX9 9 "KinkStreet$Street" "widths" "[I") (List.mem_of_getElem? (i := 2) rfl)) (fun _ h9 => h9) rfl dX9_remove_22 ?_
      refine lv_iload_n hx hb dX9_remove_25 rfl (lv_at hl 0 rfl) ?_
      refine lv_iconst (v := 1) hx hb dX9_remove_26 (by decide) ?_
      refine lv_isub hx hb dX9_remove_27 ?_
      refine lv_aload_n hx hb dX9_remove_28 rfl (lv_at hl 1 rfl) ?_
      refine va_get (D := (dC, dI)) (ci := 9) (v := .ref h1) (C := RX9) (T := TX9) (N := 4) hx hb hts (fun _ h => List.mem_cons_of_mem _ (List.mem_append_right _ h)) hown hK hP 3 rfl rfl 0 (by decide) (hts (.fieldLink RX9 9 "KinkStreet$Street" "widths" "[I") (List.mem_of_getElem? (i := 2) rfl)) (fun _ h9 => h9) rfl dX9_remove_29 ?_
      refine lv_iload_n hx hb dX9_remove_32 rfl (lv_at hl 0 rfl) ?_
      have hi_32 : vp_in i_2_0 40 := (vp_in_iff.mpr ⟨by have := kk_add2 (x := p0) (y := 1) (a := p0.toInt) (b := 1) rfl rfl (by omega) (by omega); have := kk_sub2 (x := i_2_0) (y := 1) (a := i_2_0.toInt) (b := 1) rfl rfl (by omega) (by omega); omega, by have := kk_add2 (x := p0) (y := 1) (a := p0.toInt) (b := 1) rfl rfl (by omega) (by omega); have := kk_sub2 (x := i_2_0) (y := 1) (a := i_2_0.toInt) (b := 1) rfl rfl (by omega) (by omega); omega⟩)
      refine va_iald hx hb hK hP 0 0 rfl rfl hi_32 dX9_remove_33 ?_
      refine lv_topi (fun y_32 e_32 => ?_)
      clear e_32
      refine va_iast hx hb hK hP hD hS 0 0 rfl rfl (vp_in_iff.mpr ⟨by have := kk_add2 (x := p0) (y := 1) (a := p0.toInt) (b := 1) rfl rfl (by omega) (by omega); have := kk_sub2 (x := i_2_0) (y := 1) (a := i_2_0.toInt) (b := 1) rfl rfl (by omega) (by omega); omega, by have := kk_add2 (x := p0) (y := 1) (a := p0.toInt) (b := 1) rfl rfl (by omega) (by omega); have := kk_sub2 (x := i_2_0) (y := 1) (a := i_2_0.toInt) (b := 1) rfl rfl (by omega) (by omega); omega⟩) dX9_remove_34 (fun H locs hP hD hS => ?_)
      generalize upd f_2_1 ((i_2_0 - 1) : Int32).toNatClampNeg y_32 = f_33 at hP hD
      have hP : va_P (dC, dI) vwCl [(h1, Sum.inl (cint, 40, Sum.inl f_33)), (h2, Sum.inl (cint, 40, Sum.inl f_2_2)), (h3, Sum.inl (cint, 40, Sum.inl f_2_3)), (h0, Sum.inr (9, [Value.ref h1, Value.ref h2, Value.ref h3, Value.int n0_size]))] H := hP
      have hD : va_D A [(h1, Sum.inl (cint, 40, Sum.inl f_33)), (h2, Sum.inl (cint, 40, Sum.inl f_2_2)), (h3, Sum.inl (cint, 40, Sum.inl f_2_3)), (h0, Sum.inr (9, [Value.ref h1, Value.ref h2, Value.ref h3, Value.int n0_size]))] := hD
      refine lv_aload_n hx hb dX9_remove_35 rfl (lv_at hl 1 rfl) ?_
      refine va_get (D := (dC, dI)) (ci := 9) (v := .ref h2) (C := RX9) (T := TX9) (N := 4) hx hb hts (fun _ h => List.mem_cons_of_mem _ (List.mem_append_right _ h)) hown hK hP 3 rfl rfl 1 (by decide) (hts (.fieldLink RX9 15 "KinkStreet$Street" "depths" "[I") (List.mem_of_getElem? (i := 3) rfl)) (fun _ h9 => h9) rfl dX9_remove_36 ?_
      refine lv_iload_n hx hb dX9_remove_39 rfl (lv_at hl 0 rfl) ?_
      refine lv_iconst (v := 1) hx hb dX9_remove_40 (by decide) ?_
      refine lv_isub hx hb dX9_remove_41 ?_
      refine lv_aload_n hx hb dX9_remove_42 rfl (lv_at hl 1 rfl) ?_
      refine va_get (D := (dC, dI)) (ci := 9) (v := .ref h2) (C := RX9) (T := TX9) (N := 4) hx hb hts (fun _ h => List.mem_cons_of_mem _ (List.mem_append_right _ h)) hown hK hP 3 rfl rfl 1 (by decide) (hts (.fieldLink RX9 15 "KinkStreet$Street" "depths" "[I") (List.mem_of_getElem? (i := 3) rfl)) (fun _ h9 => h9) rfl dX9_remove_43 ?_
      refine lv_iload_n hx hb dX9_remove_46 rfl (lv_at hl 0 rfl) ?_
      have hi_34 : vp_in i_2_0 40 := (vp_in_iff.mpr ⟨by have := kk_add2 (x := p0) (y := 1) (a := p0.toInt) (b := 1) rfl rfl (by omega) (by omega); have := kk_sub2 (x := i_2_0) (y := 1) (a := i_2_0.toInt) (b := 1) rfl rfl (by omega) (by omega); omega, by have := kk_add2 (x := p0) (y := 1) (a := p0.toInt) (b := 1) rfl rfl (by omega) (by omega); have := kk_sub2 (x := i_2_0) (y := 1) (a := i_2_0.toInt) (b := 1) rfl rfl (by omega) (by omega); omega⟩)
      refine va_iald hx hb hK hP 1 0 rfl rfl hi_34 dX9_remove_47 ?_
      refine lv_topi (fun y_34 e_34 => ?_)
      clear e_34
      refine va_iast hx hb hK hP hD hS 1 0 rfl rfl (vp_in_iff.mpr ⟨by have := kk_add2 (x := p0) (y := 1) (a := p0.toInt) (b := 1) rfl rfl (by omega) (by omega); have := kk_sub2 (x := i_2_0) (y := 1) (a := i_2_0.toInt) (b := 1) rfl rfl (by omega) (by omega); omega, by have := kk_add2 (x := p0) (y := 1) (a := p0.toInt) (b := 1) rfl rfl (by omega) (by omega); have := kk_sub2 (x := i_2_0) (y := 1) (a := i_2_0.toInt) (b := 1) rfl rfl (by omega) (by omega); omega⟩) dX9_remove_48 (fun H locs hP hD hS => ?_)
      generalize upd f_2_2 ((i_2_0 - 1) : Int32).toNatClampNeg y_34 = f_35 at hP hD
      have hP : va_P (dC, dI) vwCl [(h1, Sum.inl (cint, 40, Sum.inl f_33)), (h2, Sum.inl (cint, 40, Sum.inl f_35)), (h3, Sum.inl (cint, 40, Sum.inl f_2_3)), (h0, Sum.inr (9, [Value.ref h1, Value.ref h2, Value.ref h3, Value.int n0_size]))] H := hP
      have hD : va_D A [(h1, Sum.inl (cint, 40, Sum.inl f_33)), (h2, Sum.inl (cint, 40, Sum.inl f_35)), (h3, Sum.inl (cint, 40, Sum.inl f_2_3)), (h0, Sum.inr (9, [Value.ref h1, Value.ref h2, Value.ref h3, Value.int n0_size]))] := hD
      refine lv_aload_n hx hb dX9_remove_49 rfl (lv_at hl 1 rfl) ?_
      refine va_get (D := (dC, dI)) (ci := 9) (v := .ref h3) (C := RX9) (T := TX9) (N := 4) hx hb hts (fun _ h => List.mem_cons_of_mem _ (List.mem_append_right _ h)) hown hK hP 3 rfl rfl 2 (by decide) (hts (.fieldLink RX9 18 "KinkStreet$Street" "asides" "[I") (List.mem_of_getElem? (i := 4) rfl)) (fun _ h9 => h9) rfl dX9_remove_50 ?_
      refine lv_iload_n hx hb dX9_remove_53 rfl (lv_at hl 0 rfl) ?_
      refine lv_iconst (v := 1) hx hb dX9_remove_54 (by decide) ?_
      refine lv_isub hx hb dX9_remove_55 ?_
      refine lv_aload_n hx hb dX9_remove_56 rfl (lv_at hl 1 rfl) ?_
      refine va_get (D := (dC, dI)) (ci := 9) (v := .ref h3) (C := RX9) (T := TX9) (N := 4) hx hb hts (fun _ h => List.mem_cons_of_mem _ (List.mem_append_right _ h)) hown hK hP 3 rfl rfl 2 (by decide) (hts (.fieldLink RX9 18 "KinkStreet$Street" "asides" "[I") (List.mem_of_getElem? (i := 4) rfl)) (fun _ h9 => h9) rfl dX9_remove_57 ?_
      refine lv_iload_n hx hb dX9_remove_60 rfl (lv_at hl 0 rfl) ?_
      have hi_36 : vp_in i_2_0 40 := (vp_in_iff.mpr ⟨by have := kk_add2 (x := p0) (y := 1) (a := p0.toInt) (b := 1) rfl rfl (by omega) (by omega); have := kk_sub2 (x := i_2_0) (y := 1) (a := i_2_0.toInt) (b := 1) rfl rfl (by omega) (by omega); omega, by have := kk_add2 (x := p0) (y := 1) (a := p0.toInt) (b := 1) rfl rfl (by omega) (by omega); have := kk_sub2 (x := i_2_0) (y := 1) (a := i_2_0.toInt) (b := 1) rfl rfl (by omega) (by omega); omega⟩)
      refine va_iald hx hb hK hP 2 0 rfl rfl hi_36 dX9_remove_61 ?_
      refine lv_topi (fun y_36 e_36 => ?_)
      clear e_36
      refine va_iast hx hb hK hP hD hS 2 0 rfl rfl (vp_in_iff.mpr ⟨by have := kk_add2 (x := p0) (y := 1) (a := p0.toInt) (b := 1) rfl rfl (by omega) (by omega); have := kk_sub2 (x := i_2_0) (y := 1) (a := i_2_0.toInt) (b := 1) rfl rfl (by omega) (by omega); omega, by have := kk_add2 (x := p0) (y := 1) (a := p0.toInt) (b := 1) rfl rfl (by omega) (by omega); have := kk_sub2 (x := i_2_0) (y := 1) (a := i_2_0.toInt) (b := 1) rfl rfl (by omega) (by omega); omega⟩) dX9_remove_62 (fun H locs hP hD hS => ?_)
      generalize upd f_2_3 ((i_2_0 - 1) : Int32).toNatClampNeg y_36 = f_37 at hP hD
      have hP : va_P (dC, dI) vwCl [(h1, Sum.inl (cint, 40, Sum.inl f_33)), (h2, Sum.inl (cint, 40, Sum.inl f_35)), (h3, Sum.inl (cint, 40, Sum.inl f_37)), (h0, Sum.inr (9, [Value.ref h1, Value.ref h2, Value.ref h3, Value.int n0_size]))] H := hP
      have hD : va_D A [(h1, Sum.inl (cint, 40, Sum.inl f_33)), (h2, Sum.inl (cint, 40, Sum.inl f_35)), (h3, Sum.inl (cint, 40, Sum.inl f_37)), (h0, Sum.inr (9, [Value.ref h1, Value.ref h2, Value.ref h3, Value.int n0_size]))] := hD
      refine lv_iinc (v := (i_2_0 + 1)) (lv' := [(2, .int (i_2_0 + 1)), (0, .ref h0), (1, .int p0)]) hx hb dX9_remove_63 hl (k := 0) rfl (by first | rfl | decide) (by decide) rfl (fun ls hl => ?_)
      refine lv_goto (tgt := 13) hx hb dX9_remove_66 (by decide) ?_
      exact ih_2 ((i_2_0 + 1), f_33, f_35, f_37) _ _ _ (by show ((40 : Int) - ((i_2_0 + 1)).toInt).toNat < ((40 : Int) - i_2_0.toInt).toNat; have := kk_add2 (x := p0) (y := 1) (a := p0.toInt) (b := 1) rfl rfl (by omega) (by omega); have := kk_sub2 (x := i_2_0) (y := 1) (a := i_2_0.toInt) (b := 1) rfl rfl (by omega) (by omega); have := kk_add2 (x := i_2_0) (y := 1) (a := i_2_0.toInt) (b := 1) rfl rfl (by omega) (by omega); exact kk_mu (by omega) (by omega)) ⟨(by show 1 ≤ ((i_2_0 + 1) : Int32).toInt ∧ ((i_2_0 + 1) : Int32).toInt ≤ 40; first | decide | (constructor <;> (have := kk_add2 (x := p0) (y := 1) (a := p0.toInt) (b := 1) rfl rfl (by omega) (by omega); have := kk_sub2 (x := i_2_0) (y := 1) (a := i_2_0.toInt) (b := 1) rfl rfl (by omega) (by omega); have := kk_add2 (x := i_2_0) (y := 1) (a := i_2_0.toInt) (b := 1) rfl rfl (by omega) (by omega); omega))), (by show ((p0 + 1) : Int32).toInt ≤ ((i_2_0 + 1) : Int32).toInt; first | decide | (have := kk_add2 (x := p0) (y := 1) (a := p0.toInt) (b := 1) rfl rfl (by omega) (by omega); have := kk_sub2 (x := i_2_0) (y := 1) (a := i_2_0.toInt) (b := 1) rfl rfl (by omega) (by omega); have := kk_add2 (x := i_2_0) (y := 1) (a := i_2_0.toInt) (b := 1) rfl rfl (by omega) (by omega); omega)), hP, hD, hS, lv_sub hl [0, 1, 2] rfl⟩
set_option maxHeartbeats 4000000 in
set_option maxRecDepth 100000 in
theorem g_X9_join_0 (l : Launch) (dC : Nat → ClassId) (dI : Nat → Nat → Nat) (h0 : Nat) (h1 : Nat) (h2 : Nat) (h3 : Nat) (cint : ClassId) (sz : Nat) (p0 : Int32) (n0_size : Int32) (f1 : Nat → Int32) (f2 : Nat → Int32) (f3 : Nat → Int32) (tn0_size : 0 ≤ n0_size.toInt ∧ n0_size.toInt ≤ 40) : Met l yX9_join wsX9_join ({ frames := 2, cells := 0, slots := 0, locals := 43 }) (va_Pc [.ref h0, .int p0] (fun U => U.heap.size = sz ∧ va_P (dC, dI) vwCl [(h0, Sum.inr (9, [Value.ref h1, Value.ref h2, Value.ref h3, Value.int n0_size])), (h1, Sum.inl (cint, 40, Sum.inl f1)), (h2, Sum.inl (cint, 40, Sum.inl f2)), (h3, Sum.inl (cint, 40, Sum.inl f3))] U.heap ∧ va_K (dC, dI) vwCl [(cint, .int)] U ∧ va_D (fun _ => True) [(h0, Sum.inr (9, [Value.ref h1, Value.ref h2, Value.ref h3, Value.int n0_size])), (h1, Sum.inl (cint, 40, Sum.inl f1)), (h2, Sum.inl (cint, 40, Sum.inl f2)), (h3, Sum.inl (cint, 40, Sum.inl f3))])) (va_Qv (fun (_ : Unit) => True) (fun (_ : Unit) t => ∃ (m0_size : Int32) (g1 : Nat → Int32) (g2 : Nat → Int32) (g3 : Nat → Int32), (0 ≤ m0_size.toInt ∧ m0_size.toInt ≤ 40) ∧ va_P (dC, dI) vwCl [(h0, Sum.inr (9, [Value.ref h1, Value.ref h2, Value.ref h3, Value.int m0_size])), (h1, Sum.inl (cint, 40, Sum.inl g1)), (h2, Sum.inl (cint, 40, Sum.inl g2)), (h3, Sum.inl (cint, 40, Sum.inl g3))] t.heap ∧ va_K (dC, dI) vwCl [] t ∧ va_D (va_A [(h0, Sum.inr (9, [Value.ref h1, Value.ref h2, Value.ref h3, Value.int n0_size])), (h1, Sum.inl (cint, 40, Sum.inl f1)), (h2, Sum.inl (cint, 40, Sum.inl f2)), (h3, Sum.inl (cint, 40, Sum.inl f3))] sz) [(h0, Sum.inr (9, [Value.ref h1, Value.ref h2, Value.ref h3, Value.int m0_size])), (h1, Sum.inl (cint, 40, Sum.inl g1)), (h2, Sum.inl (cint, 40, Sum.inl g2)), (h3, Sum.inl (cint, 40, Sum.inl g3))]) (va_A [(h0, Sum.inr (9, [Value.ref h1, Value.ref h2, Value.ref h3, Value.int n0_size])), (h1, Sum.inl (cint, 40, Sum.inl f1)), (h2, Sum.inl (cint, 40, Sum.inl f2)), (h3, Sum.inl (cint, 40, Sum.inl f3))] sz)) 0 0 (va_A [(h0, Sum.inr (9, [Value.ref h1, Value.ref h2, Value.ref h3, Value.int n0_size])), (h1, Sum.inl (cint, 40, Sum.inl f1)), (h2, Sum.inl (cint, 40, Sum.inl f2)), (h3, Sum.inl (cint, 40, Sum.inl f3))] sz) := by
  refine Met.ofW (cc := cX9_join) (maxL := 3) (ret := none) (by decide) rfl ?_
  intro p e s m args below meth c s₁ B hml hv
  obtain ⟨rfl, hsz, hP, hK, hD0⟩ := hv
  have hx := B.exec
  have hb := B.bytes
  have hr := B.returns
  have hts := atoms_spec (ws := wsX9_join) B.pre
  have hown : s.vm.findClass RX9 = some m.cls := findClass_of_methodNamed B.named
  have hlocks := B.notSynchronized
  subst hsz
  have hD := hD0.self (sz := s.heap.size)
  generalize hAe : va_A [(h0, Sum.inr (9, [Value.ref h1, Value.ref h2, Value.ref h3, Value.int n0_size])), (h1, Sum.inl (cint, 40, Sum.inl f1)), (h2, Sum.inl (cint, 40, Sum.inl f2)), (h3, Sum.inl (cint, 40, Sum.inl f3))] s.heap.size = A at hD ⊢
  have hA : ∀ q : Nat, s.heap.size ≤ q → A q := fun q h => by rw [← hAe]; exact Or.inr h
  have hS : va_S A s.heap s.heap [] := va_S.rf
  have hP : va_P (dC, dI) vwCl [(h0, Sum.inr (9, [Value.ref h1, Value.ref h2, Value.ref h3, Value.int n0_size])), (h1, Sum.inl (cint, 40, Sum.inl f1)), (h2, Sum.inl (cint, 40, Sum.inl f2)), (h3, Sum.inl (cint, 40, Sum.inl f3))] s.heap := hP
  have hl := lv_entry ([.ref h0, .int p0]) (n := 3) (Nat.le_of_ble_eq_true rfl)
  rw [lg_entry_eq]
  generalize (lg_sl ([.ref h0, .int p0]) ++ List.replicate (3 - (lg_sl ([.ref h0, .int p0])).length) Slot.unset).toArray = ls at hl ⊢
  have hl : lv_has ls 3 [(0, .ref h0), (1, .int p0)] := hl
  refine lv_aload_n hx hb dX9_join_0 rfl (lv_at hl 0 rfl) ?_
  refine lv_iload_n hx hb dX9_join_1 rfl (lv_at hl 1 rfl) ?_
  have hPc := hP.sub (ws' := [(h0, Sum.inr (9, [Value.ref h1, Value.ref h2, Value.ref h3, Value.int n0_size])), (h1, Sum.inl (cint, 40, Sum.inl f1))]) [0, 1] rfl
  have hDc := hD.sub (ws' := [(h0, Sum.inr (9, [Value.ref h1, Value.ref h2, Value.ref h3, Value.int n0_size])), (h1, Sum.inl (cint, 40, Sum.inl f1))]) [0, 1] (by decide) rfl
  have hKc := hK.sub (tys' := [(cint, .int)]) [0] rfl
  have hFc := va_free (wc := [(h0, Sum.inr (9, [Value.ref h1, Value.ref h2, Value.ref h3, Value.int n0_size])), (h1, Sum.inl (cint, 40, Sum.inl f1))]) hD hS hA [0, 1] rfl
  refine va_calli (va_runV (As := [.int p0]) (rest := []) ⟨hx, hb, hml, hown, hts⟩ (g_X9_width_0 l dC dI h0 h1 h2 h3 cint s.heap.size p0 n0_size f1 tn0_size) (cwV 1 hts gX9_join_X9_width rfl rfl rfl (by decide +kernel) ⟨Nat.le_of_ble_eq_true rfl, Nat.le_of_ble_eq_true rfl⟩) ⟨fun a U g mk q => by obtain ⟨q0, q1, qP, qK, qD⟩ := q; exact ⟨q0, q1, qP, va_K.moved (u := U) (U := U.calling g mk a) (Vm.Alike.refl U.vm) qK, qD⟩, va_recv hKc hPc (ci := 9) (q0 := 0) rfl rfl, fun U hU hW => ⟨rfl, by rw [hU], by rw [hU]; exact hPc, va_K.moved hW.alike hKc, hDc.weaken (fun _ _ _ _ => trivial)⟩⟩ rfl rfl hl.1 rfl (lv_room (Nat.le_of_ble_eq_true rfl)) dX9_join_2 ⟨Nat.le_of_ble_eq_true rfl, Nat.le_of_ble_eq_true rfl⟩) hS (fun q _ h => hFc q h) hFc (fun r_1 u t H1 locs ht hvm hw hB hz1 hk1 hS => ?_)
  obtain ⟨hP1, hK1, hD1⟩ := hB
  rw [ht] at hP1
  have hK1 := va_K.moved hvm.symm hK1
  obtain ⟨hP, hD⟩ := va_join (wr := [(h2, Sum.inl (cint, 40, Sum.inl f2)), (h3, Sum.inl (cint, 40, Sum.inl f3))]) (w1 := [(h0, Sum.inr (9, [Value.ref h1, Value.ref h2, Value.ref h3, Value.int n0_size])), (h1, Sum.inl (cint, 40, Sum.inl f1))]) hP hD [0, 1] [2, 3] rfl rfl (by decide) (by decide) hk1 hFc hP1 hD1
  generalize H1 = H at hP hS ⊢
  have hP : va_P (dC, dI) vwCl [(h2, Sum.inl (cint, 40, Sum.inl f2)), (h3, Sum.inl (cint, 40, Sum.inl f3)), (h0, Sum.inr (9, [Value.ref h1, Value.ref h2, Value.ref h3, Value.int n0_size])), (h1, Sum.inl (cint, 40, Sum.inl f1))] H := hP
  have hD : va_D A [(h2, Sum.inl (cint, 40, Sum.inl f2)), (h3, Sum.inl (cint, 40, Sum.inl f3)), (h0, Sum.inr (9, [Value.ref h1, Value.ref h2, Value.ref h3, Value.int n0_size])), (h1, Sum.inl (cint, 40, Sum.inl f1))] := hD
  refine lv_aload_n hx hb dX9_join_5 rfl (lv_at hl 0 rfl) ?_
  refine lv_iload_n hx hb dX9_join_6 rfl (lv_at hl 1 rfl) ?_
  refine lv_iconst (v := 1) hx hb dX9_join_7 (by decide) ?_
  refine lv_iadd hx hb dX9_join_8 ?_
  have hPc := hP.sub (ws' := [(h0, Sum.inr (9, [Value.ref h1, Value.ref h2, Value.ref h3, Value.int n0_size])), (h1, Sum.inl (cint, 40, Sum.inl f1))]) [2, 3] rfl
  have hDc := hD.sub (ws' := [(h0, Sum.inr (9, [Value.ref h1, Value.ref h2, Value.ref h3, Value.int n0_size])), (h1, Sum.inl (cint, 40, Sum.inl f1))]) [2, 3] (by decide) rfl
  have hKc := hK.sub (tys' := [(cint, .int)]) [0] rfl
  have hFc := va_free (wc := [(h0, Sum.inr (9, [Value.ref h1, Value.ref h2, Value.ref h3, Value.int n0_size])), (h1, Sum.inl (cint, 40, Sum.inl f1))]) hD hS hA [2, 3] rfl
  refine va_calli (va_runV (As := [.int (p0 + 1)]) (rest := [.int r_1]) ⟨hx, hb, hml, hown, hts⟩ (g_X9_width_0 l dC dI h0 h1 h2 h3 cint H.size (p0 + 1) n0_size f1 tn0_size) (cwV 1 hts gX9_join_X9_width rfl rfl rfl (by decide +kernel) ⟨Nat.le_of_ble_eq_true rfl, Nat.le_of_ble_eq_true rfl⟩) ⟨fun a U g mk q => by obtain ⟨q0, q1, qP, qK, qD⟩ := q; exact ⟨q0, q1, qP, va_K.moved (u := U) (U := U.calling g mk a) (Vm.Alike.refl U.vm) qK, qD⟩, va_recv hKc hPc (ci := 9) (q0 := 0) rfl rfl, fun U hU hW => ⟨rfl, by rw [hU], by rw [hU]; exact hPc, va_K.moved hW.alike hKc, hDc.weaken (fun _ _ _ _ => trivial)⟩⟩ rfl rfl hl.1 rfl (lv_room (Nat.le_of_ble_eq_true rfl)) dX9_join_9 ⟨Nat.le_of_ble_eq_true rfl, Nat.le_of_ble_eq_true rfl⟩) hS (fun q _ h => hFc q h) hFc (fun r_2 u t H1 locs ht hvm hw hB hz1 hk1 hS => ?_)
  obtain ⟨hP1, hK1, hD1⟩ := hB
  rw [ht] at hP1
  have hK1 := va_K.moved hvm.symm hK1
  obtain ⟨hP, hD⟩ := va_join (wr := [(h2, Sum.inl (cint, 40, Sum.inl f2)), (h3, Sum.inl (cint, 40, Sum.inl f3))]) (w1 := [(h0, Sum.inr (9, [Value.ref h1, Value.ref h2, Value.ref h3, Value.int n0_size])), (h1, Sum.inl (cint, 40, Sum.inl f1))]) hP hD [2, 3] [0, 1] rfl rfl (by decide) (by decide) hk1 hFc hP1 hD1
  generalize H1 = H at hP hS ⊢
  have hP : va_P (dC, dI) vwCl [(h2, Sum.inl (cint, 40, Sum.inl f2)), (h3, Sum.inl (cint, 40, Sum.inl f3)), (h0, Sum.inr (9, [Value.ref h1, Value.ref h2, Value.ref h3, Value.int n0_size])), (h1, Sum.inl (cint, 40, Sum.inl f1))] H := hP
  have hD : va_D A [(h2, Sum.inl (cint, 40, Sum.inl f2)), (h3, Sum.inl (cint, 40, Sum.inl f3)), (h0, Sum.inr (9, [Value.ref h1, Value.ref h2, Value.ref h3, Value.int n0_size])), (h1, Sum.inl (cint, 40, Sum.inl f1))] := hD
  refine lv_iadd hx hb dX9_join_12 ?_
  refine lv_istore_n (lv' := [(2, .int (r_1 + r_2)), (0, .ref h0), (1, .int p0)]) hx hb dX9_join_13 rfl hl (by decide) rfl (fun ls hl => ?_)
  refine lv_aload_n hx hb dX9_join_14 rfl (lv_at hl 1 rfl) ?_
  refine lv_iload_n hx hb dX9_join_15 rfl (lv_at hl 2 rfl) ?_
  have hPc := hP.sub (ws' := [(h0, Sum.inr (9, [Value.ref h1, Value.ref h2, Value.ref h3, Value.int n0_size]))]) [2] rfl
  have hDc := hD.sub (ws' := [(h0, Sum.inr (9, [Value.ref h1, Value.ref h2, Value.ref h3, Value.int n0_size]))]) [2] (by decide) rfl
  have hKc := hK.sub (tys' := []) [] rfl
  have hFc := va_free (wc := [(h0, Sum.inr (9, [Value.ref h1, Value.ref h2, Value.ref h3, Value.int n0_size]))]) hD hS hA [2] rfl
  refine va_calli (va_runV (As := [.int p0]) (rest := []) ⟨hx, hb, hml, hown, hts⟩ (g_X9_has_0 l dC dI h0 h1 h2 h3 H.size p0 n0_size tn0_size) (cwV 1 hts gX9_join_X9_has rfl rfl rfl (by decide +kernel) ⟨Nat.le_of_ble_eq_true rfl, Nat.le_of_ble_eq_true rfl⟩) ⟨fun a U g mk q => by obtain ⟨q0, q1, qP, qK, qD⟩ := q; exact ⟨q0, q1, qP, va_K.moved (u := U) (U := U.calling g mk a) (Vm.Alike.refl U.vm) qK, qD⟩, va_recv hKc hPc (ci := 9) (q0 := 0) rfl rfl, fun U hU hW => ⟨rfl, by rw [hU], by rw [hU]; exact hPc, va_K.moved hW.alike hKc, hDc.weaken (fun _ _ _ _ => trivial)⟩⟩ rfl rfl hl.1 rfl (lv_room (Nat.le_of_ble_eq_true rfl)) dX9_join_16 ⟨Nat.le_of_ble_eq_true rfl, Nat.le_of_ble_eq_true rfl⟩) hS (fun q _ h => hFc q h) hFc (fun r_3 u t H1 locs ht hvm hw hB hz1 hk1 hS => ?_)
  obtain ⟨hP1, hK1, hD1⟩ := hB
  rw [ht] at hP1
  have hK1 := va_K.moved hvm.symm hK1
  obtain ⟨hP, hD⟩ := va_join (wr := [(h2, Sum.inl (cint, 40, Sum.inl f2)), (h3, Sum.inl (cint, 40, Sum.inl f3)), (h1, Sum.inl (cint, 40, Sum.inl f1))]) (w1 := [(h0, Sum.inr (9, [Value.ref h1, Value.ref h2, Value.ref h3, Value.int n0_size]))]) hP hD [2] [0, 1, 3] rfl rfl (by decide) (by decide) hk1 hFc hP1 hD1
  generalize H1 = H at hP hS ⊢
  have hP : va_P (dC, dI) vwCl [(h2, Sum.inl (cint, 40, Sum.inl f2)), (h3, Sum.inl (cint, 40, Sum.inl f3)), (h1, Sum.inl (cint, 40, Sum.inl f1)), (h0, Sum.inr (9, [Value.ref h1, Value.ref h2, Value.ref h3, Value.int n0_size]))] H := hP
  have hD : va_D A [(h2, Sum.inl (cint, 40, Sum.inl f2)), (h3, Sum.inl (cint, 40, Sum.inl f3)), (h1, Sum.inl (cint, 40, Sum.inl f1)), (h0, Sum.inr (9, [Value.ref h1, Value.ref h2, Value.ref h3, Value.int n0_size]))] := hD
  rcases hw with ⟨rfl⟩ | ⟨t_3_0, t_3_1, t_3_2, rfl⟩
  · skip
    refine lv_if_eq (tgt := 53) hx hb dX9_join_19 (by decide) (fun _ => ?_) (fun c => absurd c (by decide))
    have hP9 := hP.sub (ws' := [(h0, Sum.inr (9, [Value.ref h1, Value.ref h2, Value.ref h3, Value.int n0_size])), (h1, Sum.inl (cint, 40, Sum.inl f1)), (h2, Sum.inl (cint, 40, Sum.inl f2)), (h3, Sum.inl (cint, 40, Sum.inl f3))]) [3, 2, 0, 1] rfl
    have hD9 := hD.sub (ws' := [(h0, Sum.inr (9, [Value.ref h1, Value.ref h2, Value.ref h3, Value.int n0_size])), (h1, Sum.inl (cint, 40, Sum.inl f1)), (h2, Sum.inl (cint, 40, Sum.inl f2)), (h3, Sum.inl (cint, 40, Sum.inl f3))]) [3, 2, 0, 1] (by decide) rfl
    have hK9 := hK.sub (tys' := []) [] rfl
    exact W.vret hx hb hr (fun t ht hW => ⟨⟨(), rfl, trivial, n0_size, f1, f2, f3, tn0_size, by rw [ht]; exact hP9, va_K.moved hW.alike hK9, hD9⟩, hS.F ht⟩) hS.2.2 dX9_join_53
  · skip
    have t_3_0 : (0 : Int) ≤ p0.toInt := t_3_0
    have t_3_2 : (p0.toInt : Int) ≤ 39 := t_3_2
    refine lv_if_eq (tgt := 53) hx hb dX9_join_19 (by decide) (fun c => absurd c (by decide)) (fun _ => ?_)
    refine lv_aload_n hx hb dX9_join_22 rfl (lv_at hl 1 rfl) ?_
    refine lv_iload_n hx hb dX9_join_23 rfl (lv_at hl 2 rfl) ?_
    refine lv_iconst (v := 1) hx hb dX9_join_24 (by decide) ?_
    refine lv_iadd hx hb dX9_join_25 ?_
    have hPc := hP.sub (ws' := [(h0, Sum.inr (9, [Value.ref h1, Value.ref h2, Value.ref h3, Value.int n0_size]))]) [3] rfl
    have hDc := hD.sub (ws' := [(h0, Sum.inr (9, [Value.ref h1, Value.ref h2, Value.ref h3, Value.int n0_size]))]) [3] (by decide) rfl
    have hKc := hK.sub (tys' := []) [] rfl
    have hFc := va_free (wc := [(h0, Sum.inr (9, [Value.ref h1, Value.ref h2, Value.ref h3, Value.int n0_size]))]) hD hS hA [3] rfl
    refine va_calli (va_runV (As := [.int (p0 + 1)]) (rest := []) ⟨hx, hb, hml, hown, hts⟩ (g_X9_has_0 l dC dI h0 h1 h2 h3 H.size (p0 + 1) n0_size tn0_size) (cwV 1 hts gX9_join_X9_has rfl rfl rfl (by decide +kernel) ⟨Nat.le_of_ble_eq_true rfl, Nat.le_of_ble_eq_true rfl⟩) ⟨fun a U g mk q => by obtain ⟨q0, q1, qP, qK, qD⟩ := q; exact ⟨q0, q1, qP, va_K.moved (u := U) (U := U.calling g mk a) (Vm.Alike.refl U.vm) qK, qD⟩, va_recv hKc hPc (ci := 9) (q0 := 0) rfl rfl, fun U hU hW => ⟨rfl, by rw [hU], by rw [hU]; exact hPc, va_K.moved hW.alike hKc, hDc.weaken (fun _ _ _ _ => trivial)⟩⟩ rfl rfl hl.1 rfl (lv_room (Nat.le_of_ble_eq_true rfl)) dX9_join_26 ⟨Nat.le_of_ble_eq_true rfl, Nat.le_of_ble_eq_true rfl⟩) hS (fun q _ h => hFc q h) hFc (fun r_4 u t H1 locs ht hvm hw hB hz1 hk1 hS => ?_)
    obtain ⟨hP1, hK1, hD1⟩ := hB
    rw [ht] at hP1
    have hK1 := va_K.moved hvm.symm hK1
    obtain ⟨hP, hD⟩ := va_join (wr := [(h2, Sum.inl (cint, 40, Sum.inl f2)), (h3, Sum.inl (cint, 40, Sum.inl f3)), (h1, Sum.inl (cint, 40, Sum.inl f1))]) (w1 := [(h0, Sum.inr (9, [Value.ref h1, Value.ref h2, Value.ref h3, Value.int n0_size]))]) hP hD [3] [0, 1, 2] rfl rfl (by decide) (by decide) hk1 hFc hP1 hD1
    generalize H1 = H at hP hS ⊢
    have hP : va_P (dC, dI) vwCl [(h2, Sum.inl (cint, 40, Sum.inl f2)), (h3, Sum.inl (cint, 40, Sum.inl f3)), (h1, Sum.inl (cint, 40, Sum.inl f1)), (h0, Sum.inr (9, [Value.ref h1, Value.ref h2, Value.ref h3, Value.int n0_size]))] H := hP
    have hD : va_D A [(h2, Sum.inl (cint, 40, Sum.inl f2)), (h3, Sum.inl (cint, 40, Sum.inl f3)), (h1, Sum.inl (cint, 40, Sum.inl f1)), (h0, Sum.inr (9, [Value.ref h1, Value.ref h2, Value.ref h3, Value.int n0_size]))] := hD
    rcases hw with ⟨rfl⟩ | ⟨t_4_0, t_4_1, t_4_2, rfl⟩
    · skip
      refine lv_if_eq (tgt := 53) hx hb dX9_join_29 (by decide) (fun _ => ?_) (fun c => absurd c (by decide))
      have hP9 := hP.sub (ws' := [(h0, Sum.inr (9, [Value.ref h1, Value.ref h2, Value.ref h3, Value.int n0_size])), (h1, Sum.inl (cint, 40, Sum.inl f1)), (h2, Sum.inl (cint, 40, Sum.inl f2)), (h3, Sum.inl (cint, 40, Sum.inl f3))]) [3, 2, 0, 1] rfl
      have hD9 := hD.sub (ws' := [(h0, Sum.inr (9, [Value.ref h1, Value.ref h2, Value.ref h3, Value.int n0_size])), (h1, Sum.inl (cint, 40, Sum.inl f1)), (h2, Sum.inl (cint, 40, Sum.inl f2)), (h3, Sum.inl (cint, 40, Sum.inl f3))]) [3, 2, 0, 1] (by decide) rfl
      have hK9 := hK.sub (tys' := []) [] rfl
      exact W.vret hx hb hr (fun t ht hW => ⟨⟨(), rfl, trivial, n0_size, f1, f2, f3, tn0_size, by rw [ht]; exact hP9, va_K.moved hW.alike hK9, hD9⟩, hS.F ht⟩) hS.2.2 dX9_join_53
    · skip
      have t_4_0 : (0 : Int) ≤ (p0 + 1).toInt := t_4_0
      have t_4_2 : ((p0 + 1).toInt : Int) ≤ 39 := t_4_2
      refine lv_if_eq (tgt := 53) hx hb dX9_join_29 (by decide) (fun c => absurd c (by decide)) (fun _ => ?_)
      refine lv_iload_n hx hb dX9_join_32 rfl (lv_at hl 0 rfl) ?_
      refine lv_sipush (v := 999) hx hb dX9_join_33 (by decide) ?_
      refine lv_icmp_gt (tgt := 53) hx hb dX9_join_36 (by decide) (fun c_5 => ?_) (fun c_5 => ?_)
      · have t_5 : 999 < (r_1 + r_2).toInt := kk_lt c_5
        have hP9 := hP.sub (ws' := [(h0, Sum.inr (9, [Value.ref h1, Value.ref h2, Value.ref h3, Value.int n0_size])), (h1, Sum.inl (cint, 40, Sum.inl f1)), (h2, Sum.inl (cint, 40, Sum.inl f2)), (h3, Sum.inl (cint, 40, Sum.inl f3))]) [3, 2, 0, 1] rfl
        have hD9 := hD.sub (ws' := [(h0, Sum.inr (9, [Value.ref h1, Value.ref h2, Value.ref h3, Value.int n0_size])), (h1, Sum.inl (cint, 40, Sum.inl f1)), (h2, Sum.inl (cint, 40, Sum.inl f2)), (h3, Sum.inl (cint, 40, Sum.inl f3))]) [3, 2, 0, 1] (by decide) rfl
        have hK9 := hK.sub (tys' := []) [] rfl
        exact W.vret hx hb hr (fun t ht hW => ⟨⟨(), rfl, trivial, n0_size, f1, f2, f3, tn0_size, by rw [ht]; exact hP9, va_K.moved hW.alike hK9, hD9⟩, hS.F ht⟩) hS.2.2 dX9_join_53
      · have t_5 : (r_1 + r_2).toInt ≤ 999 := kk_nlt c_5
        refine lv_aload_n hx hb dX9_join_39 rfl (lv_at hl 1 rfl) ?_
        refine va_get (D := (dC, dI)) (ci := 9) (v := .ref h1) (C := RX9) (T := TX9) (N := 4) hx hb hts (fun _ h => List.mem_cons_of_mem _ (List.mem_append_right _ h)) hown hK hP 3 rfl rfl 0 (by decide) (hts (.fieldLink RX9 9 "KinkStreet$Street" "widths" "[I") (List.mem_of_getElem? (i := 1) rfl)) (fun _ h9 => h9) rfl dX9_join_40 ?_
        refine lv_iload_n hx hb dX9_join_43 rfl (lv_at hl 2 rfl) ?_
        refine lv_iload_n hx hb dX9_join_44 rfl (lv_at hl 0 rfl) ?_
        refine va_iast hx hb hK hP hD hS 2 0 rfl rfl (vp_in_iff.mpr ⟨by have := kk_rng r_2; have := kk_rng r_1; have := kk_add2 (x := p0) (y := 1) (a := p0.toInt) (b := 1) rfl rfl (by omega) (by omega); omega, by have := kk_rng r_2; have := kk_rng r_1; have := kk_add2 (x := p0) (y := 1) (a := p0.toInt) (b := 1) rfl rfl (by omega) (by omega); omega⟩) dX9_join_45 (fun H locs hP hD hS => ?_)
        generalize upd f1 (p0 : Int32).toNatClampNeg (r_1 + r_2) = f_6 at hP hD
        have hP : va_P (dC, dI) vwCl [(h2, Sum.inl (cint, 40, Sum.inl f2)), (h3, Sum.inl (cint, 40, Sum.inl f3)), (h1, Sum.inl (cint, 40, Sum.inl f_6)), (h0, Sum.inr (9, [Value.ref h1, Value.ref h2, Value.ref h3, Value.int n0_size]))] H := hP
        have hD : va_D A [(h2, Sum.inl (cint, 40, Sum.inl f2)), (h3, Sum.inl (cint, 40, Sum.inl f3)), (h1, Sum.inl (cint, 40, Sum.inl f_6)), (h0, Sum.inr (9, [Value.ref h1, Value.ref h2, Value.ref h3, Value.int n0_size]))] := hD
        refine lv_aload_n hx hb dX9_join_46 rfl (lv_at hl 1 rfl) ?_
        refine lv_iload_n hx hb dX9_join_47 rfl (lv_at hl 2 rfl) ?_
        refine lv_iconst (v := 1) hx hb dX9_join_48 (by decide) ?_
        refine lv_iadd hx hb dX9_join_49 ?_
        have hPc := hP.sub (ws' := [(h0, Sum.inr (9, [Value.ref h1, Value.ref h2, Value.ref h3, Value.int n0_size])), (h1, Sum.inl (cint, 40, Sum.inl f_6)), (h2, Sum.inl (cint, 40, Sum.inl f2)), (h3, Sum.inl (cint, 40, Sum.inl f3))]) [3, 2, 0, 1] rfl
        have hDc := hD.sub (ws' := [(h0, Sum.inr (9, [Value.ref h1, Value.ref h2, Value.ref h3, Value.int n0_size])), (h1, Sum.inl (cint, 40, Sum.inl f_6)), (h2, Sum.inl (cint, 40, Sum.inl f2)), (h3, Sum.inl (cint, 40, Sum.inl f3))]) [3, 2, 0, 1] (by decide) rfl
        have hKc := hK.sub (tys' := [(cint, .int)]) [0] rfl
        have hFc := va_free (wc := [(h0, Sum.inr (9, [Value.ref h1, Value.ref h2, Value.ref h3, Value.int n0_size])), (h1, Sum.inl (cint, 40, Sum.inl f_6)), (h2, Sum.inl (cint, 40, Sum.inl f2)), (h3, Sum.inl (cint, 40, Sum.inl f3))]) hD hS hA [3, 2, 0, 1] rfl
        refine va_callv (va_runV (As := [.int (p0 + 1)]) (rest := []) ⟨hx, hb, hml, hown, hts⟩ (g_X9_remove_0 l dC dI h0 h1 h2 h3 cint H.size (p0 + 1) n0_size f_6 f2 f3 tn0_size) (cwV 1 hts gX9_join_X9_remove rfl rfl rfl (by decide +kernel) ⟨Nat.le_of_ble_eq_true rfl, Nat.le_of_ble_eq_true rfl⟩) ⟨fun a U g mk q => by obtain ⟨q0, q1, qP, qK, qD⟩ := q; exact ⟨q0, q1, qP, va_K.moved (u := U) (U := U.calling g mk a) (Vm.Alike.refl U.vm) qK, qD⟩, va_recv hKc hPc (ci := 9) (q0 := 0) rfl rfl, fun U hU hW => ⟨rfl, by rw [hU], by rw [hU]; exact hPc, va_K.moved hW.alike hKc, hDc.weaken (fun _ _ _ _ => trivial)⟩⟩ rfl rfl hl.1 rfl (lv_room (Nat.le_of_ble_eq_true rfl)) dX9_join_50 ⟨Nat.le_of_ble_eq_true rfl, Nat.le_of_ble_eq_true rfl⟩) hS (fun q _ h => hFc q h) hFc (fun u t H1 locs ht hvm hw hB hz1 hk1 hS => ?_)
        obtain ⟨y_8, f_9, f_10, f_11, by_8, hP1, hK1, hD1⟩ := hB
        rw [ht] at hP1
        have hK1 := va_K.moved hvm.symm hK1
        obtain ⟨hP, hD⟩ := va_join (wr := []) (w1 := [(h0, Sum.inr (9, [Value.ref h1, Value.ref h2, Value.ref h3, Value.int y_8])), (h1, Sum.inl (cint, 40, Sum.inl f_9)), (h2, Sum.inl (cint, 40, Sum.inl f_10)), (h3, Sum.inl (cint, 40, Sum.inl f_11))]) hP hD [3, 2, 0, 1] [] rfl rfl (by decide) (by decide) hk1 hFc hP1 hD1
        generalize H1 = H at hP hS ⊢
        have hP : va_P (dC, dI) vwCl [(h0, Sum.inr (9, [Value.ref h1, Value.ref h2, Value.ref h3, Value.int y_8])), (h1, Sum.inl (cint, 40, Sum.inl f_9)), (h2, Sum.inl (cint, 40, Sum.inl f_10)), (h3, Sum.inl (cint, 40, Sum.inl f_11))] H := hP
        have hD : va_D A [(h0, Sum.inr (9, [Value.ref h1, Value.ref h2, Value.ref h3, Value.int y_8])), (h1, Sum.inl (cint, 40, Sum.inl f_9)), (h2, Sum.inl (cint, 40, Sum.inl f_10)), (h3, Sum.inl (cint, 40, Sum.inl f_11))] := hD
        have hP9 := hP.sub (ws' := [(h0, Sum.inr (9, [Value.ref h1, Value.ref h2, Value.ref h3, Value.int y_8])), (h1, Sum.inl (cint, 40, Sum.inl f_9)), (h2, Sum.inl (cint, 40, Sum.inl f_10)), (h3, Sum.inl (cint, 40, Sum.inl f_11))]) [0, 1, 2, 3] rfl
        have hD9 := hD.sub (ws' := [(h0, Sum.inr (9, [Value.ref h1, Value.ref h2, Value.ref h3, Value.int y_8])), (h1, Sum.inl (cint, 40, Sum.inl f_9)), (h2, Sum.inl (cint, 40, Sum.inl f_10)), (h3, Sum.inl (cint, 40, Sum.inl f_11))]) [0, 1, 2, 3] (by decide) rfl
        have hK9 := hK.sub (tys' := []) [] rfl
        exact W.vret hx hb hr (fun t ht hW => ⟨⟨(), rfl, trivial, y_8, f_9, f_10, f_11, (by show 0 ≤ (y_8 : Int32).toInt ∧ (y_8 : Int32).toInt ≤ 40; first | decide | (constructor <;> (have := kk_rng r_2; have := kk_rng r_1; have := kk_add2 (x := p0) (y := 1) (a := p0.toInt) (b := 1) rfl rfl (by omega) (by omega); omega))), by rw [ht]; exact hP9, va_K.moved hW.alike hK9, hD9⟩, hS.F ht⟩) hS.2.2 dX9_join_53
set_option maxHeartbeats 4000000 in
set_option maxRecDepth 100000 in
theorem g_X9_part_0 (l : Launch) (dC : Nat → ClassId) (dI : Nat → Nat → Nat) (h0 : Nat) (h1 : Nat) (h2 : Nat) (h3 : Nat) (cint : ClassId) (sz : Nat) (p0 : Int32) (n0_size : Int32) (f1 : Nat → Int32) (f2 : Nat → Int32) (f3 : Nat → Int32) (tn0_size : 0 ≤ n0_size.toInt ∧ n0_size.toInt ≤ 40) : Met l yX9_part wsX9_part ({ frames := 2, cells := 0, slots := 0, locals := 45 }) (va_Pc [.ref h0, .int p0] (fun U => U.heap.size = sz ∧ va_P (dC, dI) vwCl [(h0, Sum.inr (9, [Value.ref h1, Value.ref h2, Value.ref h3, Value.int n0_size])), (h1, Sum.inl (cint, 40, Sum.inl f1)), (h2, Sum.inl (cint, 40, Sum.inl f2)), (h3, Sum.inl (cint, 40, Sum.inl f3))] U.heap ∧ va_K (dC, dI) vwCl [(cint, .int)] U ∧ va_D (fun _ => True) [(h0, Sum.inr (9, [Value.ref h1, Value.ref h2, Value.ref h3, Value.int n0_size])), (h1, Sum.inl (cint, 40, Sum.inl f1)), (h2, Sum.inl (cint, 40, Sum.inl f2)), (h3, Sum.inl (cint, 40, Sum.inl f3))])) (va_Qv (fun (_ : Unit) => True) (fun (_ : Unit) t => ∃ (m0_size : Int32) (g1 : Nat → Int32) (g2 : Nat → Int32) (g3 : Nat → Int32), (0 ≤ m0_size.toInt ∧ m0_size.toInt ≤ 40) ∧ va_P (dC, dI) vwCl [(h0, Sum.inr (9, [Value.ref h1, Value.ref h2, Value.ref h3, Value.int m0_size])), (h1, Sum.inl (cint, 40, Sum.inl g1)), (h2, Sum.inl (cint, 40, Sum.inl g2)), (h3, Sum.inl (cint, 40, Sum.inl g3))] t.heap ∧ va_K (dC, dI) vwCl [] t ∧ va_D (va_A [(h0, Sum.inr (9, [Value.ref h1, Value.ref h2, Value.ref h3, Value.int n0_size])), (h1, Sum.inl (cint, 40, Sum.inl f1)), (h2, Sum.inl (cint, 40, Sum.inl f2)), (h3, Sum.inl (cint, 40, Sum.inl f3))] sz) [(h0, Sum.inr (9, [Value.ref h1, Value.ref h2, Value.ref h3, Value.int m0_size])), (h1, Sum.inl (cint, 40, Sum.inl g1)), (h2, Sum.inl (cint, 40, Sum.inl g2)), (h3, Sum.inl (cint, 40, Sum.inl g3))]) (va_A [(h0, Sum.inr (9, [Value.ref h1, Value.ref h2, Value.ref h3, Value.int n0_size])), (h1, Sum.inl (cint, 40, Sum.inl f1)), (h2, Sum.inl (cint, 40, Sum.inl f2)), (h3, Sum.inl (cint, 40, Sum.inl f3))] sz)) 0 0 (va_A [(h0, Sum.inr (9, [Value.ref h1, Value.ref h2, Value.ref h3, Value.int n0_size])), (h1, Sum.inl (cint, 40, Sum.inl f1)), (h2, Sum.inl (cint, 40, Sum.inl f2)), (h3, Sum.inl (cint, 40, Sum.inl f3))] sz) := by
  refine Met.ofW (cc := cX9_part) (maxL := 3) (ret := none) (by decide) rfl ?_
  intro p e s m args below meth c s₁ B hml hv
  obtain ⟨rfl, hsz, hP, hK, hD0⟩ := hv
  have hx := B.exec
  have hb := B.bytes
  have hr := B.returns
  have hts := atoms_spec (ws := wsX9_part) B.pre
  have hown : s.vm.findClass RX9 = some m.cls := findClass_of_methodNamed B.named
  have hlocks := B.notSynchronized
  subst hsz
  have hD := hD0.self (sz := s.heap.size)
  generalize hAe : va_A [(h0, Sum.inr (9, [Value.ref h1, Value.ref h2, Value.ref h3, Value.int n0_size])), (h1, Sum.inl (cint, 40, Sum.inl f1)), (h2, Sum.inl (cint, 40, Sum.inl f2)), (h3, Sum.inl (cint, 40, Sum.inl f3))] s.heap.size = A at hD ⊢
  have hA : ∀ q : Nat, s.heap.size ≤ q → A q := fun q h => by rw [← hAe]; exact Or.inr h
  have hS : va_S A s.heap s.heap [] := va_S.rf
  have hP : va_P (dC, dI) vwCl [(h0, Sum.inr (9, [Value.ref h1, Value.ref h2, Value.ref h3, Value.int n0_size])), (h1, Sum.inl (cint, 40, Sum.inl f1)), (h2, Sum.inl (cint, 40, Sum.inl f2)), (h3, Sum.inl (cint, 40, Sum.inl f3))] s.heap := hP
  have hl := lv_entry ([.ref h0, .int p0]) (n := 3) (Nat.le_of_ble_eq_true rfl)
  rw [lg_entry_eq]
  generalize (lg_sl ([.ref h0, .int p0]) ++ List.replicate (3 - (lg_sl ([.ref h0, .int p0])).length) Slot.unset).toArray = ls at hl ⊢
  have hl : lv_has ls 3 [(0, .ref h0), (1, .int p0)] := hl
  refine lv_aload_n hx hb dX9_part_0 rfl (lv_at hl 0 rfl) ?_
  refine lv_iload_n hx hb dX9_part_1 rfl (lv_at hl 1 rfl) ?_
  have hPc := hP.sub (ws' := [(h0, Sum.inr (9, [Value.ref h1, Value.ref h2, Value.ref h3, Value.int n0_size])), (h1, Sum.inl (cint, 40, Sum.inl f1))]) [0, 1] rfl
  have hDc := hD.sub (ws' := [(h0, Sum.inr (9, [Value.ref h1, Value.ref h2, Value.ref h3, Value.int n0_size])), (h1, Sum.inl (cint, 40, Sum.inl f1))]) [0, 1] (by decide) rfl
  have hKc := hK.sub (tys' := [(cint, .int)]) [0] rfl
  have hFc := va_free (wc := [(h0, Sum.inr (9, [Value.ref h1, Value.ref h2, Value.ref h3, Value.int n0_size])), (h1, Sum.inl (cint, 40, Sum.inl f1))]) hD hS hA [0, 1] rfl
  refine va_calli (va_runV (As := [.int p0]) (rest := []) ⟨hx, hb, hml, hown, hts⟩ (g_X9_width_0 l dC dI h0 h1 h2 h3 cint s.heap.size p0 n0_size f1 tn0_size) (cwV 1 hts gX9_part_X9_width rfl rfl rfl (by decide +kernel) ⟨Nat.le_of_ble_eq_true rfl, Nat.le_of_ble_eq_true rfl⟩) ⟨fun a U g mk q => by obtain ⟨q0, q1, qP, qK, qD⟩ := q; exact ⟨q0, q1, qP, va_K.moved (u := U) (U := U.calling g mk a) (Vm.Alike.refl U.vm) qK, qD⟩, va_recv hKc hPc (ci := 9) (q0 := 0) rfl rfl, fun U hU hW => ⟨rfl, by rw [hU], by rw [hU]; exact hPc, va_K.moved hW.alike hKc, hDc.weaken (fun _ _ _ _ => trivial)⟩⟩ rfl rfl hl.1 rfl (lv_room (Nat.le_of_ble_eq_true rfl)) dX9_part_2 ⟨Nat.le_of_ble_eq_true rfl, Nat.le_of_ble_eq_true rfl⟩) hS (fun q _ h => hFc q h) hFc (fun r_1 u t H1 locs ht hvm hw hB hz1 hk1 hS => ?_)
  obtain ⟨hP1, hK1, hD1⟩ := hB
  rw [ht] at hP1
  have hK1 := va_K.moved hvm.symm hK1
  obtain ⟨hP, hD⟩ := va_join (wr := [(h2, Sum.inl (cint, 40, Sum.inl f2)), (h3, Sum.inl (cint, 40, Sum.inl f3))]) (w1 := [(h0, Sum.inr (9, [Value.ref h1, Value.ref h2, Value.ref h3, Value.int n0_size])), (h1, Sum.inl (cint, 40, Sum.inl f1))]) hP hD [0, 1] [2, 3] rfl rfl (by decide) (by decide) hk1 hFc hP1 hD1
  generalize H1 = H at hP hS ⊢
  have hP : va_P (dC, dI) vwCl [(h2, Sum.inl (cint, 40, Sum.inl f2)), (h3, Sum.inl (cint, 40, Sum.inl f3)), (h0, Sum.inr (9, [Value.ref h1, Value.ref h2, Value.ref h3, Value.int n0_size])), (h1, Sum.inl (cint, 40, Sum.inl f1))] H := hP
  have hD : va_D A [(h2, Sum.inl (cint, 40, Sum.inl f2)), (h3, Sum.inl (cint, 40, Sum.inl f3)), (h0, Sum.inr (9, [Value.ref h1, Value.ref h2, Value.ref h3, Value.int n0_size])), (h1, Sum.inl (cint, 40, Sum.inl f1))] := hD
  refine lv_istore_n (lv' := [(2, .int r_1), (0, .ref h0), (1, .int p0)]) hx hb dX9_part_5 rfl hl (by decide) rfl (fun ls hl => ?_)
  refine lv_iload_n hx hb dX9_part_6 rfl (lv_at hl 0 rfl) ?_
  refine lv_iconst (v := 1) hx hb dX9_part_7 (by decide) ?_
  refine lv_icmp_le (tgt := 46) hx hb dX9_part_8 (by decide) (fun c_2 => ?_) (fun c_2 => ?_)
  · have t_2 : r_1.toInt ≤ 1 := kk_le c_2
    have hP9 := hP.sub (ws' := [(h0, Sum.inr (9, [Value.ref h1, Value.ref h2, Value.ref h3, Value.int n0_size])), (h1, Sum.inl (cint, 40, Sum.inl f1)), (h2, Sum.inl (cint, 40, Sum.inl f2)), (h3, Sum.inl (cint, 40, Sum.inl f3))]) [2, 3, 0, 1] rfl
    have hD9 := hD.sub (ws' := [(h0, Sum.inr (9, [Value.ref h1, Value.ref h2, Value.ref h3, Value.int n0_size])), (h1, Sum.inl (cint, 40, Sum.inl f1)), (h2, Sum.inl (cint, 40, Sum.inl f2)), (h3, Sum.inl (cint, 40, Sum.inl f3))]) [2, 3, 0, 1] (by decide) rfl
    have hK9 := hK.sub (tys' := []) [] rfl
    exact W.vret hx hb hr (fun t ht hW => ⟨⟨(), rfl, trivial, n0_size, f1, f2, f3, tn0_size, by rw [ht]; exact hP9, va_K.moved hW.alike hK9, hD9⟩, hS.F ht⟩) hS.2.2 dX9_part_46
  · have t_2 : 1 < r_1.toInt := kk_nle c_2
    refine lv_aload_n hx hb dX9_part_11 rfl (lv_at hl 1 rfl) ?_
    have hPc := hP.sub (ws' := [(h0, Sum.inr (9, [Value.ref h1, Value.ref h2, Value.ref h3, Value.int n0_size]))]) [2] rfl
    have hDc := hD.sub (ws' := [(h0, Sum.inr (9, [Value.ref h1, Value.ref h2, Value.ref h3, Value.int n0_size]))]) [2] (by decide) rfl
    have hKc := hK.sub (tys' := []) [] rfl
    have hFc := va_free (wc := [(h0, Sum.inr (9, [Value.ref h1, Value.ref h2, Value.ref h3, Value.int n0_size]))]) hD hS hA [2] rfl
    refine va_calli (va_runV (As := []) (rest := []) ⟨hx, hb, hml, hown, hts⟩ (g_X9_isFull_0 l dC dI h0 h1 h2 h3 H.size n0_size tn0_size) (cwV 0 hts gX9_part_X9_isFull rfl rfl rfl (by decide +kernel) ⟨Nat.le_of_ble_eq_true rfl, Nat.le_of_ble_eq_true rfl⟩) ⟨fun a U g mk q => by obtain ⟨q0, q1, qP, qK, qD⟩ := q; exact ⟨q0, q1, qP, va_K.moved (u := U) (U := U.calling g mk a) (Vm.Alike.refl U.vm) qK, qD⟩, va_recv hKc hPc (ci := 9) (q0 := 0) rfl rfl, fun U hU hW => ⟨rfl, by rw [hU], by rw [hU]; exact hPc, va_K.moved hW.alike hKc, hDc.weaken (fun _ _ _ _ => trivial)⟩⟩ rfl rfl hl.1 rfl (lv_room (Nat.le_of_ble_eq_true rfl)) dX9_part_12 ⟨Nat.le_of_ble_eq_true rfl, Nat.le_of_ble_eq_true rfl⟩) hS (fun q _ h => hFc q h) hFc (fun r_3 u t H1 locs ht hvm hw hB hz1 hk1 hS => ?_)
    obtain ⟨hP1, hK1, hD1⟩ := hB
    rw [ht] at hP1
    have hK1 := va_K.moved hvm.symm hK1
    obtain ⟨hP, hD⟩ := va_join (wr := [(h2, Sum.inl (cint, 40, Sum.inl f2)), (h3, Sum.inl (cint, 40, Sum.inl f3)), (h1, Sum.inl (cint, 40, Sum.inl f1))]) (w1 := [(h0, Sum.inr (9, [Value.ref h1, Value.ref h2, Value.ref h3, Value.int n0_size]))]) hP hD [2] [0, 1, 3] rfl rfl (by decide) (by decide) hk1 hFc hP1 hD1
    generalize H1 = H at hP hS ⊢
    have hP : va_P (dC, dI) vwCl [(h2, Sum.inl (cint, 40, Sum.inl f2)), (h3, Sum.inl (cint, 40, Sum.inl f3)), (h1, Sum.inl (cint, 40, Sum.inl f1)), (h0, Sum.inr (9, [Value.ref h1, Value.ref h2, Value.ref h3, Value.int n0_size]))] H := hP
    have hD : va_D A [(h2, Sum.inl (cint, 40, Sum.inl f2)), (h3, Sum.inl (cint, 40, Sum.inl f3)), (h1, Sum.inl (cint, 40, Sum.inl f1)), (h0, Sum.inr (9, [Value.ref h1, Value.ref h2, Value.ref h3, Value.int n0_size]))] := hD
    rcases hw with ⟨t_3_0, rfl⟩ | ⟨t_3_0, rfl⟩
    · skip
      have t_3_0 : (n0_size.toInt : Int) < 40 := t_3_0
      refine lv_if_ne (tgt := 46) hx hb dX9_part_15 (by decide) (fun c => absurd c (by decide)) (fun _ => ?_)
      refine lv_aload_n hx hb dX9_part_18 rfl (lv_at hl 1 rfl) ?_
      refine lv_iconst (v := 0) hx hb dX9_part_19 (by decide) ?_
      refine lv_iload_n hx hb dX9_part_20 rfl (lv_at hl 2 rfl) ?_
      refine lv_iload_n hx hb dX9_part_21 rfl (lv_at hl 0 rfl) ?_
      refine lv_iconst (v := 2) hx hb dX9_part_22 (by decide) ?_
      refine lv_idiv hx hb dX9_part_23 (by decide) ?_
      have hPc := hP.sub (ws' := [(h0, Sum.inr (9, [Value.ref h1, Value.ref h2, Value.ref h3, Value.int n0_size])), (h1, Sum.inl (cint, 40, Sum.inl f1)), (h2, Sum.inl (cint, 40, Sum.inl f2)), (h3, Sum.inl (cint, 40, Sum.inl f3))]) [3, 2, 0, 1] rfl
      have hDc := hD.sub (ws' := [(h0, Sum.inr (9, [Value.ref h1, Value.ref h2, Value.ref h3, Value.int n0_size])), (h1, Sum.inl (cint, 40, Sum.inl f1)), (h2, Sum.inl (cint, 40, Sum.inl f2)), (h3, Sum.inl (cint, 40, Sum.inl f3))]) [3, 2, 0, 1] (by decide) rfl
      have hKc := hK.sub (tys' := [(cint, .int)]) [0] rfl
      have hFc := va_free (wc := [(h0, Sum.inr (9, [Value.ref h1, Value.ref h2, Value.ref h3, Value.int n0_size])), (h1, Sum.inl (cint, 40, Sum.inl f1)), (h2, Sum.inl (cint, 40, Sum.inl f2)), (h3, Sum.inl (cint, 40, Sum.inl f3))]) hD hS hA [3, 2, 0, 1] rfl
      refine va_callv (va_runV (As := [.int 0, .int p0, .int (r_1 / 2)]) (rest := []) ⟨hx, hb, hml, hown, hts⟩ (g_X9_tell_0 l dC dI h0 h1 h2 h3 cint H.size 0 p0 (r_1 / 2) n0_size f1 f2 f3 tn0_size) (cwV 3 hts gX9_part_X9_tell rfl rfl rfl (by decide +kernel) ⟨Nat.le_of_ble_eq_true rfl, Nat.le_of_ble_eq_true rfl⟩) ⟨fun a U g mk q => by obtain ⟨q0, q1, qP, qK, qD⟩ := q; exact ⟨q0, q1, qP, va_K.moved (u := U) (U := U.calling g mk a) (Vm.Alike.refl U.vm) qK, qD⟩, va_recv hKc hPc (ci := 9) (q0 := 0) rfl rfl, fun U hU hW => ⟨rfl, by rw [hU], by rw [hU]; exact hPc, va_K.moved hW.alike hKc, hDc.weaken (fun _ _ _ _ => trivial)⟩⟩ rfl rfl hl.1 rfl (lv_room (Nat.le_of_ble_eq_true rfl)) dX9_part_24 ⟨Nat.le_of_ble_eq_true rfl, Nat.le_of_ble_eq_true rfl⟩) hS (fun q _ h => hFc q h) hFc (fun u t H1 locs ht hvm hw hB hz1 hk1 hS => ?_)
      obtain ⟨f_5, f_6, f_7, hP1, hK1, hD1⟩ := hB
      rw [ht] at hP1
      have hK1 := va_K.moved hvm.symm hK1
      obtain ⟨hP, hD⟩ := va_join (wr := []) (w1 := [(h0, Sum.inr (9, [Value.ref h1, Value.ref h2, Value.ref h3, Value.int n0_size])), (h1, Sum.inl (cint, 40, Sum.inl f_5)), (h2, Sum.inl (cint, 40, Sum.inl f_6)), (h3, Sum.inl (cint, 40, Sum.inl f_7))]) hP hD [3, 2, 0, 1] [] rfl rfl (by decide) (by decide) hk1 hFc hP1 hD1
      generalize H1 = H at hP hS ⊢
      have hP : va_P (dC, dI) vwCl [(h0, Sum.inr (9, [Value.ref h1, Value.ref h2, Value.ref h3, Value.int n0_size])), (h1, Sum.inl (cint, 40, Sum.inl f_5)), (h2, Sum.inl (cint, 40, Sum.inl f_6)), (h3, Sum.inl (cint, 40, Sum.inl f_7))] H := hP
      have hD : va_D A [(h0, Sum.inr (9, [Value.ref h1, Value.ref h2, Value.ref h3, Value.int n0_size])), (h1, Sum.inl (cint, 40, Sum.inl f_5)), (h2, Sum.inl (cint, 40, Sum.inl f_6)), (h3, Sum.inl (cint, 40, Sum.inl f_7))] := hD
      refine lv_aload_n hx hb dX9_part_27 rfl (lv_at hl 1 rfl) ?_
      refine lv_iload_n hx hb dX9_part_28 rfl (lv_at hl 2 rfl) ?_
      refine lv_iconst (v := 1) hx hb dX9_part_29 (by decide) ?_
      refine lv_iadd hx hb dX9_part_30 ?_
      refine lv_iload_n hx hb dX9_part_31 rfl (lv_at hl 0 rfl) ?_
      refine lv_iload_n hx hb dX9_part_32 rfl (lv_at hl 0 rfl) ?_
      refine lv_iconst (v := 2) hx hb dX9_part_33 (by decide) ?_
      refine lv_idiv hx hb dX9_part_34 (by decide) ?_
      refine lv_isub hx hb dX9_part_35 ?_
      refine lv_aload_n hx hb dX9_part_36 rfl (lv_at hl 1 rfl) ?_
      refine lv_iconst (v := 1) hx hb dX9_part_37 (by decide) ?_
      refine lv_iload_n hx hb dX9_part_38 rfl (lv_at hl 2 rfl) ?_
      have hPc := hP.sub (ws' := [(h0, Sum.inr (9, [Value.ref h1, Value.ref h2, Value.ref h3, Value.int n0_size])), (h1, Sum.inl (cint, 40, Sum.inl f_5)), (h2, Sum.inl (cint, 40, Sum.inl f_6)), (h3, Sum.inl (cint, 40, Sum.inl f_7))]) [0, 1, 2, 3] rfl
      have hDc := hD.sub (ws' := [(h0, Sum.inr (9, [Value.ref h1, Value.ref h2, Value.ref h3, Value.int n0_size])), (h1, Sum.inl (cint, 40, Sum.inl f_5)), (h2, Sum.inl (cint, 40, Sum.inl f_6)), (h3, Sum.inl (cint, 40, Sum.inl f_7))]) [0, 1, 2, 3] (by decide) rfl
      have hKc := hK.sub (tys' := [(cint, .int)]) [0] rfl
      have hFc := va_free (wc := [(h0, Sum.inr (9, [Value.ref h1, Value.ref h2, Value.ref h3, Value.int n0_size])), (h1, Sum.inl (cint, 40, Sum.inl f_5)), (h2, Sum.inl (cint, 40, Sum.inl f_6)), (h3, Sum.inl (cint, 40, Sum.inl f_7))]) hD hS hA [0, 1, 2, 3] rfl
      refine va_calli (va_runV (As := [.int 1, .int p0]) (rest := [.int (r_1 - (r_1 / 2)), .int (p0 + 1), .ref h0]) ⟨hx, hb, hml, hown, hts⟩ (g_X9_fact_0 l dC dI h0 h1 h2 h3 cint H.size 1 p0 n0_size f_5 f_6 f_7 tn0_size) (cwV 2 hts gX9_part_X9_fact rfl rfl rfl (by decide +kernel) ⟨Nat.le_of_ble_eq_true rfl, Nat.le_of_ble_eq_true rfl⟩) ⟨fun a U g mk q => by obtain ⟨q0, q1, qP, qK, qD⟩ := q; exact ⟨q0, q1, qP, va_K.moved (u := U) (U := U.calling g mk a) (Vm.Alike.refl U.vm) qK, qD⟩, va_recv hKc hPc (ci := 9) (q0 := 0) rfl rfl, fun U hU hW => ⟨rfl, by rw [hU], by rw [hU]; exact hPc, va_K.moved hW.alike hKc, hDc.weaken (fun _ _ _ _ => trivial)⟩⟩ rfl rfl hl.1 rfl (lv_room (Nat.le_of_ble_eq_true rfl)) dX9_part_39 ⟨Nat.le_of_ble_eq_true rfl, Nat.le_of_ble_eq_true rfl⟩) hS (fun q _ h => hFc q h) hFc (fun r_8 u t H1 locs ht hvm hw hB hz1 hk1 hS => ?_)
      obtain ⟨hP1, hK1, hD1⟩ := hB
      rw [ht] at hP1
      have hK1 := va_K.moved hvm.symm hK1
      obtain ⟨hP, hD⟩ := va_join (wr := []) (w1 := [(h0, Sum.inr (9, [Value.ref h1, Value.ref h2, Value.ref h3, Value.int n0_size])), (h1, Sum.inl (cint, 40, Sum.inl f_5)), (h2, Sum.inl (cint, 40, Sum.inl f_6)), (h3, Sum.inl (cint, 40, Sum.inl f_7))]) hP hD [0, 1, 2, 3] [] rfl rfl (by decide) (by decide) hk1 hFc hP1 hD1
      generalize H1 = H at hP hS ⊢
      have hP : va_P (dC, dI) vwCl [(h0, Sum.inr (9, [Value.ref h1, Value.ref h2, Value.ref h3, Value.int n0_size])), (h1, Sum.inl (cint, 40, Sum.inl f_5)), (h2, Sum.inl (cint, 40, Sum.inl f_6)), (h3, Sum.inl (cint, 40, Sum.inl f_7))] H := hP
      have hD : va_D A [(h0, Sum.inr (9, [Value.ref h1, Value.ref h2, Value.ref h3, Value.int n0_size])), (h1, Sum.inl (cint, 40, Sum.inl f_5)), (h2, Sum.inl (cint, 40, Sum.inl f_6)), (h3, Sum.inl (cint, 40, Sum.inl f_7))] := hD
      refine lv_iconst (v := 0) hx hb dX9_part_42 (by decide) ?_
      have hPc := hP.sub (ws' := [(h0, Sum.inr (9, [Value.ref h1, Value.ref h2, Value.ref h3, Value.int n0_size])), (h1, Sum.inl (cint, 40, Sum.inl f_5)), (h2, Sum.inl (cint, 40, Sum.inl f_6)), (h3, Sum.inl (cint, 40, Sum.inl f_7))]) [0, 1, 2, 3] rfl
      have hDc := hD.sub (ws' := [(h0, Sum.inr (9, [Value.ref h1, Value.ref h2, Value.ref h3, Value.int n0_size])), (h1, Sum.inl (cint, 40, Sum.inl f_5)), (h2, Sum.inl (cint, 40, Sum.inl f_6)), (h3, Sum.inl (cint, 40, Sum.inl f_7))]) [0, 1, 2, 3] (by decide) rfl
      have hKc := hK.sub (tys' := [(cint, .int)]) [0] rfl
      have hFc := va_free (wc := [(h0, Sum.inr (9, [Value.ref h1, Value.ref h2, Value.ref h3, Value.int n0_size])), (h1, Sum.inl (cint, 40, Sum.inl f_5)), (h2, Sum.inl (cint, 40, Sum.inl f_6)), (h3, Sum.inl (cint, 40, Sum.inl f_7))]) hD hS hA [0, 1, 2, 3] rfl
      refine va_callv (va_runV (As := [.int (p0 + 1), .int (r_1 - (r_1 / 2)), .int r_8, .int 0]) (rest := []) ⟨hx, hb, hml, hown, hts⟩ (g_X9_insert_0 l dC dI h0 h1 h2 h3 cint H.size (p0 + 1) (r_1 - (r_1 / 2)) r_8 0 n0_size f_5 f_6 f_7 tn0_size) (cwV 4 hts gX9_part_X9_insert rfl rfl rfl (by decide +kernel) ⟨Nat.le_of_ble_eq_true rfl, Nat.le_of_ble_eq_true rfl⟩) ⟨fun a U g mk q => by obtain ⟨q0, q1, qP, qK, qD⟩ := q; exact ⟨q0, q1, qP, va_K.moved (u := U) (U := U.calling g mk a) (Vm.Alike.refl U.vm) qK, qD⟩, va_recv hKc hPc (ci := 9) (q0 := 0) rfl rfl, fun U hU hW => ⟨rfl, by rw [hU], by rw [hU]; exact hPc, va_K.moved hW.alike hKc, hDc.weaken (fun _ _ _ _ => trivial)⟩⟩ rfl rfl hl.1 rfl (lv_room (Nat.le_of_ble_eq_true rfl)) dX9_part_43 ⟨Nat.le_of_ble_eq_true rfl, Nat.le_of_ble_eq_true rfl⟩) hS (fun q _ h => hFc q h) hFc (fun u t H1 locs ht hvm hw hB hz1 hk1 hS => ?_)
      obtain ⟨y_10, f_11, f_12, f_13, by_10, hP1, hK1, hD1⟩ := hB
      rw [ht] at hP1
      have hK1 := va_K.moved hvm.symm hK1
      obtain ⟨hP, hD⟩ := va_join (wr := []) (w1 := [(h0, Sum.inr (9, [Value.ref h1, Value.ref h2, Value.ref h3, Value.int y_10])), (h1, Sum.inl (cint, 40, Sum.inl f_11)), (h2, Sum.inl (cint, 40, Sum.inl f_12)), (h3, Sum.inl (cint, 40, Sum.inl f_13))]) hP hD [0, 1, 2, 3] [] rfl rfl (by decide) (by decide) hk1 hFc hP1 hD1
      generalize H1 = H at hP hS ⊢
      have hP : va_P (dC, dI) vwCl [(h0, Sum.inr (9, [Value.ref h1, Value.ref h2, Value.ref h3, Value.int y_10])), (h1, Sum.inl (cint, 40, Sum.inl f_11)), (h2, Sum.inl (cint, 40, Sum.inl f_12)), (h3, Sum.inl (cint, 40, Sum.inl f_13))] H := hP
      have hD : va_D A [(h0, Sum.inr (9, [Value.ref h1, Value.ref h2, Value.ref h3, Value.int y_10])), (h1, Sum.inl (cint, 40, Sum.inl f_11)), (h2, Sum.inl (cint, 40, Sum.inl f_12)), (h3, Sum.inl (cint, 40, Sum.inl f_13))] := hD
      have hP9 := hP.sub (ws' := [(h0, Sum.inr (9, [Value.ref h1, Value.ref h2, Value.ref h3, Value.int y_10])), (h1, Sum.inl (cint, 40, Sum.inl f_11)), (h2, Sum.inl (cint, 40, Sum.inl f_12)), (h3, Sum.inl (cint, 40, Sum.inl f_13))]) [0, 1, 2, 3] rfl
      have hD9 := hD.sub (ws' := [(h0, Sum.inr (9, [Value.ref h1, Value.ref h2, Value.ref h3, Value.int y_10])), (h1, Sum.inl (cint, 40, Sum.inl f_11)), (h2, Sum.inl (cint, 40, Sum.inl f_12)), (h3, Sum.inl (cint, 40, Sum.inl f_13))]) [0, 1, 2, 3] (by decide) rfl
      have hK9 := hK.sub (tys' := []) [] rfl
      exact W.vret hx hb hr (fun t ht hW => ⟨⟨(), rfl, trivial, y_10, f_11, f_12, f_13, (by show 0 ≤ (y_10 : Int32).toInt ∧ (y_10 : Int32).toInt ≤ 40; first | decide | (constructor <;> (have := kk_rng r_1; have := kk_div (x := r_1) (k := 2) (n := 2) rfl (by decide) (by omega); have := kk_rng r_1; have := kk_sub2 (x := r_1) (y := (r_1 / 2)) (a := r_1.toInt) (b := (r_1 / 2).toInt) rfl rfl (by omega) (by omega); omega))), by rw [ht]; exact hP9, va_K.moved hW.alike hK9, hD9⟩, hS.F ht⟩) hS.2.2 dX9_part_46
    · skip
      have t_3_0 : (40 : Int) ≤ n0_size.toInt := t_3_0
      refine lv_if_ne (tgt := 46) hx hb dX9_part_15 (by decide) (fun _ => ?_) (fun c => absurd c (by decide))
      have hP9 := hP.sub (ws' := [(h0, Sum.inr (9, [Value.ref h1, Value.ref h2, Value.ref h3, Value.int n0_size])), (h1, Sum.inl (cint, 40, Sum.inl f1)), (h2, Sum.inl (cint, 40, Sum.inl f2)), (h3, Sum.inl (cint, 40, Sum.inl f3))]) [3, 2, 0, 1] rfl
      have hD9 := hD.sub (ws' := [(h0, Sum.inr (9, [Value.ref h1, Value.ref h2, Value.ref h3, Value.int n0_size])), (h1, Sum.inl (cint, 40, Sum.inl f1)), (h2, Sum.inl (cint, 40, Sum.inl f2)), (h3, Sum.inl (cint, 40, Sum.inl f3))]) [3, 2, 0, 1] (by decide) rfl
      have hK9 := hK.sub (tys' := []) [] rfl
      exact W.vret hx hb hr (fun t ht hW => ⟨⟨(), rfl, trivial, n0_size, f1, f2, f3, tn0_size, by rw [ht]; exact hP9, va_K.moved hW.alike hK9, hD9⟩, hS.F ht⟩) hS.2.2 dX9_part_46
set_option maxHeartbeats 4000000 in
set_option maxRecDepth 100000 in
theorem g_X9_stepAside_0 (l : Launch) (dC : Nat → ClassId) (dI : Nat → Nat → Nat) (h0 : Nat) (h1 : Nat) (h2 : Nat) (h3 : Nat) (cint : ClassId) (sz : Nat) (p0 : Int32) (n0_size : Int32) (f1 : Nat → Int32) (f2 : Nat → Int32) (f3 : Nat → Int32) (tn0_size : 0 ≤ n0_size.toInt ∧ n0_size.toInt ≤ 40) : Met l yX9_stepAside wsX9_stepAside ({ frames := 2, cells := 0, slots := 0, locals := 44 }) (va_Pc [.ref h0, .int p0] (fun U => U.heap.size = sz ∧ va_P (dC, dI) vwCl [(h0, Sum.inr (9, [Value.ref h1, Value.ref h2, Value.ref h3, Value.int n0_size])), (h1, Sum.inl (cint, 40, Sum.inl f1)), (h2, Sum.inl (cint, 40, Sum.inl f2)), (h3, Sum.inl (cint, 40, Sum.inl f3))] U.heap ∧ va_K (dC, dI) vwCl [(cint, .int)] U ∧ va_D (fun _ => True) [(h0, Sum.inr (9, [Value.ref h1, Value.ref h2, Value.ref h3, Value.int n0_size])), (h1, Sum.inl (cint, 40, Sum.inl f1)), (h2, Sum.inl (cint, 40, Sum.inl f2)), (h3, Sum.inl (cint, 40, Sum.inl f3))])) (va_Qv (fun (_ : Unit) => True) (fun (_ : Unit) t => ∃ (g1 : Nat → Int32) (g2 : Nat → Int32) (g3 : Nat → Int32), va_P (dC, dI) vwCl [(h0, Sum.inr (9, [Value.ref h1, Value.ref h2, Value.ref h3, Value.int n0_size])), (h1, Sum.inl (cint, 40, Sum.inl g1)), (h2, Sum.inl (cint, 40, Sum.inl g2)), (h3, Sum.inl (cint, 40, Sum.inl g3))] t.heap ∧ va_K (dC, dI) vwCl [] t ∧ va_D (va_A [(h0, Sum.inr (9, [Value.ref h1, Value.ref h2, Value.ref h3, Value.int n0_size])), (h1, Sum.inl (cint, 40, Sum.inl f1)), (h2, Sum.inl (cint, 40, Sum.inl f2)), (h3, Sum.inl (cint, 40, Sum.inl f3))] sz) [(h0, Sum.inr (9, [Value.ref h1, Value.ref h2, Value.ref h3, Value.int n0_size])), (h1, Sum.inl (cint, 40, Sum.inl g1)), (h2, Sum.inl (cint, 40, Sum.inl g2)), (h3, Sum.inl (cint, 40, Sum.inl g3))]) (va_A [(h0, Sum.inr (9, [Value.ref h1, Value.ref h2, Value.ref h3, Value.int n0_size])), (h1, Sum.inl (cint, 40, Sum.inl f1)), (h2, Sum.inl (cint, 40, Sum.inl f2)), (h3, Sum.inl (cint, 40, Sum.inl f3))] sz)) 0 0 (va_A [(h0, Sum.inr (9, [Value.ref h1, Value.ref h2, Value.ref h3, Value.int n0_size])), (h1, Sum.inl (cint, 40, Sum.inl f1)), (h2, Sum.inl (cint, 40, Sum.inl f2)), (h3, Sum.inl (cint, 40, Sum.inl f3))] sz) := by
  refine Met.ofW (cc := cX9_stepAside) (maxL := 2) (ret := none) (by decide) rfl ?_
  intro p e s m args below meth c s₁ B hml hv
  obtain ⟨rfl, hsz, hP, hK, hD0⟩ := hv
  have hx := B.exec
  have hb := B.bytes
  have hr := B.returns
  have hts := atoms_spec (ws := wsX9_stepAside) B.pre
  have hown : s.vm.findClass RX9 = some m.cls := findClass_of_methodNamed B.named
  have hlocks := B.notSynchronized
  subst hsz
  have hD := hD0.self (sz := s.heap.size)
  generalize hAe : va_A [(h0, Sum.inr (9, [Value.ref h1, Value.ref h2, Value.ref h3, Value.int n0_size])), (h1, Sum.inl (cint, 40, Sum.inl f1)), (h2, Sum.inl (cint, 40, Sum.inl f2)), (h3, Sum.inl (cint, 40, Sum.inl f3))] s.heap.size = A at hD ⊢
  have hA : ∀ q : Nat, s.heap.size ≤ q → A q := fun q h => by rw [← hAe]; exact Or.inr h
  have hS : va_S A s.heap s.heap [] := va_S.rf
  have hP : va_P (dC, dI) vwCl [(h0, Sum.inr (9, [Value.ref h1, Value.ref h2, Value.ref h3, Value.int n0_size])), (h1, Sum.inl (cint, 40, Sum.inl f1)), (h2, Sum.inl (cint, 40, Sum.inl f2)), (h3, Sum.inl (cint, 40, Sum.inl f3))] s.heap := hP
  have hl := lv_entry ([.ref h0, .int p0]) (n := 2) (Nat.le_of_ble_eq_true rfl)
  rw [lg_entry_eq]
  generalize (lg_sl ([.ref h0, .int p0]) ++ List.replicate (2 - (lg_sl ([.ref h0, .int p0])).length) Slot.unset).toArray = ls at hl ⊢
  have hl : lv_has ls 2 [(0, .ref h0), (1, .int p0)] := hl
  refine lv_iload_n hx hb dX9_stepAside_0 rfl (lv_at hl 1 rfl) ?_
  refine lv_if_le (tgt := 22) hx hb dX9_stepAside_1 (by decide) (fun c_1 => ?_) (fun c_1 => ?_)
  · have t_1 : p0.toInt ≤ 0 := kk_le c_1
    have hP9 := hP.sub (ws' := [(h0, Sum.inr (9, [Value.ref h1, Value.ref h2, Value.ref h3, Value.int n0_size])), (h1, Sum.inl (cint, 40, Sum.inl f1)), (h2, Sum.inl (cint, 40, Sum.inl f2)), (h3, Sum.inl (cint, 40, Sum.inl f3))]) [0, 1, 2, 3] rfl
    have hD9 := hD.sub (ws' := [(h0, Sum.inr (9, [Value.ref h1, Value.ref h2, Value.ref h3, Value.int n0_size])), (h1, Sum.inl (cint, 40, Sum.inl f1)), (h2, Sum.inl (cint, 40, Sum.inl f2)), (h3, Sum.inl (cint, 40, Sum.inl f3))]) [0, 1, 2, 3] (by decide) rfl
    have hK9 := hK.sub (tys' := []) [] rfl
    exact W.vret hx hb hr (fun t ht hW => ⟨⟨(), rfl, trivial, f1, f2, f3, by rw [ht]; exact hP9, va_K.moved hW.alike hK9, hD9⟩, hS.F ht⟩) hS.2.2 dX9_stepAside_22
  · have t_1 : 0 < p0.toInt := kk_nle c_1
    refine lv_aload_n hx hb dX9_stepAside_4 rfl (lv_at hl 0 rfl) ?_
    refine lv_iconst (v := 2) hx hb dX9_stepAside_5 (by decide) ?_
    refine lv_iload_n hx hb dX9_stepAside_6 rfl (lv_at hl 1 rfl) ?_
    refine lv_bipush (v := 99) hx hb dX9_stepAside_7 (by decide) ?_
    refine lv_aload_n hx hb dX9_stepAside_9 rfl (lv_at hl 0 rfl) ?_
    refine lv_iload_n hx hb dX9_stepAside_10 rfl (lv_at hl 1 rfl) ?_
    have hPc := hP.sub (ws' := [(h0, Sum.inr (9, [Value.ref h1, Value.ref h2, Value.ref h3, Value.int n0_size])), (h3, Sum.inl (cint, 40, Sum.inl f3))]) [0, 3] rfl
    have hDc := hD.sub (ws' := [(h0, Sum.inr (9, [Value.ref h1, Value.ref h2, Value.ref h3, Value.int n0_size])), (h3, Sum.inl (cint, 40, Sum.inl f3))]) [0, 3] (by decide) rfl
    have hKc := hK.sub (tys' := [(cint, .int)]) [0] rfl
    have hFc := va_free (wc := [(h0, Sum.inr (9, [Value.ref h1, Value.ref h2, Value.ref h3, Value.int n0_size])), (h3, Sum.inl (cint, 40, Sum.inl f3))]) hD hS hA [0, 3] rfl
    refine va_calli (va_runV (As := [.int p0]) (rest := [.int 99, .int p0, .int 2, .ref h0]) ⟨hx, hb, hml, hown, hts⟩ (g_X9_aside_0 l dC dI h0 h3 h1 h2 cint s.heap.size p0 n0_size f3 tn0_size) (cwV 1 hts gX9_stepAside_X9_aside rfl rfl rfl (by decide +kernel) ⟨Nat.le_of_ble_eq_true rfl, Nat.le_of_ble_eq_true rfl⟩) ⟨fun a U g mk q => by obtain ⟨q0, q1, qP, qK, qD⟩ := q; exact ⟨q0, q1, qP, va_K.moved (u := U) (U := U.calling g mk a) (Vm.Alike.refl U.vm) qK, qD⟩, va_recv hKc hPc (ci := 9) (q0 := 0) rfl rfl, fun U hU hW => ⟨rfl, by rw [hU], by rw [hU]; exact hPc, va_K.moved hW.alike hKc, hDc.weaken (fun _ _ _ _ => trivial)⟩⟩ rfl rfl hl.1 rfl (lv_room (Nat.le_of_ble_eq_true rfl)) dX9_stepAside_11 ⟨Nat.le_of_ble_eq_true rfl, Nat.le_of_ble_eq_true rfl⟩) hS (fun q _ h => hFc q h) hFc (fun r_2 u t H1 locs ht hvm hw hB hz1 hk1 hS => ?_)
    obtain ⟨hP1, hK1, hD1⟩ := hB
    rw [ht] at hP1
    have hK1 := va_K.moved hvm.symm hK1
    obtain ⟨hP, hD⟩ := va_join (wr := [(h1, Sum.inl (cint, 40, Sum.inl f1)), (h2, Sum.inl (cint, 40, Sum.inl f2))]) (w1 := [(h0, Sum.inr (9, [Value.ref h1, Value.ref h2, Value.ref h3, Value.int n0_size])), (h3, Sum.inl (cint, 40, Sum.inl f3))]) hP hD [0, 3] [1, 2] rfl rfl (by decide) (by decide) hk1 hFc hP1 hD1
    generalize H1 = H at hP hS ⊢
    have hP : va_P (dC, dI) vwCl [(h1, Sum.inl (cint, 40, Sum.inl f1)), (h2, Sum.inl (cint, 40, Sum.inl f2)), (h0, Sum.inr (9, [Value.ref h1, Value.ref h2, Value.ref h3, Value.int n0_size])), (h3, Sum.inl (cint, 40, Sum.inl f3))] H := hP
    have hD : va_D A [(h1, Sum.inl (cint, 40, Sum.inl f1)), (h2, Sum.inl (cint, 40, Sum.inl f2)), (h0, Sum.inr (9, [Value.ref h1, Value.ref h2, Value.ref h3, Value.int n0_size])), (h3, Sum.inl (cint, 40, Sum.inl f3))] := hD
    refine lv_iconst (v := 5) hx hb dX9_stepAside_14 (by decide) ?_
    refine lv_iadd hx hb dX9_stepAside_15 ?_
    refine va_mmin hx hb (hml.trans hl.1.symm) hown (hts (.methodLink RX9 75 Lib.Math.min.name) (List.mem_of_getElem? (i := 1) rfl)) (hts (.static Lib.Math.min.name) (List.mem_of_getElem? (i := 2) rfl)) (hts (.initialized "java/lang/Math") (List.mem_of_getElem? (i := 3) rfl)) (hts (.code Lib.Math.min.name Lib.Math.min.code 2 (some .int)) (List.mem_of_getElem? (i := 4) rfl)) (Nat.le_of_ble_eq_true rfl) (Nat.le_of_ble_eq_true rfl) (Nat.le_of_ble_eq_true rfl) (Nat.le_of_ble_eq_true rfl) dX9_stepAside_16 ?_
    refine lv_topi (fun y_3 e_3 => ?_)
    have t_3 : y_3.toInt ≤ 99 ∧ y_3.toInt ≤ (r_2 + 5).toInt ∧ (y_3.toInt = 99 ∨ y_3.toInt = (r_2 + 5).toInt) := by rw [e_3]; exact kk_min _ _
    clear e_3
    have hPc := hP.sub (ws' := [(h0, Sum.inr (9, [Value.ref h1, Value.ref h2, Value.ref h3, Value.int n0_size])), (h1, Sum.inl (cint, 40, Sum.inl f1)), (h2, Sum.inl (cint, 40, Sum.inl f2)), (h3, Sum.inl (cint, 40, Sum.inl f3))]) [2, 0, 1, 3] rfl
    have hDc := hD.sub (ws' := [(h0, Sum.inr (9, [Value.ref h1, Value.ref h2, Value.ref h3, Value.int n0_size])), (h1, Sum.inl (cint, 40, Sum.inl f1)), (h2, Sum.inl (cint, 40, Sum.inl f2)), (h3, Sum.inl (cint, 40, Sum.inl f3))]) [2, 0, 1, 3] (by decide) rfl
    have hKc := hK.sub (tys' := [(cint, .int)]) [0] rfl
    have hFc := va_free (wc := [(h0, Sum.inr (9, [Value.ref h1, Value.ref h2, Value.ref h3, Value.int n0_size])), (h1, Sum.inl (cint, 40, Sum.inl f1)), (h2, Sum.inl (cint, 40, Sum.inl f2)), (h3, Sum.inl (cint, 40, Sum.inl f3))]) hD hS hA [2, 0, 1, 3] rfl
    refine va_callv (va_runV (As := [.int 2, .int p0, .int y_3]) (rest := []) ⟨hx, hb, hml, hown, hts⟩ (g_X9_tell_0 l dC dI h0 h1 h2 h3 cint H.size 2 p0 y_3 n0_size f1 f2 f3 tn0_size) (cwV 3 hts gX9_stepAside_X9_tell rfl rfl rfl (by decide +kernel) ⟨Nat.le_of_ble_eq_true rfl, Nat.le_of_ble_eq_true rfl⟩) ⟨fun a U g mk q => by obtain ⟨q0, q1, qP, qK, qD⟩ := q; exact ⟨q0, q1, qP, va_K.moved (u := U) (U := U.calling g mk a) (Vm.Alike.refl U.vm) qK, qD⟩, va_recv hKc hPc (ci := 9) (q0 := 0) rfl rfl, fun U hU hW => ⟨rfl, by rw [hU], by rw [hU]; exact hPc, va_K.moved hW.alike hKc, hDc.weaken (fun _ _ _ _ => trivial)⟩⟩ rfl rfl hl.1 rfl (lv_room (Nat.le_of_ble_eq_true rfl)) dX9_stepAside_19 ⟨Nat.le_of_ble_eq_true rfl, Nat.le_of_ble_eq_true rfl⟩) hS (fun q _ h => hFc q h) hFc (fun u t H1 locs ht hvm hw hB hz1 hk1 hS => ?_)
    obtain ⟨f_5, f_6, f_7, hP1, hK1, hD1⟩ := hB
    rw [ht] at hP1
    have hK1 := va_K.moved hvm.symm hK1
    obtain ⟨hP, hD⟩ := va_join (wr := []) (w1 := [(h0, Sum.inr (9, [Value.ref h1, Value.ref h2, Value.ref h3, Value.int n0_size])), (h1, Sum.inl (cint, 40, Sum.inl f_5)), (h2, Sum.inl (cint, 40, Sum.inl f_6)), (h3, Sum.inl (cint, 40, Sum.inl f_7))]) hP hD [2, 0, 1, 3] [] rfl rfl (by decide) (by decide) hk1 hFc hP1 hD1
    generalize H1 = H at hP hS ⊢
    have hP : va_P (dC, dI) vwCl [(h0, Sum.inr (9, [Value.ref h1, Value.ref h2, Value.ref h3, Value.int n0_size])), (h1, Sum.inl (cint, 40, Sum.inl f_5)), (h2, Sum.inl (cint, 40, Sum.inl f_6)), (h3, Sum.inl (cint, 40, Sum.inl f_7))] H := hP
    have hD : va_D A [(h0, Sum.inr (9, [Value.ref h1, Value.ref h2, Value.ref h3, Value.int n0_size])), (h1, Sum.inl (cint, 40, Sum.inl f_5)), (h2, Sum.inl (cint, 40, Sum.inl f_6)), (h3, Sum.inl (cint, 40, Sum.inl f_7))] := hD
    have hP9 := hP.sub (ws' := [(h0, Sum.inr (9, [Value.ref h1, Value.ref h2, Value.ref h3, Value.int n0_size])), (h1, Sum.inl (cint, 40, Sum.inl f_5)), (h2, Sum.inl (cint, 40, Sum.inl f_6)), (h3, Sum.inl (cint, 40, Sum.inl f_7))]) [0, 1, 2, 3] rfl
    have hD9 := hD.sub (ws' := [(h0, Sum.inr (9, [Value.ref h1, Value.ref h2, Value.ref h3, Value.int n0_size])), (h1, Sum.inl (cint, 40, Sum.inl f_5)), (h2, Sum.inl (cint, 40, Sum.inl f_6)), (h3, Sum.inl (cint, 40, Sum.inl f_7))]) [0, 1, 2, 3] (by decide) rfl
    have hK9 := hK.sub (tys' := []) [] rfl
    exact W.vret hx hb hr (fun t ht hW => ⟨⟨(), rfl, trivial, f_5, f_6, f_7, by rw [ht]; exact hP9, va_K.moved hW.alike hK9, hD9⟩, hS.F ht⟩) hS.2.2 dX9_stepAside_22
