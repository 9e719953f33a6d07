set_option maxHeartbeats 4000000 in
set_option maxRecDepth 100000 in
theorem g_X5_runUnder_10 (l : Launch) (dC : Nat → ClassId) (dI : Nat → Nat → Nat) (h0 : Nat) (h1 : Nat) (h2 : Nat) (cint : ClassId) (sz : Nat) (p0 : Int32) (p3 : Int32) (p4 : Int32) (n0_size : Int32) (n0_ran : Int32) (f1 : Nat → Int32) (f2 : Nat → Int32) (tn0_size : 0 ≤ n0_size.toInt ∧ n0_size.toInt ≤ 50) (tn0_ran : 0 ≤ n0_ran.toInt ∧ n0_ran.toInt ≤ 995) (bf1 : ∀ j, j < 50 → 0 ≤ (f1 j).toInt ∧ (f1 j).toInt ≤ 7) (aOWN_BODIES : Nat) (aABOVE : Nat) : Met l yX5_runUnder wsX5_runUnder ({ frames := 8, cells := 0, slots := 0, locals := 202 }) (va_Pc [.ref h0, .int p0, .int 4, .int 50, .int p3, .int p4] (fun U => U.heap.size = sz ∧ va_P (dC, dI) vwCl [(h0, Sum.inr (5, [Value.ref h1, Value.int n0_size, Value.ref h2, Value.int n0_ran])), (h1, Sum.inl (cint, 50, Sum.inl f1)), (h2, Sum.inl (cint, 24, Sum.inl f2))] U.heap ∧ va_K (dC, dI) vwCl [(cint, .int)] U ∧ va_D (fun _ => True) [(h0, Sum.inr (5, [Value.ref h1, Value.int n0_size, Value.ref h2, Value.int n0_ran])), (h1, Sum.inl (cint, 50, Sum.inl f1)), (h2, Sum.inl (cint, 24, Sum.inl f2))] ∧ va_Z "KinkStreet$Lines" "OWN_BODIES" "[I" (.ref aOWN_BODIES) (va_A [(h0, Sum.inr (5, [Value.ref h1, Value.int n0_size, Value.ref h2, Value.int n0_ran])), (h1, Sum.inl (cint, 50, Sum.inl f1)), (h2, Sum.inl (cint, 24, Sum.inl f2))] sz) U U.heap ∧ va_T .int aOWN_BODIES 32 tb_OWN_BODIES (va_A [(h0, Sum.inr (5, [Value.ref h1, Value.int n0_size, Value.ref h2, Value.int n0_ran])), (h1, Sum.inl (cint, 50, Sum.inl f1)), (h2, Sum.inl (cint, 24, Sum.inl f2))] sz) U U.heap ∧ va_Z "KinkStreet$Lines" "ABOVE" "[I" (.ref aABOVE) (va_A [(h0, Sum.inr (5, [Value.ref h1, Value.int n0_size, Value.ref h2, Value.int n0_ran])), (h1, Sum.inl (cint, 50, Sum.inl f1)), (h2, Sum.inl (cint, 24, Sum.inl f2))] sz) U U.heap ∧ va_T .int aABOVE 8 tb_ABOVE (va_A [(h0, Sum.inr (5, [Value.ref h1, Value.int n0_size, Value.ref h2, Value.int n0_ran])), (h1, Sum.inl (cint, 50, Sum.inl f1)), (h2, Sum.inl (cint, 24, Sum.inl f2))] sz) U U.heap)) (va_Qi (fun (r : Int32) (_ : Unit) => True) (fun (_ : Unit) t => ∃ (m0_ran : Int32) (g2 : Nat → Int32), (0 ≤ m0_ran.toInt ∧ m0_ran.toInt ≤ 1000) ∧ (m0_ran.toInt ≤ n0_ran.toInt + 5) ∧ va_P (dC, dI) vwCl [(h0, Sum.inr (5, [Value.ref h1, Value.int n0_size, Value.ref h2, Value.int m0_ran])), (h1, Sum.inl (cint, 50, Sum.inl f1)), (h2, Sum.inl (cint, 24, Sum.inl g2))] t.heap ∧ va_K (dC, dI) vwCl [] t ∧ va_D (va_A [(h0, Sum.inr (5, [Value.ref h1, Value.int n0_size, Value.ref h2, Value.int n0_ran])), (h1, Sum.inl (cint, 50, Sum.inl f1)), (h2, Sum.inl (cint, 24, Sum.inl f2))] sz) [(h0, Sum.inr (5, [Value.ref h1, Value.int n0_size, Value.ref h2, Value.int m0_ran])), (h1, Sum.inl (cint, 50, Sum.inl f1)), (h2, Sum.inl (cint, 24, Sum.inl g2))]) (va_A [(h0, Sum.inr (5, [Value.ref h1, Value.int n0_size, Value.ref h2, Value.int n0_ran])), (h1, Sum.inl (cint, 50, Sum.inl f1)), (h2, Sum.inl (cint, 24, Sum.inl f2))] sz)) 0 0 (va_A [(h0, Sum.inr (5, [Value.ref h1, Value.int n0_size, Value.ref h2, Value.int n0_ran])), (h1, Sum.inl (cint, 50, Sum.inl f1)), (h2, Sum.inl (cint, 24, Sum.inl f2))] sz) := by
  refine Met.ofW (cc := cX5_runUnder) (maxL := 8) (ret := (some .int)) (by decide) rfl ?_
  intro p e s m args below meth c s₁ B hml hv
  obtain ⟨rfl, hsz, hP, hK, hD0, hZOWN_BODIES, hTOWN_BODIES, hZABOVE, hTABOVE⟩ := hv
  have hx := B.exec
  have hb := B.bytes
  have hr := B.returns
  have hts := atoms_spec (ws := wsX5_runUnder) B.pre
  have hown : s.vm.findClass RX5 = some m.cls := findClass_of_methodNamed B.named
  have hlocks := B.notSynchronized
  subst hsz
  have hD := hD0.self (sz := s.heap.size)
  generalize hAe : va_A [(h0, Sum.inr (5, [Value.ref h1, Value.int n0_size, Value.ref h2, Value.int n0_ran])), (h1, Sum.inl (cint, 50, Sum.inl f1)), (h2, Sum.inl (cint, 24, Sum.inl f2))] s.heap.size = A at hD hZOWN_BODIES hTOWN_BODIES hZABOVE hTABOVE ⊢
  have hA : ∀ q : Nat, s.heap.size ≤ q → A q := fun q h => by rw [← hAe]; exact Or.inr h
  have hS : va_S A s.heap s.heap [] := va_S.rf
  have hP : va_P (dC, dI) vwCl [(h0, Sum.inr (5, [Value.ref h1, Value.int n0_size, Value.ref h2, Value.int n0_ran])), (h1, Sum.inl (cint, 50, Sum.inl f1)), (h2, Sum.inl (cint, 24, Sum.inl f2))] s.heap := hP
  have hl := lv_entry ([.ref h0, .int p0, .int 4, .int 50, .int p3, .int p4]) (n := 8) (Nat.le_of_ble_eq_true rfl)
  rw [lg_entry_eq]
  generalize (lg_sl ([.ref h0, .int p0, .int 4, .int 50, .int p3, .int p4]) ++ List.replicate (8 - (lg_sl ([.ref h0, .int p0, .int 4, .int 50, .int p3, .int p4])).length) Slot.unset).toArray = ls at hl ⊢
  have hl : lv_has ls 8 [(0, .ref h0), (1, .int p0), (2, .int 4), (3, .int 50), (4, .int p3), (5, .int p4)] := hl
  refine lv_aload_n hx hb dX5_runUnder_0 rfl (lv_at hl 0 rfl) ?_
  refine lv_iload_n hx hb dX5_runUnder_1 rfl (lv_at hl 1 rfl) ?_
  obtain ⟨hPc, hDc, hFc⟩ := kk_cutout (wc := [(h0, Sum.inr (5, [Value.ref h1, Value.int n0_size, Value.ref h2, Value.int n0_ran])), (h1, Sum.inl (cint, 50, Sum.inl f1))]) hP hD hS hA [0, 1] (by decide) rfl
  have hKc := hK.sub (tys' := [(cint, .int)]) [0] rfl
  refine va_calli (va_runV (As := [.int p0]) (rest := []) ⟨hx, hb, hml, hown, hts⟩ (g_X5_kindOf_0 l dC dI h0 h1 h2 cint s.heap.size p0 n0_size n0_ran f1 tn0_size (by show 0 ≤ (n0_ran : Int32).toInt ∧ (n0_ran : Int32).toInt ≤ 1000; first | decide | (constructor <;> (omega))) bf1) (cwV 1 hts gX5_runUnder_X5_kindOf rfl rfl rfl (by decide +kernel) ⟨Nat.le_of_ble_eq_true rfl, Nat.le_of_ble_eq_true rfl⟩) ⟨fun a U g mk q => by obtain ⟨q0, q1, qP, qK, qD⟩ := q; exact ⟨q0, q1, qP, va_K.moved (u := U) (U := U.calling g mk a) (Vm.Alike.refl U.vm) qK, qD⟩, va_recv hKc hPc (ci := 5) (q0 := 0) rfl rfl, fun U hU hW => ⟨rfl, by rw [hU], by rw [hU]; exact hPc, va_K.moved hW.alike hKc, hDc.weaken (fun _ _ _ _ => trivial)⟩⟩ rfl rfl hl.1 rfl (lv_room (Nat.le_of_ble_eq_true rfl)) dX5_runUnder_2 ⟨Nat.le_of_ble_eq_true rfl, Nat.le_of_ble_eq_true rfl⟩) hS (fun q _ h => hFc q h) hFc (fun r_1 u t H1 locs ht hvm hw hB hz1 hk1 hS => ?_)
  obtain ⟨hP1, hK1, hD1⟩ := hB
  rw [ht] at hP1
  have hK1 := va_K.moved hvm.symm hK1
  obtain ⟨hP, hD⟩ := va_join (wr := [(h2, Sum.inl (cint, 24, Sum.inl f2))]) (w1 := [(h0, Sum.inr (5, [Value.ref h1, Value.int n0_size, Value.ref h2, Value.int n0_ran])), (h1, Sum.inl (cint, 50, Sum.inl f1))]) hP hD [0, 1] [2] rfl rfl (by decide) (by decide) hk1 hFc hP1 hD1
  generalize H1 = H at hP hS ⊢
  have hP : va_P (dC, dI) vwCl [(h2, Sum.inl (cint, 24, Sum.inl f2)), (h0, Sum.inr (5, [Value.ref h1, Value.int n0_size, Value.ref h2, Value.int n0_ran])), (h1, Sum.inl (cint, 50, Sum.inl f1))] H := hP
  have hD : va_D A [(h2, Sum.inl (cint, 24, Sum.inl f2)), (h0, Sum.inr (5, [Value.ref h1, Value.int n0_size, Value.ref h2, Value.int n0_ran])), (h1, Sum.inl (cint, 50, Sum.inl f1))] := hD
  have t_1 : (-1) ≤ r_1.toInt ∧ r_1.toInt ≤ 7 := hw
  refine lv_istore (lv' := [(6, .int r_1), (0, .ref h0), (1, .int p0), (2, .int 4), (3, .int 50), (4, .int p3), (5, .int p4)]) hx hb dX5_runUnder_5 hl (by decide) rfl (fun ls hl => ?_)
  refine lv_iload_n hx hb dX5_runUnder_7 rfl (lv_at hl 3 rfl) ?_
  obtain ⟨hPc, hDc, hFc⟩ := kk_cutout (wc := []) hP hD hS hA [] (by decide) rfl
  have hKc := hK.sub (tys' := []) [] rfl
  refine va_calli (va_runS (As := [.int 4]) (rest := []) ⟨hx, hb, hml, hown, hts⟩ (g_X5_isKind_0 l dC dI H.size 4) (va_cwS 1 hts gX5_runUnder_X5_isKind rfl rfl rfl (by decide +kernel) ⟨Nat.le_of_ble_eq_true rfl, Nat.le_of_ble_eq_true rfl⟩) ⟨fun a U g mk q => by obtain ⟨q0, q1, qP, qK, qD⟩ := q; exact ⟨q0, q1, qP, va_K.moved (u := U) (U := U.calling g mk a) (Vm.Alike.refl U.vm) qK, qD⟩, fun U hU hW => ⟨rfl, by rw [hU], by rw [hU]; exact hPc, va_K.moved hW.alike hKc, hDc.weaken (fun _ _ _ _ => trivial)⟩⟩ rfl rfl hl.1 rfl (lv_room (Nat.le_of_ble_eq_true rfl)) dX5_runUnder_8 ⟨Nat.le_of_ble_eq_true rfl, Nat.le_of_ble_eq_true rfl⟩) hS (fun q _ h => hFc q h) hFc (fun r_2 u t H1 locs ht hvm hw hB hz1 hk1 hS => ?_)
  obtain ⟨hP1, hK1, hD1⟩ := hB
  rw [ht] at hP1
  have hK1 := va_K.moved hvm.symm hK1
  obtain ⟨hP, hD⟩ := va_join (wr := [(h2, Sum.inl (cint, 24, Sum.inl f2)), (h0, Sum.inr (5, [Value.ref h1, Value.int n0_size, Value.ref h2, Value.int n0_ran])), (h1, Sum.inl (cint, 50, Sum.inl f1))]) (w1 := []) hP hD [] [0, 1, 2] rfl rfl (by decide) (by decide) hk1 hFc hP1 hD1
  generalize H1 = H at hP hS ⊢
  have hP : va_P (dC, dI) vwCl [(h2, Sum.inl (cint, 24, Sum.inl f2)), (h0, Sum.inr (5, [Value.ref h1, Value.int n0_size, Value.ref h2, Value.int n0_ran])), (h1, Sum.inl (cint, 50, Sum.inl f1))] H := hP
  have hD : va_D A [(h2, Sum.inl (cint, 24, Sum.inl f2)), (h0, Sum.inr (5, [Value.ref h1, Value.int n0_size, Value.ref h2, Value.int n0_ran])), (h1, Sum.inl (cint, 50, Sum.inl f1))] := hD
  rcases hw with ⟨rfl⟩ | ⟨t_2_0, t_2_1, rfl⟩
  · skip
    refine lv_if_eq (tgt := 22) hx hb dX5_runUnder_11 (by decide) (fun _ => ?_) (fun c => absurd c (by decide))
    refine lv_iconst (v := 0) hx hb dX5_runUnder_22 (by decide) ?_
    refine lv_istore (lv' := [(7, .int 0), (6, .int r_1), (0, .ref h0), (1, .int p0), (2, .int 4), (3, .int 50), (4, .int p3), (5, .int p4)]) hx hb dX5_runUnder_23 hl (by decide) rfl (fun ls hl => ?_)
    refine lv_iload_n hx hb dX5_runUnder_25 rfl (lv_at hl 5 rfl) ?_
    refine lv_lookup (tgt := 144) (off := 118) hx hb dX5_runUnder_26 (by decide) (by decide) (by decide) ?_
    refine lv_aload_n hx hb dX5_runUnder_144 rfl (lv_at hl 2 rfl) ?_
    refine lv_iload_n hx hb dX5_runUnder_145 rfl (lv_at hl 3 rfl) ?_
    refine lv_iload hx hb dX5_runUnder_146 (lv_at hl 0 rfl) ?_
    refine lv_iconst (v := 2) hx hb dX5_runUnder_148 (by decide) ?_
    refine lv_iload hx hb dX5_runUnder_149 (lv_at hl 6 rfl) ?_
    refine lv_iload hx hb dX5_runUnder_151 (lv_at hl 7 rfl) ?_
    obtain ⟨hPc, hDc, hFc⟩ := kk_cutout (wc := [(h0, Sum.inr (5, [Value.ref h1, Value.int n0_size, Value.ref h2, Value.int n0_ran])), (h1, Sum.inl (cint, 50, Sum.inl f1)), (h2, Sum.inl (cint, 24, Sum.inl f2))]) hP hD hS hA [1, 2, 0] (by decide) rfl
    have hKc := hK.sub (tys' := [(cint, .int)]) [0] rfl
    refine va_calli (va_runV (As := [.int p0, .int 0, .int 2, .int p3, .int p4]) (rest := []) ⟨hx, hb, hml, hown, hts⟩ (g_X5_call_1 l dC dI h0 h1 h2 cint H.size p0 p3 p4 n0_size n0_ran f1 f2 tn0_size (by show 0 ≤ (n0_ran : Int32).toInt ∧ (n0_ran : Int32).toInt ≤ 999; first | decide | (constructor <;> (omega))) bf1 aOWN_BODIES) (cwV 5 hts gX5_runUnder_X5_call rfl rfl rfl (by decide +kernel) ⟨Nat.le_of_ble_eq_true rfl, Nat.le_of_ble_eq_true rfl⟩) ⟨fun a U g mk q => by obtain ⟨q0, q1, qP, qK, qD, qx0, qx1⟩ := q; exact ⟨q0, q1, qP, va_K.moved (u := U) (U := U.calling g mk a) (Vm.Alike.refl U.vm) qK, qD, va_Z.moved (u := U) (U := U.calling g mk a) (Vm.Alike.refl U.vm) qx0, va_T.moved (u := U) (U := U.calling g mk a) (Vm.Alike.refl U.vm) qx1⟩, va_recv hKc hPc (ci := 5) (q0 := 0) rfl rfl, fun U hU hW => ⟨rfl, by rw [hU], by rw [hU]; exact hPc, va_K.moved hW.alike hKc, hDc.weaken (fun _ _ _ _ => trivial), by rw [hU]; exact ((hZOWN_BODIES.kept (fun a h1 h2 => hS.2.1 a h1 h2)).narrow hFc).moved hW.alike, by rw [hU]; exact ((hTOWN_BODIES.kept (fun a h1 h2 => hS.2.1 a h1 h2)).narrow hFc).moved hW.alike⟩⟩ rfl rfl hl.1 rfl (lv_room (Nat.le_of_ble_eq_true rfl)) dX5_runUnder_153 ⟨Nat.le_of_ble_eq_true rfl, Nat.le_of_ble_eq_true rfl⟩) hS (fun q _ h => hFc q h) hFc (fun r_3 u t H1 locs ht hvm hw hB hz1 hk1 hS => ?_)
    obtain ⟨y_4, f_5, by_4, v_5_0, hP1, hK1, hD1⟩ := hB
    have v_5_0 : y_4.toInt ≤ n0_ran.toInt + 1 := v_5_0
    rw [ht] at hP1
    have hK1 := va_K.moved hvm.symm hK1
    obtain ⟨hP, hD⟩ := va_join (wr := []) (w1 := [(h0, Sum.inr (5, [Value.ref h1, Value.int n0_size, Value.ref h2, Value.int y_4])), (h1, Sum.inl (cint, 50, Sum.inl f1)), (h2, Sum.inl (cint, 24, Sum.inl f_5))]) hP hD [1, 2, 0] [] rfl rfl (by decide) (by decide) hk1 hFc hP1 hD1
    generalize H1 = H at hP hS ⊢
    have hP : va_P (dC, dI) vwCl [(h0, Sum.inr (5, [Value.ref h1, Value.int n0_size, Value.ref h2, Value.int y_4])), (h1, Sum.inl (cint, 50, Sum.inl f1)), (h2, Sum.inl (cint, 24, Sum.inl f_5))] H := hP
    have hD : va_D A [(h0, Sum.inr (5, [Value.ref h1, Value.int n0_size, Value.ref h2, Value.int y_4])), (h1, Sum.inl (cint, 50, Sum.inl f1)), (h2, Sum.inl (cint, 24, Sum.inl f_5))] := hD
    refine lv_aload_n hx hb dX5_runUnder_156 rfl (lv_at hl 2 rfl) ?_
    refine lv_iload_n hx hb dX5_runUnder_157 rfl (lv_at hl 3 rfl) ?_
    refine lv_iload hx hb dX5_runUnder_158 (lv_at hl 1 rfl) ?_
    refine lv_iconst (v := 0) hx hb dX5_runUnder_160 (by decide) ?_
    refine lv_iconst (v := 2) hx hb dX5_runUnder_161 (by decide) ?_
    refine lv_iload hx hb dX5_runUnder_162 (lv_at hl 7 rfl) ?_
    obtain ⟨hPc, hDc, hFc⟩ := kk_cutout (wc := [(h0, Sum.inr (5, [Value.ref h1, Value.int n0_size, Value.ref h2, Value.int y_4])), (h1, Sum.inl (cint, 50, Sum.inl f1)), (h2, Sum.inl (cint, 24, Sum.inl f_5))]) hP hD hS hA [0, 1, 2] (by decide) rfl
    have hKc := hK.sub (tys' := [(cint, .int)]) [0] rfl
    refine va_calli (va_runV (As := [.int p0, .int r_1, .int 0, .int 2, .int p4]) (rest := [.int r_3]) ⟨hx, hb, hml, hown, hts⟩ (g_X5_call_5 l dC dI h0 h1 h2 cint H.size p0 r_1 2 p4 (by show (-1) ≤ (r_1 : Int32).toInt ∧ (r_1 : Int32).toInt ≤ 7; first | decide | (constructor <;> (omega))) n0_size y_4 f1 f_5 tn0_size (by show 0 ≤ (y_4 : Int32).toInt ∧ (y_4 : Int32).toInt ≤ 997; first | decide | (constructor <;> (omega))) bf1 aOWN_BODIES aABOVE) (cwV 5 hts gX5_runUnder_X5_call rfl rfl rfl (by decide +kernel) ⟨Nat.le_of_ble_eq_true rfl, Nat.le_of_ble_eq_true rfl⟩) ⟨fun a U g mk q => by obtain ⟨q0, q1, qP, qK, qD, qx0, qx1, qx2, qx3⟩ := q; exact ⟨q0, q1, qP, va_K.moved (u := U) (U := U.calling g mk a) (Vm.Alike.refl U.vm) qK, qD, va_Z.moved (u := U) (U := U.calling g mk a) (Vm.Alike.refl U.vm) qx0, va_T.moved (u := U) (U := U.calling g mk a) (Vm.Alike.refl U.vm) qx1, va_Z.moved (u := U) (U := U.calling g mk a) (Vm.Alike.refl U.vm) qx2, va_T.moved (u := U) (U := U.calling g mk a) (Vm.Alike.refl U.vm) qx3⟩, va_recv hKc hPc (ci := 5) (q0 := 0) rfl rfl, fun U hU hW => ⟨rfl, by rw [hU], by rw [hU]; exact hPc, va_K.moved hW.alike hKc, hDc.weaken (fun _ _ _ _ => trivial), by rw [hU]; exact ((hZOWN_BODIES.kept (fun a h1 h2 => hS.2.1 a h1 h2)).narrow hFc).moved hW.alike, by rw [hU]; exact ((hTOWN_BODIES.kept (fun a h1 h2 => hS.2.1 a h1 h2)).narrow hFc).moved hW.alike, by rw [hU]; exact ((hZABOVE.kept (fun a h1 h2 => hS.2.1 a h1 h2)).narrow hFc).moved hW.alike, by rw [hU]; exact ((hTABOVE.kept (fun a h1 h2 => hS.2.1 a h1 h2)).narrow hFc).moved hW.alike⟩⟩ rfl rfl hl.1 rfl (lv_room (Nat.le_of_ble_eq_true rfl)) dX5_runUnder_164 ⟨Nat.le_of_ble_eq_true rfl, Nat.le_of_ble_eq_true rfl⟩) hS (fun q _ h => hFc q h) hFc (fun r_6 u t H1 locs ht hvm hw hB hz1 hk1 hS => ?_)
    obtain ⟨y_7, f_8, by_7, v_8_0, hP1, hK1, hD1⟩ := hB
    have v_8_0 : y_7.toInt ≤ y_4.toInt + 3 := v_8_0
    rw [ht] at hP1
    have hK1 := va_K.moved hvm.symm hK1
    obtain ⟨hP, hD⟩ := va_join (wr := []) (w1 := [(h0, Sum.inr (5, [Value.ref h1, Value.int n0_size, Value.ref h2, Value.int y_7])), (h1, Sum.inl (cint, 50, Sum.inl f1)), (h2, Sum.inl (cint, 24, Sum.inl f_8))]) hP hD [0, 1, 2] [] rfl rfl (by decide) (by decide) hk1 hFc hP1 hD1
    generalize H1 = H at hP hS ⊢
    have hP : va_P (dC, dI) vwCl [(h0, Sum.inr (5, [Value.ref h1, Value.int n0_size, Value.ref h2, Value.int y_7])), (h1, Sum.inl (cint, 50, Sum.inl f1)), (h2, Sum.inl (cint, 24, Sum.inl f_8))] H := hP
    have hD : va_D A [(h0, Sum.inr (5, [Value.ref h1, Value.int n0_size, Value.ref h2, Value.int y_7])), (h1, Sum.inl (cint, 50, Sum.inl f1)), (h2, Sum.inl (cint, 24, Sum.inl f_8))] := hD
    refine lv_isub hx hb dX5_runUnder_167 ?_
    obtain ⟨hP9, hD9⟩ := kk_leafout (wc := [(h0, Sum.inr (5, [Value.ref h1, Value.int n0_size, Value.ref h2, Value.int y_7])), (h1, Sum.inl (cint, 50, Sum.inl f1)), (h2, Sum.inl (cint, 24, Sum.inl f_8))]) hP hD [0, 1, 2] (by decide) rfl
    have hK9 := hK.sub (tys' := []) [] rfl
    exact W.iret (v := (r_3 - r_6)) hx hb hr (fun t ht hW => ⟨⟨(r_3 - r_6), (), rfl, trivial, y_7, f_8, (by show 0 ≤ (y_7 : Int32).toInt ∧ (y_7 : Int32).toInt ≤ 1000; first | decide | (constructor <;> (omega))), (by show (y_7 : Int32).toInt ≤ (n0_ran : Int32).toInt + 5; first | decide | (omega)), by rw [ht]; exact hP9, va_K.moved hW.alike hK9, hD9⟩, hS.F ht⟩) hS.2.2 dX5_runUnder_168
  · skip
    have t_2_0 : (0 : Int) ≤ 4 := t_2_0
    have t_2_1 : (4 : Int) < 8 := t_2_1
    refine lv_if_eq (tgt := 22) hx hb dX5_runUnder_11 (by decide) (fun c => absurd c (by decide)) (fun _ => ?_)
    refine va_gets hx hb hZABOVE hS hown (hts (.fieldLink RX5 22 "KinkStreet$Lines" "ABOVE" "[I") (List.mem_of_getElem? (i := 1) rfl)) (fun _ h9 => h9) dX5_runUnder_14 ?_
    refine lv_iload_n hx hb dX5_runUnder_17 rfl (lv_at hl 3 rfl) ?_
    refine va_ti (v := .int 3) hx hb hTABOVE hS (by unfold vp_in; decide) rfl dX5_runUnder_18 ?_
    refine lv_goto (tgt := 23) hx hb dX5_runUnder_19 (by decide) ?_
    refine lv_istore (lv' := [(7, .int 3), (6, .int r_1), (0, .ref h0), (1, .int p0), (2, .int 4), (3, .int 50), (4, .int p3), (5, .int p4)]) hx hb dX5_runUnder_23 hl (by decide) rfl (fun ls hl => ?_)
    refine lv_iload_n hx hb dX5_runUnder_25 rfl (lv_at hl 5 rfl) ?_
    refine lv_lookup (tgt := 144) (off := 118) hx hb dX5_runUnder_26 (by decide) (by decide) (by decide) ?_
    refine lv_aload_n hx hb dX5_runUnder_144 rfl (lv_at hl 2 rfl) ?_
    refine lv_iload_n hx hb dX5_runUnder_145 rfl (lv_at hl 3 rfl) ?_
    refine lv_iload hx hb dX5_runUnder_146 (lv_at hl 0 rfl) ?_
    refine lv_iconst (v := 2) hx hb dX5_runUnder_148 (by decide) ?_
    refine lv_iload hx hb dX5_runUnder_149 (lv_at hl 6 rfl) ?_
    refine lv_iload hx hb dX5_runUnder_151 (lv_at hl 7 rfl) ?_
    obtain ⟨hPc, hDc, hFc⟩ := kk_cutout (wc := [(h0, Sum.inr (5, [Value.ref h1, Value.int n0_size, Value.ref h2, Value.int n0_ran])), (h1, Sum.inl (cint, 50, Sum.inl f1)), (h2, Sum.inl (cint, 24, Sum.inl f2))]) hP hD hS hA [1, 2, 0] (by decide) rfl
    have hKc := hK.sub (tys' := [(cint, .int)]) [0] rfl
    refine va_calli (va_runV (As := [.int p0, .int 3, .int 2, .int p3, .int p4]) (rest := []) ⟨hx, hb, hml, hown, hts⟩ (g_X5_call_2 l dC dI h0 h1 h2 cint H.size p0 p3 p4 n0_size n0_ran f1 f2 tn0_size (by show 0 ≤ (n0_ran : Int32).toInt ∧ (n0_ran : Int32).toInt ≤ 998; first | decide | (constructor <;> (omega))) bf1 aOWN_BODIES aABOVE) (cwV 5 hts gX5_runUnder_X5_call rfl rfl rfl (by decide +kernel) ⟨Nat.le_of_ble_eq_true rfl, Nat.le_of_ble_eq_true rfl⟩) ⟨fun a U g mk q => by obtain ⟨q0, q1, qP, qK, qD, qx0, qx1, qx2, qx3⟩ := q; exact ⟨q0, q1, qP, va_K.moved (u := U) (U := U.calling g mk a) (Vm.Alike.refl U.vm) qK, qD, va_Z.moved (u := U) (U := U.calling g mk a) (Vm.Alike.refl U.vm) qx0, va_T.moved (u := U) (U := U.calling g mk a) (Vm.Alike.refl U.vm) qx1, va_Z.moved (u := U) (U := U.calling g mk a) (Vm.Alike.refl U.vm) qx2, va_T.moved (u := U) (U := U.calling g mk a) (Vm.Alike.refl U.vm) qx3⟩, va_recv hKc hPc (ci := 5) (q0 := 0) rfl rfl, fun U hU hW => ⟨rfl, by rw [hU], by rw [hU]; exact hPc, va_K.moved hW.alike hKc, hDc.weaken (fun _ _ _ _ => trivial), by rw [hU]; exact ((hZOWN_BODIES.kept (fun a h1 h2 => hS.2.1 a h1 h2)).narrow hFc).moved hW.alike, by rw [hU]; exact ((hTOWN_BODIES.kept (fun a h1 h2 => hS.2.1 a h1 h2)).narrow hFc).moved hW.alike, by rw [hU]; exact ((hZABOVE.kept (fun a h1 h2 => hS.2.1 a h1 h2)).narrow hFc).moved hW.alike, by rw [hU]; exact ((hTABOVE.kept (fun a h1 h2 => hS.2.1 a h1 h2)).narrow hFc).moved hW.alike⟩⟩ rfl rfl hl.1 rfl (lv_room (Nat.le_of_ble_eq_true rfl)) dX5_runUnder_153 ⟨Nat.le_of_ble_eq_true rfl, Nat.le_of_ble_eq_true rfl⟩) hS (fun q _ h => hFc q h) hFc (fun r_9 u t H1 locs ht hvm hw hB hz1 hk1 hS => ?_)
    obtain ⟨y_10, f_11, by_10, v_11_0, hP1, hK1, hD1⟩ := hB
    have v_11_0 : y_10.toInt ≤ n0_ran.toInt + 2 := v_11_0
    rw [ht] at hP1
    have hK1 := va_K.moved hvm.symm hK1
    obtain ⟨hP, hD⟩ := va_join (wr := []) (w1 := [(h0, Sum.inr (5, [Value.ref h1, Value.int n0_size, Value.ref h2, Value.int y_10])), (h1, Sum.inl (cint, 50, Sum.inl f1)), (h2, Sum.inl (cint, 24, Sum.inl f_11))]) hP hD [1, 2, 0] [] rfl rfl (by decide) (by decide) hk1 hFc hP1 hD1
    generalize H1 = H at hP hS ⊢
    have hP : va_P (dC, dI) vwCl [(h0, Sum.inr (5, [Value.ref h1, Value.int n0_size, Value.ref h2, Value.int y_10])), (h1, Sum.inl (cint, 50, Sum.inl f1)), (h2, Sum.inl (cint, 24, Sum.inl f_11))] H := hP
    have hD : va_D A [(h0, Sum.inr (5, [Value.ref h1, Value.int n0_size, Value.ref h2, Value.int y_10])), (h1, Sum.inl (cint, 50, Sum.inl f1)), (h2, Sum.inl (cint, 24, Sum.inl f_11))] := hD
    refine lv_aload_n hx hb dX5_runUnder_156 rfl (lv_at hl 2 rfl) ?_
    refine lv_iload_n hx hb dX5_runUnder_157 rfl (lv_at hl 3 rfl) ?_
    refine lv_iload hx hb dX5_runUnder_158 (lv_at hl 1 rfl) ?_
    refine lv_iconst (v := 0) hx hb dX5_runUnder_160 (by decide) ?_
    refine lv_iconst (v := 2) hx hb dX5_runUnder_161 (by decide) ?_
    refine lv_iload hx hb dX5_runUnder_162 (lv_at hl 7 rfl) ?_
    obtain ⟨hPc, hDc, hFc⟩ := kk_cutout (wc := [(h0, Sum.inr (5, [Value.ref h1, Value.int n0_size, Value.ref h2, Value.int y_10])), (h1, Sum.inl (cint, 50, Sum.inl f1)), (h2, Sum.inl (cint, 24, Sum.inl f_11))]) hP hD hS hA [0, 1, 2] (by decide) rfl
    have hKc := hK.sub (tys' := [(cint, .int)]) [0] rfl
    refine va_calli (va_runV (As := [.int p0, .int r_1, .int 0, .int 2, .int p4]) (rest := [.int r_9]) ⟨hx, hb, hml, hown, hts⟩ (g_X5_call_5 l dC dI h0 h1 h2 cint H.size p0 r_1 2 p4 (by show (-1) ≤ (r_1 : Int32).toInt ∧ (r_1 : Int32).toInt ≤ 7; first | decide | (constructor <;> (omega))) n0_size y_10 f1 f_11 tn0_size (by show 0 ≤ (y_10 : Int32).toInt ∧ (y_10 : Int32).toInt ≤ 997; first | decide | (constructor <;> (omega))) bf1 aOWN_BODIES aABOVE) (cwV 5 hts gX5_runUnder_X5_call rfl rfl rfl (by decide +kernel) ⟨Nat.le_of_ble_eq_true rfl, Nat.le_of_ble_eq_true rfl⟩) ⟨fun a U g mk q => by obtain ⟨q0, q1, qP, qK, qD, qx0, qx1, qx2, qx3⟩ := q; exact ⟨q0, q1, qP, va_K.moved (u := U) (U := U.calling g mk a) (Vm.Alike.refl U.vm) qK, qD, va_Z.moved (u := U) (U := U.calling g mk a) (Vm.Alike.refl U.vm) qx0, va_T.moved (u := U) (U := U.calling g mk a) (Vm.Alike.refl U.vm) qx1, va_Z.moved (u := U) (U := U.calling g mk a) (Vm.Alike.refl U.vm) qx2, va_T.moved (u := U) (U := U.calling g mk a) (Vm.Alike.refl U.vm) qx3⟩, va_recv hKc hPc (ci := 5) (q0 := 0) rfl rfl, fun U hU hW => ⟨rfl, by rw [hU], by rw [hU]; exact hPc, va_K.moved hW.alike hKc, hDc.weaken (fun _ _ _ _ => trivial), by rw [hU]; exact ((hZOWN_BODIES.kept (fun a h1 h2 => hS.2.1 a h1 h2)).narrow hFc).moved hW.alike, by rw [hU]; exact ((hTOWN_BODIES.kept (fun a h1 h2 => hS.2.1 a h1 h2)).narrow hFc).moved hW.alike, by rw [hU]; exact ((hZABOVE.kept (fun a h1 h2 => hS.2.1 a h1 h2)).narrow hFc).moved hW.alike, by rw [hU]; exact ((hTABOVE.kept (fun a h1 h2 => hS.2.1 a h1 h2)).narrow hFc).moved hW.alike⟩⟩ rfl rfl hl.1 rfl (lv_room (Nat.le_of_ble_eq_true rfl)) dX5_runUnder_164 ⟨Nat.le_of_ble_eq_true rfl, Nat.le_of_ble_eq_true rfl⟩) hS (fun q _ h => hFc q h) hFc (fun r_12 u t H1 locs ht hvm hw hB hz1 hk1 hS => ?_)
    obtain ⟨y_13, f_14, by_13, v_14_0, hP1, hK1, hD1⟩ := hB
    have v_14_0 : y_13.toInt ≤ y_10.toInt + 3 := v_14_0
    rw [ht] at hP1
    have hK1 := va_K.moved hvm.symm hK1
    obtain ⟨hP, hD⟩ := va_join (wr := []) (w1 := [(h0, Sum.inr (5, [Value.ref h1, Value.int n0_size, Value.ref h2, Value.int y_13])), (h1, Sum.inl (cint, 50, Sum.inl f1)), (h2, Sum.inl (cint, 24, Sum.inl f_14))]) hP hD [0, 1, 2] [] rfl rfl (by decide) (by decide) hk1 hFc hP1 hD1
    generalize H1 = H at hP hS ⊢
    have hP : va_P (dC, dI) vwCl [(h0, Sum.inr (5, [Value.ref h1, Value.int n0_size, Value.ref h2, Value.int y_13])), (h1, Sum.inl (cint, 50, Sum.inl f1)), (h2, Sum.inl (cint, 24, Sum.inl f_14))] H := hP
    have hD : va_D A [(h0, Sum.inr (5, [Value.ref h1, Value.int n0_size, Value.ref h2, Value.int y_13])), (h1, Sum.inl (cint, 50, Sum.inl f1)), (h2, Sum.inl (cint, 24, Sum.inl f_14))] := hD
    refine lv_isub hx hb dX5_runUnder_167 ?_
    obtain ⟨hP9, hD9⟩ := kk_leafout (wc := [(h0, Sum.inr (5, [Value.ref h1, Value.int n0_size, Value.ref h2, Value.int y_13])), (h1, Sum.inl (cint, 50, Sum.inl f1)), (h2, Sum.inl (cint, 24, Sum.inl f_14))]) hP hD [0, 1, 2] (by decide) rfl
    have hK9 := hK.sub (tys' := []) [] rfl
    exact W.iret (v := (r_9 - r_12)) hx hb hr (fun t ht hW => ⟨⟨(r_9 - r_12), (), rfl, trivial, y_13, f_14, (by show 0 ≤ (y_13 : Int32).toInt ∧ (y_13 : Int32).toInt ≤ 1000; first | decide | (constructor <;> (omega))), (by show (y_13 : Int32).toInt ≤ (n0_ran : Int32).toInt + 5; first | decide | (omega)), by rw [ht]; exact hP9, va_K.moved hW.alike hK9, hD9⟩, hS.F ht⟩) hS.2.2 dX5_runUnder_168
set_option maxHeartbeats 4000000 in
set_option maxRecDepth 100000 in
theorem g_X5_runUnder_11 (l : Launch) (dC : Nat → ClassId) (dI : Nat → Nat → Nat) (h0 : Nat) (h1 : Nat) (h2 : Nat) (cint : ClassId) (sz : Nat) (p0 : Int32) (p3 : Int32) (p4 : Int32) (n0_size : Int32) (n0_ran : Int32) (f1 : Nat → Int32) (f2 : Nat → Int32) (tn0_size : 0 ≤ n0_size.toInt ∧ n0_size.toInt ≤ 50) (tn0_ran : 0 ≤ n0_ran.toInt ∧ n0_ran.toInt ≤ 999) (bf1 : ∀ j, j < 50 → 0 ≤ (f1 j).toInt ∧ (f1 j).toInt ≤ 7) (aOWN_BODIES : Nat) (aABOVE : Nat) : Met l yX5_runUnder wsX5_runUnder ({ frames := 4, cells := 0, slots := 0, locals := 94 }) (va_Pc [.ref h0, .int p0, .int 6, .int 0, .int p3, .int p4] (fun U => U.heap.size = sz ∧ va_P (dC, dI) vwCl [(h0, Sum.inr (5, [Value.ref h1, Value.int n0_size, Value.ref h2, Value.int n0_ran])), (h1, Sum.inl (cint, 50, Sum.inl f1)), (h2, Sum.inl (cint, 24, Sum.inl f2))] U.heap ∧ va_K (dC, dI) vwCl [(cint, .int)] U ∧ va_D (fun _ => True) [(h0, Sum.inr (5, [Value.ref h1, Value.int n0_size, Value.ref h2, Value.int n0_ran])), (h1, Sum.inl (cint, 50, Sum.inl f1)), (h2, Sum.inl (cint, 24, Sum.inl f2))] ∧ va_Z "KinkStreet$Lines" "OWN_BODIES" "[I" (.ref aOWN_BODIES) (va_A [(h0, Sum.inr (5, [Value.ref h1, Value.int n0_size, Value.ref h2, Value.int n0_ran])), (h1, Sum.inl (cint, 50, Sum.inl f1)), (h2, Sum.inl (cint, 24, Sum.inl f2))] sz) U U.heap ∧ va_T .int aOWN_BODIES 32 tb_OWN_BODIES (va_A [(h0, Sum.inr (5, [Value.ref h1, Value.int n0_size, Value.ref h2, Value.int n0_ran])), (h1, Sum.inl (cint, 50, Sum.inl f1)), (h2, Sum.inl (cint, 24, Sum.inl f2))] sz) U U.heap ∧ va_Z "KinkStreet$Lines" "ABOVE" "[I" (.ref aABOVE) (va_A [(h0, Sum.inr (5, [Value.ref h1, Value.int n0_size, Value.ref h2, Value.int n0_ran])), (h1, Sum.inl (cint, 50, Sum.inl f1)), (h2, Sum.inl (cint, 24, Sum.inl f2))] sz) U U.heap ∧ va_T .int aABOVE 8 tb_ABOVE (va_A [(h0, Sum.inr (5, [Value.ref h1, Value.int n0_size, Value.ref h2, Value.int n0_ran])), (h1, Sum.inl (cint, 50, Sum.inl f1)), (h2, Sum.inl (cint, 24, Sum.inl f2))] sz) U U.heap)) (va_Qi (fun (r : Int32) (_ : Unit) => True) (fun (_ : Unit) t => ∃ (m0_ran : Int32) (g2 : Nat → Int32), (0 ≤ m0_ran.toInt ∧ m0_ran.toInt ≤ 1000) ∧ (m0_ran.toInt ≤ n0_ran.toInt + 1) ∧ va_P (dC, dI) vwCl [(h0, Sum.inr (5, [Value.ref h1, Value.int n0_size, Value.ref h2, Value.int m0_ran])), (h1, Sum.inl (cint, 50, Sum.inl f1)), (h2, Sum.inl (cint, 24, Sum.inl g2))] t.heap ∧ va_K (dC, dI) vwCl [] t ∧ va_D (va_A [(h0, Sum.inr (5, [Value.ref h1, Value.int n0_size, Value.ref h2, Value.int n0_ran])), (h1, Sum.inl (cint, 50, Sum.inl f1)), (h2, Sum.inl (cint, 24, Sum.inl f2))] sz) [(h0, Sum.inr (5, [Value.ref h1, Value.int n0_size, Value.ref h2, Value.int m0_ran])), (h1, Sum.inl (cint, 50, Sum.inl f1)), (h2, Sum.inl (cint, 24, Sum.inl g2))]) (va_A [(h0, Sum.inr (5, [Value.ref h1, Value.int n0_size, Value.ref h2, Value.int n0_ran])), (h1, Sum.inl (cint, 50, Sum.inl f1)), (h2, Sum.inl (cint, 24, Sum.inl f2))] sz)) 0 0 (va_A [(h0, Sum.inr (5, [Value.ref h1, Value.int n0_size, Value.ref h2, Value.int n0_ran])), (h1, Sum.inl (cint, 50, Sum.inl f1)), (h2, Sum.inl (cint, 24, Sum.inl f2))] sz) := by
  refine Met.ofW (cc := cX5_runUnder) (maxL := 8) (ret := (some .int)) (by decide) rfl ?_
  intro p e s m args below meth c s₁ B hml hv
  obtain ⟨rfl, hsz, hP, hK, hD0, hZOWN_BODIES, hTOWN_BODIES, hZABOVE, hTABOVE⟩ := hv
  have hx := B.exec
  have hb := B.bytes
  have hr := B.returns
  have hts := atoms_spec (ws := wsX5_runUnder) B.pre
  have hown : s.vm.findClass RX5 = some m.cls := findClass_of_methodNamed B.named
  have hlocks := B.notSynchronized
  subst hsz
  have hD := hD0.self (sz := s.heap.size)
  generalize hAe : va_A [(h0, Sum.inr (5, [Value.ref h1, Value.int n0_size, Value.ref h2, Value.int n0_ran])), (h1, Sum.inl (cint, 50, Sum.inl f1)), (h2, Sum.inl (cint, 24, Sum.inl f2))] s.heap.size = A at hD hZOWN_BODIES hTOWN_BODIES hZABOVE hTABOVE ⊢
  have hA : ∀ q : Nat, s.heap.size ≤ q → A q := fun q h => by rw [← hAe]; exact Or.inr h
  have hS : va_S A s.heap s.heap [] := va_S.rf
  have hP : va_P (dC, dI) vwCl [(h0, Sum.inr (5, [Value.ref h1, Value.int n0_size, Value.ref h2, Value.int n0_ran])), (h1, Sum.inl (cint, 50, Sum.inl f1)), (h2, Sum.inl (cint, 24, Sum.inl f2))] s.heap := hP
  have hl := lv_entry ([.ref h0, .int p0, .int 6, .int 0, .int p3, .int p4]) (n := 8) (Nat.le_of_ble_eq_true rfl)
  rw [lg_entry_eq]
  generalize (lg_sl ([.ref h0, .int p0, .int 6, .int 0, .int p3, .int p4]) ++ List.replicate (8 - (lg_sl ([.ref h0, .int p0, .int 6, .int 0, .int p3, .int p4])).length) Slot.unset).toArray = ls at hl ⊢
  have hl : lv_has ls 8 [(0, .ref h0), (1, .int p0), (2, .int 6), (3, .int 0), (4, .int p3), (5, .int p4)] := hl
  refine lv_aload_n hx hb dX5_runUnder_0 rfl (lv_at hl 0 rfl) ?_
  refine lv_iload_n hx hb dX5_runUnder_1 rfl (lv_at hl 1 rfl) ?_
  obtain ⟨hPc, hDc, hFc⟩ := kk_cutout (wc := [(h0, Sum.inr (5, [Value.ref h1, Value.int n0_size, Value.ref h2, Value.int n0_ran])), (h1, Sum.inl (cint, 50, Sum.inl f1))]) hP hD hS hA [0, 1] (by decide) rfl
  have hKc := hK.sub (tys' := [(cint, .int)]) [0] rfl
  refine va_calli (va_runV (As := [.int p0]) (rest := []) ⟨hx, hb, hml, hown, hts⟩ (g_X5_kindOf_0 l dC dI h0 h1 h2 cint s.heap.size p0 n0_size n0_ran f1 tn0_size (by show 0 ≤ (n0_ran : Int32).toInt ∧ (n0_ran : Int32).toInt ≤ 1000; first | decide | (constructor <;> (omega))) bf1) (cwV 1 hts gX5_runUnder_X5_kindOf rfl rfl rfl (by decide +kernel) ⟨Nat.le_of_ble_eq_true rfl, Nat.le_of_ble_eq_true rfl⟩) ⟨fun a U g mk q => by obtain ⟨q0, q1, qP, qK, qD⟩ := q; exact ⟨q0, q1, qP, va_K.moved (u := U) (U := U.calling g mk a) (Vm.Alike.refl U.vm) qK, qD⟩, va_recv hKc hPc (ci := 5) (q0 := 0) rfl rfl, fun U hU hW => ⟨rfl, by rw [hU], by rw [hU]; exact hPc, va_K.moved hW.alike hKc, hDc.weaken (fun _ _ _ _ => trivial)⟩⟩ rfl rfl hl.1 rfl (lv_room (Nat.le_of_ble_eq_true rfl)) dX5_runUnder_2 ⟨Nat.le_of_ble_eq_true rfl, Nat.le_of_ble_eq_true rfl⟩) hS (fun q _ h => hFc q h) hFc (fun r_1 u t H1 locs ht hvm hw hB hz1 hk1 hS => ?_)
  obtain ⟨hP1, hK1, hD1⟩ := hB
  rw [ht] at hP1
  have hK1 := va_K.moved hvm.symm hK1
  obtain ⟨hP, hD⟩ := va_join (wr := [(h2, Sum.inl (cint, 24, Sum.inl f2))]) (w1 := [(h0, Sum.inr (5, [Value.ref h1, Value.int n0_size, Value.ref h2, Value.int n0_ran])), (h1, Sum.inl (cint, 50, Sum.inl f1))]) hP hD [0, 1] [2] rfl rfl (by decide) (by decide) hk1 hFc hP1 hD1
  generalize H1 = H at hP hS ⊢
  have hP : va_P (dC, dI) vwCl [(h2, Sum.inl (cint, 24, Sum.inl f2)), (h0, Sum.inr (5, [Value.ref h1, Value.int n0_size, Value.ref h2, Value.int n0_ran])), (h1, Sum.inl (cint, 50, Sum.inl f1))] H := hP
  have hD : va_D A [(h2, Sum.inl (cint, 24, Sum.inl f2)), (h0, Sum.inr (5, [Value.ref h1, Value.int n0_size, Value.ref h2, Value.int n0_ran])), (h1, Sum.inl (cint, 50, Sum.inl f1))] := hD
  have t_1 : (-1) ≤ r_1.toInt ∧ r_1.toInt ≤ 7 := hw
  refine lv_istore (lv' := [(6, .int r_1), (0, .ref h0), (1, .int p0), (2, .int 6), (3, .int 0), (4, .int p3), (5, .int p4)]) hx hb dX5_runUnder_5 hl (by decide) rfl (fun ls hl => ?_)
  refine lv_iload_n hx hb dX5_runUnder_7 rfl (lv_at hl 3 rfl) ?_
  obtain ⟨hPc, hDc, hFc⟩ := kk_cutout (wc := []) hP hD hS hA [] (by decide) rfl
  have hKc := hK.sub (tys' := []) [] rfl
  refine va_calli (va_runS (As := [.int 6]) (rest := []) ⟨hx, hb, hml, hown, hts⟩ (g_X5_isKind_0 l dC dI H.size 6) (va_cwS 1 hts gX5_runUnder_X5_isKind rfl rfl rfl (by decide +kernel) ⟨Nat.le_of_ble_eq_true rfl, Nat.le_of_ble_eq_true rfl⟩) ⟨fun a U g mk q => by obtain ⟨q0, q1, qP, qK, qD⟩ := q; exact ⟨q0, q1, qP, va_K.moved (u := U) (U := U.calling g mk a) (Vm.Alike.refl U.vm) qK, qD⟩, fun U hU hW => ⟨rfl, by rw [hU], by rw [hU]; exact hPc, va_K.moved hW.alike hKc, hDc.weaken (fun _ _ _ _ => trivial)⟩⟩ rfl rfl hl.1 rfl (lv_room (Nat.le_of_ble_eq_true rfl)) dX5_runUnder_8 ⟨Nat.le_of_ble_eq_true rfl, Nat.le_of_ble_eq_true rfl⟩) hS (fun q _ h => hFc q h) hFc (fun r_2 u t H1 locs ht hvm hw hB hz1 hk1 hS => ?_)
  obtain ⟨hP1, hK1, hD1⟩ := hB
  rw [ht] at hP1
  have hK1 := va_K.moved hvm.symm hK1
  obtain ⟨hP, hD⟩ := va_join (wr := [(h2, Sum.inl (cint, 24, Sum.inl f2)), (h0, Sum.inr (5, [Value.ref h1, Value.int n0_size, Value.ref h2, Value.int n0_ran])), (h1, Sum.inl (cint, 50, Sum.inl f1))]) (w1 := []) hP hD [] [0, 1, 2] rfl rfl (by decide) (by decide) hk1 hFc hP1 hD1
  generalize H1 = H at hP hS ⊢
  have hP : va_P (dC, dI) vwCl [(h2, Sum.inl (cint, 24, Sum.inl f2)), (h0, Sum.inr (5, [Value.ref h1, Value.int n0_size, Value.ref h2, Value.int n0_ran])), (h1, Sum.inl (cint, 50, Sum.inl f1))] H := hP
  have hD : va_D A [(h2, Sum.inl (cint, 24, Sum.inl f2)), (h0, Sum.inr (5, [Value.ref h1, Value.int n0_size, Value.ref h2, Value.int n0_ran])), (h1, Sum.inl (cint, 50, Sum.inl f1))] := hD
  rcases hw with ⟨rfl⟩ | ⟨t_2_0, t_2_1, rfl⟩
  · skip
    refine lv_if_eq (tgt := 22) hx hb dX5_runUnder_11 (by decide) (fun _ => ?_) (fun c => absurd c (by decide))
    refine lv_iconst (v := 0) hx hb dX5_runUnder_22 (by decide) ?_
    refine lv_istore (lv' := [(7, .int 0), (6, .int r_1), (0, .ref h0), (1, .int p0), (2, .int 6), (3, .int 0), (4, .int p3), (5, .int p4)]) hx hb dX5_runUnder_23 hl (by decide) rfl (fun ls hl => ?_)
    refine lv_iload_n hx hb dX5_runUnder_25 rfl (lv_at hl 5 rfl) ?_
    refine lv_lookup (tgt := 239) (off := 213) hx hb dX5_runUnder_26 (by decide) (by decide) (by decide) ?_
    refine lv_aload_n hx hb dX5_runUnder_239 rfl (lv_at hl 2 rfl) ?_
    refine lv_iload_n hx hb dX5_runUnder_240 rfl (lv_at hl 3 rfl) ?_
    refine lv_iload hx hb dX5_runUnder_241 (lv_at hl 0 rfl) ?_
    refine lv_iconst (v := 2) hx hb dX5_runUnder_243 (by decide) ?_
    refine lv_iload hx hb dX5_runUnder_244 (lv_at hl 6 rfl) ?_
    refine lv_iload hx hb dX5_runUnder_246 (lv_at hl 7 rfl) ?_
    obtain ⟨hPc, hDc, hFc⟩ := kk_cutout (wc := [(h0, Sum.inr (5, [Value.ref h1, Value.int n0_size, Value.ref h2, Value.int n0_ran])), (h1, Sum.inl (cint, 50, Sum.inl f1)), (h2, Sum.inl (cint, 24, Sum.inl f2))]) hP hD hS hA [1, 2, 0] (by decide) rfl
    have hKc := hK.sub (tys' := [(cint, .int)]) [0] rfl
    refine va_calli (va_runV (As := [.int p0, .int 0, .int 2, .int p3, .int p4]) (rest := []) ⟨hx, hb, hml, hown, hts⟩ (g_X5_call_1 l dC dI h0 h1 h2 cint H.size p0 p3 p4 n0_size n0_ran f1 f2 tn0_size tn0_ran bf1 aOWN_BODIES) (cwV 5 hts gX5_runUnder_X5_call rfl rfl rfl (by decide +kernel) ⟨Nat.le_of_ble_eq_true rfl, Nat.le_of_ble_eq_true rfl⟩) ⟨fun a U g mk q => by obtain ⟨q0, q1, qP, qK, qD, qx0, qx1⟩ := q; exact ⟨q0, q1, qP, va_K.moved (u := U) (U := U.calling g mk a) (Vm.Alike.refl U.vm) qK, qD, va_Z.moved (u := U) (U := U.calling g mk a) (Vm.Alike.refl U.vm) qx0, va_T.moved (u := U) (U := U.calling g mk a) (Vm.Alike.refl U.vm) qx1⟩, va_recv hKc hPc (ci := 5) (q0 := 0) rfl rfl, fun U hU hW => ⟨rfl, by rw [hU], by rw [hU]; exact hPc, va_K.moved hW.alike hKc, hDc.weaken (fun _ _ _ _ => trivial), by rw [hU]; exact ((hZOWN_BODIES.kept (fun a h1 h2 => hS.2.1 a h1 h2)).narrow hFc).moved hW.alike, by rw [hU]; exact ((hTOWN_BODIES.kept (fun a h1 h2 => hS.2.1 a h1 h2)).narrow hFc).moved hW.alike⟩⟩ rfl rfl hl.1 rfl (lv_room (Nat.le_of_ble_eq_true rfl)) dX5_runUnder_248 ⟨Nat.le_of_ble_eq_true rfl, Nat.le_of_ble_eq_true rfl⟩) hS (fun q _ h => hFc q h) hFc (fun r_3 u t H1 locs ht hvm hw hB hz1 hk1 hS => ?_)
    obtain ⟨y_4, f_5, by_4, v_5_0, hP1, hK1, hD1⟩ := hB
    have v_5_0 : y_4.toInt ≤ n0_ran.toInt + 1 := v_5_0
    rw [ht] at hP1
    have hK1 := va_K.moved hvm.symm hK1
    obtain ⟨hP, hD⟩ := va_join (wr := []) (w1 := [(h0, Sum.inr (5, [Value.ref h1, Value.int n0_size, Value.ref h2, Value.int y_4])), (h1, Sum.inl (cint, 50, Sum.inl f1)), (h2, Sum.inl (cint, 24, Sum.inl f_5))]) hP hD [1, 2, 0] [] rfl rfl (by decide) (by decide) hk1 hFc hP1 hD1
    generalize H1 = H at hP hS ⊢
    have hP : va_P (dC, dI) vwCl [(h0, Sum.inr (5, [Value.ref h1, Value.int n0_size, Value.ref h2, Value.int y_4])), (h1, Sum.inl (cint, 50, Sum.inl f1)), (h2, Sum.inl (cint, 24, Sum.inl f_5))] H := hP
    have hD : va_D A [(h0, Sum.inr (5, [Value.ref h1, Value.int n0_size, Value.ref h2, Value.int y_4])), (h1, Sum.inl (cint, 50, Sum.inl f1)), (h2, Sum.inl (cint, 24, Sum.inl f_5))] := hD
    refine lv_iconst (v := 1) hx hb dX5_runUnder_251 (by decide) ?_
    refine lv_isub hx hb dX5_runUnder_252 ?_
    obtain ⟨hP9, hD9⟩ := kk_leafout (wc := [(h0, Sum.inr (5, [Value.ref h1, Value.int n0_size, Value.ref h2, Value.int y_4])), (h1, Sum.inl (cint, 50, Sum.inl f1)), (h2, Sum.inl (cint, 24, Sum.inl f_5))]) hP hD [0, 1, 2] (by decide) rfl
    have hK9 := hK.sub (tys' := []) [] rfl
    exact W.iret (v := (r_3 - 1)) hx hb hr (fun t ht hW => ⟨⟨(r_3 - 1), (), rfl, trivial, y_4, f_5, (by show 0 ≤ (y_4 : Int32).toInt ∧ (y_4 : Int32).toInt ≤ 1000; first | decide | (constructor <;> (omega))), (by show (y_4 : Int32).toInt ≤ (n0_ran : Int32).toInt + 1; first | decide | (omega)), by rw [ht]; exact hP9, va_K.moved hW.alike hK9, hD9⟩, hS.F ht⟩) hS.2.2 dX5_runUnder_253
  · skip
    have t_2_0 : (0 : Int) ≤ 6 := t_2_0
    have t_2_1 : (6 : Int) < 8 := t_2_1
    refine lv_if_eq (tgt := 22) hx hb dX5_runUnder_11 (by decide) (fun c => absurd c (by decide)) (fun _ => ?_)
    refine va_gets hx hb hZABOVE hS hown (hts (.fieldLink RX5 22 "KinkStreet$Lines" "ABOVE" "[I") (List.mem_of_getElem? (i := 1) rfl)) (fun _ h9 => h9) dX5_runUnder_14 ?_
    refine lv_iload_n hx hb dX5_runUnder_17 rfl (lv_at hl 3 rfl) ?_
    refine va_ti (v := .int 0) hx hb hTABOVE hS (by unfold vp_in; decide) rfl dX5_runUnder_18 ?_
    refine lv_goto (tgt := 23) hx hb dX5_runUnder_19 (by decide) ?_
    refine lv_istore (lv' := [(7, .int 0), (6, .int r_1), (0, .ref h0), (1, .int p0), (2, .int 6), (3, .int 0), (4, .int p3), (5, .int p4)]) hx hb dX5_runUnder_23 hl (by decide) rfl (fun ls hl => ?_)
    refine lv_iload_n hx hb dX5_runUnder_25 rfl (lv_at hl 5 rfl) ?_
    refine lv_lookup (tgt := 239) (off := 213) hx hb dX5_runUnder_26 (by decide) (by decide) (by decide) ?_
    refine lv_aload_n hx hb dX5_runUnder_239 rfl (lv_at hl 2 rfl) ?_
    refine lv_iload_n hx hb dX5_runUnder_240 rfl (lv_at hl 3 rfl) ?_
    refine lv_iload hx hb dX5_runUnder_241 (lv_at hl 0 rfl) ?_
    refine lv_iconst (v := 2) hx hb dX5_runUnder_243 (by decide) ?_
    refine lv_iload hx hb dX5_runUnder_244 (lv_at hl 6 rfl) ?_
    refine lv_iload hx hb dX5_runUnder_246 (lv_at hl 7 rfl) ?_
    obtain ⟨hPc, hDc, hFc⟩ := kk_cutout (wc := [(h0, Sum.inr (5, [Value.ref h1, Value.int n0_size, Value.ref h2, Value.int n0_ran])), (h1, Sum.inl (cint, 50, Sum.inl f1)), (h2, Sum.inl (cint, 24, Sum.inl f2))]) hP hD hS hA [1, 2, 0] (by decide) rfl
    have hKc := hK.sub (tys' := [(cint, .int)]) [0] rfl
    refine va_calli (va_runV (As := [.int p0, .int 0, .int 2, .int p3, .int p4]) (rest := []) ⟨hx, hb, hml, hown, hts⟩ (g_X5_call_1 l dC dI h0 h1 h2 cint H.size p0 p3 p4 n0_size n0_ran f1 f2 tn0_size tn0_ran bf1 aOWN_BODIES) (cwV 5 hts gX5_runUnder_X5_call rfl rfl rfl (by decide +kernel) ⟨Nat.le_of_ble_eq_true rfl, Nat.le_of_ble_eq_true rfl⟩) ⟨fun a U g mk q => by obtain ⟨q0, q1, qP, qK, qD, qx0, qx1⟩ := q; exact ⟨q0, q1, qP, va_K.moved (u := U) (U := U.calling g mk a) (Vm.Alike.refl U.vm) qK, qD, va_Z.moved (u := U) (U := U.calling g mk a) (Vm.Alike.refl U.vm) qx0, va_T.moved (u := U) (U := U.calling g mk a) (Vm.Alike.refl U.vm) qx1⟩, va_recv hKc hPc (ci := 5) (q0 := 0) rfl rfl, fun U hU hW => ⟨rfl, by rw [hU], by rw [hU]; exact hPc, va_K.moved hW.alike hKc, hDc.weaken (fun _ _ _ _ => trivial), by rw [hU]; exact ((hZOWN_BODIES.kept (fun a h1 h2 => hS.2.1 a h1 h2)).narrow hFc).moved hW.alike, by rw [hU]; exact ((hTOWN_BODIES.kept (fun a h1 h2 => hS.2.1 a h1 h2)).narrow hFc).moved hW.alike⟩⟩ rfl rfl hl.1 rfl (lv_room (Nat.le_of_ble_eq_true rfl)) dX5_runUnder_248 ⟨Nat.le_of_ble_eq_true rfl, Nat.le_of_ble_eq_true rfl⟩) hS (fun q _ h => hFc q h) hFc (fun r_6 u t H1 locs ht hvm hw hB hz1 hk1 hS => ?_)
    obtain ⟨y_7, f_8, by_7, v_8_0, hP1, hK1, hD1⟩ := hB
    have v_8_0 : y_7.toInt ≤ n0_ran.toInt + 1 := v_8_0
    rw [ht] at hP1
    have hK1 := va_K.moved hvm.symm hK1
    obtain ⟨hP, hD⟩ := va_join (wr := []) (w1 := [(h0, Sum.inr (5, [Value.ref h1, Value.int n0_size, Value.ref h2, Value.int y_7])), (h1, Sum.inl (cint, 50, Sum.inl f1)), (h2, Sum.inl (cint, 24, Sum.inl f_8))]) hP hD [1, 2, 0] [] rfl rfl (by decide) (by decide) hk1 hFc hP1 hD1
    generalize H1 = H at hP hS ⊢
    have hP : va_P (dC, dI) vwCl [(h0, Sum.inr (5, [Value.ref h1, Value.int n0_size, Value.ref h2, Value.int y_7])), (h1, Sum.inl (cint, 50, Sum.inl f1)), (h2, Sum.inl (cint, 24, Sum.inl f_8))] H := hP
    have hD : va_D A [(h0, Sum.inr (5, [Value.ref h1, Value.int n0_size, Value.ref h2, Value.int y_7])), (h1, Sum.inl (cint, 50, Sum.inl f1)), (h2, Sum.inl (cint, 24, Sum.inl f_8))] := hD
    refine lv_iconst (v := 1) hx hb dX5_runUnder_251 (by decide) ?_
    refine lv_isub hx hb dX5_runUnder_252 ?_
    obtain ⟨hP9, hD9⟩ := kk_leafout (wc := [(h0, Sum.inr (5, [Value.ref h1, Value.int n0_size, Value.ref h2, Value.int y_7])), (h1, Sum.inl (cint, 50, Sum.inl f1)), (h2, Sum.inl (cint, 24, Sum.inl f_8))]) hP hD [0, 1, 2] (by decide) rfl
    have hK9 := hK.sub (tys' := []) [] rfl
    exact W.iret (v := (r_6 - 1)) hx hb hr (fun t ht hW => ⟨⟨(r_6 - 1), (), rfl, trivial, y_7, f_8, (by show 0 ≤ (y_7 : Int32).toInt ∧ (y_7 : Int32).toInt ≤ 1000; first | decide | (constructor <;> (omega))), (by show (y_7 : Int32).toInt ≤ (n0_ran : Int32).toInt + 1; first | decide | (omega)), by rw [ht]; exact hP9, va_K.moved hW.alike hK9, hD9⟩, hS.F ht⟩) hS.2.2 dX5_runUnder_253
set_option maxHeartbeats 4000000 in
set_option maxRecDepth 100000 in
theorem g_X5_runUnder_12 (l : Launch) (dC : Nat → ClassId) (dI : Nat → Nat → Nat) (h0 : Nat) (h1 : Nat) (h2 : Nat) (cint : ClassId) (sz : Nat) (p0 : Int32) (p3 : Int32) (p4 : Int32) (n0_size : Int32) (n0_ran : Int32) (f1 : Nat → Int32) (f2 : Nat → Int32) (tn0_size : 0 ≤ n0_size.toInt ∧ n0_size.toInt ≤ 50) (tn0_ran : 0 ≤ n0_ran.toInt ∧ n0_ran.toInt ≤ 998) (bf1 : ∀ j, j < 50 → 0 ≤ (f1 j).toInt ∧ (f1 j).toInt ≤ 7) (aOWN_BODIES : Nat) (aABOVE : Nat) : Met l yX5_runUnder wsX5_runUnder ({ frames := 6, cells := 0, slots := 0, locals := 148 }) (va_Pc [.ref h0, .int p0, .int 7, .int 81, .int p3, .int p4] (fun U => U.heap.size = sz ∧ va_P (dC, dI) vwCl [(h0, Sum.inr (5, [Value.ref h1, Value.int n0_size, Value.ref h2, Value.int n0_ran])), (h1, Sum.inl (cint, 50, Sum.inl f1)), (h2, Sum.inl (cint, 24, Sum.inl f2))] U.heap ∧ va_K (dC, dI) vwCl [(cint, .int)] U ∧ va_D (fun _ => True) [(h0, Sum.inr (5, [Value.ref h1, Value.int n0_size, Value.ref h2, Value.int n0_ran])), (h1, Sum.inl (cint, 50, Sum.inl f1)), (h2, Sum.inl (cint, 24, Sum.inl f2))] ∧ va_Z "KinkStreet$Lines" "OWN_BODIES" "[I" (.ref aOWN_BODIES) (va_A [(h0, Sum.inr (5, [Value.ref h1, Value.int n0_size, Value.ref h2, Value.int n0_ran])), (h1, Sum.inl (cint, 50, Sum.inl f1)), (h2, Sum.inl (cint, 24, Sum.inl f2))] sz) U U.heap ∧ va_T .int aOWN_BODIES 32 tb_OWN_BODIES (va_A [(h0, Sum.inr (5, [Value.ref h1, Value.int n0_size, Value.ref h2, Value.int n0_ran])), (h1, Sum.inl (cint, 50, Sum.inl f1)), (h2, Sum.inl (cint, 24, Sum.inl f2))] sz) U U.heap ∧ va_Z "KinkStreet$Lines" "ABOVE" "[I" (.ref aABOVE) (va_A [(h0, Sum.inr (5, [Value.ref h1, Value.int n0_size, Value.ref h2, Value.int n0_ran])), (h1, Sum.inl (cint, 50, Sum.inl f1)), (h2, Sum.inl (cint, 24, Sum.inl f2))] sz) U U.heap ∧ va_T .int aABOVE 8 tb_ABOVE (va_A [(h0, Sum.inr (5, [Value.ref h1, Value.int n0_size, Value.ref h2, Value.int n0_ran])), (h1, Sum.inl (cint, 50, Sum.inl f1)), (h2, Sum.inl (cint, 24, Sum.inl f2))] sz) U U.heap)) (va_Qi (fun (r : Int32) (_ : Unit) => True) (fun (_ : Unit) t => ∃ (m0_ran : Int32) (g2 : Nat → Int32), (0 ≤ m0_ran.toInt ∧ m0_ran.toInt ≤ 1000) ∧ (m0_ran.toInt ≤ n0_ran.toInt + 2) ∧ va_P (dC, dI) vwCl [(h0, Sum.inr (5, [Value.ref h1, Value.int n0_size, Value.ref h2, Value.int m0_ran])), (h1, Sum.inl (cint, 50, Sum.inl f1)), (h2, Sum.inl (cint, 24, Sum.inl g2))] t.heap ∧ va_K (dC, dI) vwCl [] t ∧ va_D (va_A [(h0, Sum.inr (5, [Value.ref h1, Value.int n0_size, Value.ref h2, Value.int n0_ran])), (h1, Sum.inl (cint, 50, Sum.inl f1)), (h2, Sum.inl (cint, 24, Sum.inl f2))] sz) [(h0, Sum.inr (5, [Value.ref h1, Value.int n0_size, Value.ref h2, Value.int m0_ran])), (h1, Sum.inl (cint, 50, Sum.inl f1)), (h2, Sum.inl (cint, 24, Sum.inl g2))]) (va_A [(h0, Sum.inr (5, [Value.ref h1, Value.int n0_size, Value.ref h2, Value.int n0_ran])), (h1, Sum.inl (cint, 50, Sum.inl f1)), (h2, Sum.inl (cint, 24, Sum.inl f2))] sz)) 0 0 (va_A [(h0, Sum.inr (5, [Value.ref h1, Value.int n0_size, Value.ref h2, Value.int n0_ran])), (h1, Sum.inl (cint, 50, Sum.inl f1)), (h2, Sum.inl (cint, 24, Sum.inl f2))] sz) := by
  refine Met.ofW (cc := cX5_runUnder) (maxL := 8) (ret := (some .int)) (by decide) rfl ?_
  intro p e s m args below meth c s₁ B hml hv
  obtain ⟨rfl, hsz, hP, hK, hD0, hZOWN_BODIES, hTOWN_BODIES, hZABOVE, hTABOVE⟩ := hv
  have hx := B.exec
  have hb := B.bytes
  have hr := B.returns
  have hts := atoms_spec (ws := wsX5_runUnder) B.pre
  have hown : s.vm.findClass RX5 = some m.cls := findClass_of_methodNamed B.named
  have hlocks := B.notSynchronized
  subst hsz
  have hD := hD0.self (sz := s.heap.size)
  generalize hAe : va_A [(h0, Sum.inr (5, [Value.ref h1, Value.int n0_size, Value.ref h2, Value.int n0_ran])), (h1, Sum.inl (cint, 50, Sum.inl f1)), (h2, Sum.inl (cint, 24, Sum.inl f2))] s.heap.size = A at hD hZOWN_BODIES hTOWN_BODIES hZABOVE hTABOVE ⊢
  have hA : ∀ q : Nat, s.heap.size ≤ q → A q := fun q h => by rw [← hAe]; exact Or.inr h
  have hS : va_S A s.heap s.heap [] := va_S.rf
  have hP : va_P (dC, dI) vwCl [(h0, Sum.inr (5, [Value.ref h1, Value.int n0_size, Value.ref h2, Value.int n0_ran])), (h1, Sum.inl (cint, 50, Sum.inl f1)), (h2, Sum.inl (cint, 24, Sum.inl f2))] s.heap := hP
  have hl := lv_entry ([.ref h0, .int p0, .int 7, .int 81, .int p3, .int p4]) (n := 8) (Nat.le_of_ble_eq_true rfl)
  rw [lg_entry_eq]
  generalize (lg_sl ([.ref h0, .int p0, .int 7, .int 81, .int p3, .int p4]) ++ List.replicate (8 - (lg_sl ([.ref h0, .int p0, .int 7, .int 81, .int p3, .int p4])).length) Slot.unset).toArray = ls at hl ⊢
  have hl : lv_has ls 8 [(0, .ref h0), (1, .int p0), (2, .int 7), (3, .int 81), (4, .int p3), (5, .int p4)] := hl
  refine lv_aload_n hx hb dX5_runUnder_0 rfl (lv_at hl 0 rfl) ?_
  refine lv_iload_n hx hb dX5_runUnder_1 rfl (lv_at hl 1 rfl) ?_
  obtain ⟨hPc, hDc, hFc⟩ := kk_cutout (wc := [(h0, Sum.inr (5, [Value.ref h1, Value.int n0_size, Value.ref h2, Value.int n0_ran])), (h1, Sum.inl (cint, 50, Sum.inl f1))]) hP hD hS hA [0, 1] (by decide) rfl
  have hKc := hK.sub (tys' := [(cint, .int)]) [0] rfl
  refine va_calli (va_runV (As := [.int p0]) (rest := []) ⟨hx, hb, hml, hown, hts⟩ (g_X5_kindOf_0 l dC dI h0 h1 h2 cint s.heap.size p0 n0_size n0_ran f1 tn0_size (by show 0 ≤ (n0_ran : Int32).toInt ∧ (n0_ran : Int32).toInt ≤ 1000; first | decide | (constructor <;> (omega))) bf1) (cwV 1 hts gX5_runUnder_X5_kindOf rfl rfl rfl (by decide +kernel) ⟨Nat.le_of_ble_eq_true rfl, Nat.le_of_ble_eq_true rfl⟩) ⟨fun a U g mk q => by obtain ⟨q0, q1, qP, qK, qD⟩ := q; exact ⟨q0, q1, qP, va_K.moved (u := U) (U := U.calling g mk a) (Vm.Alike.refl U.vm) qK, qD⟩, va_recv hKc hPc (ci := 5) (q0 := 0) rfl rfl, fun U hU hW => ⟨rfl, by rw [hU], by rw [hU]; exact hPc, va_K.moved hW.alike hKc, hDc.weaken (fun _ _ _ _ => trivial)⟩⟩ rfl rfl hl.1 rfl (lv_room (Nat.le_of_ble_eq_true rfl)) dX5_runUnder_2 ⟨Nat.le_of_ble_eq_true rfl, Nat.le_of_ble_eq_true rfl⟩) hS (fun q _ h => hFc q h) hFc (fun r_1 u t H1 locs ht hvm hw hB hz1 hk1 hS => ?_)
  obtain ⟨hP1, hK1, hD1⟩ := hB
  rw [ht] at hP1
  have hK1 := va_K.moved hvm.symm hK1
  obtain ⟨hP, hD⟩ := va_join (wr := [(h2, Sum.inl (cint, 24, Sum.inl f2))]) (w1 := [(h0, Sum.inr (5, [Value.ref h1, Value.int n0_size, Value.ref h2, Value.int n0_ran])), (h1, Sum.inl (cint, 50, Sum.inl f1))]) hP hD [0, 1] [2] rfl rfl (by decide) (by decide) hk1 hFc hP1 hD1
  generalize H1 = H at hP hS ⊢
  have hP : va_P (dC, dI) vwCl [(h2, Sum.inl (cint, 24, Sum.inl f2)), (h0, Sum.inr (5, [Value.ref h1, Value.int n0_size, Value.ref h2, Value.int n0_ran])), (h1, Sum.inl (cint, 50, Sum.inl f1))] H := hP
  have hD : va_D A [(h2, Sum.inl (cint, 24, Sum.inl f2)), (h0, Sum.inr (5, [Value.ref h1, Value.int n0_size, Value.ref h2, Value.int n0_ran])), (h1, Sum.inl (cint, 50, Sum.inl f1))] := hD
  have t_1 : (-1) ≤ r_1.toInt ∧ r_1.toInt ≤ 7 := hw
  refine lv_istore (lv' := [(6, .int r_1), (0, .ref h0), (1, .int p0), (2, .int 7), (3, .int 81), (4, .int p3), (5, .int p4)]) hx hb dX5_runUnder_5 hl (by decide) rfl (fun ls hl => ?_)
  refine lv_iload_n hx hb dX5_runUnder_7 rfl (lv_at hl 3 rfl) ?_
  obtain ⟨hPc, hDc, hFc⟩ := kk_cutout (wc := []) hP hD hS hA [] (by decide) rfl
  have hKc := hK.sub (tys' := []) [] rfl
  refine va_calli (va_runS (As := [.int 7]) (rest := []) ⟨hx, hb, hml, hown, hts⟩ (g_X5_isKind_0 l dC dI H.size 7) (va_cwS 1 hts gX5_runUnder_X5_isKind rfl rfl rfl (by decide +kernel) ⟨Nat.le_of_ble_eq_true rfl, Nat.le_of_ble_eq_true rfl⟩) ⟨fun a U g mk q => by obtain ⟨q0, q1, qP, qK, qD⟩ := q; exact ⟨q0, q1, qP, va_K.moved (u := U) (U := U.calling g mk a) (Vm.Alike.refl U.vm) qK, qD⟩, fun U hU hW => ⟨rfl, by rw [hU], by rw [hU]; exact hPc, va_K.moved hW.alike hKc, hDc.weaken (fun _ _ _ _ => trivial)⟩⟩ rfl rfl hl.1 rfl (lv_room (Nat.le_of_ble_eq_true rfl)) dX5_runUnder_8 ⟨Nat.le_of_ble_eq_true rfl, Nat.le_of_ble_eq_true rfl⟩) hS (fun q _ h => hFc q h) hFc (fun r_2 u t H1 locs ht hvm hw hB hz1 hk1 hS => ?_)
  obtain ⟨hP1, hK1, hD1⟩ := hB
  rw [ht] at hP1
  have hK1 := va_K.moved hvm.symm hK1
  obtain ⟨hP, hD⟩ := va_join (wr := [(h2, Sum.inl (cint, 24, Sum.inl f2)), (h0, Sum.inr (5, [Value.ref h1, Value.int n0_size, Value.ref h2, Value.int n0_ran])), (h1, Sum.inl (cint, 50, Sum.inl f1))]) (w1 := []) hP hD [] [0, 1, 2] rfl rfl (by decide) (by decide) hk1 hFc hP1 hD1
  generalize H1 = H at hP hS ⊢
  have hP : va_P (dC, dI) vwCl [(h2, Sum.inl (cint, 24, Sum.inl f2)), (h0, Sum.inr (5, [Value.ref h1, Value.int n0_size, Value.ref h2, Value.int n0_ran])), (h1, Sum.inl (cint, 50, Sum.inl f1))] H := hP
  have hD : va_D A [(h2, Sum.inl (cint, 24, Sum.inl f2)), (h0, Sum.inr (5, [Value.ref h1, Value.int n0_size, Value.ref h2, Value.int n0_ran])), (h1, Sum.inl (cint, 50, Sum.inl f1))] := hD
  rcases hw with ⟨rfl⟩ | ⟨t_2_0, t_2_1, rfl⟩
  · skip
    refine lv_if_eq (tgt := 22) hx hb dX5_runUnder_11 (by decide) (fun _ => ?_) (fun c => absurd c (by decide))
    refine lv_iconst (v := 0) hx hb dX5_runUnder_22 (by decide) ?_
    refine lv_istore (lv' := [(7, .int 0), (6, .int r_1), (0, .ref h0), (1, .int p0), (2, .int 7), (3, .int 81), (4, .int p3), (5, .int p4)]) hx hb dX5_runUnder_23 hl (by decide) rfl (fun ls hl => ?_)
    refine lv_iload_n hx hb dX5_runUnder_25 rfl (lv_at hl 5 rfl) ?_
    refine lv_lookup (tgt := 239) (off := 213) hx hb dX5_runUnder_26 (by decide) (by decide) (by decide) ?_
    refine lv_aload_n hx hb dX5_runUnder_239 rfl (lv_at hl 2 rfl) ?_
    refine lv_iload_n hx hb dX5_runUnder_240 rfl (lv_at hl 3 rfl) ?_
    refine lv_iload hx hb dX5_runUnder_241 (lv_at hl 0 rfl) ?_
    refine lv_iconst (v := 2) hx hb dX5_runUnder_243 (by decide) ?_
    refine lv_iload hx hb dX5_runUnder_244 (lv_at hl 6 rfl) ?_
    refine lv_iload hx hb dX5_runUnder_246 (lv_at hl 7 rfl) ?_
    obtain ⟨hPc, hDc, hFc⟩ := kk_cutout (wc := [(h0, Sum.inr (5, [Value.ref h1, Value.int n0_size, Value.ref h2, Value.int n0_ran])), (h1, Sum.inl (cint, 50, Sum.inl f1)), (h2, Sum.inl (cint, 24, Sum.inl f2))]) hP hD hS hA [1, 2, 0] (by decide) rfl
    have hKc := hK.sub (tys' := [(cint, .int)]) [0] rfl
    refine va_calli (va_runV (As := [.int p0, .int 0, .int 2, .int p3, .int p4]) (rest := []) ⟨hx, hb, hml, hown, hts⟩ (g_X5_call_1 l dC dI h0 h1 h2 cint H.size p0 p3 p4 n0_size n0_ran f1 f2 tn0_size (by show 0 ≤ (n0_ran : Int32).toInt ∧ (n0_ran : Int32).toInt ≤ 999; first | decide | (constructor <;> (omega))) bf1 aOWN_BODIES) (cwV 5 hts gX5_runUnder_X5_call rfl rfl rfl (by decide +kernel) ⟨Nat.le_of_ble_eq_true rfl, Nat.le_of_ble_eq_true rfl⟩) ⟨fun a U g mk q => by obtain ⟨q0, q1, qP, qK, qD, qx0, qx1⟩ := q; exact ⟨q0, q1, qP, va_K.moved (u := U) (U := U.calling g mk a) (Vm.Alike.refl U.vm) qK, qD, va_Z.moved (u := U) (U := U.calling g mk a) (Vm.Alike.refl U.vm) qx0, va_T.moved (u := U) (U := U.calling g mk a) (Vm.Alike.refl U.vm) qx1⟩, va_recv hKc hPc (ci := 5) (q0 := 0) rfl rfl, fun U hU hW => ⟨rfl, by rw [hU], by rw [hU]; exact hPc, va_K.moved hW.alike hKc, hDc.weaken (fun _ _ _ _ => trivial), by rw [hU]; exact ((hZOWN_BODIES.kept (fun a h1 h2 => hS.2.1 a h1 h2)).narrow hFc).moved hW.alike, by rw [hU]; exact ((hTOWN_BODIES.kept (fun a h1 h2 => hS.2.1 a h1 h2)).narrow hFc).moved hW.alike⟩⟩ rfl rfl hl.1 rfl (lv_room (Nat.le_of_ble_eq_true rfl)) dX5_runUnder_248 ⟨Nat.le_of_ble_eq_true rfl, Nat.le_of_ble_eq_true rfl⟩) hS (fun q _ h => hFc q h) hFc (fun r_3 u t H1 locs ht hvm hw hB hz1 hk1 hS => ?_)
    obtain ⟨y_4, f_5, by_4, v_5_0, hP1, hK1, hD1⟩ := hB
    have v_5_0 : y_4.toInt ≤ n0_ran.toInt + 1 := v_5_0
    rw [ht] at hP1
    have hK1 := va_K.moved hvm.symm hK1
    obtain ⟨hP, hD⟩ := va_join (wr := []) (w1 := [(h0, Sum.inr (5, [Value.ref h1, Value.int n0_size, Value.ref h2, Value.int y_4])), (h1, Sum.inl (cint, 50, Sum.inl f1)), (h2, Sum.inl (cint, 24, Sum.inl f_5))]) hP hD [1, 2, 0] [] rfl rfl (by decide) (by decide) hk1 hFc hP1 hD1
    generalize H1 = H at hP hS ⊢
    have hP : va_P (dC, dI) vwCl [(h0, Sum.inr (5, [Value.ref h1, Value.int n0_size, Value.ref h2, Value.int y_4])), (h1, Sum.inl (cint, 50, Sum.inl f1)), (h2, Sum.inl (cint, 24, Sum.inl f_5))] H := hP
    have hD : va_D A [(h0, Sum.inr (5, [Value.ref h1, Value.int n0_size, Value.ref h2, Value.int y_4])), (h1, Sum.inl (cint, 50, Sum.inl f1)), (h2, Sum.inl (cint, 24, Sum.inl f_5))] := hD
    refine lv_iconst (v := 1) hx hb dX5_runUnder_251 (by decide) ?_
    refine lv_isub hx hb dX5_runUnder_252 ?_
    obtain ⟨hP9, hD9⟩ := kk_leafout (wc := [(h0, Sum.inr (5, [Value.ref h1, Value.int n0_size, Value.ref h2, Value.int y_4])), (h1, Sum.inl (cint, 50, Sum.inl f1)), (h2, Sum.inl (cint, 24, Sum.inl f_5))]) hP hD [0, 1, 2] (by decide) rfl
    have hK9 := hK.sub (tys' := []) [] rfl
    exact W.iret (v := (r_3 - 1)) hx hb hr (fun t ht hW => ⟨⟨(r_3 - 1), (), rfl, trivial, y_4, f_5, (by show 0 ≤ (y_4 : Int32).toInt ∧ (y_4 : Int32).toInt ≤ 1000; first | decide | (constructor <;> (omega))), (by show (y_4 : Int32).toInt ≤ (n0_ran : Int32).toInt + 2; first | decide | (omega)), by rw [ht]; exact hP9, va_K.moved hW.alike hK9, hD9⟩, hS.F ht⟩) hS.2.2 dX5_runUnder_253
  · skip
    have t_2_0 : (0 : Int) ≤ 7 := t_2_0
    have t_2_1 : (7 : Int) < 8 := t_2_1
    refine lv_if_eq (tgt := 22) hx hb dX5_runUnder_11 (by decide) (fun c => absurd c (by decide)) (fun _ => ?_)
    refine va_gets hx hb hZABOVE hS hown (hts (.fieldLink RX5 22 "KinkStreet$Lines" "ABOVE" "[I") (List.mem_of_getElem? (i := 1) rfl)) (fun _ h9 => h9) dX5_runUnder_14 ?_
    refine lv_iload_n hx hb dX5_runUnder_17 rfl (lv_at hl 3 rfl) ?_
    refine va_ti (v := .int 1) hx hb hTABOVE hS (by unfold vp_in; decide) rfl dX5_runUnder_18 ?_
    refine lv_goto (tgt := 23) hx hb dX5_runUnder_19 (by decide) ?_
    refine lv_istore (lv' := [(7, .int 1), (6, .int r_1), (0, .ref h0), (1, .int p0), (2, .int 7), (3, .int 81), (4, .int p3), (5, .int p4)]) hx hb dX5_runUnder_23 hl (by decide) rfl (fun ls hl => ?_)
    refine lv_iload_n hx hb dX5_runUnder_25 rfl (lv_at hl 5 rfl) ?_
    refine lv_lookup (tgt := 239) (off := 213) hx hb dX5_runUnder_26 (by decide) (by decide) (by decide) ?_
    refine lv_aload_n hx hb dX5_runUnder_239 rfl (lv_at hl 2 rfl) ?_
    refine lv_iload_n hx hb dX5_runUnder_240 rfl (lv_at hl 3 rfl) ?_
    refine lv_iload hx hb dX5_runUnder_241 (lv_at hl 0 rfl) ?_
    refine lv_iconst (v := 2) hx hb dX5_runUnder_243 (by decide) ?_
    refine lv_iload hx hb dX5_runUnder_244 (lv_at hl 6 rfl) ?_
    refine lv_iload hx hb dX5_runUnder_246 (lv_at hl 7 rfl) ?_
    obtain ⟨hPc, hDc, hFc⟩ := kk_cutout (wc := [(h0, Sum.inr (5, [Value.ref h1, Value.int n0_size, Value.ref h2, Value.int n0_ran])), (h1, Sum.inl (cint, 50, Sum.inl f1)), (h2, Sum.inl (cint, 24, Sum.inl f2))]) hP hD hS hA [1, 2, 0] (by decide) rfl
    have hKc := hK.sub (tys' := [(cint, .int)]) [0] rfl
    refine va_calli (va_runV (As := [.int p0, .int 1, .int 2, .int p3, .int p4]) (rest := []) ⟨hx, hb, hml, hown, hts⟩ (g_X5_call_3 l dC dI h0 h1 h2 cint H.size p0 p3 p4 n0_size n0_ran f1 f2 tn0_size tn0_ran bf1 aOWN_BODIES aABOVE) (cwV 5 hts gX5_runUnder_X5_call rfl rfl rfl (by decide +kernel) ⟨Nat.le_of_ble_eq_true rfl, Nat.le_of_ble_eq_true rfl⟩) ⟨fun a U g mk q => by obtain ⟨q0, q1, qP, qK, qD, qx0, qx1, qx2, qx3⟩ := q; exact ⟨q0, q1, qP, va_K.moved (u := U) (U := U.calling g mk a) (Vm.Alike.refl U.vm) qK, qD, va_Z.moved (u := U) (U := U.calling g mk a) (Vm.Alike.refl U.vm) qx0, va_T.moved (u := U) (U := U.calling g mk a) (Vm.Alike.refl U.vm) qx1, va_Z.moved (u := U) (U := U.calling g mk a) (Vm.Alike.refl U.vm) qx2, va_T.moved (u := U) (U := U.calling g mk a) (Vm.Alike.refl U.vm) qx3⟩, va_recv hKc hPc (ci := 5) (q0 := 0) rfl rfl, fun U hU hW => ⟨rfl, by rw [hU], by rw [hU]; exact hPc, va_K.moved hW.alike hKc, hDc.weaken (fun _ _ _ _ => trivial), by rw [hU]; exact ((hZOWN_BODIES.kept (fun a h1 h2 => hS.2.1 a h1 h2)).narrow hFc).moved hW.alike, by rw [hU]; exact ((hTOWN_BODIES.kept (fun a h1 h2 => hS.2.1 a h1 h2)).narrow hFc).moved hW.alike, by rw [hU]; exact ((hZABOVE.kept (fun a h1 h2 => hS.2.1 a h1 h2)).narrow hFc).moved hW.alike, by rw [hU]; exact ((hTABOVE.kept (fun a h1 h2 => hS.2.1 a h1 h2)).narrow hFc).moved hW.alike⟩⟩ rfl rfl hl.1 rfl (lv_room (Nat.le_of_ble_eq_true rfl)) dX5_runUnder_248 ⟨Nat.le_of_ble_eq_true rfl, Nat.le_of_ble_eq_true rfl⟩) hS (fun q _ h => hFc q h) hFc (fun r_6 u t H1 locs ht hvm hw hB hz1 hk1 hS => ?_)
    obtain ⟨y_7, f_8, by_7, v_8_0, hP1, hK1, hD1⟩ := hB
    have v_8_0 : y_7.toInt ≤ n0_ran.toInt + 2 := v_8_0
    rw [ht] at hP1
    have hK1 := va_K.moved hvm.symm hK1
    obtain ⟨hP, hD⟩ := va_join (wr := []) (w1 := [(h0, Sum.inr (5, [Value.ref h1, Value.int n0_size, Value.ref h2, Value.int y_7])), (h1, Sum.inl (cint, 50, Sum.inl f1)), (h2, Sum.inl (cint, 24, Sum.inl f_8))]) hP hD [1, 2, 0] [] rfl rfl (by decide) (by decide) hk1 hFc hP1 hD1
    generalize H1 = H at hP hS ⊢
    have hP : va_P (dC, dI) vwCl [(h0, Sum.inr (5, [Value.ref h1, Value.int n0_size, Value.ref h2, Value.int y_7])), (h1, Sum.inl (cint, 50, Sum.inl f1)), (h2, Sum.inl (cint, 24, Sum.inl f_8))] H := hP
    have hD : va_D A [(h0, Sum.inr (5, [Value.ref h1, Value.int n0_size, Value.ref h2, Value.int y_7])), (h1, Sum.inl (cint, 50, Sum.inl f1)), (h2, Sum.inl (cint, 24, Sum.inl f_8))] := hD
    refine lv_iconst (v := 1) hx hb dX5_runUnder_251 (by decide) ?_
    refine lv_isub hx hb dX5_runUnder_252 ?_
    obtain ⟨hP9, hD9⟩ := kk_leafout (wc := [(h0, Sum.inr (5, [Value.ref h1, Value.int n0_size, Value.ref h2, Value.int y_7])), (h1, Sum.inl (cint, 50, Sum.inl f1)), (h2, Sum.inl (cint, 24, Sum.inl f_8))]) hP hD [0, 1, 2] (by decide) rfl
    have hK9 := hK.sub (tys' := []) [] rfl
    exact W.iret (v := (r_6 - 1)) hx hb hr (fun t ht hW => ⟨⟨(r_6 - 1), (), rfl, trivial, y_7, f_8, (by show 0 ≤ (y_7 : Int32).toInt ∧ (y_7 : Int32).toInt ≤ 1000; first | decide | (constructor <;> (omega))), (by show (y_7 : Int32).toInt ≤ (n0_ran : Int32).toInt + 2; first | decide | (omega)), by rw [ht]; exact hP9, va_K.moved hW.alike hK9, hD9⟩, hS.F ht⟩) hS.2.2 dX5_runUnder_253
