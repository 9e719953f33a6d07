set_option maxHeartbeats 4000000 in
set_option maxRecDepth 100000 in
theorem g_X5_runUnder_9 (l : Launch) (dC : Nat → ClassId) (dI : Nat → Nat → Nat) (h0 : Nat) (h1 : Nat) (h2 : Nat) (cint : ClassId) (sz : Nat) (p0 : Int32) (p3 : Int32) (p4 : Int32) (tp4 : 0 ≤ p4.toInt ∧ p4.toInt ≤ 22) (n0_size : Int32) (n0_ran : Int32) (f1 : Nat → Int32) (f2 : Nat → Int32) (tn0_size : 0 ≤ n0_size.toInt ∧ n0_size.toInt ≤ 50) (tn0_ran : 0 ≤ n0_ran.toInt ∧ n0_ran.toInt ≤ 999) (bf1 : ∀ j, j < 50 → 0 ≤ (f1 j).toInt ∧ (f1 j).toInt ≤ 7) (pr0 : (0 ≤ p0.toInt ∧ p0.toInt < n0_size.toInt)) (aABOVE : Nat) (aOWN_BODIES : Nat) : Met l yX5_runUnder wsX5_runUnder ({ frames := 4, cells := 0, slots := 0, locals := 94 }) (va_Pc [.ref h0, .int p0, .int 1, .int 20, .int p3, .int p4] (fun U => U.heap.size = sz ∧ va_P (dC, dI) vwCl [(h0, kO5 h1 n0_size h2 n0_ran), (h1, kAi cint 50 f1), (h2, kAi cint 24 f2)] U.heap ∧ va_K (dC, dI) vwCl [(cint, .int)] U ∧ va_D (fun _ => True) [(h0, kO5 h1 n0_size h2 n0_ran), (h1, kAi cint 50 f1), (h2, kAi cint 24 f2)] ∧ va_Z "KinkStreet$Lines" "ABOVE" "[I" (.ref aABOVE) (va_A [(h0, kO5 h1 n0_size h2 n0_ran), (h1, kAi cint 50 f1), (h2, kAi cint 24 f2)] sz) U U.heap ∧ va_T .int aABOVE 8 tb_ABOVE (va_A [(h0, kO5 h1 n0_size h2 n0_ran), (h1, kAi cint 50 f1), (h2, kAi cint 24 f2)] sz) U U.heap ∧ va_Z "KinkStreet$Lines" "OWN_BODIES" "[I" (.ref aOWN_BODIES) (va_A [(h0, kO5 h1 n0_size h2 n0_ran), (h1, kAi cint 50 f1), (h2, kAi cint 24 f2)] sz) U U.heap ∧ va_T .int aOWN_BODIES 32 tb_OWN_BODIES (va_A [(h0, kO5 h1 n0_size h2 n0_ran), (h1, kAi cint 50 f1), (h2, kAi cint 24 f2)] sz) U U.heap)) (va_Qi (fun (r : Int32) (_ : Unit) => r = kk_runs 1 p0 p3 ∧ ((p3 + p0) + 3) = r) (fun (_ : Unit) t => ∃ (m0_ran : Int32) (g2 : Nat → Int32), (1 ≤ m0_ran.toInt ∧ m0_ran.toInt ≤ 1000) ∧ (m0_ran.toInt ≤ n0_ran.toInt + 1) ∧ (kk_P f2 g2 n0_ran.toInt m0_ran.toInt ((kt_runs 1).tail)) ∧ va_P (dC, dI) vwCl [(h0, kO5 h1 n0_size h2 m0_ran), (h1, kAi cint 50 f1), (h2, kAi cint 24 g2)] t.heap ∧ va_K (dC, dI) vwCl [] t ∧ va_D (va_A [(h0, kO5 h1 n0_size h2 n0_ran), (h1, kAi cint 50 f1), (h2, kAi cint 24 f2)] sz) [(h0, kO5 h1 n0_size h2 m0_ran), (h1, kAi cint 50 f1), (h2, kAi cint 24 g2)]) (va_A [(h0, kO5 h1 n0_size h2 n0_ran), (h1, kAi cint 50 f1), (h2, kAi cint 24 f2)] sz)) 0 0 (va_A [(h0, kO5 h1 n0_size h2 n0_ran), (h1, kAi cint 50 f1), (h2, kAi cint 24 f2)] sz) := by
  refine Met.ofW (cc := cX5_runUnder) (maxL := 8) (ret := (some .int)) (by decide) rfl ?_
  intro p e s m args below meth c s₁ B hml hv
  obtain ⟨rfl, hsz, hP, hK, hD0, hZABOVE, hTABOVE, hZOWN_BODIES, hTOWN_BODIES⟩ := hv
  have hx := B.exec
  have hb := B.bytes
  have hr := B.returns
  have hts := atoms_spec (ws := wsX5_runUnder) B.pre
  have hown : s.vm.findClass RX5 = some m.cls := findClass_of_methodNamed B.named
  have hlocks := B.notSynchronized
  subst hsz
  have hD := hD0.self (sz := s.heap.size)
  generalize hAe : va_A [(h0, kO5 h1 n0_size h2 n0_ran), (h1, kAi cint 50 f1), (h2, kAi cint 24 f2)] s.heap.size = A at hD hZABOVE hTABOVE hZOWN_BODIES hTOWN_BODIES ⊢
  have hA : ∀ q : Nat, s.heap.size ≤ q → A q := fun q h => by rw [← hAe]; exact Or.inr h
  have hS : va_S A s.heap s.heap [] := va_S.rf
  have hP : va_P (dC, dI) vwCl [(h0, kO5 h1 n0_size h2 n0_ran), (h1, kAi cint 50 f1), (h2, kAi cint 24 f2)] s.heap := hP
  have hl := lv_entry ([.ref h0, .int p0, .int 1, .int 20, .int p3, .int p4]) (n := 8) (Nat.le_of_ble_eq_true rfl)
  rw [lg_entry_eq]
  generalize (lg_sl ([.ref h0, .int p0, .int 1, .int 20, .int p3, .int p4]) ++ List.replicate (8 - (lg_sl ([.ref h0, .int p0, .int 1, .int 20, .int p3, .int p4])).length) Slot.unset).toArray = ls at hl ⊢
  have hl : lv_has ls 8 [(0, .ref h0), (1, .int p0), (2, .int 1), (3, .int 20), (4, .int p3), (5, .int p4)] := hl
  refine lv_aload_n hx hb dX5_runUnder_0 rfl (lv_at hl 0 rfl) ?_
  refine lv_iload_n hx hb dX5_runUnder_1 rfl (lv_at hl 1 rfl) ?_
  obtain ⟨hPc, hDc, hFc⟩ := kk_cutout (wc := [(h0, kO5 h1 n0_size h2 n0_ran), (h1, kAi cint 50 f1)]) hP hD hS hA [0, 1] (by decide) rfl
  have hKc := kk_Ks (tq := [(cint, .int)]) hK [0] rfl
  refine va_calli (va_runV (As := [.int p0]) (rest := []) ⟨hx, hb, hml, hown, hts⟩ (g_X5_kindOf_1 l dC dI h0 h1 h2 cint s.heap.size p0 n0_size n0_ran f1 tn0_size (by show 0 ≤ (n0_ran : Int32).toInt ∧ (n0_ran : Int32).toInt ≤ 1000; first | with_reducible assumption | (constructor <;> (omega))) bf1) (cwV 1 hts gX5_runUnder_X5_kindOf rfl rfl rfl ⟨rfl, kh_X5_kindOf⟩ ⟨Nat.le_of_ble_eq_true rfl, Nat.le_of_ble_eq_true rfl⟩) ⟨fun a U g mk q => by obtain ⟨q0, q1, qP, qK, qD⟩ := q; exact ⟨q0, q1, qP, va_K.moved (u := U) (U := U.calling g mk a) (Vm.Alike.refl U.vm) qK, qD⟩, va_recv hKc hPc (ci := 5) (q0 := 0) rfl rfl, fun U hU hW => ⟨rfl, by rw [hU], by rw [hU]; exact hPc, va_K.moved hW.alike hKc, hDc.weaken (fun _ _ _ _ => trivial)⟩⟩ rfl rfl hl.1 rfl (lv_room (Nat.le_of_ble_eq_true rfl)) dX5_runUnder_2 ⟨Nat.le_of_ble_eq_true rfl, Nat.le_of_ble_eq_true rfl⟩) hS (fun q _ h => hFc q h) hFc (fun r_1 u t H1 locs ht hvm hw hB hz1 hk1 hS => ?_)
  obtain ⟨hP1, hK1, hD1⟩ := hB
  rw [ht] at hP1
  have hK1 := va_K.moved hvm.symm hK1
  obtain ⟨hP, hD⟩ := va_join (wr := [(h2, kAi cint 24 f2)]) (w1 := [(h0, kO5 h1 n0_size h2 n0_ran), (h1, kAi cint 50 f1)]) hP hD [0, 1] [2] rfl rfl (by decide) (by decide) hk1 hFc hP1 hD1
  generalize H1 = H at hP hS ⊢
  have hP : va_P (dC, dI) vwCl [(h2, kAi cint 24 f2), (h0, kO5 h1 n0_size h2 n0_ran), (h1, kAi cint 50 f1)] H := hP
  have hD : va_D A [(h2, kAi cint 24 f2), (h0, kO5 h1 n0_size h2 n0_ran), (h1, kAi cint 50 f1)] := hD
  rcases hw with ⟨t_1_0, t_1_1, t_1_any⟩
  · skip
    have t_1_0 : ((0 ≤ p0.toInt ∧ p0.toInt < n0_size.toInt → r_1.toInt = (f1 (p0 : Int32).toNatClampNeg).toInt ∧ 0 ≤ (f1 (p0 : Int32).toNatClampNeg).toInt) ∧ (¬ (0 ≤ p0.toInt ∧ p0.toInt < n0_size.toInt) → r_1.toInt = -1)) := t_1_0
    have t_1_1 : (0 ≤ p0.toInt ∧ p0.toInt < n0_size.toInt → r_1 = (f1 (p0 : Int32).toNatClampNeg)) := t_1_1
    obtain rfl : r_1 = (f1 (p0 : Int32).toNatClampNeg) := t_1_1 (by omega)
    refine lv_istore hx hb dX5_runUnder_5 hl (by decide) (rfl : _ = ([(6, .int (f1 (p0 : Int32).toNatClampNeg)), (0, .ref h0), (1, .int p0), (2, .int 1), (3, .int 20), (4, .int p3), (5, .int p4)] : List (Nat × Value))) (fun ls hl => ?_)
    refine lv_iload_n hx hb dX5_runUnder_7 rfl (lv_at hl 3 rfl) ?_
    obtain ⟨hPc, hDc, hFc⟩ := kk_cutout (wc := []) hP hD hS hA [] (by decide) rfl
    have hKc := kk_Ks (tq := []) hK [] rfl
    refine va_calli (va_runS (As := [.int 1]) (rest := []) ⟨hx, hb, hml, hown, hts⟩ (g_X5_isKind_12 l dC dI H.size) (va_cwS 1 hts gX5_runUnder_X5_isKind rfl rfl rfl kh_X5_isKind ⟨Nat.le_of_ble_eq_true rfl, Nat.le_of_ble_eq_true rfl⟩) ⟨fun a U g mk q => by obtain ⟨q0, q1, qP, qK, qD⟩ := q; exact ⟨q0, q1, qP, va_K.moved (u := U) (U := U.calling g mk a) (Vm.Alike.refl U.vm) qK, qD⟩, fun U hU hW => ⟨rfl, by rw [hU], by rw [hU]; exact hPc, va_K.moved hW.alike hKc, hDc.weaken (fun _ _ _ _ => trivial)⟩⟩ rfl rfl hl.1 rfl (lv_room (Nat.le_of_ble_eq_true rfl)) dX5_runUnder_8 ⟨Nat.le_of_ble_eq_true rfl, Nat.le_of_ble_eq_true rfl⟩) hS (fun q _ h => hFc q h) hFc (fun r_2 u t H1 locs ht hvm hw hB hz1 hk1 hS => ?_)
    obtain ⟨hP1, hK1, hD1⟩ := hB
    rw [ht] at hP1
    have hK1 := va_K.moved hvm.symm hK1
    obtain ⟨hP, hD⟩ := va_join (wr := [(h2, kAi cint 24 f2), (h0, kO5 h1 n0_size h2 n0_ran), (h1, kAi cint 50 f1)]) (w1 := []) hP hD [] [0, 1, 2] rfl rfl (by decide) (by decide) hk1 hFc hP1 hD1
    generalize H1 = H at hP hS ⊢
    have hP : va_P (dC, dI) vwCl [(h2, kAi cint 24 f2), (h0, kO5 h1 n0_size h2 n0_ran), (h1, kAi cint 50 f1)] H := hP
    have hD : va_D A [(h2, kAi cint 24 f2), (h0, kO5 h1 n0_size h2 n0_ran), (h1, kAi cint 50 f1)] := hD
    obtain rfl := hw
    refine lv_if_eq (tgt := 22) hx hb dX5_runUnder_11 (by decide) (fun c => absurd c (by decide)) (fun _ => ?_)
    refine va_gets hx hb hZABOVE hS hown (hts (.fieldLink RX5 22 "KinkStreet$Lines" "ABOVE" "[I") (List.mem_of_getElem? (i := 1) rfl)) (fun _ h9 => h9) dX5_runUnder_14 ?_
    refine lv_iload_n hx hb dX5_runUnder_17 rfl (lv_at hl 3 rfl) ?_
    refine va_ti (v := .int 0) hx hb hTABOVE hS (by unfold vp_in; decide) rfl dX5_runUnder_18 ?_
    refine lv_goto (tgt := 23) hx hb dX5_runUnder_19 (by decide) ?_
    refine lv_istore hx hb dX5_runUnder_23 hl (by decide) (rfl : _ = ([(7, .int 0), (6, .int (f1 (p0 : Int32).toNatClampNeg)), (0, .ref h0), (1, .int p0), (2, .int 1), (3, .int 20), (4, .int p3), (5, .int p4)] : List (Nat × Value))) (fun ls hl => ?_)
    refine lv_iload_n hx hb dX5_runUnder_25 rfl (lv_at hl 5 rfl) ?_
    refine lv_lookup (tgt := 100) (off := 74) hx hb dX5_runUnder_26 (by decide) (by decide) (by decide) ?_
    refine lv_aload_n hx hb dX5_runUnder_100 rfl (lv_at hl 2 rfl) ?_
    refine lv_iload_n hx hb dX5_runUnder_101 rfl (lv_at hl 3 rfl) ?_
    refine lv_iload hx hb dX5_runUnder_102 (lv_at hl 0 rfl) ?_
    refine lv_iconst (v := 0) hx hb dX5_runUnder_104 kk_ic_0 ?_
    refine lv_iload hx hb dX5_runUnder_105 (lv_at hl 6 rfl) ?_
    refine lv_iload hx hb dX5_runUnder_107 (lv_at hl 7 rfl) ?_
    obtain ⟨hPc, hDc, hFc⟩ := kk_cutout (wc := [(h0, kO5 h1 n0_size h2 n0_ran), (h1, kAi cint 50 f1), (h2, kAi cint 24 f2)]) hP hD hS hA [1, 2, 0] (by decide) rfl
    have hKc := kk_Ks (tq := [(cint, .int)]) hK [0] rfl
    refine va_calli (va_runV (As := [.int p0, .int 0, .int 0, .int p3, .int p4]) (rest := []) ⟨hx, hb, hml, hown, hts⟩ (g_X5_call_12 l dC dI h0 h1 h2 cint H.size p0 p3 p4 tp4 n0_size n0_ran f1 f2 tn0_size tn0_ran bf1 (by show (0 ≤ (p0 : Int32).toInt ∧ (p0 : Int32).toInt < (n0_size : Int32).toInt); first | with_reducible assumption | (omega)) aOWN_BODIES) (cwV 5 hts gX5_runUnder_X5_call rfl rfl rfl ⟨rfl, kh_X5_call⟩ ⟨Nat.le_of_ble_eq_true rfl, Nat.le_of_ble_eq_true rfl⟩) ⟨fun a U g mk q => by obtain ⟨q0, q1, qP, qK, qD, qx0, qx1⟩ := q; exact ⟨q0, q1, qP, va_K.moved (u := U) (U := U.calling g mk a) (Vm.Alike.refl U.vm) qK, qD, va_Z.moved (u := U) (U := U.calling g mk a) (Vm.Alike.refl U.vm) qx0, va_T.moved (u := U) (U := U.calling g mk a) (Vm.Alike.refl U.vm) qx1⟩, va_recv hKc hPc (ci := 5) (q0 := 0) rfl rfl, fun U hU hW => ⟨rfl, by rw [hU], by rw [hU]; exact hPc, va_K.moved hW.alike hKc, hDc.weaken (fun _ _ _ _ => trivial), by rw [hU]; exact ((hZOWN_BODIES.kept (fun a h1 h2 => hS.2.1 a h1 h2)).narrow hFc).moved hW.alike, by rw [hU]; exact ((hTOWN_BODIES.kept (fun a h1 h2 => hS.2.1 a h1 h2)).narrow hFc).moved hW.alike⟩⟩ rfl rfl hl.1 rfl (lv_room (Nat.le_of_ble_eq_true rfl)) dX5_runUnder_109 ⟨Nat.le_of_ble_eq_true rfl, Nat.le_of_ble_eq_true rfl⟩) hS (fun q _ h => hFc q h) hFc (fun r_3 u t H1 locs ht hvm hw hB hz1 hk1 hS => ?_)
    obtain ⟨y_4, f_5, by_4, v_5_0, hn_5_0, hP1, hK1, hD1⟩ := hB
    have v_5_0 : y_4.toInt ≤ n0_ran.toInt + 1 := v_5_0
    have hn_5_0 : kk_P f2 f_5 n0_ran.toInt y_4.toInt (kt_runs 0) := hn_5_0
    rw [ht] at hP1
    have hK1 := va_K.moved hvm.symm hK1
    obtain ⟨hP, hD⟩ := va_join (wr := []) (w1 := [(h0, kO5 h1 n0_size h2 y_4), (h1, kAi cint 50 f1), (h2, kAi cint 24 f_5)]) hP hD [1, 2, 0] [] rfl rfl (by decide) (by decide) hk1 hFc hP1 hD1
    generalize H1 = H at hP hS ⊢
    have hP : va_P (dC, dI) vwCl [(h0, kO5 h1 n0_size h2 y_4), (h1, kAi cint 50 f1), (h2, kAi cint 24 f_5)] H := hP
    have hD : va_D A [(h0, kO5 h1 n0_size h2 y_4), (h1, kAi cint 50 f1), (h2, kAi cint 24 f_5)] := hD
    rcases hw with ⟨t_3_0, rfl⟩
    · skip
      have t_3_0 : (p3 + p0) = kk_runs 0 p0 p3 := t_3_0
      refine lv_iconst (v := 3) hx hb dX5_runUnder_112 kk_ic_3 ?_
      refine lv_iadd hx hb dX5_runUnder_113 ?_
      obtain ⟨hP9, hD9⟩ := kk_leafout (wc := [(h0, kO5 h1 n0_size h2 y_4), (h1, kAi cint 50 f1), (h2, kAi cint 24 f_5)]) hP hD [0, 1, 2] (by decide) rfl
      have hK9 := kk_Ks (tq := []) hK [] rfl
      exact W.iret (v := ((p3 + p0) + 3)) hx hb hr (fun t ht hW => ⟨⟨((p3 + p0) + 3), (), rfl, ⟨(by first | rfl | (unfold kk_runs; (repeat' split) <;> first | rfl | (exfalso; have : (0 : Int32).toInt = 0 := rfl; have : (1 : Int32).toInt = 1 := rfl; have : (2 : Int32).toInt = 2 := rfl; have : (3 : Int32).toInt = 3 := rfl; have : (4 : Int32).toInt = 4 := rfl; have : (5 : Int32).toInt = 5 := rfl; have : (6 : Int32).toInt = 6 := rfl; have : (7 : Int32).toInt = 7 := rfl; omega))), rfl⟩, y_4, f_5, (by show 1 ≤ (y_4 : Int32).toInt ∧ (y_4 : Int32).toInt ≤ 1000; first | with_reducible assumption | (constructor <;> (omega))), (by show (y_4 : Int32).toInt ≤ (n0_ran : Int32).toInt + 1; first | with_reducible assumption | (omega)), (by first | exact kk_P_eq hn_5_0 rfl | (unfold kt_runs; (repeat' split) <;> first | exact kk_P_eq hn_5_0 rfl | (exfalso; have : (0 : Int32).toInt = 0 := rfl; have : (1 : Int32).toInt = 1 := rfl; have : (2 : Int32).toInt = 2 := rfl; have : (3 : Int32).toInt = 3 := rfl; have : (4 : Int32).toInt = 4 := rfl; have : (5 : Int32).toInt = 5 := rfl; have : (6 : Int32).toInt = 6 := rfl; have : (7 : Int32).toInt = 7 := rfl; omega))), by rw [ht]; exact hP9, va_K.moved hW.alike hK9, hD9⟩, hS.F ht⟩) hS.2.2 dX5_runUnder_114
set_option maxHeartbeats 4000000 in
set_option maxRecDepth 100000 in
theorem g_X5_isKind_13 (l : Launch) (dC : Nat → ClassId) (dI : Nat → Nat → Nat) (sz : Nat)  : Met l yX5_isKind wsX5_isKind ({ frames := 0, cells := 0, slots := 0, locals := 0 }) (va_Pc [.int 2] (fun U => U.heap.size = sz ∧ va_P (dC, dI) vwCl [] U.heap ∧ va_K (dC, dI) vwCl [] U ∧ va_D (fun _ => True) [])) (va_Qi (fun (r : Int32) (_ : Unit) => (1 : Int32) = r) (fun (_ : Unit) t => va_P (dC, dI) vwCl [] t.heap ∧ va_K (dC, dI) vwCl [] t ∧ va_D (va_A [] sz) []) (va_A [] sz)) 0 0 (va_A [] sz) := by
  refine Met.ofW (cc := cX5_isKind) (maxL := 1) (ret := (some .boolean)) (by decide) rfl ?_
  intro p e s m args below meth c s₁ B hml hv
  obtain ⟨rfl, hsz, hP, hK, hD0⟩ := hv
  have hx := B.exec
  have hb := B.bytes
  have hr := B.returns
  have hts := atoms_spec (ws := wsX5_isKind) B.pre
  have hown : s.vm.findClass RX5 = some m.cls := findClass_of_methodNamed B.named
  have hlocks := B.notSynchronized
  subst hsz
  have hD := hD0.self (sz := s.heap.size)
  generalize hAe : va_A [] s.heap.size = A at hD ⊢
  have hA : ∀ q : Nat, s.heap.size ≤ q → A q := fun q h => by rw [← hAe]; exact Or.inr h
  have hS : va_S A s.heap s.heap [] := va_S.rf
  have hP : va_P (dC, dI) vwCl [] s.heap := hP
  have hl := lv_entry ([.int 2]) (n := 1) (Nat.le_of_ble_eq_true rfl)
  rw [lg_entry_eq]
  generalize (lg_sl ([.int 2]) ++ List.replicate (1 - (lg_sl ([.int 2])).length) Slot.unset).toArray = ls at hl ⊢
  have hl : lv_has ls 1 [(0, .int 2)] := hl
  refine lv_iload_n hx hb dX5_isKind_0 rfl (lv_at hl 0 rfl) ?_
  refine lv_if_lt (tgt := 14) hx hb dX5_isKind_1 (by decide) (fun c => absurd c (by decide)) (fun _ => ?_)
  refine lv_iload_n hx hb dX5_isKind_4 rfl (lv_at hl 0 rfl) ?_
  refine lv_bipush (v := 8) hx hb dX5_isKind_5 kk_bi_8 ?_
  refine lv_icmp_ge (tgt := 14) hx hb dX5_isKind_7 (by decide) (fun c => absurd c (by decide)) (fun _ => ?_)
  refine lv_iconst (v := 1) hx hb dX5_isKind_10 kk_ic_1 ?_
  refine lv_goto (tgt := 15) hx hb dX5_isKind_11 (by decide) ?_
  obtain ⟨hP9, hD9⟩ := kk_leafout (wc := []) hP hD [] (by decide) rfl
  have hK9 := kk_Ks (tq := []) hK [] rfl
  exact W.zret (v := 1) hx hb hr rfl (fun t ht hW => ⟨⟨1, (), rfl, rfl, by rw [ht]; exact hP9, va_K.moved hW.alike hK9, hD9⟩, hS.F ht⟩) hS.2.2 dX5_isKind_15
set_option maxHeartbeats 4000000 in
set_option maxRecDepth 100000 in
theorem g_X5_isKind_14 (l : Launch) (dC : Nat → ClassId) (dI : Nat → Nat → Nat) (sz : Nat)  : Met l yX5_isKind wsX5_isKind ({ frames := 0, cells := 0, slots := 0, locals := 0 }) (va_Pc [.int 3] (fun U => U.heap.size = sz ∧ va_P (dC, dI) vwCl [] U.heap ∧ va_K (dC, dI) vwCl [] U ∧ va_D (fun _ => True) [])) (va_Qi (fun (r : Int32) (_ : Unit) => (1 : Int32) = r) (fun (_ : Unit) t => va_P (dC, dI) vwCl [] t.heap ∧ va_K (dC, dI) vwCl [] t ∧ va_D (va_A [] sz) []) (va_A [] sz)) 0 0 (va_A [] sz) := by
  refine Met.ofW (cc := cX5_isKind) (maxL := 1) (ret := (some .boolean)) (by decide) rfl ?_
  intro p e s m args below meth c s₁ B hml hv
  obtain ⟨rfl, hsz, hP, hK, hD0⟩ := hv
  have hx := B.exec
  have hb := B.bytes
  have hr := B.returns
  have hts := atoms_spec (ws := wsX5_isKind) B.pre
  have hown : s.vm.findClass RX5 = some m.cls := findClass_of_methodNamed B.named
  have hlocks := B.notSynchronized
  subst hsz
  have hD := hD0.self (sz := s.heap.size)
  generalize hAe : va_A [] s.heap.size = A at hD ⊢
  have hA : ∀ q : Nat, s.heap.size ≤ q → A q := fun q h => by rw [← hAe]; exact Or.inr h
  have hS : va_S A s.heap s.heap [] := va_S.rf
  have hP : va_P (dC, dI) vwCl [] s.heap := hP
  have hl := lv_entry ([.int 3]) (n := 1) (Nat.le_of_ble_eq_true rfl)
  rw [lg_entry_eq]
  generalize (lg_sl ([.int 3]) ++ List.replicate (1 - (lg_sl ([.int 3])).length) Slot.unset).toArray = ls at hl ⊢
  have hl : lv_has ls 1 [(0, .int 3)] := hl
  refine lv_iload_n hx hb dX5_isKind_0 rfl (lv_at hl 0 rfl) ?_
  refine lv_if_lt (tgt := 14) hx hb dX5_isKind_1 (by decide) (fun c => absurd c (by decide)) (fun _ => ?_)
  refine lv_iload_n hx hb dX5_isKind_4 rfl (lv_at hl 0 rfl) ?_
  refine lv_bipush (v := 8) hx hb dX5_isKind_5 kk_bi_8 ?_
  refine lv_icmp_ge (tgt := 14) hx hb dX5_isKind_7 (by decide) (fun c => absurd c (by decide)) (fun _ => ?_)
  refine lv_iconst (v := 1) hx hb dX5_isKind_10 kk_ic_1 ?_
  refine lv_goto (tgt := 15) hx hb dX5_isKind_11 (by decide) ?_
  obtain ⟨hP9, hD9⟩ := kk_leafout (wc := []) hP hD [] (by decide) rfl
  have hK9 := kk_Ks (tq := []) hK [] rfl
  exact W.zret (v := 1) hx hb hr rfl (fun t ht hW => ⟨⟨1, (), rfl, rfl, by rw [ht]; exact hP9, va_K.moved hW.alike hK9, hD9⟩, hS.F ht⟩) hS.2.2 dX5_isKind_15
set_option maxHeartbeats 4000000 in
set_option maxRecDepth 100000 in
theorem g_X5_isKind_15 (l : Launch) (dC : Nat → ClassId) (dI : Nat → Nat → Nat) (sz : Nat)  : Met l yX5_isKind wsX5_isKind ({ frames := 0, cells := 0, slots := 0, locals := 0 }) (va_Pc [.int 4] (fun U => U.heap.size = sz ∧ va_P (dC, dI) vwCl [] U.heap ∧ va_K (dC, dI) vwCl [] U ∧ va_D (fun _ => True) [])) (va_Qi (fun (r : Int32) (_ : Unit) => (1 : Int32) = r) (fun (_ : Unit) t => va_P (dC, dI) vwCl [] t.heap ∧ va_K (dC, dI) vwCl [] t ∧ va_D (va_A [] sz) []) (va_A [] sz)) 0 0 (va_A [] sz) := by
  refine Met.ofW (cc := cX5_isKind) (maxL := 1) (ret := (some .boolean)) (by decide) rfl ?_
  intro p e s m args below meth c s₁ B hml hv
  obtain ⟨rfl, hsz, hP, hK, hD0⟩ := hv
  have hx := B.exec
  have hb := B.bytes
  have hr := B.returns
  have hts := atoms_spec (ws := wsX5_isKind) B.pre
  have hown : s.vm.findClass RX5 = some m.cls := findClass_of_methodNamed B.named
  have hlocks := B.notSynchronized
  subst hsz
  have hD := hD0.self (sz := s.heap.size)
  generalize hAe : va_A [] s.heap.size = A at hD ⊢
  have hA : ∀ q : Nat, s.heap.size ≤ q → A q := fun q h => by rw [← hAe]; exact Or.inr h
  have hS : va_S A s.heap s.heap [] := va_S.rf
  have hP : va_P (dC, dI) vwCl [] s.heap := hP
  have hl := lv_entry ([.int 4]) (n := 1) (Nat.le_of_ble_eq_true rfl)
  rw [lg_entry_eq]
  generalize (lg_sl ([.int 4]) ++ List.replicate (1 - (lg_sl ([.int 4])).length) Slot.unset).toArray = ls at hl ⊢
  have hl : lv_has ls 1 [(0, .int 4)] := hl
  refine lv_iload_n hx hb dX5_isKind_0 rfl (lv_at hl 0 rfl) ?_
  refine lv_if_lt (tgt := 14) hx hb dX5_isKind_1 (by decide) (fun c => absurd c (by decide)) (fun _ => ?_)
  refine lv_iload_n hx hb dX5_isKind_4 rfl (lv_at hl 0 rfl) ?_
  refine lv_bipush (v := 8) hx hb dX5_isKind_5 kk_bi_8 ?_
  refine lv_icmp_ge (tgt := 14) hx hb dX5_isKind_7 (by decide) (fun c => absurd c (by decide)) (fun _ => ?_)
  refine lv_iconst (v := 1) hx hb dX5_isKind_10 kk_ic_1 ?_
  refine lv_goto (tgt := 15) hx hb dX5_isKind_11 (by decide) ?_
  obtain ⟨hP9, hD9⟩ := kk_leafout (wc := []) hP hD [] (by decide) rfl
  have hK9 := kk_Ks (tq := []) hK [] rfl
  exact W.zret (v := 1) hx hb hr rfl (fun t ht hW => ⟨⟨1, (), rfl, rfl, by rw [ht]; exact hP9, va_K.moved hW.alike hK9, hD9⟩, hS.F ht⟩) hS.2.2 dX5_isKind_15
set_option maxHeartbeats 4000000 in
set_option maxRecDepth 100000 in
theorem g_X5_isKind_16 (l : Launch) (dC : Nat → ClassId) (dI : Nat → Nat → Nat) (sz : Nat)  : Met l yX5_isKind wsX5_isKind ({ frames := 0, cells := 0, slots := 0, locals := 0 }) (va_Pc [.int 5] (fun U => U.heap.size = sz ∧ va_P (dC, dI) vwCl [] U.heap ∧ va_K (dC, dI) vwCl [] U ∧ va_D (fun _ => True) [])) (va_Qi (fun (r : Int32) (_ : Unit) => (1 : Int32) = r) (fun (_ : Unit) t => va_P (dC, dI) vwCl [] t.heap ∧ va_K (dC, dI) vwCl [] t ∧ va_D (va_A [] sz) []) (va_A [] sz)) 0 0 (va_A [] sz) := by
  refine Met.ofW (cc := cX5_isKind) (maxL := 1) (ret := (some .boolean)) (by decide) rfl ?_
  intro p e s m args below meth c s₁ B hml hv
  obtain ⟨rfl, hsz, hP, hK, hD0⟩ := hv
  have hx := B.exec
  have hb := B.bytes
  have hr := B.returns
  have hts := atoms_spec (ws := wsX5_isKind) B.pre
  have hown : s.vm.findClass RX5 = some m.cls := findClass_of_methodNamed B.named
  have hlocks := B.notSynchronized
  subst hsz
  have hD := hD0.self (sz := s.heap.size)
  generalize hAe : va_A [] s.heap.size = A at hD ⊢
  have hA : ∀ q : Nat, s.heap.size ≤ q → A q := fun q h => by rw [← hAe]; exact Or.inr h
  have hS : va_S A s.heap s.heap [] := va_S.rf
  have hP : va_P (dC, dI) vwCl [] s.heap := hP
  have hl := lv_entry ([.int 5]) (n := 1) (Nat.le_of_ble_eq_true rfl)
  rw [lg_entry_eq]
  generalize (lg_sl ([.int 5]) ++ List.replicate (1 - (lg_sl ([.int 5])).length) Slot.unset).toArray = ls at hl ⊢
  have hl : lv_has ls 1 [(0, .int 5)] := hl
  refine lv_iload_n hx hb dX5_isKind_0 rfl (lv_at hl 0 rfl) ?_
  refine lv_if_lt (tgt := 14) hx hb dX5_isKind_1 (by decide) (fun c => absurd c (by decide)) (fun _ => ?_)
  refine lv_iload_n hx hb dX5_isKind_4 rfl (lv_at hl 0 rfl) ?_
  refine lv_bipush (v := 8) hx hb dX5_isKind_5 kk_bi_8 ?_
  refine lv_icmp_ge (tgt := 14) hx hb dX5_isKind_7 (by decide) (fun c => absurd c (by decide)) (fun _ => ?_)
  refine lv_iconst (v := 1) hx hb dX5_isKind_10 kk_ic_1 ?_
  refine lv_goto (tgt := 15) hx hb dX5_isKind_11 (by decide) ?_
  obtain ⟨hP9, hD9⟩ := kk_leafout (wc := []) hP hD [] (by decide) rfl
  have hK9 := kk_Ks (tq := []) hK [] rfl
  exact W.zret (v := 1) hx hb hr rfl (fun t ht hW => ⟨⟨1, (), rfl, rfl, by rw [ht]; exact hP9, va_K.moved hW.alike hK9, hD9⟩, hS.F ht⟩) hS.2.2 dX5_isKind_15
set_option maxHeartbeats 4000000 in
set_option maxRecDepth 100000 in
theorem g_X5_isKind_17 (l : Launch) (dC : Nat → ClassId) (dI : Nat → Nat → Nat) (sz : Nat)  : Met l yX5_isKind wsX5_isKind ({ frames := 0, cells := 0, slots := 0, locals := 0 }) (va_Pc [.int 6] (fun U => U.heap.size = sz ∧ va_P (dC, dI) vwCl [] U.heap ∧ va_K (dC, dI) vwCl [] U ∧ va_D (fun _ => True) [])) (va_Qi (fun (r : Int32) (_ : Unit) => (1 : Int32) = r) (fun (_ : Unit) t => va_P (dC, dI) vwCl [] t.heap ∧ va_K (dC, dI) vwCl [] t ∧ va_D (va_A [] sz) []) (va_A [] sz)) 0 0 (va_A [] sz) := by
  refine Met.ofW (cc := cX5_isKind) (maxL := 1) (ret := (some .boolean)) (by decide) rfl ?_
  intro p e s m args below meth c s₁ B hml hv
  obtain ⟨rfl, hsz, hP, hK, hD0⟩ := hv
  have hx := B.exec
  have hb := B.bytes
  have hr := B.returns
  have hts := atoms_spec (ws := wsX5_isKind) B.pre
  have hown : s.vm.findClass RX5 = some m.cls := findClass_of_methodNamed B.named
  have hlocks := B.notSynchronized
  subst hsz
  have hD := hD0.self (sz := s.heap.size)
  generalize hAe : va_A [] s.heap.size = A at hD ⊢
  have hA : ∀ q : Nat, s.heap.size ≤ q → A q := fun q h => by rw [← hAe]; exact Or.inr h
  have hS : va_S A s.heap s.heap [] := va_S.rf
  have hP : va_P (dC, dI) vwCl [] s.heap := hP
  have hl := lv_entry ([.int 6]) (n := 1) (Nat.le_of_ble_eq_true rfl)
  rw [lg_entry_eq]
  generalize (lg_sl ([.int 6]) ++ List.replicate (1 - (lg_sl ([.int 6])).length) Slot.unset).toArray = ls at hl ⊢
  have hl : lv_has ls 1 [(0, .int 6)] := hl
  refine lv_iload_n hx hb dX5_isKind_0 rfl (lv_at hl 0 rfl) ?_
  refine lv_if_lt (tgt := 14) hx hb dX5_isKind_1 (by decide) (fun c => absurd c (by decide)) (fun _ => ?_)
  refine lv_iload_n hx hb dX5_isKind_4 rfl (lv_at hl 0 rfl) ?_
  refine lv_bipush (v := 8) hx hb dX5_isKind_5 kk_bi_8 ?_
  refine lv_icmp_ge (tgt := 14) hx hb dX5_isKind_7 (by decide) (fun c => absurd c (by decide)) (fun _ => ?_)
  refine lv_iconst (v := 1) hx hb dX5_isKind_10 kk_ic_1 ?_
  refine lv_goto (tgt := 15) hx hb dX5_isKind_11 (by decide) ?_
  obtain ⟨hP9, hD9⟩ := kk_leafout (wc := []) hP hD [] (by decide) rfl
  have hK9 := kk_Ks (tq := []) hK [] rfl
  exact W.zret (v := 1) hx hb hr rfl (fun t ht hW => ⟨⟨1, (), rfl, rfl, by rw [ht]; exact hP9, va_K.moved hW.alike hK9, hD9⟩, hS.F ht⟩) hS.2.2 dX5_isKind_15
set_option maxHeartbeats 4000000 in
set_option maxRecDepth 100000 in
theorem g_X5_runUnder_10 (l : Launch) (dC : Nat → ClassId) (dI : Nat → Nat → Nat) (h0 : Nat) (h1 : Nat) (h2 : Nat) (cint : ClassId) (sz : Nat) (p0 : Int32) (p3 : Int32) (p4 : Int32) (tp4 : 0 ≤ p4.toInt ∧ p4.toInt ≤ 22) (n0_size : Int32) (n0_ran : Int32) (f1 : Nat → Int32) (f2 : Nat → Int32) (tn0_size : 0 ≤ n0_size.toInt ∧ n0_size.toInt ≤ 50) (tn0_ran : 0 ≤ n0_ran.toInt ∧ n0_ran.toInt ≤ 999) (bf1 : ∀ j, j < 50 → 0 ≤ (f1 j).toInt ∧ (f1 j).toInt ≤ 7) (pr0 : (0 ≤ p0.toInt ∧ p0.toInt < n0_size.toInt)) (aABOVE : Nat) (aOWN_BODIES : Nat) : Met l yX5_runUnder wsX5_runUnder ({ frames := 4, cells := 0, slots := 0, locals := 94 }) (va_Pc [.ref h0, .int p0, .int 6, .int 70, .int p3, .int p4] (fun U => U.heap.size = sz ∧ va_P (dC, dI) vwCl [(h0, kO5 h1 n0_size h2 n0_ran), (h1, kAi cint 50 f1), (h2, kAi cint 24 f2)] U.heap ∧ va_K (dC, dI) vwCl [(cint, .int)] U ∧ va_D (fun _ => True) [(h0, kO5 h1 n0_size h2 n0_ran), (h1, kAi cint 50 f1), (h2, kAi cint 24 f2)] ∧ va_Z "KinkStreet$Lines" "ABOVE" "[I" (.ref aABOVE) (va_A [(h0, kO5 h1 n0_size h2 n0_ran), (h1, kAi cint 50 f1), (h2, kAi cint 24 f2)] sz) U U.heap ∧ va_T .int aABOVE 8 tb_ABOVE (va_A [(h0, kO5 h1 n0_size h2 n0_ran), (h1, kAi cint 50 f1), (h2, kAi cint 24 f2)] sz) U U.heap ∧ va_Z "KinkStreet$Lines" "OWN_BODIES" "[I" (.ref aOWN_BODIES) (va_A [(h0, kO5 h1 n0_size h2 n0_ran), (h1, kAi cint 50 f1), (h2, kAi cint 24 f2)] sz) U U.heap ∧ va_T .int aOWN_BODIES 32 tb_OWN_BODIES (va_A [(h0, kO5 h1 n0_size h2 n0_ran), (h1, kAi cint 50 f1), (h2, kAi cint 24 f2)] sz) U U.heap)) (va_Qi (fun (r : Int32) (_ : Unit) => r = kk_runs 6 p0 p3 ∧ ((p3 + 1) + p0) = r) (fun (_ : Unit) t => ∃ (m0_ran : Int32) (g2 : Nat → Int32), (1 ≤ m0_ran.toInt ∧ m0_ran.toInt ≤ 1000) ∧ (m0_ran.toInt ≤ n0_ran.toInt + 1) ∧ (kk_P f2 g2 n0_ran.toInt m0_ran.toInt ((kt_runs 6).tail)) ∧ va_P (dC, dI) vwCl [(h0, kO5 h1 n0_size h2 m0_ran), (h1, kAi cint 50 f1), (h2, kAi cint 24 g2)] t.heap ∧ va_K (dC, dI) vwCl [] t ∧ va_D (va_A [(h0, kO5 h1 n0_size h2 n0_ran), (h1, kAi cint 50 f1), (h2, kAi cint 24 f2)] sz) [(h0, kO5 h1 n0_size h2 m0_ran), (h1, kAi cint 50 f1), (h2, kAi cint 24 g2)]) (va_A [(h0, kO5 h1 n0_size h2 n0_ran), (h1, kAi cint 50 f1), (h2, kAi cint 24 f2)] sz)) 0 0 (va_A [(h0, kO5 h1 n0_size h2 n0_ran), (h1, kAi cint 50 f1), (h2, kAi cint 24 f2)] sz) := by
  refine Met.ofW (cc := cX5_runUnder) (maxL := 8) (ret := (some .int)) (by decide) rfl ?_
  intro p e s m args below meth c s₁ B hml hv
  obtain ⟨rfl, hsz, hP, hK, hD0, hZABOVE, hTABOVE, hZOWN_BODIES, hTOWN_BODIES⟩ := hv
  have hx := B.exec
  have hb := B.bytes
  have hr := B.returns
  have hts := atoms_spec (ws := wsX5_runUnder) B.pre
  have hown : s.vm.findClass RX5 = some m.cls := findClass_of_methodNamed B.named
  have hlocks := B.notSynchronized
  subst hsz
  have hD := hD0.self (sz := s.heap.size)
  generalize hAe : va_A [(h0, kO5 h1 n0_size h2 n0_ran), (h1, kAi cint 50 f1), (h2, kAi cint 24 f2)] s.heap.size = A at hD hZABOVE hTABOVE hZOWN_BODIES hTOWN_BODIES ⊢
  have hA : ∀ q : Nat, s.heap.size ≤ q → A q := fun q h => by rw [← hAe]; exact Or.inr h
  have hS : va_S A s.heap s.heap [] := va_S.rf
  have hP : va_P (dC, dI) vwCl [(h0, kO5 h1 n0_size h2 n0_ran), (h1, kAi cint 50 f1), (h2, kAi cint 24 f2)] s.heap := hP
  have hl := lv_entry ([.ref h0, .int p0, .int 6, .int 70, .int p3, .int p4]) (n := 8) (Nat.le_of_ble_eq_true rfl)
  rw [lg_entry_eq]
  generalize (lg_sl ([.ref h0, .int p0, .int 6, .int 70, .int p3, .int p4]) ++ List.replicate (8 - (lg_sl ([.ref h0, .int p0, .int 6, .int 70, .int p3, .int p4])).length) Slot.unset).toArray = ls at hl ⊢
  have hl : lv_has ls 8 [(0, .ref h0), (1, .int p0), (2, .int 6), (3, .int 70), (4, .int p3), (5, .int p4)] := hl
  refine lv_aload_n hx hb dX5_runUnder_0 rfl (lv_at hl 0 rfl) ?_
  refine lv_iload_n hx hb dX5_runUnder_1 rfl (lv_at hl 1 rfl) ?_
  obtain ⟨hPc, hDc, hFc⟩ := kk_cutout (wc := [(h0, kO5 h1 n0_size h2 n0_ran), (h1, kAi cint 50 f1)]) hP hD hS hA [0, 1] (by decide) rfl
  have hKc := kk_Ks (tq := [(cint, .int)]) hK [0] rfl
  refine va_calli (va_runV (As := [.int p0]) (rest := []) ⟨hx, hb, hml, hown, hts⟩ (g_X5_kindOf_1 l dC dI h0 h1 h2 cint s.heap.size p0 n0_size n0_ran f1 tn0_size (by show 0 ≤ (n0_ran : Int32).toInt ∧ (n0_ran : Int32).toInt ≤ 1000; first | with_reducible assumption | (constructor <;> (omega))) bf1) (cwV 1 hts gX5_runUnder_X5_kindOf rfl rfl rfl ⟨rfl, kh_X5_kindOf⟩ ⟨Nat.le_of_ble_eq_true rfl, Nat.le_of_ble_eq_true rfl⟩) ⟨fun a U g mk q => by obtain ⟨q0, q1, qP, qK, qD⟩ := q; exact ⟨q0, q1, qP, va_K.moved (u := U) (U := U.calling g mk a) (Vm.Alike.refl U.vm) qK, qD⟩, va_recv hKc hPc (ci := 5) (q0 := 0) rfl rfl, fun U hU hW => ⟨rfl, by rw [hU], by rw [hU]; exact hPc, va_K.moved hW.alike hKc, hDc.weaken (fun _ _ _ _ => trivial)⟩⟩ rfl rfl hl.1 rfl (lv_room (Nat.le_of_ble_eq_true rfl)) dX5_runUnder_2 ⟨Nat.le_of_ble_eq_true rfl, Nat.le_of_ble_eq_true rfl⟩) hS (fun q _ h => hFc q h) hFc (fun r_1 u t H1 locs ht hvm hw hB hz1 hk1 hS => ?_)
  obtain ⟨hP1, hK1, hD1⟩ := hB
  rw [ht] at hP1
  have hK1 := va_K.moved hvm.symm hK1
  obtain ⟨hP, hD⟩ := va_join (wr := [(h2, kAi cint 24 f2)]) (w1 := [(h0, kO5 h1 n0_size h2 n0_ran), (h1, kAi cint 50 f1)]) hP hD [0, 1] [2] rfl rfl (by decide) (by decide) hk1 hFc hP1 hD1
  generalize H1 = H at hP hS ⊢
  have hP : va_P (dC, dI) vwCl [(h2, kAi cint 24 f2), (h0, kO5 h1 n0_size h2 n0_ran), (h1, kAi cint 50 f1)] H := hP
  have hD : va_D A [(h2, kAi cint 24 f2), (h0, kO5 h1 n0_size h2 n0_ran), (h1, kAi cint 50 f1)] := hD
  rcases hw with ⟨t_1_0, t_1_1, t_1_any⟩
  · skip
    have t_1_0 : ((0 ≤ p0.toInt ∧ p0.toInt < n0_size.toInt → r_1.toInt = (f1 (p0 : Int32).toNatClampNeg).toInt ∧ 0 ≤ (f1 (p0 : Int32).toNatClampNeg).toInt) ∧ (¬ (0 ≤ p0.toInt ∧ p0.toInt < n0_size.toInt) → r_1.toInt = -1)) := t_1_0
    have t_1_1 : (0 ≤ p0.toInt ∧ p0.toInt < n0_size.toInt → r_1 = (f1 (p0 : Int32).toNatClampNeg)) := t_1_1
    obtain rfl : r_1 = (f1 (p0 : Int32).toNatClampNeg) := t_1_1 (by omega)
    refine lv_istore hx hb dX5_runUnder_5 hl (by decide) (rfl : _ = ([(6, .int (f1 (p0 : Int32).toNatClampNeg)), (0, .ref h0), (1, .int p0), (2, .int 6), (3, .int 70), (4, .int p3), (5, .int p4)] : List (Nat × Value))) (fun ls hl => ?_)
    refine lv_iload_n hx hb dX5_runUnder_7 rfl (lv_at hl 3 rfl) ?_
    obtain ⟨hPc, hDc, hFc⟩ := kk_cutout (wc := []) hP hD hS hA [] (by decide) rfl
    have hKc := kk_Ks (tq := []) hK [] rfl
    refine va_calli (va_runS (As := [.int 6]) (rest := []) ⟨hx, hb, hml, hown, hts⟩ (g_X5_isKind_17 l dC dI H.size) (va_cwS 1 hts gX5_runUnder_X5_isKind rfl rfl rfl kh_X5_isKind ⟨Nat.le_of_ble_eq_true rfl, Nat.le_of_ble_eq_true rfl⟩) ⟨fun a U g mk q => by obtain ⟨q0, q1, qP, qK, qD⟩ := q; exact ⟨q0, q1, qP, va_K.moved (u := U) (U := U.calling g mk a) (Vm.Alike.refl U.vm) qK, qD⟩, fun U hU hW => ⟨rfl, by rw [hU], by rw [hU]; exact hPc, va_K.moved hW.alike hKc, hDc.weaken (fun _ _ _ _ => trivial)⟩⟩ rfl rfl hl.1 rfl (lv_room (Nat.le_of_ble_eq_true rfl)) dX5_runUnder_8 ⟨Nat.le_of_ble_eq_true rfl, Nat.le_of_ble_eq_true rfl⟩) hS (fun q _ h => hFc q h) hFc (fun r_2 u t H1 locs ht hvm hw hB hz1 hk1 hS => ?_)
    obtain ⟨hP1, hK1, hD1⟩ := hB
    rw [ht] at hP1
    have hK1 := va_K.moved hvm.symm hK1
    obtain ⟨hP, hD⟩ := va_join (wr := [(h2, kAi cint 24 f2), (h0, kO5 h1 n0_size h2 n0_ran), (h1, kAi cint 50 f1)]) (w1 := []) hP hD [] [0, 1, 2] rfl rfl (by decide) (by decide) hk1 hFc hP1 hD1
    generalize H1 = H at hP hS ⊢
    have hP : va_P (dC, dI) vwCl [(h2, kAi cint 24 f2), (h0, kO5 h1 n0_size h2 n0_ran), (h1, kAi cint 50 f1)] H := hP
    have hD : va_D A [(h2, kAi cint 24 f2), (h0, kO5 h1 n0_size h2 n0_ran), (h1, kAi cint 50 f1)] := hD
    obtain rfl := hw
    refine lv_if_eq (tgt := 22) hx hb dX5_runUnder_11 (by decide) (fun c => absurd c (by decide)) (fun _ => ?_)
    refine va_gets hx hb hZABOVE hS hown (hts (.fieldLink RX5 22 "KinkStreet$Lines" "ABOVE" "[I") (List.mem_of_getElem? (i := 1) rfl)) (fun _ h9 => h9) dX5_runUnder_14 ?_
    refine lv_iload_n hx hb dX5_runUnder_17 rfl (lv_at hl 3 rfl) ?_
    refine va_ti (v := .int 0) hx hb hTABOVE hS (by unfold vp_in; decide) rfl dX5_runUnder_18 ?_
    refine lv_goto (tgt := 23) hx hb dX5_runUnder_19 (by decide) ?_
    refine lv_istore hx hb dX5_runUnder_23 hl (by decide) (rfl : _ = ([(7, .int 0), (6, .int (f1 (p0 : Int32).toNatClampNeg)), (0, .ref h0), (1, .int p0), (2, .int 6), (3, .int 70), (4, .int p3), (5, .int p4)] : List (Nat × Value))) (fun ls hl => ?_)
    refine lv_iload_n hx hb dX5_runUnder_25 rfl (lv_at hl 5 rfl) ?_
    refine lv_lookup (tgt := 209) (off := 183) hx hb dX5_runUnder_26 (by decide) (by decide) (by decide) ?_
    refine lv_aload_n hx hb dX5_runUnder_209 rfl (lv_at hl 2 rfl) ?_
    refine lv_iload_n hx hb dX5_runUnder_210 rfl (lv_at hl 3 rfl) ?_
    refine lv_iload hx hb dX5_runUnder_211 (lv_at hl 0 rfl) ?_
    refine lv_iconst (v := 0) hx hb dX5_runUnder_213 kk_ic_0 ?_
    refine lv_iload hx hb dX5_runUnder_214 (lv_at hl 6 rfl) ?_
    refine lv_iconst (v := 1) hx hb dX5_runUnder_216 kk_ic_1 ?_
    refine lv_iadd hx hb dX5_runUnder_217 ?_
    refine lv_iload hx hb dX5_runUnder_218 (lv_at hl 7 rfl) ?_
    obtain ⟨hPc, hDc, hFc⟩ := kk_cutout (wc := [(h0, kO5 h1 n0_size h2 n0_ran), (h1, kAi cint 50 f1), (h2, kAi cint 24 f2)]) hP hD hS hA [1, 2, 0] (by decide) rfl
    have hKc := kk_Ks (tq := [(cint, .int)]) hK [0] rfl
    refine va_calli (va_runV (As := [.int p0, .int 0, .int 0, .int (p3 + 1), .int p4]) (rest := []) ⟨hx, hb, hml, hown, hts⟩ (g_X5_call_12 l dC dI h0 h1 h2 cint H.size p0 (p3 + 1) p4 tp4 n0_size n0_ran f1 f2 tn0_size tn0_ran bf1 (by show (0 ≤ (p0 : Int32).toInt ∧ (p0 : Int32).toInt < (n0_size : Int32).toInt); first | with_reducible assumption | (omega)) aOWN_BODIES) (cwV 5 hts gX5_runUnder_X5_call rfl rfl rfl ⟨rfl, kh_X5_call⟩ ⟨Nat.le_of_ble_eq_true rfl, Nat.le_of_ble_eq_true rfl⟩) ⟨fun a U g mk q => by obtain ⟨q0, q1, qP, qK, qD, qx0, qx1⟩ := q; exact ⟨q0, q1, qP, va_K.moved (u := U) (U := U.calling g mk a) (Vm.Alike.refl U.vm) qK, qD, va_Z.moved (u := U) (U := U.calling g mk a) (Vm.Alike.refl U.vm) qx0, va_T.moved (u := U) (U := U.calling g mk a) (Vm.Alike.refl U.vm) qx1⟩, va_recv hKc hPc (ci := 5) (q0 := 0) rfl rfl, fun U hU hW => ⟨rfl, by rw [hU], by rw [hU]; exact hPc, va_K.moved hW.alike hKc, hDc.weaken (fun _ _ _ _ => trivial), by rw [hU]; exact ((hZOWN_BODIES.kept (fun a h1 h2 => hS.2.1 a h1 h2)).narrow hFc).moved hW.alike, by rw [hU]; exact ((hTOWN_BODIES.kept (fun a h1 h2 => hS.2.1 a h1 h2)).narrow hFc).moved hW.alike⟩⟩ rfl rfl hl.1 rfl (lv_room (Nat.le_of_ble_eq_true rfl)) dX5_runUnder_220 ⟨Nat.le_of_ble_eq_true rfl, Nat.le_of_ble_eq_true rfl⟩) hS (fun q _ h => hFc q h) hFc (fun r_3 u t H1 locs ht hvm hw hB hz1 hk1 hS => ?_)
    obtain ⟨y_4, f_5, by_4, v_5_0, hn_5_0, hP1, hK1, hD1⟩ := hB
    have v_5_0 : y_4.toInt ≤ n0_ran.toInt + 1 := v_5_0
    have hn_5_0 : kk_P f2 f_5 n0_ran.toInt y_4.toInt (kt_runs 0) := hn_5_0
    rw [ht] at hP1
    have hK1 := va_K.moved hvm.symm hK1
    obtain ⟨hP, hD⟩ := va_join (wr := []) (w1 := [(h0, kO5 h1 n0_size h2 y_4), (h1, kAi cint 50 f1), (h2, kAi cint 24 f_5)]) hP hD [1, 2, 0] [] rfl rfl (by decide) (by decide) hk1 hFc hP1 hD1
    generalize H1 = H at hP hS ⊢
    have hP : va_P (dC, dI) vwCl [(h0, kO5 h1 n0_size h2 y_4), (h1, kAi cint 50 f1), (h2, kAi cint 24 f_5)] H := hP
    have hD : va_D A [(h0, kO5 h1 n0_size h2 y_4), (h1, kAi cint 50 f1), (h2, kAi cint 24 f_5)] := hD
    rcases hw with ⟨t_3_0, rfl⟩
    · skip
      have t_3_0 : ((p3 + 1) + p0) = kk_runs 0 p0 (p3 + 1) := t_3_0
      obtain ⟨hP9, hD9⟩ := kk_leafout (wc := [(h0, kO5 h1 n0_size h2 y_4), (h1, kAi cint 50 f1), (h2, kAi cint 24 f_5)]) hP hD [0, 1, 2] (by decide) rfl
      have hK9 := kk_Ks (tq := []) hK [] rfl
      exact W.iret (v := ((p3 + 1) + p0)) hx hb hr (fun t ht hW => ⟨⟨((p3 + 1) + p0), (), rfl, ⟨(by first | rfl | (unfold kk_runs; (repeat' split) <;> first | rfl | (exfalso; have : (0 : Int32).toInt = 0 := rfl; have : (1 : Int32).toInt = 1 := rfl; have : (2 : Int32).toInt = 2 := rfl; have : (3 : Int32).toInt = 3 := rfl; have : (4 : Int32).toInt = 4 := rfl; have : (5 : Int32).toInt = 5 := rfl; have : (6 : Int32).toInt = 6 := rfl; have : (7 : Int32).toInt = 7 := rfl; omega))), rfl⟩, y_4, f_5, (by show 1 ≤ (y_4 : Int32).toInt ∧ (y_4 : Int32).toInt ≤ 1000; first | with_reducible assumption | (constructor <;> (omega))), (by show (y_4 : Int32).toInt ≤ (n0_ran : Int32).toInt + 1; first | with_reducible assumption | (omega)), (by first | exact kk_P_eq hn_5_0 rfl | (unfold kt_runs; (repeat' split) <;> first | exact kk_P_eq hn_5_0 rfl | (exfalso; have : (0 : Int32).toInt = 0 := rfl; have : (1 : Int32).toInt = 1 := rfl; have : (2 : Int32).toInt = 2 := rfl; have : (3 : Int32).toInt = 3 := rfl; have : (4 : Int32).toInt = 4 := rfl; have : (5 : Int32).toInt = 5 := rfl; have : (6 : Int32).toInt = 6 := rfl; have : (7 : Int32).toInt = 7 := rfl; omega))), by rw [ht]; exact hP9, va_K.moved hW.alike hK9, hD9⟩, hS.F ht⟩) hS.2.2 dX5_runUnder_223
set_option maxHeartbeats 4000000 in
set_option maxRecDepth 100000 in
theorem g_X5_isKind_18 (l : Launch) (dC : Nat → ClassId) (dI : Nat → Nat → Nat) (sz : Nat)  : Met l yX5_isKind wsX5_isKind ({ frames := 0, cells := 0, slots := 0, locals := 0 }) (va_Pc [.int 7] (fun U => U.heap.size = sz ∧ va_P (dC, dI) vwCl [] U.heap ∧ va_K (dC, dI) vwCl [] U ∧ va_D (fun _ => True) [])) (va_Qi (fun (r : Int32) (_ : Unit) => (1 : Int32) = r) (fun (_ : Unit) t => va_P (dC, dI) vwCl [] t.heap ∧ va_K (dC, dI) vwCl [] t ∧ va_D (va_A [] sz) []) (va_A [] sz)) 0 0 (va_A [] sz) := by
  refine Met.ofW (cc := cX5_isKind) (maxL := 1) (ret := (some .boolean)) (by decide) rfl ?_
  intro p e s m args below meth c s₁ B hml hv
  obtain ⟨rfl, hsz, hP, hK, hD0⟩ := hv
  have hx := B.exec
  have hb := B.bytes
  have hr := B.returns
  have hts := atoms_spec (ws := wsX5_isKind) B.pre
  have hown : s.vm.findClass RX5 = some m.cls := findClass_of_methodNamed B.named
  have hlocks := B.notSynchronized
  subst hsz
  have hD := hD0.self (sz := s.heap.size)
  generalize hAe : va_A [] s.heap.size = A at hD ⊢
  have hA : ∀ q : Nat, s.heap.size ≤ q → A q := fun q h => by rw [← hAe]; exact Or.inr h
  have hS : va_S A s.heap s.heap [] := va_S.rf
  have hP : va_P (dC, dI) vwCl [] s.heap := hP
  have hl := lv_entry ([.int 7]) (n := 1) (Nat.le_of_ble_eq_true rfl)
  rw [lg_entry_eq]
  generalize (lg_sl ([.int 7]) ++ List.replicate (1 - (lg_sl ([.int 7])).length) Slot.unset).toArray = ls at hl ⊢
  have hl : lv_has ls 1 [(0, .int 7)] := hl
  refine lv_iload_n hx hb dX5_isKind_0 rfl (lv_at hl 0 rfl) ?_
  refine lv_if_lt (tgt := 14) hx hb dX5_isKind_1 (by decide) (fun c => absurd c (by decide)) (fun _ => ?_)
  refine lv_iload_n hx hb dX5_isKind_4 rfl (lv_at hl 0 rfl) ?_
  refine lv_bipush (v := 8) hx hb dX5_isKind_5 kk_bi_8 ?_
  refine lv_icmp_ge (tgt := 14) hx hb dX5_isKind_7 (by decide) (fun c => absurd c (by decide)) (fun _ => ?_)
  refine lv_iconst (v := 1) hx hb dX5_isKind_10 kk_ic_1 ?_
  refine lv_goto (tgt := 15) hx hb dX5_isKind_11 (by decide) ?_
  obtain ⟨hP9, hD9⟩ := kk_leafout (wc := []) hP hD [] (by decide) rfl
  have hK9 := kk_Ks (tq := []) hK [] rfl
  exact W.zret (v := 1) hx hb hr rfl (fun t ht hW => ⟨⟨1, (), rfl, rfl, by rw [ht]; exact hP9, va_K.moved hW.alike hK9, hD9⟩, hS.F ht⟩) hS.2.2 dX5_isKind_15
set_option maxHeartbeats 4000000 in
set_option maxRecDepth 100000 in
theorem g_X5_call_13 (l : Launch) (dC : Nat → ClassId) (dI : Nat → Nat → Nat) (h0 : Nat) (h1 : Nat) (h2 : Nat) (cint : ClassId) (sz : Nat) (p0 : Int32) (p3 : Int32) (p4 : Int32) (tp4 : 0 ≤ p4.toInt ∧ p4.toInt ≤ 21) (n0_size : Int32) (n0_ran : Int32) (f1 : Nat → Int32) (f2 : Nat → Int32) (tn0_size : 0 ≤ n0_size.toInt ∧ n0_size.toInt ≤ 50) (tn0_ran : 0 ≤ n0_ran.toInt ∧ n0_ran.toInt ≤ 998) (bf1 : ∀ j, j < 50 → 0 ≤ (f1 j).toInt ∧ (f1 j).toInt ≤ 7) (pr0 : (0 ≤ p0.toInt ∧ p0.toInt < n0_size.toInt)) (aOWN_BODIES : Nat) (aABOVE : Nat) : Met l yX5_call wsX5_call ({ frames := 5, cells := 0, slots := 0, locals := 121 }) (va_Pc [.ref h0, .int p0, .int 1, .int 0, .int p3, .int p4] (fun U => U.heap.size = sz ∧ va_P (dC, dI) vwCl [(h0, kO5 h1 n0_size h2 n0_ran), (h1, kAi cint 50 f1), (h2, kAi cint 24 f2)] U.heap ∧ va_K (dC, dI) vwCl [(cint, .int)] U ∧ va_D (fun _ => True) [(h0, kO5 h1 n0_size h2 n0_ran), (h1, kAi cint 50 f1), (h2, kAi cint 24 f2)] ∧ va_Z "KinkStreet$Lines" "OWN_BODIES" "[I" (.ref aOWN_BODIES) (va_A [(h0, kO5 h1 n0_size h2 n0_ran), (h1, kAi cint 50 f1), (h2, kAi cint 24 f2)] sz) U U.heap ∧ va_T .int aOWN_BODIES 32 tb_OWN_BODIES (va_A [(h0, kO5 h1 n0_size h2 n0_ran), (h1, kAi cint 50 f1), (h2, kAi cint 24 f2)] sz) U U.heap ∧ va_Z "KinkStreet$Lines" "ABOVE" "[I" (.ref aABOVE) (va_A [(h0, kO5 h1 n0_size h2 n0_ran), (h1, kAi cint 50 f1), (h2, kAi cint 24 f2)] sz) U U.heap ∧ va_T .int aABOVE 8 tb_ABOVE (va_A [(h0, kO5 h1 n0_size h2 n0_ran), (h1, kAi cint 50 f1), (h2, kAi cint 24 f2)] sz) U U.heap)) (va_Qi (fun (r : Int32) (_ : Unit) => r = kk_runs 1 p0 p3 ∧ ((p3 + p0) + 3) = r) (fun (_ : Unit) t => ∃ (m0_ran : Int32) (g2 : Nat → Int32), (1 ≤ m0_ran.toInt ∧ m0_ran.toInt ≤ 1000) ∧ (m0_ran.toInt ≤ n0_ran.toInt + 2) ∧ (kk_P f2 g2 n0_ran.toInt m0_ran.toInt (kt_runs 1)) ∧ va_P (dC, dI) vwCl [(h0, kO5 h1 n0_size h2 m0_ran), (h1, kAi cint 50 f1), (h2, kAi cint 24 g2)] t.heap ∧ va_K (dC, dI) vwCl [] t ∧ va_D (va_A [(h0, kO5 h1 n0_size h2 n0_ran), (h1, kAi cint 50 f1), (h2, kAi cint 24 f2)] sz) [(h0, kO5 h1 n0_size h2 m0_ran), (h1, kAi cint 50 f1), (h2, kAi cint 24 g2)]) (va_A [(h0, kO5 h1 n0_size h2 n0_ran), (h1, kAi cint 50 f1), (h2, kAi cint 24 f2)] sz)) 0 0 (va_A [(h0, kO5 h1 n0_size h2 n0_ran), (h1, kAi cint 50 f1), (h2, kAi cint 24 f2)] sz) := by
  refine Met.ofW (cc := cX5_call) (maxL := 8) (ret := (some .int)) (by decide) rfl ?_
  intro p e s m args below meth c s₁ B hml hv
  obtain ⟨rfl, hsz, hP, hK, hD0, hZOWN_BODIES, hTOWN_BODIES, hZABOVE, hTABOVE⟩ := hv
  have hx := B.exec
  have hb := B.bytes
  have hr := B.returns
  have hts := atoms_spec (ws := wsX5_call) B.pre
  have hown : s.vm.findClass RX5 = some m.cls := findClass_of_methodNamed B.named
  have hlocks := B.notSynchronized
  subst hsz
  have hD := hD0.self (sz := s.heap.size)
  generalize hAe : va_A [(h0, kO5 h1 n0_size h2 n0_ran), (h1, kAi cint 50 f1), (h2, kAi cint 24 f2)] s.heap.size = A at hD hZOWN_BODIES hTOWN_BODIES hZABOVE hTABOVE ⊢
  have hA : ∀ q : Nat, s.heap.size ≤ q → A q := fun q h => by rw [← hAe]; exact Or.inr h
  have hS : va_S A s.heap s.heap [] := va_S.rf
  have hP : va_P (dC, dI) vwCl [(h0, kO5 h1 n0_size h2 n0_ran), (h1, kAi cint 50 f1), (h2, kAi cint 24 f2)] s.heap := hP
  have hl := lv_entry ([.ref h0, .int p0, .int 1, .int 0, .int p3, .int p4]) (n := 8) (Nat.le_of_ble_eq_true rfl)
  rw [lg_entry_eq]
  generalize (lg_sl ([.ref h0, .int p0, .int 1, .int 0, .int p3, .int p4]) ++ List.replicate (8 - (lg_sl ([.ref h0, .int p0, .int 1, .int 0, .int p3, .int p4])).length) Slot.unset).toArray = ls at hl ⊢
  have hl : lv_has ls 8 [(0, .ref h0), (1, .int p0), (2, .int 1), (3, .int 0), (4, .int p3), (5, .int p4)] := hl
  refine lv_iload_n hx hb dX5_call_0 rfl (lv_at hl 2 rfl) ?_
  refine lv_istore hx hb dX5_call_1 hl (by decide) (rfl : _ = ([(6, .int 1), (0, .ref h0), (1, .int p0), (2, .int 1), (3, .int 0), (4, .int p3), (5, .int p4)] : List (Nat × Value))) (fun ls hl => ?_)
  refine lv_iconst (v := 0) hx hb dX5_call_3 kk_ic_0 ?_
  refine lv_istore hx hb dX5_call_4 hl (by decide) (rfl : _ = ([(7, .int 0), (6, .int 1), (0, .ref h0), (1, .int p0), (2, .int 1), (3, .int 0), (4, .int p3), (5, .int p4)] : List (Nat × Value))) (fun ls hl => ?_)
  refine lv_iload hx hb dX5_call_6 (lv_at hl 0 rfl) ?_
  refine lv_bipush (v := 8) hx hb dX5_call_8 kk_bi_8 ?_
  refine lv_icmp_ge (tgt := 48) hx hb dX5_call_10 (by decide) (fun c => absurd c (by decide)) (fun _ => ?_)
  refine lv_iload hx hb dX5_call_13 (lv_at hl 1 rfl) ?_
  obtain ⟨hPc, hDc, hFc⟩ := kk_cutout (wc := []) hP hD hS hA [] (by decide) rfl
  have hKc := kk_Ks (tq := []) hK [] rfl
  refine va_calli (va_runS (As := [.int 1]) (rest := []) ⟨hx, hb, hml, hown, hts⟩ (g_X5_isKind_12 l dC dI s.heap.size) (va_cwS 1 hts gX5_call_X5_isKind rfl rfl rfl kh_X5_isKind ⟨Nat.le_of_ble_eq_true rfl, Nat.le_of_ble_eq_true rfl⟩) ⟨fun a U g mk q => by obtain ⟨q0, q1, qP, qK, qD⟩ := q; exact ⟨q0, q1, qP, va_K.moved (u := U) (U := U.calling g mk a) (Vm.Alike.refl U.vm) qK, qD⟩, fun U hU hW => ⟨rfl, by rw [hU], by rw [hU]; exact hPc, va_K.moved hW.alike hKc, hDc.weaken (fun _ _ _ _ => trivial)⟩⟩ rfl rfl hl.1 rfl (lv_room (Nat.le_of_ble_eq_true rfl)) dX5_call_15 ⟨Nat.le_of_ble_eq_true rfl, Nat.le_of_ble_eq_true rfl⟩) hS (fun q _ h => hFc q h) hFc (fun r_1 u t H1 locs ht hvm hw hB hz1 hk1 hS => ?_)
  obtain ⟨hP1, hK1, hD1⟩ := hB
  rw [ht] at hP1
  have hK1 := va_K.moved hvm.symm hK1
  obtain ⟨hP, hD⟩ := va_join (wr := [(h0, kO5 h1 n0_size h2 n0_ran), (h1, kAi cint 50 f1), (h2, kAi cint 24 f2)]) (w1 := []) hP hD [] [0, 1, 2] rfl rfl (by decide) (by decide) hk1 hFc hP1 hD1
  generalize H1 = H at hP hS ⊢
  have hP : va_P (dC, dI) vwCl [(h0, kO5 h1 n0_size h2 n0_ran), (h1, kAi cint 50 f1), (h2, kAi cint 24 f2)] H := hP
  have hD : va_D A [(h0, kO5 h1 n0_size h2 n0_ran), (h1, kAi cint 50 f1), (h2, kAi cint 24 f2)] := hD
  obtain rfl := hw
  refine lv_if_eq (tgt := 48) hx hb dX5_call_18 (by decide) (fun c => absurd c (by decide)) (fun _ => ?_)
  refine va_gets hx hb hZOWN_BODIES hS hown (hts (.fieldLink RX5 43 "KinkStreet$Lines" "OWN_BODIES" "[I") (List.mem_of_getElem? (i := 1) rfl)) (fun _ h9 => h9) dX5_call_21 ?_
  refine lv_iload hx hb dX5_call_24 (lv_at hl 1 rfl) ?_
  refine lv_iconst (v := 4) hx hb dX5_call_26 kk_ic_4 ?_
  refine lv_imul hx hb dX5_call_27 ?_
  refine lv_topi (fun y_2 e_2 => ?_)
  obtain rfl : y_2 = 4 := e_2.trans (by decide)
  refine lv_iload_n hx hb dX5_call_28 rfl (lv_at hl 5 rfl) ?_
  refine lv_iadd hx hb dX5_call_29 ?_
  refine lv_topi (fun y_3 e_3 => ?_)
  obtain rfl : y_3 = 4 := e_3.trans (by decide)
  refine va_ti (v := .int 20) hx hb hTOWN_BODIES hS (by unfold vp_in; decide) rfl dX5_call_30 ?_
  refine lv_if_ne (tgt := 48) hx hb dX5_call_31 (by decide) (fun _ => ?_) (fun c => absurd c (by decide))
  refine lv_iload hx hb dX5_call_48 (lv_at hl 1 rfl) ?_
  obtain ⟨hPc, hDc, hFc⟩ := kk_cutout (wc := []) hP hD hS hA [] (by decide) rfl
  have hKc := kk_Ks (tq := []) hK [] rfl
  refine va_calli (va_runS (As := [.int 1]) (rest := []) ⟨hx, hb, hml, hown, hts⟩ (g_X5_isKind_12 l dC dI H.size) (va_cwS 1 hts gX5_call_X5_isKind rfl rfl rfl kh_X5_isKind ⟨Nat.le_of_ble_eq_true rfl, Nat.le_of_ble_eq_true rfl⟩) ⟨fun a U g mk q => by obtain ⟨q0, q1, qP, qK, qD⟩ := q; exact ⟨q0, q1, qP, va_K.moved (u := U) (U := U.calling g mk a) (Vm.Alike.refl U.vm) qK, qD⟩, fun U hU hW => ⟨rfl, by rw [hU], by rw [hU]; exact hPc, va_K.moved hW.alike hKc, hDc.weaken (fun _ _ _ _ => trivial)⟩⟩ rfl rfl hl.1 rfl (lv_room (Nat.le_of_ble_eq_true rfl)) dX5_call_50 ⟨Nat.le_of_ble_eq_true rfl, Nat.le_of_ble_eq_true rfl⟩) hS (fun q _ h => hFc q h) hFc (fun r_4 u t H1 locs ht hvm hw hB hz1 hk1 hS => ?_)
  obtain ⟨hP1, hK1, hD1⟩ := hB
  rw [ht] at hP1
  have hK1 := va_K.moved hvm.symm hK1
  obtain ⟨hP, hD⟩ := va_join (wr := [(h0, kO5 h1 n0_size h2 n0_ran), (h1, kAi cint 50 f1), (h2, kAi cint 24 f2)]) (w1 := []) hP hD [] [0, 1, 2] rfl rfl (by decide) (by decide) hk1 hFc hP1 hD1
  generalize H1 = H at hP hS ⊢
  have hP : va_P (dC, dI) vwCl [(h0, kO5 h1 n0_size h2 n0_ran), (h1, kAi cint 50 f1), (h2, kAi cint 24 f2)] H := hP
  have hD : va_D A [(h0, kO5 h1 n0_size h2 n0_ran), (h1, kAi cint 50 f1), (h2, kAi cint 24 f2)] := hD
  obtain rfl := hw
  refine lv_if_eq (tgt := 63) hx hb dX5_call_53 (by decide) (fun c => absurd c (by decide)) (fun _ => ?_)
  refine lv_iload hx hb dX5_call_56 (lv_at hl 7 rfl) ?_
  refine lv_bipush (v := 40) hx hb dX5_call_58 kk_bi_40 ?_
  refine lv_icmp_le (tgt := 65) hx hb dX5_call_60 (by decide) (fun c_5 => ?_) (fun c_5 => ?_)
  · have t_5 : p4.toInt ≤ 40 := kk_le c_5
    refine va_gets hx hb hZOWN_BODIES hS hown (hts (.fieldLink RX5 43 "KinkStreet$Lines" "OWN_BODIES" "[I") (List.mem_of_getElem? (i := 1) rfl)) (fun _ h9 => h9) dX5_call_65 ?_
    refine lv_iload hx hb dX5_call_68 (lv_at hl 1 rfl) ?_
    refine lv_iconst (v := 4) hx hb dX5_call_70 kk_ic_4 ?_
    refine lv_imul hx hb dX5_call_71 ?_
    refine lv_topi (fun y_6 e_6 => ?_)
    obtain rfl : y_6 = 4 := e_6.trans (by decide)
    refine lv_iload_n hx hb dX5_call_72 rfl (lv_at hl 5 rfl) ?_
    refine lv_iadd hx hb dX5_call_73 ?_
    refine lv_topi (fun y_7 e_7 => ?_)
    obtain rfl : y_7 = 4 := e_7.trans (by decide)
    refine va_ti (v := .int 20) hx hb hTOWN_BODIES hS (by unfold vp_in; decide) rfl dX5_call_74 ?_
    refine lv_istore hx hb dX5_call_75 hl (by decide) (rfl : _ = ([(7, .int 20), (6, .int 1), (0, .ref h0), (1, .int p0), (2, .int 1), (3, .int 0), (4, .int p3), (5, .int p4)] : List (Nat × Value))) (fun ls hl => ?_)
    refine lv_aload_n hx hb dX5_call_77 rfl (lv_at hl 2 rfl) ?_
    refine va_get (D := (dC, dI)) (ci := 5) (v := .int n0_ran) (C := RX5) (T := TX5) (N := 4) hx hb hts (fun _ h => List.mem_cons_of_mem _ (List.mem_append_right _ h)) hown hK hP 0 rfl rfl 3 (by decide) (hts (.fieldLink RX5 36 "KinkStreet$Lines" "ran" "I") (List.mem_of_getElem? (i := 3) rfl)) (fun _ h9 => h9) rfl dX5_call_78 ?_
    refine lv_bipush (v := 24) hx hb dX5_call_81 kk_bi_24 ?_
    refine lv_icmp_ge (tgt := 97) hx hb dX5_call_83 (by decide) (fun c_8 => ?_) (fun c_8 => ?_)
    · have t_8 : 24 ≤ n0_ran.toInt := kk_le c_8
      refine lv_aload_n hx hb dX5_call_97 rfl (lv_at hl 2 rfl) ?_
      refine lv_dup hx hb dX5_call_98 rfl ?_
      refine va_get (D := (dC, dI)) (ci := 5) (v := .int n0_ran) (C := RX5) (T := TX5) (N := 4) hx hb hts (fun _ h => List.mem_cons_of_mem _ (List.mem_append_right _ h)) hown hK hP 0 rfl rfl 3 (by decide) (hts (.fieldLink RX5 36 "KinkStreet$Lines" "ran" "I") (List.mem_of_getElem? (i := 3) rfl)) (fun _ h9 => h9) rfl dX5_call_99 ?_
      refine lv_iconst (v := 1) hx hb dX5_call_102 kk_ic_1 ?_
      refine lv_iadd hx hb dX5_call_103 ?_
      refine va_put (D := (dC, dI)) (ci := 5) (v := .int (n0_ran + 1)) (ty := .int) (C := RX5) (T := TX5) (N := 4) hx hb hts (fun _ h => List.mem_cons_of_mem _ (List.mem_append_right _ h)) tyX5 tyX5_ok nmX5 hown hK hP hD hS 0 rfl rfl 3 (by decide) (hts (.fieldLink RX5 36 "KinkStreet$Lines" "ran" "I") (List.mem_of_getElem? (i := 3) rfl)) (fun _ h9 => h9) rfl (by decide +kernel) rfl rfl (Nat.le_of_ble_eq_true rfl) dX5_call_104 (fun H locs hP hD hS => ?_)
      have hP : va_P (dC, dI) vwCl [(h0, kO5 h1 n0_size h2 (n0_ran + 1)), (h1, kAi cint 50 f1), (h2, kAi cint 24 f2)] H := hP
      have hD : va_D A [(h0, kO5 h1 n0_size h2 (n0_ran + 1)), (h1, kAi cint 50 f1), (h2, kAi cint 24 f2)] := hD
      have hp_9 : kk_P f2 f2 n0_ran.toInt (n0_ran + 1 : Int32).toInt [20] := kk_P_out (by have := kk_add2 (x := n0_ran) (y := 1) (a := n0_ran.toInt) (b := 1) rfl rfl (by omega) (by omega); omega) (by have := kk_add2 (x := n0_ran) (y := 1) (a := n0_ran.toInt) (b := 1) rfl rfl (by omega) (by omega); omega)
      refine lv_iload hx hb dX5_call_107 (lv_at hl 1 rfl) ?_
      refine lv_if_ne (tgt := 128) hx hb dX5_call_109 (by decide) (fun _ => ?_) (fun c => absurd c (by decide))
      refine lv_aload_n hx hb dX5_call_128 rfl (lv_at hl 2 rfl) ?_
      refine lv_iload_n hx hb dX5_call_129 rfl (lv_at hl 3 rfl) ?_
      refine lv_iload hx hb dX5_call_130 (lv_at hl 1 rfl) ?_
      refine lv_iload hx hb dX5_call_132 (lv_at hl 0 rfl) ?_
      refine lv_iload hx hb dX5_call_134 (lv_at hl 6 rfl) ?_
      refine lv_iload hx hb dX5_call_136 (lv_at hl 7 rfl) ?_
      refine lv_iconst (v := 1) hx hb dX5_call_138 kk_ic_1 ?_
      refine lv_iadd hx hb dX5_call_139 ?_
      obtain ⟨hPc, hDc, hFc⟩ := kk_cutout (wc := [(h0, kO5 h1 n0_size h2 (n0_ran + 1)), (h1, kAi cint 50 f1), (h2, kAi cint 24 f2)]) hP hD hS hA [0, 1, 2] (by decide) rfl
      have hKc := kk_Ks (tq := [(cint, .int)]) hK [0] rfl
      refine va_calli (va_runV (As := [.int p0, .int 1, .int 20, .int p3, .int (p4 + 1)]) (rest := []) ⟨hx, hb, hml, hown, hts⟩ (g_X5_runUnder_9 l dC dI h0 h1 h2 cint H.size p0 p3 (p4 + 1) (by show 0 ≤ ((p4 + 1) : Int32).toInt ∧ ((p4 + 1) : Int32).toInt ≤ 22; first | with_reducible assumption | (constructor <;> (have := kk_add2 (x := n0_ran) (y := 1) (a := n0_ran.toInt) (b := 1) rfl rfl (by omega) (by omega); have := kk_add2 (x := p4) (y := 1) (a := p4.toInt) (b := 1) rfl rfl (by omega) (by omega); omega))) n0_size (n0_ran + 1) f1 f2 tn0_size (by show 0 ≤ ((n0_ran + 1) : Int32).toInt ∧ ((n0_ran + 1) : Int32).toInt ≤ 999; first | with_reducible assumption | (constructor <;> (have := kk_add2 (x := n0_ran) (y := 1) (a := n0_ran.toInt) (b := 1) rfl rfl (by omega) (by omega); have := kk_add2 (x := p4) (y := 1) (a := p4.toInt) (b := 1) rfl rfl (by omega) (by omega); omega))) bf1 (by show (0 ≤ (p0 : Int32).toInt ∧ (p0 : Int32).toInt < (n0_size : Int32).toInt); first | with_reducible assumption | (have := kk_add2 (x := n0_ran) (y := 1) (a := n0_ran.toInt) (b := 1) rfl rfl (by omega) (by omega); have := kk_add2 (x := p4) (y := 1) (a := p4.toInt) (b := 1) rfl rfl (by omega) (by omega); omega)) aABOVE aOWN_BODIES) (cwV 5 hts gX5_call_X5_runUnder rfl rfl rfl ⟨rfl, kh_X5_runUnder⟩ ⟨Nat.le_of_ble_eq_true rfl, Nat.le_of_ble_eq_true rfl⟩) ⟨fun a U g mk q => by obtain ⟨q0, q1, qP, qK, qD, qx0, qx1, qx2, qx3⟩ := q; exact ⟨q0, q1, qP, va_K.moved (u := U) (U := U.calling g mk a) (Vm.Alike.refl U.vm) qK, qD, va_Z.moved (u := U) (U := U.calling g mk a) (Vm.Alike.refl U.vm) qx0, va_T.moved (u := U) (U := U.calling g mk a) (Vm.Alike.refl U.vm) qx1, va_Z.moved (u := U) (U := U.calling g mk a) (Vm.Alike.refl U.vm) qx2, va_T.moved (u := U) (U := U.calling g mk a) (Vm.Alike.refl U.vm) qx3⟩, va_recv hKc hPc (ci := 5) (q0 := 0) rfl rfl, fun U hU hW => ⟨rfl, by rw [hU], by rw [hU]; exact hPc, va_K.moved hW.alike hKc, hDc.weaken (fun _ _ _ _ => trivial), by rw [hU]; exact ((hZABOVE.kept (fun a h1 h2 => hS.2.1 a h1 h2)).narrow hFc).moved hW.alike, by rw [hU]; exact ((hTABOVE.kept (fun a h1 h2 => hS.2.1 a h1 h2)).narrow hFc).moved hW.alike, by rw [hU]; exact ((hZOWN_BODIES.kept (fun a h1 h2 => hS.2.1 a h1 h2)).narrow hFc).moved hW.alike, by rw [hU]; exact ((hTOWN_BODIES.kept (fun a h1 h2 => hS.2.1 a h1 h2)).narrow hFc).moved hW.alike⟩⟩ rfl rfl hl.1 rfl (lv_room (Nat.le_of_ble_eq_true rfl)) dX5_call_140 ⟨Nat.le_of_ble_eq_true rfl, Nat.le_of_ble_eq_true rfl⟩) hS (fun q _ h => hFc q h) hFc (fun r_10 u t H1 locs ht hvm hw hB hz1 hk1 hS => ?_)
      obtain ⟨y_11, f_12, by_11, v_12_0, hn_12_0, hP1, hK1, hD1⟩ := hB
      have v_12_0 : y_11.toInt ≤ (n0_ran + 1).toInt + 1 := v_12_0
      have hn_12_0 : kk_P f2 f_12 (n0_ran + 1).toInt y_11.toInt ((kt_runs 1).tail) := hn_12_0
      rw [ht] at hP1
      have hK1 := va_K.moved hvm.symm hK1
      obtain ⟨hP, hD⟩ := va_join (wr := []) (w1 := [(h0, kO5 h1 n0_size h2 y_11), (h1, kAi cint 50 f1), (h2, kAi cint 24 f_12)]) hP hD [0, 1, 2] [] rfl rfl (by decide) (by decide) hk1 hFc hP1 hD1
      generalize H1 = H at hP hS ⊢
      have hP : va_P (dC, dI) vwCl [(h0, kO5 h1 n0_size h2 y_11), (h1, kAi cint 50 f1), (h2, kAi cint 24 f_12)] H := hP
      have hD : va_D A [(h0, kO5 h1 n0_size h2 y_11), (h1, kAi cint 50 f1), (h2, kAi cint 24 f_12)] := hD
      rcases hw with ⟨t_10_0, rfl⟩
      · skip
        have t_10_0 : ((p3 + p0) + 3) = kk_runs 1 p0 p3 := t_10_0
        obtain ⟨hP9, hD9⟩ := kk_leafout (wc := [(h0, kO5 h1 n0_size h2 y_11), (h1, kAi cint 50 f1), (h2, kAi cint 24 f_12)]) hP hD [0, 1, 2] (by decide) rfl
        have hK9 := kk_Ks (tq := []) hK [] rfl
        exact W.iret (v := ((p3 + p0) + 3)) hx hb hr (fun t ht hW => ⟨⟨((p3 + p0) + 3), (), rfl, ⟨(by first | rfl | (unfold kk_runs; (repeat' split) <;> first | rfl | (exfalso; have : (0 : Int32).toInt = 0 := rfl; have : (1 : Int32).toInt = 1 := rfl; have : (2 : Int32).toInt = 2 := rfl; have : (3 : Int32).toInt = 3 := rfl; have : (4 : Int32).toInt = 4 := rfl; have : (5 : Int32).toInt = 5 := rfl; have : (6 : Int32).toInt = 6 := rfl; have : (7 : Int32).toInt = 7 := rfl; have := kk_add2 (x := n0_ran) (y := 1) (a := n0_ran.toInt) (b := 1) rfl rfl (by omega) (by omega); have := kk_add2 (x := p4) (y := 1) (a := p4.toInt) (b := 1) rfl rfl (by omega) (by omega); omega))), rfl⟩, y_11, f_12, (by show 1 ≤ (y_11 : Int32).toInt ∧ (y_11 : Int32).toInt ≤ 1000; first | with_reducible assumption | (constructor <;> (have := kk_add2 (x := n0_ran) (y := 1) (a := n0_ran.toInt) (b := 1) rfl rfl (by omega) (by omega); have := kk_add2 (x := p4) (y := 1) (a := p4.toInt) (b := 1) rfl rfl (by omega) (by omega); omega))), (by show (y_11 : Int32).toInt ≤ (n0_ran : Int32).toInt + 2; first | with_reducible assumption | (have := kk_add2 (x := n0_ran) (y := 1) (a := n0_ran.toInt) (b := 1) rfl rfl (by omega) (by omega); have := kk_add2 (x := p4) (y := 1) (a := p4.toInt) (b := 1) rfl rfl (by omega) (by omega); omega)), (by first | exact kk_P_eq (kk_P_trans hp_9 hn_12_0) rfl | (unfold kt_runs; (repeat' split) <;> first | exact kk_P_eq (kk_P_trans hp_9 hn_12_0) rfl | (exfalso; have : (0 : Int32).toInt = 0 := rfl; have : (1 : Int32).toInt = 1 := rfl; have : (2 : Int32).toInt = 2 := rfl; have : (3 : Int32).toInt = 3 := rfl; have : (4 : Int32).toInt = 4 := rfl; have : (5 : Int32).toInt = 5 := rfl; have : (6 : Int32).toInt = 6 := rfl; have : (7 : Int32).toInt = 7 := rfl; have := kk_add2 (x := n0_ran) (y := 1) (a := n0_ran.toInt) (b := 1) rfl rfl (by omega) (by omega); have := kk_add2 (x := p4) (y := 1) (a := p4.toInt) (b := 1) rfl rfl (by omega) (by omega); omega))), by rw [ht]; exact hP9, va_K.moved hW.alike hK9, hD9⟩, hS.F ht⟩) hS.2.2 dX5_call_143
    · have t_8 : n0_ran.toInt < 24 := kk_nle c_8
      refine lv_aload_n hx hb dX5_call_86 rfl (lv_at hl 2 rfl) ?_
      refine va_get (D := (dC, dI)) (ci := 5) (v := .ref h2) (C := RX5) (T := TX5) (N := 4) hx hb hts (fun _ h => List.mem_cons_of_mem _ (List.mem_append_right _ h)) hown hK hP 0 rfl rfl 2 (by decide) (hts (.fieldLink RX5 15 "KinkStreet$Lines" "trace" "[I") (List.mem_of_getElem? (i := 4) rfl)) (fun _ h9 => h9) rfl dX5_call_87 ?_
      refine lv_aload_n hx hb dX5_call_90 rfl (lv_at hl 2 rfl) ?_
      refine va_get (D := (dC, dI)) (ci := 5) (v := .int n0_ran) (C := RX5) (T := TX5) (N := 4) hx hb hts (fun _ h => List.mem_cons_of_mem _ (List.mem_append_right _ h)) hown hK hP 0 rfl rfl 3 (by decide) (hts (.fieldLink RX5 36 "KinkStreet$Lines" "ran" "I") (List.mem_of_getElem? (i := 3) rfl)) (fun _ h9 => h9) rfl dX5_call_91 ?_
      refine lv_iload hx hb dX5_call_94 (lv_at hl 0 rfl) ?_
      refine va_iast hx hb hK hP hD hS 2 0 rfl rfl (vp_in_iff.mpr ⟨by omega, by omega⟩) dX5_call_96 (fun H locs hP hD hS => ?_)
      have w_13 : ((upd f2 (n0_ran : Int32).toNatClampNeg 20) (n0_ran : Int32).toNatClampNeg).toInt = (20 : Int32).toInt := by rw [kk_ups]
      have hP : va_P (dC, dI) vwCl [(h0, kO5 h1 n0_size h2 n0_ran), (h1, kAi cint 50 f1), (h2, kAi cint 24 (upd f2 (n0_ran : Int32).toNatClampNeg 20))] H := hP
      have hD : va_D A [(h0, kO5 h1 n0_size h2 n0_ran), (h1, kAi cint 50 f1), (h2, kAi cint 24 (upd f2 (n0_ran : Int32).toNatClampNeg 20))] := hD
      refine lv_aload_n hx hb dX5_call_97 rfl (lv_at hl 2 rfl) ?_
      refine lv_dup hx hb dX5_call_98 rfl ?_
      refine va_get (D := (dC, dI)) (ci := 5) (v := .int n0_ran) (C := RX5) (T := TX5) (N := 4) hx hb hts (fun _ h => List.mem_cons_of_mem _ (List.mem_append_right _ h)) hown hK hP 0 rfl rfl 3 (by decide) (hts (.fieldLink RX5 36 "KinkStreet$Lines" "ran" "I") (List.mem_of_getElem? (i := 3) rfl)) (fun _ h9 => h9) rfl dX5_call_99 ?_
      refine lv_iconst (v := 1) hx hb dX5_call_102 kk_ic_1 ?_
      refine lv_iadd hx hb dX5_call_103 ?_
      refine va_put (D := (dC, dI)) (ci := 5) (v := .int (n0_ran + 1)) (ty := .int) (C := RX5) (T := TX5) (N := 4) hx hb hts (fun _ h => List.mem_cons_of_mem _ (List.mem_append_right _ h)) tyX5 tyX5_ok nmX5 hown hK hP hD hS 0 rfl rfl 3 (by decide) (hts (.fieldLink RX5 36 "KinkStreet$Lines" "ran" "I") (List.mem_of_getElem? (i := 3) rfl)) (fun _ h9 => h9) rfl (by decide +kernel) rfl rfl (Nat.le_of_ble_eq_true rfl) dX5_call_104 (fun H locs hP hD hS => ?_)
      have hP : va_P (dC, dI) vwCl [(h0, kO5 h1 n0_size h2 (n0_ran + 1)), (h1, kAi cint 50 f1), (h2, kAi cint 24 (upd f2 (n0_ran : Int32).toNatClampNeg 20))] H := hP
      have hD : va_D A [(h0, kO5 h1 n0_size h2 (n0_ran + 1)), (h1, kAi cint 50 f1), (h2, kAi cint 24 (upd f2 (n0_ran : Int32).toNatClampNeg 20))] := hD
      have hp_14 : kk_P f2 (upd f2 (n0_ran : Int32).toNatClampNeg 20) n0_ran.toInt (n0_ran + 1 : Int32).toInt [20] := kk_P_one (by have := kk_add2 (x := n0_ran) (y := 1) (a := n0_ran.toInt) (b := 1) rfl rfl (by omega) (by omega); omega) (by have := kk_add2 (x := n0_ran) (y := 1) (a := n0_ran.toInt) (b := 1) rfl rfl (by omega) (by omega); omega)
      refine lv_iload hx hb dX5_call_107 (lv_at hl 1 rfl) ?_
      refine lv_if_ne (tgt := 128) hx hb dX5_call_109 (by decide) (fun _ => ?_) (fun c => absurd c (by decide))
      refine lv_aload_n hx hb dX5_call_128 rfl (lv_at hl 2 rfl) ?_
      refine lv_iload_n hx hb dX5_call_129 rfl (lv_at hl 3 rfl) ?_
      refine lv_iload hx hb dX5_call_130 (lv_at hl 1 rfl) ?_
      refine lv_iload hx hb dX5_call_132 (lv_at hl 0 rfl) ?_
      refine lv_iload hx hb dX5_call_134 (lv_at hl 6 rfl) ?_
      refine lv_iload hx hb dX5_call_136 (lv_at hl 7 rfl) ?_
      refine lv_iconst (v := 1) hx hb dX5_call_138 kk_ic_1 ?_
      refine lv_iadd hx hb dX5_call_139 ?_
      obtain ⟨hPc, hDc, hFc⟩ := kk_cutout (wc := [(h0, kO5 h1 n0_size h2 (n0_ran + 1)), (h1, kAi cint 50 f1), (h2, kAi cint 24 (upd f2 (n0_ran : Int32).toNatClampNeg 20))]) hP hD hS hA [0, 1, 2] (by decide) rfl
      have hKc := kk_Ks (tq := [(cint, .int)]) hK [0] rfl
      refine va_calli (va_runV (As := [.int p0, .int 1, .int 20, .int p3, .int (p4 + 1)]) (rest := []) ⟨hx, hb, hml, hown, hts⟩ (g_X5_runUnder_9 l dC dI h0 h1 h2 cint H.size p0 p3 (p4 + 1) (by show 0 ≤ ((p4 + 1) : Int32).toInt ∧ ((p4 + 1) : Int32).toInt ≤ 22; first | with_reducible assumption | (constructor <;> (have := kk_add2 (x := n0_ran) (y := 1) (a := n0_ran.toInt) (b := 1) rfl rfl (by omega) (by omega); have := kk_add2 (x := p4) (y := 1) (a := p4.toInt) (b := 1) rfl rfl (by omega) (by omega); omega))) n0_size (n0_ran + 1) f1 (upd f2 (n0_ran : Int32).toNatClampNeg 20) tn0_size (by show 0 ≤ ((n0_ran + 1) : Int32).toInt ∧ ((n0_ran + 1) : Int32).toInt ≤ 999; first | with_reducible assumption | (constructor <;> (have := kk_add2 (x := n0_ran) (y := 1) (a := n0_ran.toInt) (b := 1) rfl rfl (by omega) (by omega); have := kk_add2 (x := p4) (y := 1) (a := p4.toInt) (b := 1) rfl rfl (by omega) (by omega); omega))) bf1 (by show (0 ≤ (p0 : Int32).toInt ∧ (p0 : Int32).toInt < (n0_size : Int32).toInt); first | with_reducible assumption | (have := kk_add2 (x := n0_ran) (y := 1) (a := n0_ran.toInt) (b := 1) rfl rfl (by omega) (by omega); have := kk_add2 (x := p4) (y := 1) (a := p4.toInt) (b := 1) rfl rfl (by omega) (by omega); omega)) aABOVE aOWN_BODIES) (cwV 5 hts gX5_call_X5_runUnder rfl rfl rfl ⟨rfl, kh_X5_runUnder⟩ ⟨Nat.le_of_ble_eq_true rfl, Nat.le_of_ble_eq_true rfl⟩) ⟨fun a U g mk q => by obtain ⟨q0, q1, qP, qK, qD, qx0, qx1, qx2, qx3⟩ := q; exact ⟨q0, q1, qP, va_K.moved (u := U) (U := U.calling g mk a) (Vm.Alike.refl U.vm) qK, qD, va_Z.moved (u := U) (U := U.calling g mk a) (Vm.Alike.refl U.vm) qx0, va_T.moved (u := U) (U := U.calling g mk a) (Vm.Alike.refl U.vm) qx1, va_Z.moved (u := U) (U := U.calling g mk a) (Vm.Alike.refl U.vm) qx2, va_T.moved (u := U) (U := U.calling g mk a) (Vm.Alike.refl U.vm) qx3⟩, va_recv hKc hPc (ci := 5) (q0 := 0) rfl rfl, fun U hU hW => ⟨rfl, by rw [hU], by rw [hU]; exact hPc, va_K.moved hW.alike hKc, hDc.weaken (fun _ _ _ _ => trivial), by rw [hU]; exact ((hZABOVE.kept (fun a h1 h2 => hS.2.1 a h1 h2)).narrow hFc).moved hW.alike, by rw [hU]; exact ((hTABOVE.kept (fun a h1 h2 => hS.2.1 a h1 h2)).narrow hFc).moved hW.alike, by rw [hU]; exact ((hZOWN_BODIES.kept (fun a h1 h2 => hS.2.1 a h1 h2)).narrow hFc).moved hW.alike, by rw [hU]; exact ((hTOWN_BODIES.kept (fun a h1 h2 => hS.2.1 a h1 h2)).narrow hFc).moved hW.alike⟩⟩ rfl rfl hl.1 rfl (lv_room (Nat.le_of_ble_eq_true rfl)) dX5_call_140 ⟨Nat.le_of_ble_eq_true rfl, Nat.le_of_ble_eq_true rfl⟩) hS (fun q _ h => hFc q h) hFc (fun r_15 u t H1 locs ht hvm hw hB hz1 hk1 hS => ?_)
      obtain ⟨y_16, f_17, by_16, v_17_0, hn_17_0, hP1, hK1, hD1⟩ := hB
      have v_17_0 : y_16.toInt ≤ (n0_ran + 1).toInt + 1 := v_17_0
      have hn_17_0 : kk_P (upd f2 (n0_ran : Int32).toNatClampNeg 20) f_17 (n0_ran + 1).toInt y_16.toInt ((kt_runs 1).tail) := hn_17_0
      rw [ht] at hP1
      have hK1 := va_K.moved hvm.symm hK1
      obtain ⟨hP, hD⟩ := va_join (wr := []) (w1 := [(h0, kO5 h1 n0_size h2 y_16), (h1, kAi cint 50 f1), (h2, kAi cint 24 f_17)]) hP hD [0, 1, 2] [] rfl rfl (by decide) (by decide) hk1 hFc hP1 hD1
      generalize H1 = H at hP hS ⊢
      have hP : va_P (dC, dI) vwCl [(h0, kO5 h1 n0_size h2 y_16), (h1, kAi cint 50 f1), (h2, kAi cint 24 f_17)] H := hP
      have hD : va_D A [(h0, kO5 h1 n0_size h2 y_16), (h1, kAi cint 50 f1), (h2, kAi cint 24 f_17)] := hD
      rcases hw with ⟨t_15_0, rfl⟩
      · skip
        have t_15_0 : ((p3 + p0) + 3) = kk_runs 1 p0 p3 := t_15_0
        obtain ⟨hP9, hD9⟩ := kk_leafout (wc := [(h0, kO5 h1 n0_size h2 y_16), (h1, kAi cint 50 f1), (h2, kAi cint 24 f_17)]) hP hD [0, 1, 2] (by decide) rfl
        have hK9 := kk_Ks (tq := []) hK [] rfl
        exact W.iret (v := ((p3 + p0) + 3)) hx hb hr (fun t ht hW => ⟨⟨((p3 + p0) + 3), (), rfl, ⟨(by first | rfl | (unfold kk_runs; (repeat' split) <;> first | rfl | (exfalso; have : (0 : Int32).toInt = 0 := rfl; have : (1 : Int32).toInt = 1 := rfl; have : (2 : Int32).toInt = 2 := rfl; have : (3 : Int32).toInt = 3 := rfl; have : (4 : Int32).toInt = 4 := rfl; have : (5 : Int32).toInt = 5 := rfl; have : (6 : Int32).toInt = 6 := rfl; have : (7 : Int32).toInt = 7 := rfl; have := kk_add2 (x := n0_ran) (y := 1) (a := n0_ran.toInt) (b := 1) rfl rfl (by omega) (by omega); have := kk_add2 (x := p4) (y := 1) (a := p4.toInt) (b := 1) rfl rfl (by omega) (by omega); omega))), rfl⟩, y_16, f_17, (by show 1 ≤ (y_16 : Int32).toInt ∧ (y_16 : Int32).toInt ≤ 1000; first | with_reducible assumption | (constructor <;> (have := kk_add2 (x := n0_ran) (y := 1) (a := n0_ran.toInt) (b := 1) rfl rfl (by omega) (by omega); have := kk_add2 (x := p4) (y := 1) (a := p4.toInt) (b := 1) rfl rfl (by omega) (by omega); omega))), (by show (y_16 : Int32).toInt ≤ (n0_ran : Int32).toInt + 2; first | with_reducible assumption | (have := kk_add2 (x := n0_ran) (y := 1) (a := n0_ran.toInt) (b := 1) rfl rfl (by omega) (by omega); have := kk_add2 (x := p4) (y := 1) (a := p4.toInt) (b := 1) rfl rfl (by omega) (by omega); omega)), (by first | exact kk_P_eq (kk_P_trans hp_14 hn_17_0) rfl | (unfold kt_runs; (repeat' split) <;> first | exact kk_P_eq (kk_P_trans hp_14 hn_17_0) rfl | (exfalso; have : (0 : Int32).toInt = 0 := rfl; have : (1 : Int32).toInt = 1 := rfl; have : (2 : Int32).toInt = 2 := rfl; have : (3 : Int32).toInt = 3 := rfl; have : (4 : Int32).toInt = 4 := rfl; have : (5 : Int32).toInt = 5 := rfl; have : (6 : Int32).toInt = 6 := rfl; have : (7 : Int32).toInt = 7 := rfl; have := kk_add2 (x := n0_ran) (y := 1) (a := n0_ran.toInt) (b := 1) rfl rfl (by omega) (by omega); have := kk_add2 (x := p4) (y := 1) (a := p4.toInt) (b := 1) rfl rfl (by omega) (by omega); omega))), by rw [ht]; exact hP9, va_K.moved hW.alike hK9, hD9⟩, hS.F ht⟩) hS.2.2 dX5_call_143
  · have t_5 : 40 < p4.toInt := kk_nle c_5
    exfalso; omega
set_option maxHeartbeats 4000000 in
set_option maxRecDepth 100000 in
theorem g_X5_runUnder_11 (l : Launch) (dC : Nat → ClassId) (dI : Nat → Nat → Nat) (h0 : Nat) (h1 : Nat) (h2 : Nat) (cint : ClassId) (sz : Nat) (p0 : Int32) (p3 : Int32) (p4 : Int32) (tp4 : 0 ≤ p4.toInt ∧ p4.toInt ≤ 21) (n0_size : Int32) (n0_ran : Int32) (f1 : Nat → Int32) (f2 : Nat → Int32) (tn0_size : 0 ≤ n0_size.toInt ∧ n0_size.toInt ≤ 50) (tn0_ran : 0 ≤ n0_ran.toInt ∧ n0_ran.toInt ≤ 998) (bf1 : ∀ j, j < 50 → 0 ≤ (f1 j).toInt ∧ (f1 j).toInt ≤ 7) (pr0 : (0 ≤ p0.toInt ∧ p0.toInt < n0_size.toInt)) (aABOVE : Nat) (aOWN_BODIES : Nat) : Met l yX5_runUnder wsX5_runUnder ({ frames := 6, cells := 0, slots := 0, locals := 148 }) (va_Pc [.ref h0, .int p0, .int 7, .int 80, .int p3, .int p4] (fun U => U.heap.size = sz ∧ va_P (dC, dI) vwCl [(h0, kO5 h1 n0_size h2 n0_ran), (h1, kAi cint 50 f1), (h2, kAi cint 24 f2)] U.heap ∧ va_K (dC, dI) vwCl [(cint, .int)] U ∧ va_D (fun _ => True) [(h0, kO5 h1 n0_size h2 n0_ran), (h1, kAi cint 50 f1), (h2, kAi cint 24 f2)] ∧ va_Z "KinkStreet$Lines" "ABOVE" "[I" (.ref aABOVE) (va_A [(h0, kO5 h1 n0_size h2 n0_ran), (h1, kAi cint 50 f1), (h2, kAi cint 24 f2)] sz) U U.heap ∧ va_T .int aABOVE 8 tb_ABOVE (va_A [(h0, kO5 h1 n0_size h2 n0_ran), (h1, kAi cint 50 f1), (h2, kAi cint 24 f2)] sz) U U.heap ∧ va_Z "KinkStreet$Lines" "OWN_BODIES" "[I" (.ref aOWN_BODIES) (va_A [(h0, kO5 h1 n0_size h2 n0_ran), (h1, kAi cint 50 f1), (h2, kAi cint 24 f2)] sz) U U.heap ∧ va_T .int aOWN_BODIES 32 tb_OWN_BODIES (va_A [(h0, kO5 h1 n0_size h2 n0_ran), (h1, kAi cint 50 f1), (h2, kAi cint 24 f2)] sz) U U.heap)) (va_Qi (fun (r : Int32) (_ : Unit) => r = kk_runs 7 p0 p3 ∧ (((p3 + p0) + 3) * 2) = r) (fun (_ : Unit) t => ∃ (m0_ran : Int32) (g2 : Nat → Int32), (1 ≤ m0_ran.toInt ∧ m0_ran.toInt ≤ 1000) ∧ (m0_ran.toInt ≤ n0_ran.toInt + 2) ∧ (kk_P f2 g2 n0_ran.toInt m0_ran.toInt ((kt_runs 7).tail)) ∧ va_P (dC, dI) vwCl [(h0, kO5 h1 n0_size h2 m0_ran), (h1, kAi cint 50 f1), (h2, kAi cint 24 g2)] t.heap ∧ va_K (dC, dI) vwCl [] t ∧ va_D (va_A [(h0, kO5 h1 n0_size h2 n0_ran), (h1, kAi cint 50 f1), (h2, kAi cint 24 f2)] sz) [(h0, kO5 h1 n0_size h2 m0_ran), (h1, kAi cint 50 f1), (h2, kAi cint 24 g2)]) (va_A [(h0, kO5 h1 n0_size h2 n0_ran), (h1, kAi cint 50 f1), (h2, kAi cint 24 f2)] sz)) 0 0 (va_A [(h0, kO5 h1 n0_size h2 n0_ran), (h1, kAi cint 50 f1), (h2, kAi cint 24 f2)] sz) := by
  refine Met.ofW (cc := cX5_runUnder) (maxL := 8) (ret := (some .int)) (by decide) rfl ?_
  intro p e s m args below meth c s₁ B hml hv
  obtain ⟨rfl, hsz, hP, hK, hD0, hZABOVE, hTABOVE, hZOWN_BODIES, hTOWN_BODIES⟩ := hv
  have hx := B.exec
  have hb := B.bytes
  have hr := B.returns
  have hts := atoms_spec (ws := wsX5_runUnder) B.pre
  have hown : s.vm.findClass RX5 = some m.cls := findClass_of_methodNamed B.named
  have hlocks := B.notSynchronized
  subst hsz
  have hD := hD0.self (sz := s.heap.size)
  generalize hAe : va_A [(h0, kO5 h1 n0_size h2 n0_ran), (h1, kAi cint 50 f1), (h2, kAi cint 24 f2)] s.heap.size = A at hD hZABOVE hTABOVE hZOWN_BODIES hTOWN_BODIES ⊢
  have hA : ∀ q : Nat, s.heap.size ≤ q → A q := fun q h => by rw [← hAe]; exact Or.inr h
  have hS : va_S A s.heap s.heap [] := va_S.rf
  have hP : va_P (dC, dI) vwCl [(h0, kO5 h1 n0_size h2 n0_ran), (h1, kAi cint 50 f1), (h2, kAi cint 24 f2)] s.heap := hP
  have hl := lv_entry ([.ref h0, .int p0, .int 7, .int 80, .int p3, .int p4]) (n := 8) (Nat.le_of_ble_eq_true rfl)
  rw [lg_entry_eq]
  generalize (lg_sl ([.ref h0, .int p0, .int 7, .int 80, .int p3, .int p4]) ++ List.replicate (8 - (lg_sl ([.ref h0, .int p0, .int 7, .int 80, .int p3, .int p4])).length) Slot.unset).toArray = ls at hl ⊢
  have hl : lv_has ls 8 [(0, .ref h0), (1, .int p0), (2, .int 7), (3, .int 80), (4, .int p3), (5, .int p4)] := hl
  refine lv_aload_n hx hb dX5_runUnder_0 rfl (lv_at hl 0 rfl) ?_
  refine lv_iload_n hx hb dX5_runUnder_1 rfl (lv_at hl 1 rfl) ?_
  obtain ⟨hPc, hDc, hFc⟩ := kk_cutout (wc := [(h0, kO5 h1 n0_size h2 n0_ran), (h1, kAi cint 50 f1)]) hP hD hS hA [0, 1] (by decide) rfl
  have hKc := kk_Ks (tq := [(cint, .int)]) hK [0] rfl
  refine va_calli (va_runV (As := [.int p0]) (rest := []) ⟨hx, hb, hml, hown, hts⟩ (g_X5_kindOf_1 l dC dI h0 h1 h2 cint s.heap.size p0 n0_size n0_ran f1 tn0_size (by show 0 ≤ (n0_ran : Int32).toInt ∧ (n0_ran : Int32).toInt ≤ 1000; first | with_reducible assumption | (constructor <;> (omega))) bf1) (cwV 1 hts gX5_runUnder_X5_kindOf rfl rfl rfl ⟨rfl, kh_X5_kindOf⟩ ⟨Nat.le_of_ble_eq_true rfl, Nat.le_of_ble_eq_true rfl⟩) ⟨fun a U g mk q => by obtain ⟨q0, q1, qP, qK, qD⟩ := q; exact ⟨q0, q1, qP, va_K.moved (u := U) (U := U.calling g mk a) (Vm.Alike.refl U.vm) qK, qD⟩, va_recv hKc hPc (ci := 5) (q0 := 0) rfl rfl, fun U hU hW => ⟨rfl, by rw [hU], by rw [hU]; exact hPc, va_K.moved hW.alike hKc, hDc.weaken (fun _ _ _ _ => trivial)⟩⟩ rfl rfl hl.1 rfl (lv_room (Nat.le_of_ble_eq_true rfl)) dX5_runUnder_2 ⟨Nat.le_of_ble_eq_true rfl, Nat.le_of_ble_eq_true rfl⟩) hS (fun q _ h => hFc q h) hFc (fun r_1 u t H1 locs ht hvm hw hB hz1 hk1 hS => ?_)
  obtain ⟨hP1, hK1, hD1⟩ := hB
  rw [ht] at hP1
  have hK1 := va_K.moved hvm.symm hK1
  obtain ⟨hP, hD⟩ := va_join (wr := [(h2, kAi cint 24 f2)]) (w1 := [(h0, kO5 h1 n0_size h2 n0_ran), (h1, kAi cint 50 f1)]) hP hD [0, 1] [2] rfl rfl (by decide) (by decide) hk1 hFc hP1 hD1
  generalize H1 = H at hP hS ⊢
  have hP : va_P (dC, dI) vwCl [(h2, kAi cint 24 f2), (h0, kO5 h1 n0_size h2 n0_ran), (h1, kAi cint 50 f1)] H := hP
  have hD : va_D A [(h2, kAi cint 24 f2), (h0, kO5 h1 n0_size h2 n0_ran), (h1, kAi cint 50 f1)] := hD
  rcases hw with ⟨t_1_0, t_1_1, t_1_any⟩
  · skip
    have t_1_0 : ((0 ≤ p0.toInt ∧ p0.toInt < n0_size.toInt → r_1.toInt = (f1 (p0 : Int32).toNatClampNeg).toInt ∧ 0 ≤ (f1 (p0 : Int32).toNatClampNeg).toInt) ∧ (¬ (0 ≤ p0.toInt ∧ p0.toInt < n0_size.toInt) → r_1.toInt = -1)) := t_1_0
    have t_1_1 : (0 ≤ p0.toInt ∧ p0.toInt < n0_size.toInt → r_1 = (f1 (p0 : Int32).toNatClampNeg)) := t_1_1
    obtain rfl : r_1 = (f1 (p0 : Int32).toNatClampNeg) := t_1_1 (by omega)
    refine lv_istore hx hb dX5_runUnder_5 hl (by decide) (rfl : _ = ([(6, .int (f1 (p0 : Int32).toNatClampNeg)), (0, .ref h0), (1, .int p0), (2, .int 7), (3, .int 80), (4, .int p3), (5, .int p4)] : List (Nat × Value))) (fun ls hl => ?_)
    refine lv_iload_n hx hb dX5_runUnder_7 rfl (lv_at hl 3 rfl) ?_
    obtain ⟨hPc, hDc, hFc⟩ := kk_cutout (wc := []) hP hD hS hA [] (by decide) rfl
    have hKc := kk_Ks (tq := []) hK [] rfl
    refine va_calli (va_runS (As := [.int 7]) (rest := []) ⟨hx, hb, hml, hown, hts⟩ (g_X5_isKind_18 l dC dI H.size) (va_cwS 1 hts gX5_runUnder_X5_isKind rfl rfl rfl kh_X5_isKind ⟨Nat.le_of_ble_eq_true rfl, Nat.le_of_ble_eq_true rfl⟩) ⟨fun a U g mk q => by obtain ⟨q0, q1, qP, qK, qD⟩ := q; exact ⟨q0, q1, qP, va_K.moved (u := U) (U := U.calling g mk a) (Vm.Alike.refl U.vm) qK, qD⟩, fun U hU hW => ⟨rfl, by rw [hU], by rw [hU]; exact hPc, va_K.moved hW.alike hKc, hDc.weaken (fun _ _ _ _ => trivial)⟩⟩ rfl rfl hl.1 rfl (lv_room (Nat.le_of_ble_eq_true rfl)) dX5_runUnder_8 ⟨Nat.le_of_ble_eq_true rfl, Nat.le_of_ble_eq_true rfl⟩) hS (fun q _ h => hFc q h) hFc (fun r_2 u t H1 locs ht hvm hw hB hz1 hk1 hS => ?_)
    obtain ⟨hP1, hK1, hD1⟩ := hB
    rw [ht] at hP1
    have hK1 := va_K.moved hvm.symm hK1
    obtain ⟨hP, hD⟩ := va_join (wr := [(h2, kAi cint 24 f2), (h0, kO5 h1 n0_size h2 n0_ran), (h1, kAi cint 50 f1)]) (w1 := []) hP hD [] [0, 1, 2] rfl rfl (by decide) (by decide) hk1 hFc hP1 hD1
    generalize H1 = H at hP hS ⊢
    have hP : va_P (dC, dI) vwCl [(h2, kAi cint 24 f2), (h0, kO5 h1 n0_size h2 n0_ran), (h1, kAi cint 50 f1)] H := hP
    have hD : va_D A [(h2, kAi cint 24 f2), (h0, kO5 h1 n0_size h2 n0_ran), (h1, kAi cint 50 f1)] := hD
    obtain rfl := hw
    refine lv_if_eq (tgt := 22) hx hb dX5_runUnder_11 (by decide) (fun c => absurd c (by decide)) (fun _ => ?_)
    refine va_gets hx hb hZABOVE hS hown (hts (.fieldLink RX5 22 "KinkStreet$Lines" "ABOVE" "[I") (List.mem_of_getElem? (i := 1) rfl)) (fun _ h9 => h9) dX5_runUnder_14 ?_
    refine lv_iload_n hx hb dX5_runUnder_17 rfl (lv_at hl 3 rfl) ?_
    refine va_ti (v := .int 1) hx hb hTABOVE hS (by unfold vp_in; decide) rfl dX5_runUnder_18 ?_
    refine lv_goto (tgt := 23) hx hb dX5_runUnder_19 (by decide) ?_
    refine lv_istore hx hb dX5_runUnder_23 hl (by decide) (rfl : _ = ([(7, .int 1), (6, .int (f1 (p0 : Int32).toNatClampNeg)), (0, .ref h0), (1, .int p0), (2, .int 7), (3, .int 80), (4, .int p3), (5, .int p4)] : List (Nat × Value))) (fun ls hl => ?_)
    refine lv_iload_n hx hb dX5_runUnder_25 rfl (lv_at hl 5 rfl) ?_
    refine lv_lookup (tgt := 224) (off := 198) hx hb dX5_runUnder_26 (by decide) (by decide) (by decide) ?_
    refine lv_aload_n hx hb dX5_runUnder_224 rfl (lv_at hl 2 rfl) ?_
    refine lv_iload_n hx hb dX5_runUnder_225 rfl (lv_at hl 3 rfl) ?_
    refine lv_iload hx hb dX5_runUnder_226 (lv_at hl 0 rfl) ?_
    refine lv_iconst (v := 0) hx hb dX5_runUnder_228 kk_ic_0 ?_
    refine lv_iload hx hb dX5_runUnder_229 (lv_at hl 6 rfl) ?_
    refine lv_iload hx hb dX5_runUnder_231 (lv_at hl 7 rfl) ?_
    obtain ⟨hPc, hDc, hFc⟩ := kk_cutout (wc := [(h0, kO5 h1 n0_size h2 n0_ran), (h1, kAi cint 50 f1), (h2, kAi cint 24 f2)]) hP hD hS hA [1, 2, 0] (by decide) rfl
    have hKc := kk_Ks (tq := [(cint, .int)]) hK [0] rfl
    refine va_calli (va_runV (As := [.int p0, .int 1, .int 0, .int p3, .int p4]) (rest := []) ⟨hx, hb, hml, hown, hts⟩ (g_X5_call_13 l dC dI h0 h1 h2 cint H.size p0 p3 p4 tp4 n0_size n0_ran f1 f2 tn0_size tn0_ran bf1 (by show (0 ≤ (p0 : Int32).toInt ∧ (p0 : Int32).toInt < (n0_size : Int32).toInt); first | with_reducible assumption | (omega)) aOWN_BODIES aABOVE) (cwV 5 hts gX5_runUnder_X5_call rfl rfl rfl ⟨rfl, kh_X5_call⟩ ⟨Nat.le_of_ble_eq_true rfl, Nat.le_of_ble_eq_true rfl⟩) ⟨fun a U g mk q => by obtain ⟨q0, q1, qP, qK, qD, qx0, qx1, qx2, qx3⟩ := q; exact ⟨q0, q1, qP, va_K.moved (u := U) (U := U.calling g mk a) (Vm.Alike.refl U.vm) qK, qD, va_Z.moved (u := U) (U := U.calling g mk a) (Vm.Alike.refl U.vm) qx0, va_T.moved (u := U) (U := U.calling g mk a) (Vm.Alike.refl U.vm) qx1, va_Z.moved (u := U) (U := U.calling g mk a) (Vm.Alike.refl U.vm) qx2, va_T.moved (u := U) (U := U.calling g mk a) (Vm.Alike.refl U.vm) qx3⟩, va_recv hKc hPc (ci := 5) (q0 := 0) rfl rfl, fun U hU hW => ⟨rfl, by rw [hU], by rw [hU]; exact hPc, va_K.moved hW.alike hKc, hDc.weaken (fun _ _ _ _ => trivial), by rw [hU]; exact ((hZOWN_BODIES.kept (fun a h1 h2 => hS.2.1 a h1 h2)).narrow hFc).moved hW.alike, by rw [hU]; exact ((hTOWN_BODIES.kept (fun a h1 h2 => hS.2.1 a h1 h2)).narrow hFc).moved hW.alike, by rw [hU]; exact ((hZABOVE.kept (fun a h1 h2 => hS.2.1 a h1 h2)).narrow hFc).moved hW.alike, by rw [hU]; exact ((hTABOVE.kept (fun a h1 h2 => hS.2.1 a h1 h2)).narrow hFc).moved hW.alike⟩⟩ rfl rfl hl.1 rfl (lv_room (Nat.le_of_ble_eq_true rfl)) dX5_runUnder_233 ⟨Nat.le_of_ble_eq_true rfl, Nat.le_of_ble_eq_true rfl⟩) hS (fun q _ h => hFc q h) hFc (fun r_3 u t H1 locs ht hvm hw hB hz1 hk1 hS => ?_)
    obtain ⟨y_4, f_5, by_4, v_5_0, hn_5_0, hP1, hK1, hD1⟩ := hB
    have v_5_0 : y_4.toInt ≤ n0_ran.toInt + 2 := v_5_0
    have hn_5_0 : kk_P f2 f_5 n0_ran.toInt y_4.toInt (kt_runs 1) := hn_5_0
    rw [ht] at hP1
    have hK1 := va_K.moved hvm.symm hK1
    obtain ⟨hP, hD⟩ := va_join (wr := []) (w1 := [(h0, kO5 h1 n0_size h2 y_4), (h1, kAi cint 50 f1), (h2, kAi cint 24 f_5)]) hP hD [1, 2, 0] [] rfl rfl (by decide) (by decide) hk1 hFc hP1 hD1
    generalize H1 = H at hP hS ⊢
    have hP : va_P (dC, dI) vwCl [(h0, kO5 h1 n0_size h2 y_4), (h1, kAi cint 50 f1), (h2, kAi cint 24 f_5)] H := hP
    have hD : va_D A [(h0, kO5 h1 n0_size h2 y_4), (h1, kAi cint 50 f1), (h2, kAi cint 24 f_5)] := hD
    rcases hw with ⟨t_3_0, rfl⟩
    · skip
      have t_3_0 : ((p3 + p0) + 3) = kk_runs 1 p0 p3 := t_3_0
      refine lv_iconst (v := 2) hx hb dX5_runUnder_236 kk_ic_2 ?_
      refine lv_imul hx hb dX5_runUnder_237 ?_
      obtain ⟨hP9, hD9⟩ := kk_leafout (wc := [(h0, kO5 h1 n0_size h2 y_4), (h1, kAi cint 50 f1), (h2, kAi cint 24 f_5)]) hP hD [0, 1, 2] (by decide) rfl
      have hK9 := kk_Ks (tq := []) hK [] rfl
      exact W.iret (v := (((p3 + p0) + 3) * 2)) hx hb hr (fun t ht hW => ⟨⟨(((p3 + p0) + 3) * 2), (), rfl, ⟨(by first | rfl | (unfold kk_runs; (repeat' split) <;> first | rfl | (exfalso; have : (0 : Int32).toInt = 0 := rfl; have : (1 : Int32).toInt = 1 := rfl; have : (2 : Int32).toInt = 2 := rfl; have : (3 : Int32).toInt = 3 := rfl; have : (4 : Int32).toInt = 4 := rfl; have : (5 : Int32).toInt = 5 := rfl; have : (6 : Int32).toInt = 6 := rfl; have : (7 : Int32).toInt = 7 := rfl; omega))), rfl⟩, y_4, f_5, (by show 1 ≤ (y_4 : Int32).toInt ∧ (y_4 : Int32).toInt ≤ 1000; first | with_reducible assumption | (constructor <;> (omega))), (by show (y_4 : Int32).toInt ≤ (n0_ran : Int32).toInt + 2; first | with_reducible assumption | (omega)), (by first | exact kk_P_eq hn_5_0 rfl | (unfold kt_runs; (repeat' split) <;> first | exact kk_P_eq hn_5_0 rfl | (exfalso; have : (0 : Int32).toInt = 0 := rfl; have : (1 : Int32).toInt = 1 := rfl; have : (2 : Int32).toInt = 2 := rfl; have : (3 : Int32).toInt = 3 := rfl; have : (4 : Int32).toInt = 4 := rfl; have : (5 : Int32).toInt = 5 := rfl; have : (6 : Int32).toInt = 6 := rfl; have : (7 : Int32).toInt = 7 := rfl; omega))), by rw [ht]; exact hP9, va_K.moved hW.alike hK9, hD9⟩, hS.F ht⟩) hS.2.2 dX5_runUnder_238
set_option maxHeartbeats 4000000 in
set_option maxRecDepth 100000 in
theorem g_X5_call_14 (l : Launch) (dC : Nat → ClassId) (dI : Nat → Nat → Nat) (h0 : Nat) (h1 : Nat) (h2 : Nat) (cint : ClassId) (sz : Nat) (p0 : Int32) (p1 : Int32) (p3 : Int32) (p4 : Int32) (tp1 : 0 ≤ p1.toInt ∧ p1.toInt ≤ 7) (tp4 : 0 ≤ p4.toInt ∧ p4.toInt ≤ 20) (n0_size : Int32) (n0_ran : Int32) (f1 : Nat → Int32) (f2 : Nat → Int32) (tn0_size : 0 ≤ n0_size.toInt ∧ n0_size.toInt ≤ 50) (tn0_ran : 0 ≤ n0_ran.toInt ∧ n0_ran.toInt ≤ 997) (bf1 : ∀ j, j < 50 → 0 ≤ (f1 j).toInt ∧ (f1 j).toInt ≤ 7) (pr0 : (0 ≤ p0.toInt ∧ p0.toInt < n0_size.toInt)) (aOWN_BODIES : Nat) (aABOVE : Nat) : Met l yX5_call wsX5_call ({ frames := 7, cells := 0, slots := 0, locals := 175 }) (va_Pc [.ref h0, .int p0, .int p1, .int 0, .int p3, .int p4] (fun U => U.heap.size = sz ∧ va_P (dC, dI) vwCl [(h0, kO5 h1 n0_size h2 n0_ran), (h1, kAi cint 50 f1), (h2, kAi cint 24 f2)] U.heap ∧ va_K (dC, dI) vwCl [(cint, .int)] U ∧ va_D (fun _ => True) [(h0, kO5 h1 n0_size h2 n0_ran), (h1, kAi cint 50 f1), (h2, kAi cint 24 f2)] ∧ va_Z "KinkStreet$Lines" "OWN_BODIES" "[I" (.ref aOWN_BODIES) (va_A [(h0, kO5 h1 n0_size h2 n0_ran), (h1, kAi cint 50 f1), (h2, kAi cint 24 f2)] sz) U U.heap ∧ va_T .int aOWN_BODIES 32 tb_OWN_BODIES (va_A [(h0, kO5 h1 n0_size h2 n0_ran), (h1, kAi cint 50 f1), (h2, kAi cint 24 f2)] sz) U U.heap ∧ va_Z "KinkStreet$Lines" "ABOVE" "[I" (.ref aABOVE) (va_A [(h0, kO5 h1 n0_size h2 n0_ran), (h1, kAi cint 50 f1), (h2, kAi cint 24 f2)] sz) U U.heap ∧ va_T .int aABOVE 8 tb_ABOVE (va_A [(h0, kO5 h1 n0_size h2 n0_ran), (h1, kAi cint 50 f1), (h2, kAi cint 24 f2)] sz) U U.heap)) (va_Qi (fun (r : Int32) (_ : Unit) => r = kk_runs p1 p0 p3 ∧ True) (fun (_ : Unit) t => ∃ (m0_ran : Int32) (g2 : Nat → Int32), (1 ≤ m0_ran.toInt ∧ m0_ran.toInt ≤ 1000) ∧ (m0_ran.toInt ≤ n0_ran.toInt + 3) ∧ (kk_P f2 g2 n0_ran.toInt m0_ran.toInt (kt_runs p1)) ∧ va_P (dC, dI) vwCl [(h0, kO5 h1 n0_size h2 m0_ran), (h1, kAi cint 50 f1), (h2, kAi cint 24 g2)] t.heap ∧ va_K (dC, dI) vwCl [] t ∧ va_D (va_A [(h0, kO5 h1 n0_size h2 n0_ran), (h1, kAi cint 50 f1), (h2, kAi cint 24 f2)] sz) [(h0, kO5 h1 n0_size h2 m0_ran), (h1, kAi cint 50 f1), (h2, kAi cint 24 g2)]) (va_A [(h0, kO5 h1 n0_size h2 n0_ran), (h1, kAi cint 50 f1), (h2, kAi cint 24 f2)] sz)) 0 0 (va_A [(h0, kO5 h1 n0_size h2 n0_ran), (h1, kAi cint 50 f1), (h2, kAi cint 24 f2)] sz) := by
  refine Met.ofW (cc := cX5_call) (maxL := 8) (ret := (some .int)) (by decide) rfl ?_
  intro p e s m args below meth c s₁ B hml hv
  obtain ⟨rfl, hsz, hP, hK, hD0, hZOWN_BODIES, hTOWN_BODIES, hZABOVE, hTABOVE⟩ := hv
  have hx := B.exec
  have hb := B.bytes
  have hr := B.returns
  have hts := atoms_spec (ws := wsX5_call) B.pre
  have hown : s.vm.findClass RX5 = some m.cls := findClass_of_methodNamed B.named
  have hlocks := B.notSynchronized
  subst hsz
  have hD := hD0.self (sz := s.heap.size)
  generalize hAe : va_A [(h0, kO5 h1 n0_size h2 n0_ran), (h1, kAi cint 50 f1), (h2, kAi cint 24 f2)] s.heap.size = A at hD hZOWN_BODIES hTOWN_BODIES hZABOVE hTABOVE ⊢
  have hA : ∀ q : Nat, s.heap.size ≤ q → A q := fun q h => by rw [← hAe]; exact Or.inr h
  have hS : va_S A s.heap s.heap [] := va_S.rf
  have hP : va_P (dC, dI) vwCl [(h0, kO5 h1 n0_size h2 n0_ran), (h1, kAi cint 50 f1), (h2, kAi cint 24 f2)] s.heap := hP
  have hl := lv_entry ([.ref h0, .int p0, .int p1, .int 0, .int p3, .int p4]) (n := 8) (Nat.le_of_ble_eq_true rfl)
  rw [lg_entry_eq]
  generalize (lg_sl ([.ref h0, .int p0, .int p1, .int 0, .int p3, .int p4]) ++ List.replicate (8 - (lg_sl ([.ref h0, .int p0, .int p1, .int 0, .int p3, .int p4])).length) Slot.unset).toArray = ls at hl ⊢
  have hl : lv_has ls 8 [(0, .ref h0), (1, .int p0), (2, .int p1), (3, .int 0), (4, .int p3), (5, .int p4)] := hl
  rcases (show p1 = 0 ∨ p1 = 1 ∨ p1 = 2 ∨ p1 = 3 ∨ p1 = 4 ∨ p1 = 5 ∨ p1 = 6 ∨ p1 = 7 from by simp only [← Int32.toInt_inj]; simp; omega) with e_1 | e_1 | e_1 | e_1 | e_1 | e_1 | e_1 | e_1
  · have t_1 : p1.toInt = 0 := by rw [e_1]; rfl
    subst e_1
    refine lv_iload_n hx hb dX5_call_0 rfl (lv_at hl 2 rfl) ?_
    refine lv_istore hx hb dX5_call_1 hl (by decide) (rfl : _ = ([(6, .int 0), (0, .ref h0), (1, .int p0), (2, .int 0), (3, .int 0), (4, .int p3), (5, .int p4)] : List (Nat × Value))) (fun ls hl => ?_)
    refine lv_iconst (v := 0) hx hb dX5_call_3 kk_ic_0 ?_
    refine lv_istore hx hb dX5_call_4 hl (by decide) (rfl : _ = ([(7, .int 0), (6, .int 0), (0, .ref h0), (1, .int p0), (2, .int 0), (3, .int 0), (4, .int p3), (5, .int p4)] : List (Nat × Value))) (fun ls hl => ?_)
    refine lv_iload hx hb dX5_call_6 (lv_at hl 0 rfl) ?_
    refine lv_bipush (v := 8) hx hb dX5_call_8 kk_bi_8 ?_
    refine lv_icmp_ge (tgt := 48) hx hb dX5_call_10 (by decide) (fun c => absurd c (by decide)) (fun _ => ?_)
    refine lv_iload hx hb dX5_call_13 (lv_at hl 1 rfl) ?_
    obtain ⟨hPc, hDc, hFc⟩ := kk_cutout (wc := []) hP hD hS hA [] (by decide) rfl
    have hKc := kk_Ks (tq := []) hK [] rfl
    refine va_calli (va_runS (As := [.int 0]) (rest := []) ⟨hx, hb, hml, hown, hts⟩ (g_X5_isKind_11 l dC dI s.heap.size) (va_cwS 1 hts gX5_call_X5_isKind rfl rfl rfl kh_X5_isKind ⟨Nat.le_of_ble_eq_true rfl, Nat.le_of_ble_eq_true rfl⟩) ⟨fun a U g mk q => by obtain ⟨q0, q1, qP, qK, qD⟩ := q; exact ⟨q0, q1, qP, va_K.moved (u := U) (U := U.calling g mk a) (Vm.Alike.refl U.vm) qK, qD⟩, fun U hU hW => ⟨rfl, by rw [hU], by rw [hU]; exact hPc, va_K.moved hW.alike hKc, hDc.weaken (fun _ _ _ _ => trivial)⟩⟩ rfl rfl hl.1 rfl (lv_room (Nat.le_of_ble_eq_true rfl)) dX5_call_15 ⟨Nat.le_of_ble_eq_true rfl, Nat.le_of_ble_eq_true rfl⟩) hS (fun q _ h => hFc q h) hFc (fun r_2 u t H1 locs ht hvm hw hB hz1 hk1 hS => ?_)
    obtain ⟨hP1, hK1, hD1⟩ := hB
    rw [ht] at hP1
    have hK1 := va_K.moved hvm.symm hK1
    obtain ⟨hP, hD⟩ := va_join (wr := [(h0, kO5 h1 n0_size h2 n0_ran), (h1, kAi cint 50 f1), (h2, kAi cint 24 f2)]) (w1 := []) hP hD [] [0, 1, 2] rfl rfl (by decide) (by decide) hk1 hFc hP1 hD1
    generalize H1 = H at hP hS ⊢
    have hP : va_P (dC, dI) vwCl [(h0, kO5 h1 n0_size h2 n0_ran), (h1, kAi cint 50 f1), (h2, kAi cint 24 f2)] H := hP
    have hD : va_D A [(h0, kO5 h1 n0_size h2 n0_ran), (h1, kAi cint 50 f1), (h2, kAi cint 24 f2)] := hD
    obtain rfl := hw
    refine lv_if_eq (tgt := 48) hx hb dX5_call_18 (by decide) (fun c => absurd c (by decide)) (fun _ => ?_)
    refine va_gets hx hb hZOWN_BODIES hS hown (hts (.fieldLink RX5 43 "KinkStreet$Lines" "OWN_BODIES" "[I") (List.mem_of_getElem? (i := 1) rfl)) (fun _ h9 => h9) dX5_call_21 ?_
    refine lv_iload hx hb dX5_call_24 (lv_at hl 1 rfl) ?_
    refine lv_iconst (v := 4) hx hb dX5_call_26 kk_ic_4 ?_
    refine lv_imul hx hb dX5_call_27 ?_
    refine lv_topi (fun y_3 e_3 => ?_)
    obtain rfl : y_3 = 0 := e_3.trans (by decide)
    refine lv_iload_n hx hb dX5_call_28 rfl (lv_at hl 5 rfl) ?_
    refine lv_iadd hx hb dX5_call_29 ?_
    refine lv_topi (fun y_4 e_4 => ?_)
    obtain rfl : y_4 = 0 := e_4.trans (by decide)
    refine va_ti (v := .int 1) hx hb hTOWN_BODIES hS (by unfold vp_in; decide) rfl dX5_call_30 ?_
    refine lv_if_ne (tgt := 48) hx hb dX5_call_31 (by decide) (fun _ => ?_) (fun c => absurd c (by decide))
    refine lv_iload hx hb dX5_call_48 (lv_at hl 1 rfl) ?_
    obtain ⟨hPc, hDc, hFc⟩ := kk_cutout (wc := []) hP hD hS hA [] (by decide) rfl
    have hKc := kk_Ks (tq := []) hK [] rfl
    refine va_calli (va_runS (As := [.int 0]) (rest := []) ⟨hx, hb, hml, hown, hts⟩ (g_X5_isKind_11 l dC dI H.size) (va_cwS 1 hts gX5_call_X5_isKind rfl rfl rfl kh_X5_isKind ⟨Nat.le_of_ble_eq_true rfl, Nat.le_of_ble_eq_true rfl⟩) ⟨fun a U g mk q => by obtain ⟨q0, q1, qP, qK, qD⟩ := q; exact ⟨q0, q1, qP, va_K.moved (u := U) (U := U.calling g mk a) (Vm.Alike.refl U.vm) qK, qD⟩, fun U hU hW => ⟨rfl, by rw [hU], by rw [hU]; exact hPc, va_K.moved hW.alike hKc, hDc.weaken (fun _ _ _ _ => trivial)⟩⟩ rfl rfl hl.1 rfl (lv_room (Nat.le_of_ble_eq_true rfl)) dX5_call_50 ⟨Nat.le_of_ble_eq_true rfl, Nat.le_of_ble_eq_true rfl⟩) hS (fun q _ h => hFc q h) hFc (fun r_5 u t H1 locs ht hvm hw hB hz1 hk1 hS => ?_)
    obtain ⟨hP1, hK1, hD1⟩ := hB
    rw [ht] at hP1
    have hK1 := va_K.moved hvm.symm hK1
    obtain ⟨hP, hD⟩ := va_join (wr := [(h0, kO5 h1 n0_size h2 n0_ran), (h1, kAi cint 50 f1), (h2, kAi cint 24 f2)]) (w1 := []) hP hD [] [0, 1, 2] rfl rfl (by decide) (by decide) hk1 hFc hP1 hD1
    generalize H1 = H at hP hS ⊢
    have hP : va_P (dC, dI) vwCl [(h0, kO5 h1 n0_size h2 n0_ran), (h1, kAi cint 50 f1), (h2, kAi cint 24 f2)] H := hP
    have hD : va_D A [(h0, kO5 h1 n0_size h2 n0_ran), (h1, kAi cint 50 f1), (h2, kAi cint 24 f2)] := hD
    obtain rfl := hw
    refine lv_if_eq (tgt := 63) hx hb dX5_call_53 (by decide) (fun c => absurd c (by decide)) (fun _ => ?_)
    refine lv_iload hx hb dX5_call_56 (lv_at hl 7 rfl) ?_
    refine lv_bipush (v := 40) hx hb dX5_call_58 kk_bi_40 ?_
    refine lv_icmp_le (tgt := 65) hx hb dX5_call_60 (by decide) (fun c_6 => ?_) (fun c_6 => ?_)
    · have t_6 : p4.toInt ≤ 40 := kk_le c_6
      refine va_gets hx hb hZOWN_BODIES hS hown (hts (.fieldLink RX5 43 "KinkStreet$Lines" "OWN_BODIES" "[I") (List.mem_of_getElem? (i := 1) rfl)) (fun _ h9 => h9) dX5_call_65 ?_
      refine lv_iload hx hb dX5_call_68 (lv_at hl 1 rfl) ?_
      refine lv_iconst (v := 4) hx hb dX5_call_70 kk_ic_4 ?_
      refine lv_imul hx hb dX5_call_71 ?_
      refine lv_topi (fun y_7 e_7 => ?_)
      obtain rfl : y_7 = 0 := e_7.trans (by decide)
      refine lv_iload_n hx hb dX5_call_72 rfl (lv_at hl 5 rfl) ?_
      refine lv_iadd hx hb dX5_call_73 ?_
      refine lv_topi (fun y_8 e_8 => ?_)
      obtain rfl : y_8 = 0 := e_8.trans (by decide)
      refine va_ti (v := .int 1) hx hb hTOWN_BODIES hS (by unfold vp_in; decide) rfl dX5_call_74 ?_
      refine lv_istore hx hb dX5_call_75 hl (by decide) (rfl : _ = ([(7, .int 1), (6, .int 0), (0, .ref h0), (1, .int p0), (2, .int 0), (3, .int 0), (4, .int p3), (5, .int p4)] : List (Nat × Value))) (fun ls hl => ?_)
      refine lv_aload_n hx hb dX5_call_77 rfl (lv_at hl 2 rfl) ?_
      refine va_get (D := (dC, dI)) (ci := 5) (v := .int n0_ran) (C := RX5) (T := TX5) (N := 4) hx hb hts (fun _ h => List.mem_cons_of_mem _ (List.mem_append_right _ h)) hown hK hP 0 rfl rfl 3 (by decide) (hts (.fieldLink RX5 36 "KinkStreet$Lines" "ran" "I") (List.mem_of_getElem? (i := 3) rfl)) (fun _ h9 => h9) rfl dX5_call_78 ?_
      refine lv_bipush (v := 24) hx hb dX5_call_81 kk_bi_24 ?_
      refine lv_icmp_ge (tgt := 97) hx hb dX5_call_83 (by decide) (fun c_9 => ?_) (fun c_9 => ?_)
      · have t_9 : 24 ≤ n0_ran.toInt := kk_le c_9
        refine lv_aload_n hx hb dX5_call_97 rfl (lv_at hl 2 rfl) ?_
        refine lv_dup hx hb dX5_call_98 rfl ?_
        refine va_get (D := (dC, dI)) (ci := 5) (v := .int n0_ran) (C := RX5) (T := TX5) (N := 4) hx hb hts (fun _ h => List.mem_cons_of_mem _ (List.mem_append_right _ h)) hown hK hP 0 rfl rfl 3 (by decide) (hts (.fieldLink RX5 36 "KinkStreet$Lines" "ran" "I") (List.mem_of_getElem? (i := 3) rfl)) (fun _ h9 => h9) rfl dX5_call_99 ?_
        refine lv_iconst (v := 1) hx hb dX5_call_102 kk_ic_1 ?_
        refine lv_iadd hx hb dX5_call_103 ?_
        refine va_put (D := (dC, dI)) (ci := 5) (v := .int (n0_ran + 1)) (ty := .int) (C := RX5) (T := TX5) (N := 4) hx hb hts (fun _ h => List.mem_cons_of_mem _ (List.mem_append_right _ h)) tyX5 tyX5_ok nmX5 hown hK hP hD hS 0 rfl rfl 3 (by decide) (hts (.fieldLink RX5 36 "KinkStreet$Lines" "ran" "I") (List.mem_of_getElem? (i := 3) rfl)) (fun _ h9 => h9) rfl (by decide +kernel) rfl rfl (Nat.le_of_ble_eq_true rfl) dX5_call_104 (fun H locs hP hD hS => ?_)
        have hP : va_P (dC, dI) vwCl [(h0, kO5 h1 n0_size h2 (n0_ran + 1)), (h1, kAi cint 50 f1), (h2, kAi cint 24 f2)] H := hP
        have hD : va_D A [(h0, kO5 h1 n0_size h2 (n0_ran + 1)), (h1, kAi cint 50 f1), (h2, kAi cint 24 f2)] := hD
        have hp_10 : kk_P f2 f2 n0_ran.toInt (n0_ran + 1 : Int32).toInt [1] := kk_P_out (by have := kk_add2 (x := n0_ran) (y := 1) (a := n0_ran.toInt) (b := 1) rfl rfl (by omega) (by omega); omega) (by have := kk_add2 (x := n0_ran) (y := 1) (a := n0_ran.toInt) (b := 1) rfl rfl (by omega) (by omega); omega)
        refine lv_iload hx hb dX5_call_107 (lv_at hl 1 rfl) ?_
        refine lv_if_ne (tgt := 128) hx hb dX5_call_109 (by decide) (fun c => absurd c (by decide)) (fun _ => ?_)
        refine lv_aload_n hx hb dX5_call_112 rfl (lv_at hl 2 rfl) ?_
        refine lv_iload_n hx hb dX5_call_113 rfl (lv_at hl 3 rfl) ?_
        refine lv_iload hx hb dX5_call_114 (lv_at hl 0 rfl) ?_
        refine lv_iload hx hb dX5_call_116 (lv_at hl 6 rfl) ?_
        refine lv_iload hx hb dX5_call_118 (lv_at hl 7 rfl) ?_
        refine lv_iconst (v := 1) hx hb dX5_call_120 kk_ic_1 ?_
        refine lv_iadd hx hb dX5_call_121 ?_
        obtain ⟨hPc, hDc, hFc⟩ := kk_cutout (wc := [(h0, kO5 h1 n0_size h2 (n0_ran + 1)), (h1, kAi cint 50 f1)]) hP hD hS hA [0, 1] (by decide) rfl
        have hKc := kk_Ks (tq := [(cint, .int)]) hK [0] rfl
        refine va_calli (va_runV (As := [.int p0, .int 1, .int p3, .int (p4 + 1)]) (rest := []) ⟨hx, hb, hml, hown, hts⟩ (g_X5_runLine_4 l dC dI h0 h1 h2 cint H.size p0 p3 (p4 + 1) (by show 0 ≤ ((p4 + 1) : Int32).toInt ∧ ((p4 + 1) : Int32).toInt ≤ 23; first | with_reducible assumption | (constructor <;> (have := kk_add2 (x := n0_ran) (y := 1) (a := n0_ran.toInt) (b := 1) rfl rfl (by omega) (by omega); have := kk_add2 (x := p4) (y := 1) (a := p4.toInt) (b := 1) rfl rfl (by omega) (by omega); omega))) n0_size (n0_ran + 1) f1 tn0_size (by show 0 ≤ ((n0_ran + 1) : Int32).toInt ∧ ((n0_ran + 1) : Int32).toInt ≤ 1000; first | with_reducible assumption | (constructor <;> (have := kk_add2 (x := n0_ran) (y := 1) (a := n0_ran.toInt) (b := 1) rfl rfl (by omega) (by omega); have := kk_add2 (x := p4) (y := 1) (a := p4.toInt) (b := 1) rfl rfl (by omega) (by omega); omega))) bf1 (by show (0 ≤ (p0 : Int32).toInt ∧ (p0 : Int32).toInt < (n0_size : Int32).toInt); first | with_reducible assumption | (have := kk_add2 (x := n0_ran) (y := 1) (a := n0_ran.toInt) (b := 1) rfl rfl (by omega) (by omega); have := kk_add2 (x := p4) (y := 1) (a := p4.toInt) (b := 1) rfl rfl (by omega) (by omega); omega))) (cwV 4 hts gX5_call_X5_runLine rfl rfl rfl ⟨rfl, kh_X5_runLine⟩ ⟨Nat.le_of_ble_eq_true rfl, Nat.le_of_ble_eq_true rfl⟩) ⟨fun a U g mk q => by obtain ⟨q0, q1, qP, qK, qD⟩ := q; exact ⟨q0, q1, qP, va_K.moved (u := U) (U := U.calling g mk a) (Vm.Alike.refl U.vm) qK, qD⟩, va_recv hKc hPc (ci := 5) (q0 := 0) rfl rfl, fun U hU hW => ⟨rfl, by rw [hU], by rw [hU]; exact hPc, va_K.moved hW.alike hKc, hDc.weaken (fun _ _ _ _ => trivial)⟩⟩ rfl rfl hl.1 rfl (lv_room (Nat.le_of_ble_eq_true rfl)) dX5_call_122 ⟨Nat.le_of_ble_eq_true rfl, Nat.le_of_ble_eq_true rfl⟩) hS (fun q _ h => hFc q h) hFc (fun r_11 u t H1 locs ht hvm hw hB hz1 hk1 hS => ?_)
        obtain ⟨hP1, hK1, hD1⟩ := hB
        rw [ht] at hP1
        have hK1 := va_K.moved hvm.symm hK1
        obtain ⟨hP, hD⟩ := va_join (wr := [(h2, kAi cint 24 f2)]) (w1 := [(h0, kO5 h1 n0_size h2 (n0_ran + 1)), (h1, kAi cint 50 f1)]) hP hD [0, 1] [2] rfl rfl (by decide) (by decide) hk1 hFc hP1 hD1
        generalize H1 = H at hP hS ⊢
        have hP : va_P (dC, dI) vwCl [(h2, kAi cint 24 f2), (h0, kO5 h1 n0_size h2 (n0_ran + 1)), (h1, kAi cint 50 f1)] H := hP
        have hD : va_D A [(h2, kAi cint 24 f2), (h0, kO5 h1 n0_size h2 (n0_ran + 1)), (h1, kAi cint 50 f1)] := hD
        rcases hw with ⟨t_11_0, rfl⟩
        · skip
          have t_11_0 : (p3 + p0) = kk_runs 0 p0 p3 := t_11_0
          refine lv_goto (tgt := 143) hx hb dX5_call_125 (by decide) ?_
          obtain ⟨hP9, hD9⟩ := kk_leafout (wc := [(h0, kO5 h1 n0_size h2 (n0_ran + 1)), (h1, kAi cint 50 f1), (h2, kAi cint 24 f2)]) hP hD [1, 2, 0] (by decide) rfl
          have hK9 := kk_Ks (tq := []) hK [] rfl
          exact W.iret (v := (p3 + p0)) hx hb hr (fun t ht hW => ⟨⟨(p3 + p0), (), rfl, ⟨(by first | rfl | (unfold kk_runs; (repeat' split) <;> first | rfl | (exfalso; have : (0 : Int32).toInt = 0 := rfl; have : (1 : Int32).toInt = 1 := rfl; have : (2 : Int32).toInt = 2 := rfl; have : (3 : Int32).toInt = 3 := rfl; have : (4 : Int32).toInt = 4 := rfl; have : (5 : Int32).toInt = 5 := rfl; have : (6 : Int32).toInt = 6 := rfl; have : (7 : Int32).toInt = 7 := rfl; have := kk_add2 (x := n0_ran) (y := 1) (a := n0_ran.toInt) (b := 1) rfl rfl (by omega) (by omega); have := kk_add2 (x := p4) (y := 1) (a := p4.toInt) (b := 1) rfl rfl (by omega) (by omega); omega))), trivial⟩, (n0_ran + 1), f2, (by show 1 ≤ ((n0_ran + 1) : Int32).toInt ∧ ((n0_ran + 1) : Int32).toInt ≤ 1000; first | with_reducible assumption | (constructor <;> (have := kk_add2 (x := n0_ran) (y := 1) (a := n0_ran.toInt) (b := 1) rfl rfl (by omega) (by omega); have := kk_add2 (x := p4) (y := 1) (a := p4.toInt) (b := 1) rfl rfl (by omega) (by omega); omega))), (by show ((n0_ran + 1) : Int32).toInt ≤ (n0_ran : Int32).toInt + 3; first | with_reducible assumption | (have := kk_add2 (x := n0_ran) (y := 1) (a := n0_ran.toInt) (b := 1) rfl rfl (by omega) (by omega); have := kk_add2 (x := p4) (y := 1) (a := p4.toInt) (b := 1) rfl rfl (by omega) (by omega); omega)), (by first | exact kk_P_eq hp_10 rfl | (unfold kt_runs; (repeat' split) <;> first | exact kk_P_eq hp_10 rfl | (exfalso; have : (0 : Int32).toInt = 0 := rfl; have : (1 : Int32).toInt = 1 := rfl; have : (2 : Int32).toInt = 2 := rfl; have : (3 : Int32).toInt = 3 := rfl; have : (4 : Int32).toInt = 4 := rfl; have : (5 : Int32).toInt = 5 := rfl; have : (6 : Int32).toInt = 6 := rfl; have : (7 : Int32).toInt = 7 := rfl; have := kk_add2 (x := n0_ran) (y := 1) (a := n0_ran.toInt) (b := 1) rfl rfl (by omega) (by omega); have := kk_add2 (x := p4) (y := 1) (a := p4.toInt) (b := 1) rfl rfl (by omega) (by omega); omega))), by rw [ht]; exact hP9, va_K.moved hW.alike hK9, hD9⟩, hS.F ht⟩) hS.2.2 dX5_call_143
      · have t_9 : n0_ran.toInt < 24 := kk_nle c_9
        refine lv_aload_n hx hb dX5_call_86 rfl (lv_at hl 2 rfl) ?_
        refine va_get (D := (dC, dI)) (ci := 5) (v := .ref h2) (C := RX5) (T := TX5) (N := 4) hx hb hts (fun _ h => List.mem_cons_of_mem _ (List.mem_append_right _ h)) hown hK hP 0 rfl rfl 2 (by decide) (hts (.fieldLink RX5 15 "KinkStreet$Lines" "trace" "[I") (List.mem_of_getElem? (i := 4) rfl)) (fun _ h9 => h9) rfl dX5_call_87 ?_
        refine lv_aload_n hx hb dX5_call_90 rfl (lv_at hl 2 rfl) ?_
        refine va_get (D := (dC, dI)) (ci := 5) (v := .int n0_ran) (C := RX5) (T := TX5) (N := 4) hx hb hts (fun _ h => List.mem_cons_of_mem _ (List.mem_append_right _ h)) hown hK hP 0 rfl rfl 3 (by decide) (hts (.fieldLink RX5 36 "KinkStreet$Lines" "ran" "I") (List.mem_of_getElem? (i := 3) rfl)) (fun _ h9 => h9) rfl dX5_call_91 ?_
        refine lv_iload hx hb dX5_call_94 (lv_at hl 0 rfl) ?_
        refine va_iast hx hb hK hP hD hS 2 0 rfl rfl (vp_in_iff.mpr ⟨by omega, by omega⟩) dX5_call_96 (fun H locs hP hD hS => ?_)
        have w_12 : ((upd f2 (n0_ran : Int32).toNatClampNeg 1) (n0_ran : Int32).toNatClampNeg).toInt = (1 : Int32).toInt := by rw [kk_ups]
        have hP : va_P (dC, dI) vwCl [(h0, kO5 h1 n0_size h2 n0_ran), (h1, kAi cint 50 f1), (h2, kAi cint 24 (upd f2 (n0_ran : Int32).toNatClampNeg 1))] H := hP
        have hD : va_D A [(h0, kO5 h1 n0_size h2 n0_ran), (h1, kAi cint 50 f1), (h2, kAi cint 24 (upd f2 (n0_ran : Int32).toNatClampNeg 1))] := hD
        refine lv_aload_n hx hb dX5_call_97 rfl (lv_at hl 2 rfl) ?_
        refine lv_dup hx hb dX5_call_98 rfl ?_
        refine va_get (D := (dC, dI)) (ci := 5) (v := .int n0_ran) (C := RX5) (T := TX5) (N := 4) hx hb hts (fun _ h => List.mem_cons_of_mem _ (List.mem_append_right _ h)) hown hK hP 0 rfl rfl 3 (by decide) (hts (.fieldLink RX5 36 "KinkStreet$Lines" "ran" "I") (List.mem_of_getElem? (i := 3) rfl)) (fun _ h9 => h9) rfl dX5_call_99 ?_
        refine lv_iconst (v := 1) hx hb dX5_call_102 kk_ic_1 ?_
        refine lv_iadd hx hb dX5_call_103 ?_
        refine va_put (D := (dC, dI)) (ci := 5) (v := .int (n0_ran + 1)) (ty := .int) (C := RX5) (T := TX5) (N := 4) hx hb hts (fun _ h => List.mem_cons_of_mem _ (List.mem_append_right _ h)) tyX5 tyX5_ok nmX5 hown hK hP hD hS 0 rfl rfl 3 (by decide) (hts (.fieldLink RX5 36 "KinkStreet$Lines" "ran" "I") (List.mem_of_getElem? (i := 3) rfl)) (fun _ h9 => h9) rfl (by decide +kernel) rfl rfl (Nat.le_of_ble_eq_true rfl) dX5_call_104 (fun H locs hP hD hS => ?_)
        have hP : va_P (dC, dI) vwCl [(h0, kO5 h1 n0_size h2 (n0_ran + 1)), (h1, kAi cint 50 f1), (h2, kAi cint 24 (upd f2 (n0_ran : Int32).toNatClampNeg 1))] H := hP
        have hD : va_D A [(h0, kO5 h1 n0_size h2 (n0_ran + 1)), (h1, kAi cint 50 f1), (h2, kAi cint 24 (upd f2 (n0_ran : Int32).toNatClampNeg 1))] := hD
        have hp_13 : kk_P f2 (upd f2 (n0_ran : Int32).toNatClampNeg 1) n0_ran.toInt (n0_ran + 1 : Int32).toInt [1] := kk_P_one (by have := kk_add2 (x := n0_ran) (y := 1) (a := n0_ran.toInt) (b := 1) rfl rfl (by omega) (by omega); omega) (by have := kk_add2 (x := n0_ran) (y := 1) (a := n0_ran.toInt) (b := 1) rfl rfl (by omega) (by omega); omega)
        refine lv_iload hx hb dX5_call_107 (lv_at hl 1 rfl) ?_
        refine lv_if_ne (tgt := 128) hx hb dX5_call_109 (by decide) (fun c => absurd c (by decide)) (fun _ => ?_)
        refine lv_aload_n hx hb dX5_call_112 rfl (lv_at hl 2 rfl) ?_
        refine lv_iload_n hx hb dX5_call_113 rfl (lv_at hl 3 rfl) ?_
        refine lv_iload hx hb dX5_call_114 (lv_at hl 0 rfl) ?_
        refine lv_iload hx hb dX5_call_116 (lv_at hl 6 rfl) ?_
        refine lv_iload hx hb dX5_call_118 (lv_at hl 7 rfl) ?_
        refine lv_iconst (v := 1) hx hb dX5_call_120 kk_ic_1 ?_
        refine lv_iadd hx hb dX5_call_121 ?_
        obtain ⟨hPc, hDc, hFc⟩ := kk_cutout (wc := [(h0, kO5 h1 n0_size h2 (n0_ran + 1)), (h1, kAi cint 50 f1)]) hP hD hS hA [0, 1] (by decide) rfl
        have hKc := kk_Ks (tq := [(cint, .int)]) hK [0] rfl
        refine va_calli (va_runV (As := [.int p0, .int 1, .int p3, .int (p4 + 1)]) (rest := []) ⟨hx, hb, hml, hown, hts⟩ (g_X5_runLine_4 l dC dI h0 h1 h2 cint H.size p0 p3 (p4 + 1) (by show 0 ≤ ((p4 + 1) : Int32).toInt ∧ ((p4 + 1) : Int32).toInt ≤ 23; first | with_reducible assumption | (constructor <;> (have := kk_add2 (x := n0_ran) (y := 1) (a := n0_ran.toInt) (b := 1) rfl rfl (by omega) (by omega); have := kk_add2 (x := p4) (y := 1) (a := p4.toInt) (b := 1) rfl rfl (by omega) (by omega); omega))) n0_size (n0_ran + 1) f1 tn0_size (by show 0 ≤ ((n0_ran + 1) : Int32).toInt ∧ ((n0_ran + 1) : Int32).toInt ≤ 1000; first | with_reducible assumption | (constructor <;> (have := kk_add2 (x := n0_ran) (y := 1) (a := n0_ran.toInt) (b := 1) rfl rfl (by omega) (by omega); have := kk_add2 (x := p4) (y := 1) (a := p4.toInt) (b := 1) rfl rfl (by omega) (by omega); omega))) bf1 (by show (0 ≤ (p0 : Int32).toInt ∧ (p0 : Int32).toInt < (n0_size : Int32).toInt); first | with_reducible assumption | (have := kk_add2 (x := n0_ran) (y := 1) (a := n0_ran.toInt) (b := 1) rfl rfl (by omega) (by omega); have := kk_add2 (x := p4) (y := 1) (a := p4.toInt) (b := 1) rfl rfl (by omega) (by omega); omega))) (cwV 4 hts gX5_call_X5_runLine rfl rfl rfl ⟨rfl, kh_X5_runLine⟩ ⟨Nat.le_of_ble_eq_true rfl, Nat.le_of_ble_eq_true rfl⟩) ⟨fun a U g mk q => by obtain ⟨q0, q1, qP, qK, qD⟩ := q; exact ⟨q0, q1, qP, va_K.moved (u := U) (U := U.calling g mk a) (Vm.Alike.refl U.vm) qK, qD⟩, va_recv hKc hPc (ci := 5) (q0 := 0) rfl rfl, fun U hU hW => ⟨rfl, by rw [hU], by rw [hU]; exact hPc, va_K.moved hW.alike hKc, hDc.weaken (fun _ _ _ _ => trivial)⟩⟩ rfl rfl hl.1 rfl (lv_room (Nat.le_of_ble_eq_true rfl)) dX5_call_122 ⟨Nat.le_of_ble_eq_true rfl, Nat.le_of_ble_eq_true rfl⟩) hS (fun q _ h => hFc q h) hFc (fun r_14 u t H1 locs ht hvm hw hB hz1 hk1 hS => ?_)
        obtain ⟨hP1, hK1, hD1⟩ := hB
        rw [ht] at hP1
        have hK1 := va_K.moved hvm.symm hK1
        obtain ⟨hP, hD⟩ := va_join (wr := [(h2, kAi cint 24 (upd f2 (n0_ran : Int32).toNatClampNeg 1))]) (w1 := [(h0, kO5 h1 n0_size h2 (n0_ran + 1)), (h1, kAi cint 50 f1)]) hP hD [0, 1] [2] rfl rfl (by decide) (by decide) hk1 hFc hP1 hD1
        generalize H1 = H at hP hS ⊢
        have hP : va_P (dC, dI) vwCl [(h2, kAi cint 24 (upd f2 (n0_ran : Int32).toNatClampNeg 1)), (h0, kO5 h1 n0_size h2 (n0_ran + 1)), (h1, kAi cint 50 f1)] H := hP
        have hD : va_D A [(h2, kAi cint 24 (upd f2 (n0_ran : Int32).toNatClampNeg 1)), (h0, kO5 h1 n0_size h2 (n0_ran + 1)), (h1, kAi cint 50 f1)] := hD
        rcases hw with ⟨t_14_0, rfl⟩
        · skip
          have t_14_0 : (p3 + p0) = kk_runs 0 p0 p3 := t_14_0
          refine lv_goto (tgt := 143) hx hb dX5_call_125 (by decide) ?_
          obtain ⟨hP9, hD9⟩ := kk_leafout (wc := [(h0, kO5 h1 n0_size h2 (n0_ran + 1)), (h1, kAi cint 50 f1), (h2, kAi cint 24 (upd f2 (n0_ran : Int32).toNatClampNeg 1))]) hP hD [1, 2, 0] (by decide) rfl
          have hK9 := kk_Ks (tq := []) hK [] rfl
          exact W.iret (v := (p3 + p0)) hx hb hr (fun t ht hW => ⟨⟨(p3 + p0), (), rfl, ⟨(by first | rfl | (unfold kk_runs; (repeat' split) <;> first | rfl | (exfalso; have : (0 : Int32).toInt = 0 := rfl; have : (1 : Int32).toInt = 1 := rfl; have : (2 : Int32).toInt = 2 := rfl; have : (3 : Int32).toInt = 3 := rfl; have : (4 : Int32).toInt = 4 := rfl; have : (5 : Int32).toInt = 5 := rfl; have : (6 : Int32).toInt = 6 := rfl; have : (7 : Int32).toInt = 7 := rfl; have := kk_add2 (x := n0_ran) (y := 1) (a := n0_ran.toInt) (b := 1) rfl rfl (by omega) (by omega); have := kk_add2 (x := p4) (y := 1) (a := p4.toInt) (b := 1) rfl rfl (by omega) (by omega); omega))), trivial⟩, (n0_ran + 1), (upd f2 (n0_ran : Int32).toNatClampNeg 1), (by show 1 ≤ ((n0_ran + 1) : Int32).toInt ∧ ((n0_ran + 1) : Int32).toInt ≤ 1000; first | with_reducible assumption | (constructor <;> (have := kk_add2 (x := n0_ran) (y := 1) (a := n0_ran.toInt) (b := 1) rfl rfl (by omega) (by omega); have := kk_add2 (x := p4) (y := 1) (a := p4.toInt) (b := 1) rfl rfl (by omega) (by omega); omega))), (by show ((n0_ran + 1) : Int32).toInt ≤ (n0_ran : Int32).toInt + 3; first | with_reducible assumption | (have := kk_add2 (x := n0_ran) (y := 1) (a := n0_ran.toInt) (b := 1) rfl rfl (by omega) (by omega); have := kk_add2 (x := p4) (y := 1) (a := p4.toInt) (b := 1) rfl rfl (by omega) (by omega); omega)), (by first | exact kk_P_eq hp_13 rfl | (unfold kt_runs; (repeat' split) <;> first | exact kk_P_eq hp_13 rfl | (exfalso; have : (0 : Int32).toInt = 0 := rfl; have : (1 : Int32).toInt = 1 := rfl; have : (2 : Int32).toInt = 2 := rfl; have : (3 : Int32).toInt = 3 := rfl; have : (4 : Int32).toInt = 4 := rfl; have : (5 : Int32).toInt = 5 := rfl; have : (6 : Int32).toInt = 6 := rfl; have : (7 : Int32).toInt = 7 := rfl; have := kk_add2 (x := n0_ran) (y := 1) (a := n0_ran.toInt) (b := 1) rfl rfl (by omega) (by omega); have := kk_add2 (x := p4) (y := 1) (a := p4.toInt) (b := 1) rfl rfl (by omega) (by omega); omega))), by rw [ht]; exact hP9, va_K.moved hW.alike hK9, hD9⟩, hS.F ht⟩) hS.2.2 dX5_call_143
    · have t_6 : 40 < p4.toInt := kk_nle c_6
      exfalso; omega
  · have t_1 : p1.toInt = 1 := by rw [e_1]; rfl
    subst e_1
    refine lv_iload_n hx hb dX5_call_0 rfl (lv_at hl 2 rfl) ?_
    refine lv_istore hx hb dX5_call_1 hl (by decide) (rfl : _ = ([(6, .int 1), (0, .ref h0), (1, .int p0), (2, .int 1), (3, .int 0), (4, .int p3), (5, .int p4)] : List (Nat × Value))) (fun ls hl => ?_)
    refine lv_iconst (v := 0) hx hb dX5_call_3 kk_ic_0 ?_
    refine lv_istore hx hb dX5_call_4 hl (by decide) (rfl : _ = ([(7, .int 0), (6, .int 1), (0, .ref h0), (1, .int p0), (2, .int 1), (3, .int 0), (4, .int p3), (5, .int p4)] : List (Nat × Value))) (fun ls hl => ?_)
    refine lv_iload hx hb dX5_call_6 (lv_at hl 0 rfl) ?_
    refine lv_bipush (v := 8) hx hb dX5_call_8 kk_bi_8 ?_
    refine lv_icmp_ge (tgt := 48) hx hb dX5_call_10 (by decide) (fun c => absurd c (by decide)) (fun _ => ?_)
    refine lv_iload hx hb dX5_call_13 (lv_at hl 1 rfl) ?_
    obtain ⟨hPc, hDc, hFc⟩ := kk_cutout (wc := []) hP hD hS hA [] (by decide) rfl
    have hKc := kk_Ks (tq := []) hK [] rfl
    refine va_calli (va_runS (As := [.int 1]) (rest := []) ⟨hx, hb, hml, hown, hts⟩ (g_X5_isKind_12 l dC dI s.heap.size) (va_cwS 1 hts gX5_call_X5_isKind rfl rfl rfl kh_X5_isKind ⟨Nat.le_of_ble_eq_true rfl, Nat.le_of_ble_eq_true rfl⟩) ⟨fun a U g mk q => by obtain ⟨q0, q1, qP, qK, qD⟩ := q; exact ⟨q0, q1, qP, va_K.moved (u := U) (U := U.calling g mk a) (Vm.Alike.refl U.vm) qK, qD⟩, fun U hU hW => ⟨rfl, by rw [hU], by rw [hU]; exact hPc, va_K.moved hW.alike hKc, hDc.weaken (fun _ _ _ _ => trivial)⟩⟩ rfl rfl hl.1 rfl (lv_room (Nat.le_of_ble_eq_true rfl)) dX5_call_15 ⟨Nat.le_of_ble_eq_true rfl, Nat.le_of_ble_eq_true rfl⟩) hS (fun q _ h => hFc q h) hFc (fun r_15 u t H1 locs ht hvm hw hB hz1 hk1 hS => ?_)
    obtain ⟨hP1, hK1, hD1⟩ := hB
    rw [ht] at hP1
    have hK1 := va_K.moved hvm.symm hK1
    obtain ⟨hP, hD⟩ := va_join (wr := [(h0, kO5 h1 n0_size h2 n0_ran), (h1, kAi cint 50 f1), (h2, kAi cint 24 f2)]) (w1 := []) hP hD [] [0, 1, 2] rfl rfl (by decide) (by decide) hk1 hFc hP1 hD1
    generalize H1 = H at hP hS ⊢
    have hP : va_P (dC, dI) vwCl [(h0, kO5 h1 n0_size h2 n0_ran), (h1, kAi cint 50 f1), (h2, kAi cint 24 f2)] H := hP
    have hD : va_D A [(h0, kO5 h1 n0_size h2 n0_ran), (h1, kAi cint 50 f1), (h2, kAi cint 24 f2)] := hD
    obtain rfl := hw
    refine lv_if_eq (tgt := 48) hx hb dX5_call_18 (by decide) (fun c => absurd c (by decide)) (fun _ => ?_)
    refine va_gets hx hb hZOWN_BODIES hS hown (hts (.fieldLink RX5 43 "KinkStreet$Lines" "OWN_BODIES" "[I") (List.mem_of_getElem? (i := 1) rfl)) (fun _ h9 => h9) dX5_call_21 ?_
    refine lv_iload hx hb dX5_call_24 (lv_at hl 1 rfl) ?_
    refine lv_iconst (v := 4) hx hb dX5_call_26 kk_ic_4 ?_
    refine lv_imul hx hb dX5_call_27 ?_
    refine lv_topi (fun y_16 e_16 => ?_)
    obtain rfl : y_16 = 4 := e_16.trans (by decide)
    refine lv_iload_n hx hb dX5_call_28 rfl (lv_at hl 5 rfl) ?_
    refine lv_iadd hx hb dX5_call_29 ?_
    refine lv_topi (fun y_17 e_17 => ?_)
    obtain rfl : y_17 = 4 := e_17.trans (by decide)
    refine va_ti (v := .int 20) hx hb hTOWN_BODIES hS (by unfold vp_in; decide) rfl dX5_call_30 ?_
    refine lv_if_ne (tgt := 48) hx hb dX5_call_31 (by decide) (fun _ => ?_) (fun c => absurd c (by decide))
    refine lv_iload hx hb dX5_call_48 (lv_at hl 1 rfl) ?_
    obtain ⟨hPc, hDc, hFc⟩ := kk_cutout (wc := []) hP hD hS hA [] (by decide) rfl
    have hKc := kk_Ks (tq := []) hK [] rfl
    refine va_calli (va_runS (As := [.int 1]) (rest := []) ⟨hx, hb, hml, hown, hts⟩ (g_X5_isKind_12 l dC dI H.size) (va_cwS 1 hts gX5_call_X5_isKind rfl rfl rfl kh_X5_isKind ⟨Nat.le_of_ble_eq_true rfl, Nat.le_of_ble_eq_true rfl⟩) ⟨fun a U g mk q => by obtain ⟨q0, q1, qP, qK, qD⟩ := q; exact ⟨q0, q1, qP, va_K.moved (u := U) (U := U.calling g mk a) (Vm.Alike.refl U.vm) qK, qD⟩, fun U hU hW => ⟨rfl, by rw [hU], by rw [hU]; exact hPc, va_K.moved hW.alike hKc, hDc.weaken (fun _ _ _ _ => trivial)⟩⟩ rfl rfl hl.1 rfl (lv_room (Nat.le_of_ble_eq_true rfl)) dX5_call_50 ⟨Nat.le_of_ble_eq_true rfl, Nat.le_of_ble_eq_true rfl⟩) hS (fun q _ h => hFc q h) hFc (fun r_18 u t H1 locs ht hvm hw hB hz1 hk1 hS => ?_)
    obtain ⟨hP1, hK1, hD1⟩ := hB
    rw [ht] at hP1
    have hK1 := va_K.moved hvm.symm hK1
    obtain ⟨hP, hD⟩ := va_join (wr := [(h0, kO5 h1 n0_size h2 n0_ran), (h1, kAi cint 50 f1), (h2, kAi cint 24 f2)]) (w1 := []) hP hD [] [0, 1, 2] rfl rfl (by decide) (by decide) hk1 hFc hP1 hD1
    generalize H1 = H at hP hS ⊢
    have hP : va_P (dC, dI) vwCl [(h0, kO5 h1 n0_size h2 n0_ran), (h1, kAi cint 50 f1), (h2, kAi cint 24 f2)] H := hP
    have hD : va_D A [(h0, kO5 h1 n0_size h2 n0_ran), (h1, kAi cint 50 f1), (h2, kAi cint 24 f2)] := hD
    obtain rfl := hw
    refine lv_if_eq (tgt := 63) hx hb dX5_call_53 (by decide) (fun c => absurd c (by decide)) (fun _ => ?_)
    refine lv_iload hx hb dX5_call_56 (lv_at hl 7 rfl) ?_
    refine lv_bipush (v := 40) hx hb dX5_call_58 kk_bi_40 ?_
    refine lv_icmp_le (tgt := 65) hx hb dX5_call_60 (by decide) (fun c_19 => ?_) (fun c_19 => ?_)
    · have t_19 : p4.toInt ≤ 40 := kk_le c_19
      refine va_gets hx hb hZOWN_BODIES hS hown (hts (.fieldLink RX5 43 "KinkStreet$Lines" "OWN_BODIES" "[I") (List.mem_of_getElem? (i := 1) rfl)) (fun _ h9 => h9) dX5_call_65 ?_
      refine lv_iload hx hb dX5_call_68 (lv_at hl 1 rfl) ?_
      refine lv_iconst (v := 4) hx hb dX5_call_70 kk_ic_4 ?_
      refine lv_imul hx hb dX5_call_71 ?_
      refine lv_topi (fun y_20 e_20 => ?_)
      obtain rfl : y_20 = 4 := e_20.trans (by decide)
      refine lv_iload_n hx hb dX5_call_72 rfl (lv_at hl 5 rfl) ?_
      refine lv_iadd hx hb dX5_call_73 ?_
      refine lv_topi (fun y_21 e_21 => ?_)
      obtain rfl : y_21 = 4 := e_21.trans (by decide)
      refine va_ti (v := .int 20) hx hb hTOWN_BODIES hS (by unfold vp_in; decide) rfl dX5_call_74 ?_
      refine lv_istore hx hb dX5_call_75 hl (by decide) (rfl : _ = ([(7, .int 20), (6, .int 1), (0, .ref h0), (1, .int p0), (2, .int 1), (3, .int 0), (4, .int p3), (5, .int p4)] : List (Nat × Value))) (fun ls hl => ?_)
      refine lv_aload_n hx hb dX5_call_77 rfl (lv_at hl 2 rfl) ?_
      refine va_get (D := (dC, dI)) (ci := 5) (v := .int n0_ran) (C := RX5) (T := TX5) (N := 4) hx hb hts (fun _ h => List.mem_cons_of_mem _ (List.mem_append_right _ h)) hown hK hP 0 rfl rfl 3 (by decide) (hts (.fieldLink RX5 36 "KinkStreet$Lines" "ran" "I") (List.mem_of_getElem? (i := 3) rfl)) (fun _ h9 => h9) rfl dX5_call_78 ?_
      refine lv_bipush (v := 24) hx hb dX5_call_81 kk_bi_24 ?_
      refine lv_icmp_ge (tgt := 97) hx hb dX5_call_83 (by decide) (fun c_22 => ?_) (fun c_22 => ?_)
      · have t_22 : 24 ≤ n0_ran.toInt := kk_le c_22
        refine lv_aload_n hx hb dX5_call_97 rfl (lv_at hl 2 rfl) ?_
        refine lv_dup hx hb dX5_call_98 rfl ?_
        refine va_get (D := (dC, dI)) (ci := 5) (v := .int n0_ran) (C := RX5) (T := TX5) (N := 4) hx hb hts (fun _ h => List.mem_cons_of_mem _ (List.mem_append_right _ h)) hown hK hP 0 rfl rfl 3 (by decide) (hts (.fieldLink RX5 36 "KinkStreet$Lines" "ran" "I") (List.mem_of_getElem? (i := 3) rfl)) (fun _ h9 => h9) rfl dX5_call_99 ?_
        refine lv_iconst (v := 1) hx hb dX5_call_102 kk_ic_1 ?_
        refine lv_iadd hx hb dX5_call_103 ?_
        refine va_put (D := (dC, dI)) (ci := 5) (v := .int (n0_ran + 1)) (ty := .int) (C := RX5) (T := TX5) (N := 4) hx hb hts (fun _ h => List.mem_cons_of_mem _ (List.mem_append_right _ h)) tyX5 tyX5_ok nmX5 hown hK hP hD hS 0 rfl rfl 3 (by decide) (hts (.fieldLink RX5 36 "KinkStreet$Lines" "ran" "I") (List.mem_of_getElem? (i := 3) rfl)) (fun _ h9 => h9) rfl (by decide +kernel) rfl rfl (Nat.le_of_ble_eq_true rfl) dX5_call_104 (fun H locs hP hD hS => ?_)
        have hP : va_P (dC, dI) vwCl [(h0, kO5 h1 n0_size h2 (n0_ran + 1)), (h1, kAi cint 50 f1), (h2, kAi cint 24 f2)] H := hP
        have hD : va_D A [(h0, kO5 h1 n0_size h2 (n0_ran + 1)), (h1, kAi cint 50 f1), (h2, kAi cint 24 f2)] := hD
        have hp_23 : kk_P f2 f2 n0_ran.toInt (n0_ran + 1 : Int32).toInt [20] := kk_P_out (by have := kk_add2 (x := n0_ran) (y := 1) (a := n0_ran.toInt) (b := 1) rfl rfl (by omega) (by omega); omega) (by have := kk_add2 (x := n0_ran) (y := 1) (a := n0_ran.toInt) (b := 1) rfl rfl (by omega) (by omega); omega)
        refine lv_iload hx hb dX5_call_107 (lv_at hl 1 rfl) ?_
        refine lv_if_ne (tgt := 128) hx hb dX5_call_109 (by decide) (fun _ => ?_) (fun c => absurd c (by decide))
        refine lv_aload_n hx hb dX5_call_128 rfl (lv_at hl 2 rfl) ?_
        refine lv_iload_n hx hb dX5_call_129 rfl (lv_at hl 3 rfl) ?_
        refine lv_iload hx hb dX5_call_130 (lv_at hl 1 rfl) ?_
        refine lv_iload hx hb dX5_call_132 (lv_at hl 0 rfl) ?_
        refine lv_iload hx hb dX5_call_134 (lv_at hl 6 rfl) ?_
        refine lv_iload hx hb dX5_call_136 (lv_at hl 7 rfl) ?_
        refine lv_iconst (v := 1) hx hb dX5_call_138 kk_ic_1 ?_
        refine lv_iadd hx hb dX5_call_139 ?_
        obtain ⟨hPc, hDc, hFc⟩ := kk_cutout (wc := [(h0, kO5 h1 n0_size h2 (n0_ran + 1)), (h1, kAi cint 50 f1), (h2, kAi cint 24 f2)]) hP hD hS hA [0, 1, 2] (by decide) rfl
        have hKc := kk_Ks (tq := [(cint, .int)]) hK [0] rfl
        refine va_calli (va_runV (As := [.int p0, .int 1, .int 20, .int p3, .int (p4 + 1)]) (rest := []) ⟨hx, hb, hml, hown, hts⟩ (g_X5_runUnder_9 l dC dI h0 h1 h2 cint H.size p0 p3 (p4 + 1) (by show 0 ≤ ((p4 + 1) : Int32).toInt ∧ ((p4 + 1) : Int32).toInt ≤ 22; first | with_reducible assumption | (constructor <;> (have := kk_add2 (x := n0_ran) (y := 1) (a := n0_ran.toInt) (b := 1) rfl rfl (by omega) (by omega); have := kk_add2 (x := p4) (y := 1) (a := p4.toInt) (b := 1) rfl rfl (by omega) (by omega); omega))) n0_size (n0_ran + 1) f1 f2 tn0_size (by show 0 ≤ ((n0_ran + 1) : Int32).toInt ∧ ((n0_ran + 1) : Int32).toInt ≤ 999; first | with_reducible assumption | (constructor <;> (have := kk_add2 (x := n0_ran) (y := 1) (a := n0_ran.toInt) (b := 1) rfl rfl (by omega) (by omega); have := kk_add2 (x := p4) (y := 1) (a := p4.toInt) (b := 1) rfl rfl (by omega) (by omega); omega))) bf1 (by show (0 ≤ (p0 : Int32).toInt ∧ (p0 : Int32).toInt < (n0_size : Int32).toInt); first | with_reducible assumption | (have := kk_add2 (x := n0_ran) (y := 1) (a := n0_ran.toInt) (b := 1) rfl rfl (by omega) (by omega); have := kk_add2 (x := p4) (y := 1) (a := p4.toInt) (b := 1) rfl rfl (by omega) (by omega); omega)) aABOVE aOWN_BODIES) (cwV 5 hts gX5_call_X5_runUnder rfl rfl rfl ⟨rfl, kh_X5_runUnder⟩ ⟨Nat.le_of_ble_eq_true rfl, Nat.le_of_ble_eq_true rfl⟩) ⟨fun a U g mk q => by obtain ⟨q0, q1, qP, qK, qD, qx0, qx1, qx2, qx3⟩ := q; exact ⟨q0, q1, qP, va_K.moved (u := U) (U := U.calling g mk a) (Vm.Alike.refl U.vm) qK, qD, va_Z.moved (u := U) (U := U.calling g mk a) (Vm.Alike.refl U.vm) qx0, va_T.moved (u := U) (U := U.calling g mk a) (Vm.Alike.refl U.vm) qx1, va_Z.moved (u := U) (U := U.calling g mk a) (Vm.Alike.refl U.vm) qx2, va_T.moved (u := U) (U := U.calling g mk a) (Vm.Alike.refl U.vm) qx3⟩, va_recv hKc hPc (ci := 5) (q0 := 0) rfl rfl, fun U hU hW => ⟨rfl, by rw [hU], by rw [hU]; exact hPc, va_K.moved hW.alike hKc, hDc.weaken (fun _ _ _ _ => trivial), by rw [hU]; exact ((hZABOVE.kept (fun a h1 h2 => hS.2.1 a h1 h2)).narrow hFc).moved hW.alike, by rw [hU]; exact ((hTABOVE.kept (fun a h1 h2 => hS.2.1 a h1 h2)).narrow hFc).moved hW.alike, by rw [hU]; exact ((hZOWN_BODIES.kept (fun a h1 h2 => hS.2.1 a h1 h2)).narrow hFc).moved hW.alike, by rw [hU]; exact ((hTOWN_BODIES.kept (fun a h1 h2 => hS.2.1 a h1 h2)).narrow hFc).moved hW.alike⟩⟩ rfl rfl hl.1 rfl (lv_room (Nat.le_of_ble_eq_true rfl)) dX5_call_140 ⟨Nat.le_of_ble_eq_true rfl, Nat.le_of_ble_eq_true rfl⟩) hS (fun q _ h => hFc q h) hFc (fun r_24 u t H1 locs ht hvm hw hB hz1 hk1 hS => ?_)
        obtain ⟨y_25, f_26, by_25, v_26_0, hn_26_0, hP1, hK1, hD1⟩ := hB
        have v_26_0 : y_25.toInt ≤ (n0_ran + 1).toInt + 1 := v_26_0
        have hn_26_0 : kk_P f2 f_26 (n0_ran + 1).toInt y_25.toInt ((kt_runs 1).tail) := hn_26_0
        rw [ht] at hP1
        have hK1 := va_K.moved hvm.symm hK1
        obtain ⟨hP, hD⟩ := va_join (wr := []) (w1 := [(h0, kO5 h1 n0_size h2 y_25), (h1, kAi cint 50 f1), (h2, kAi cint 24 f_26)]) hP hD [0, 1, 2] [] rfl rfl (by decide) (by decide) hk1 hFc hP1 hD1
        generalize H1 = H at hP hS ⊢
        have hP : va_P (dC, dI) vwCl [(h0, kO5 h1 n0_size h2 y_25), (h1, kAi cint 50 f1), (h2, kAi cint 24 f_26)] H := hP
        have hD : va_D A [(h0, kO5 h1 n0_size h2 y_25), (h1, kAi cint 50 f1), (h2, kAi cint 24 f_26)] := hD
        rcases hw with ⟨t_24_0, rfl⟩
        · skip
          have t_24_0 : ((p3 + p0) + 3) = kk_runs 1 p0 p3 := t_24_0
          obtain ⟨hP9, hD9⟩ := kk_leafout (wc := [(h0, kO5 h1 n0_size h2 y_25), (h1, kAi cint 50 f1), (h2, kAi cint 24 f_26)]) hP hD [0, 1, 2] (by decide) rfl
          have hK9 := kk_Ks (tq := []) hK [] rfl
          exact W.iret (v := ((p3 + p0) + 3)) hx hb hr (fun t ht hW => ⟨⟨((p3 + p0) + 3), (), rfl, ⟨(by first | rfl | (unfold kk_runs; (repeat' split) <;> first | rfl | (exfalso; have : (0 : Int32).toInt = 0 := rfl; have : (1 : Int32).toInt = 1 := rfl; have : (2 : Int32).toInt = 2 := rfl; have : (3 : Int32).toInt = 3 := rfl; have : (4 : Int32).toInt = 4 := rfl; have : (5 : Int32).toInt = 5 := rfl; have : (6 : Int32).toInt = 6 := rfl; have : (7 : Int32).toInt = 7 := rfl; have := kk_add2 (x := n0_ran) (y := 1) (a := n0_ran.toInt) (b := 1) rfl rfl (by omega) (by omega); have := kk_add2 (x := p4) (y := 1) (a := p4.toInt) (b := 1) rfl rfl (by omega) (by omega); omega))), trivial⟩, y_25, f_26, (by show 1 ≤ (y_25 : Int32).toInt ∧ (y_25 : Int32).toInt ≤ 1000; first | with_reducible assumption | (constructor <;> (have := kk_add2 (x := n0_ran) (y := 1) (a := n0_ran.toInt) (b := 1) rfl rfl (by omega) (by omega); have := kk_add2 (x := p4) (y := 1) (a := p4.toInt) (b := 1) rfl rfl (by omega) (by omega); omega))), (by show (y_25 : Int32).toInt ≤ (n0_ran : Int32).toInt + 3; first | with_reducible assumption | (have := kk_add2 (x := n0_ran) (y := 1) (a := n0_ran.toInt) (b := 1) rfl rfl (by omega) (by omega); have := kk_add2 (x := p4) (y := 1) (a := p4.toInt) (b := 1) rfl rfl (by omega) (by omega); omega)), (by first | exact kk_P_eq (kk_P_trans hp_23 hn_26_0) rfl | (unfold kt_runs; (repeat' split) <;> first | exact kk_P_eq (kk_P_trans hp_23 hn_26_0) rfl | (exfalso; have : (0 : Int32).toInt = 0 := rfl; have : (1 : Int32).toInt = 1 := rfl; have : (2 : Int32).toInt = 2 := rfl; have : (3 : Int32).toInt = 3 := rfl; have : (4 : Int32).toInt = 4 := rfl; have : (5 : Int32).toInt = 5 := rfl; have : (6 : Int32).toInt = 6 := rfl; have : (7 : Int32).toInt = 7 := rfl; have := kk_add2 (x := n0_ran) (y := 1) (a := n0_ran.toInt) (b := 1) rfl rfl (by omega) (by omega); have := kk_add2 (x := p4) (y := 1) (a := p4.toInt) (b := 1) rfl rfl (by omega) (by omega); omega))), by rw [ht]; exact hP9, va_K.moved hW.alike hK9, hD9⟩, hS.F ht⟩) hS.2.2 dX5_call_143
      · have t_22 : n0_ran.toInt < 24 := kk_nle c_22
        refine lv_aload_n hx hb dX5_call_86 rfl (lv_at hl 2 rfl) ?_
        refine va_get (D := (dC, dI)) (ci := 5) (v := .ref h2) (C := RX5) (T := TX5) (N := 4) hx hb hts (fun _ h => List.mem_cons_of_mem _ (List.mem_append_right _ h)) hown hK hP 0 rfl rfl 2 (by decide) (hts (.fieldLink RX5 15 "KinkStreet$Lines" "trace" "[I") (List.mem_of_getElem? (i := 4) rfl)) (fun _ h9 => h9) rfl dX5_call_87 ?_
        refine lv_aload_n hx hb dX5_call_90 rfl (lv_at hl 2 rfl) ?_
        refine va_get (D := (dC, dI)) (ci := 5) (v := .int n0_ran) (C := RX5) (T := TX5) (N := 4) hx hb hts (fun _ h => List.mem_cons_of_mem _ (List.mem_append_right _ h)) hown hK hP 0 rfl rfl 3 (by decide) (hts (.fieldLink RX5 36 "KinkStreet$Lines" "ran" "I") (List.mem_of_getElem? (i := 3) rfl)) (fun _ h9 => h9) rfl dX5_call_91 ?_
        refine lv_iload hx hb dX5_call_94 (lv_at hl 0 rfl) ?_
        refine va_iast hx hb hK hP hD hS 2 0 rfl rfl (vp_in_iff.mpr ⟨by omega, by omega⟩) dX5_call_96 (fun H locs hP hD hS => ?_)
        have w_27 : ((upd f2 (n0_ran : Int32).toNatClampNeg 20) (n0_ran : Int32).toNatClampNeg).toInt = (20 : Int32).toInt := by rw [kk_ups]
        have hP : va_P (dC, dI) vwCl [(h0, kO5 h1 n0_size h2 n0_ran), (h1, kAi cint 50 f1), (h2, kAi cint 24 (upd f2 (n0_ran : Int32).toNatClampNeg 20))] H := hP
        have hD : va_D A [(h0, kO5 h1 n0_size h2 n0_ran), (h1, kAi cint 50 f1), (h2, kAi cint 24 (upd f2 (n0_ran : Int32).toNatClampNeg 20))] := hD
        refine lv_aload_n hx hb dX5_call_97 rfl (lv_at hl 2 rfl) ?_
        refine lv_dup hx hb dX5_call_98 rfl ?_
        refine va_get (D := (dC, dI)) (ci := 5) (v := .int n0_ran) (C := RX5) (T := TX5) (N := 4) hx hb hts (fun _ h => List.mem_cons_of_mem _ (List.mem_append_right _ h)) hown hK hP 0 rfl rfl 3 (by decide) (hts (.fieldLink RX5 36 "KinkStreet$Lines" "ran" "I") (List.mem_of_getElem? (i := 3) rfl)) (fun _ h9 => h9) rfl dX5_call_99 ?_
        refine lv_iconst (v := 1) hx hb dX5_call_102 kk_ic_1 ?_
        refine lv_iadd hx hb dX5_call_103 ?_
        refine va_put (D := (dC, dI)) (ci := 5) (v := .int (n0_ran + 1)) (ty := .int) (C := RX5) (T := TX5) (N := 4) hx hb hts (fun _ h => List.mem_cons_of_mem _ (List.mem_append_right _ h)) tyX5 tyX5_ok nmX5 hown hK hP hD hS 0 rfl rfl 3 (by decide) (hts (.fieldLink RX5 36 "KinkStreet$Lines" "ran" "I") (List.mem_of_getElem? (i := 3) rfl)) (fun _ h9 => h9) rfl (by decide +kernel) rfl rfl (Nat.le_of_ble_eq_true rfl) dX5_call_104 (fun H locs hP hD hS => ?_)
        have hP : va_P (dC, dI) vwCl [(h0, kO5 h1 n0_size h2 (n0_ran + 1)), (h1, kAi cint 50 f1), (h2, kAi cint 24 (upd f2 (n0_ran : Int32).toNatClampNeg 20))] H := hP
        have hD : va_D A [(h0, kO5 h1 n0_size h2 (n0_ran + 1)), (h1, kAi cint 50 f1), (h2, kAi cint 24 (upd f2 (n0_ran : Int32).toNatClampNeg 20))] := hD
        have hp_28 : kk_P f2 (upd f2 (n0_ran : Int32).toNatClampNeg 20) n0_ran.toInt (n0_ran + 1 : Int32).toInt [20] := kk_P_one (by have := kk_add2 (x := n0_ran) (y := 1) (a := n0_ran.toInt) (b := 1) rfl rfl (by omega) (by omega); omega) (by have := kk_add2 (x := n0_ran) (y := 1) (a := n0_ran.toInt) (b := 1) rfl rfl (by omega) (by omega); omega)
        refine lv_iload hx hb dX5_call_107 (lv_at hl 1 rfl) ?_
        refine lv_if_ne (tgt := 128) hx hb dX5_call_109 (by decide) (fun _ => ?_) (fun c => absurd c (by decide))
        refine lv_aload_n hx hb dX5_call_128 rfl (lv_at hl 2 rfl) ?_
        refine lv_iload_n hx hb dX5_call_129 rfl (lv_at hl 3 rfl) ?_
        refine lv_iload hx hb dX5_call_130 (lv_at hl 1 rfl) ?_
        refine lv_iload hx hb dX5_call_132 (lv_at hl 0 rfl) ?_
        refine lv_iload hx hb dX5_call_134 (lv_at hl 6 rfl) ?_
        refine lv_iload hx hb dX5_call_136 (lv_at hl 7 rfl) ?_
        refine lv_iconst (v := 1) hx hb dX5_call_138 kk_ic_1 ?_
        refine lv_iadd hx hb dX5_call_139 ?_
        obtain ⟨hPc, hDc, hFc⟩ := kk_cutout (wc := [(h0, kO5 h1 n0_size h2 (n0_ran + 1)), (h1, kAi cint 50 f1), (h2, kAi cint 24 (upd f2 (n0_ran : Int32).toNatClampNeg 20))]) hP hD hS hA [0, 1, 2] (by decide) rfl
        have hKc := kk_Ks (tq := [(cint, .int)]) hK [0] rfl
        refine va_calli (va_runV (As := [.int p0, .int 1, .int 20, .int p3, .int (p4 + 1)]) (rest := []) ⟨hx, hb, hml, hown, hts⟩ (g_X5_runUnder_9 l dC dI h0 h1 h2 cint H.size p0 p3 (p4 + 1) (by show 0 ≤ ((p4 + 1) : Int32).toInt ∧ ((p4 + 1) : Int32).toInt ≤ 22; first | with_reducible assumption | (constructor <;> (have := kk_add2 (x := n0_ran) (y := 1) (a := n0_ran.toInt) (b := 1) rfl rfl (by omega) (by omega); have := kk_add2 (x := p4) (y := 1) (a := p4.toInt) (b := 1) rfl rfl (by omega) (by omega); omega))) n0_size (n0_ran + 1) f1 (upd f2 (n0_ran : Int32).toNatClampNeg 20) tn0_size (by show 0 ≤ ((n0_ran + 1) : Int32).toInt ∧ ((n0_ran + 1) : Int32).toInt ≤ 999; first | with_reducible assumption | (constructor <;> (have := kk_add2 (x := n0_ran) (y := 1) (a := n0_ran.toInt) (b := 1) rfl rfl (by omega) (by omega); have := kk_add2 (x := p4) (y := 1) (a := p4.toInt) (b := 1) rfl rfl (by omega) (by omega); omega))) bf1 (by show (0 ≤ (p0 : Int32).toInt ∧ (p0 : Int32).toInt < (n0_size : Int32).toInt); first | with_reducible assumption | (have := kk_add2 (x := n0_ran) (y := 1) (a := n0_ran.toInt) (b := 1) rfl rfl (by omega) (by omega); have := kk_add2 (x := p4) (y := 1) (a := p4.toInt) (b := 1) rfl rfl (by omega) (by omega); omega)) aABOVE aOWN_BODIES) (cwV 5 hts gX5_call_X5_runUnder rfl rfl rfl ⟨rfl, kh_X5_runUnder⟩ ⟨Nat.le_of_ble_eq_true rfl, Nat.le_of_ble_eq_true rfl⟩) ⟨fun a U g mk q => by obtain ⟨q0, q1, qP, qK, qD, qx0, qx1, qx2, qx3⟩ := q; exact ⟨q0, q1, qP, va_K.moved (u := U) (U := U.calling g mk a) (Vm.Alike.refl U.vm) qK, qD, va_Z.moved (u := U) (U := U.calling g mk a) (Vm.Alike.refl U.vm) qx0, va_T.moved (u := U) (U := U.calling g mk a) (Vm.Alike.refl U.vm) qx1, va_Z.moved (u := U) (U := U.calling g mk a) (Vm.Alike.refl U.vm) qx2, va_T.moved (u := U) (U := U.calling g mk a) (Vm.Alike.refl U.vm) qx3⟩, va_recv hKc hPc (ci := 5) (q0 := 0) rfl rfl, fun U hU hW => ⟨rfl, by rw [hU], by rw [hU]; exact hPc, va_K.moved hW.alike hKc, hDc.weaken (fun _ _ _ _ => trivial), by rw [hU]; exact ((hZABOVE.kept (fun a h1 h2 => hS.2.1 a h1 h2)).narrow hFc).moved hW.alike, by rw [hU]; exact ((hTABOVE.kept (fun a h1 h2 => hS.2.1 a h1 h2)).narrow hFc).moved hW.alike, by rw [hU]; exact ((hZOWN_BODIES.kept (fun a h1 h2 => hS.2.1 a h1 h2)).narrow hFc).moved hW.alike, by rw [hU]; exact ((hTOWN_BODIES.kept (fun a h1 h2 => hS.2.1 a h1 h2)).narrow hFc).moved hW.alike⟩⟩ rfl rfl hl.1 rfl (lv_room (Nat.le_of_ble_eq_true rfl)) dX5_call_140 ⟨Nat.le_of_ble_eq_true rfl, Nat.le_of_ble_eq_true rfl⟩) hS (fun q _ h => hFc q h) hFc (fun r_29 u t H1 locs ht hvm hw hB hz1 hk1 hS => ?_)
        obtain ⟨y_30, f_31, by_30, v_31_0, hn_31_0, hP1, hK1, hD1⟩ := hB
        have v_31_0 : y_30.toInt ≤ (n0_ran + 1).toInt + 1 := v_31_0
        have hn_31_0 : kk_P (upd f2 (n0_ran : Int32).toNatClampNeg 20) f_31 (n0_ran + 1).toInt y_30.toInt ((kt_runs 1).tail) := hn_31_0
        rw [ht] at hP1
        have hK1 := va_K.moved hvm.symm hK1
        obtain ⟨hP, hD⟩ := va_join (wr := []) (w1 := [(h0, kO5 h1 n0_size h2 y_30), (h1, kAi cint 50 f1), (h2, kAi cint 24 f_31)]) hP hD [0, 1, 2] [] rfl rfl (by decide) (by decide) hk1 hFc hP1 hD1
        generalize H1 = H at hP hS ⊢
        have hP : va_P (dC, dI) vwCl [(h0, kO5 h1 n0_size h2 y_30), (h1, kAi cint 50 f1), (h2, kAi cint 24 f_31)] H := hP
        have hD : va_D A [(h0, kO5 h1 n0_size h2 y_30), (h1, kAi cint 50 f1), (h2, kAi cint 24 f_31)] := hD
        rcases hw with ⟨t_29_0, rfl⟩
        · skip
          have t_29_0 : ((p3 + p0) + 3) = kk_runs 1 p0 p3 := t_29_0
          obtain ⟨hP9, hD9⟩ := kk_leafout (wc := [(h0, kO5 h1 n0_size h2 y_30), (h1, kAi cint 50 f1), (h2, kAi cint 24 f_31)]) hP hD [0, 1, 2] (by decide) rfl
          have hK9 := kk_Ks (tq := []) hK [] rfl
          exact W.iret (v := ((p3 + p0) + 3)) hx hb hr (fun t ht hW => ⟨⟨((p3 + p0) + 3), (), rfl, ⟨(by first | rfl | (unfold kk_runs; (repeat' split) <;> first | rfl | (exfalso; have : (0 : Int32).toInt = 0 := rfl; have : (1 : Int32).toInt = 1 := rfl; have : (2 : Int32).toInt = 2 := rfl; have : (3 : Int32).toInt = 3 := rfl; have : (4 : Int32).toInt = 4 := rfl; have : (5 : Int32).toInt = 5 := rfl; have : (6 : Int32).toInt = 6 := rfl; have : (7 : Int32).toInt = 7 := rfl; have := kk_add2 (x := n0_ran) (y := 1) (a := n0_ran.toInt) (b := 1) rfl rfl (by omega) (by omega); have := kk_add2 (x := p4) (y := 1) (a := p4.toInt) (b := 1) rfl rfl (by omega) (by omega); omega))), trivial⟩, y_30, f_31, (by show 1 ≤ (y_30 : Int32).toInt ∧ (y_30 : Int32).toInt ≤ 1000; first | with_reducible assumption | (constructor <;> (have := kk_add2 (x := n0_ran) (y := 1) (a := n0_ran.toInt) (b := 1) rfl rfl (by omega) (by omega); have := kk_add2 (x := p4) (y := 1) (a := p4.toInt) (b := 1) rfl rfl (by omega) (by omega); omega))), (by show (y_30 : Int32).toInt ≤ (n0_ran : Int32).toInt + 3; first | with_reducible assumption | (have := kk_add2 (x := n0_ran) (y := 1) (a := n0_ran.toInt) (b := 1) rfl rfl (by omega) (by omega); have := kk_add2 (x := p4) (y := 1) (a := p4.toInt) (b := 1) rfl rfl (by omega) (by omega); omega)), (by first | exact kk_P_eq (kk_P_trans hp_28 hn_31_0) rfl | (unfold kt_runs; (repeat' split) <;> first | exact kk_P_eq (kk_P_trans hp_28 hn_31_0) rfl | (exfalso; have : (0 : Int32).toInt = 0 := rfl; have : (1 : Int32).toInt = 1 := rfl; have : (2 : Int32).toInt = 2 := rfl; have : (3 : Int32).toInt = 3 := rfl; have : (4 : Int32).toInt = 4 := rfl; have : (5 : Int32).toInt = 5 := rfl; have : (6 : Int32).toInt = 6 := rfl; have : (7 : Int32).toInt = 7 := rfl; have := kk_add2 (x := n0_ran) (y := 1) (a := n0_ran.toInt) (b := 1) rfl rfl (by omega) (by omega); have := kk_add2 (x := p4) (y := 1) (a := p4.toInt) (b := 1) rfl rfl (by omega) (by omega); omega))), by rw [ht]; exact hP9, va_K.moved hW.alike hK9, hD9⟩, hS.F ht⟩) hS.2.2 dX5_call_143
    · have t_19 : 40 < p4.toInt := kk_nle c_19
      exfalso; omega
  · have t_1 : p1.toInt = 2 := by rw [e_1]; rfl
    subst e_1
    refine lv_iload_n hx hb dX5_call_0 rfl (lv_at hl 2 rfl) ?_
    refine lv_istore hx hb dX5_call_1 hl (by decide) (rfl : _ = ([(6, .int 2), (0, .ref h0), (1, .int p0), (2, .int 2), (3, .int 0), (4, .int p3), (5, .int p4)] : List (Nat × Value))) (fun ls hl => ?_)
    refine lv_iconst (v := 0) hx hb dX5_call_3 kk_ic_0 ?_
    refine lv_istore hx hb dX5_call_4 hl (by decide) (rfl : _ = ([(7, .int 0), (6, .int 2), (0, .ref h0), (1, .int p0), (2, .int 2), (3, .int 0), (4, .int p3), (5, .int p4)] : List (Nat × Value))) (fun ls hl => ?_)
    refine lv_iload hx hb dX5_call_6 (lv_at hl 0 rfl) ?_
    refine lv_bipush (v := 8) hx hb dX5_call_8 kk_bi_8 ?_
    refine lv_icmp_ge (tgt := 48) hx hb dX5_call_10 (by decide) (fun c => absurd c (by decide)) (fun _ => ?_)
    refine lv_iload hx hb dX5_call_13 (lv_at hl 1 rfl) ?_
    obtain ⟨hPc, hDc, hFc⟩ := kk_cutout (wc := []) hP hD hS hA [] (by decide) rfl
    have hKc := kk_Ks (tq := []) hK [] rfl
    refine va_calli (va_runS (As := [.int 2]) (rest := []) ⟨hx, hb, hml, hown, hts⟩ (g_X5_isKind_13 l dC dI s.heap.size) (va_cwS 1 hts gX5_call_X5_isKind rfl rfl rfl kh_X5_isKind ⟨Nat.le_of_ble_eq_true rfl, Nat.le_of_ble_eq_true rfl⟩) ⟨fun a U g mk q => by obtain ⟨q0, q1, qP, qK, qD⟩ := q; exact ⟨q0, q1, qP, va_K.moved (u := U) (U := U.calling g mk a) (Vm.Alike.refl U.vm) qK, qD⟩, fun U hU hW => ⟨rfl, by rw [hU], by rw [hU]; exact hPc, va_K.moved hW.alike hKc, hDc.weaken (fun _ _ _ _ => trivial)⟩⟩ rfl rfl hl.1 rfl (lv_room (Nat.le_of_ble_eq_true rfl)) dX5_call_15 ⟨Nat.le_of_ble_eq_true rfl, Nat.le_of_ble_eq_true rfl⟩) hS (fun q _ h => hFc q h) hFc (fun r_32 u t H1 locs ht hvm hw hB hz1 hk1 hS => ?_)
    obtain ⟨hP1, hK1, hD1⟩ := hB
    rw [ht] at hP1
    have hK1 := va_K.moved hvm.symm hK1
    obtain ⟨hP, hD⟩ := va_join (wr := [(h0, kO5 h1 n0_size h2 n0_ran), (h1, kAi cint 50 f1), (h2, kAi cint 24 f2)]) (w1 := []) hP hD [] [0, 1, 2] rfl rfl (by decide) (by decide) hk1 hFc hP1 hD1
    generalize H1 = H at hP hS ⊢
    have hP : va_P (dC, dI) vwCl [(h0, kO5 h1 n0_size h2 n0_ran), (h1, kAi cint 50 f1), (h2, kAi cint 24 f2)] H := hP
    have hD : va_D A [(h0, kO5 h1 n0_size h2 n0_ran), (h1, kAi cint 50 f1), (h2, kAi cint 24 f2)] := hD
    obtain rfl := hw
    refine lv_if_eq (tgt := 48) hx hb dX5_call_18 (by decide) (fun c => absurd c (by decide)) (fun _ => ?_)
    refine va_gets hx hb hZOWN_BODIES hS hown (hts (.fieldLink RX5 43 "KinkStreet$Lines" "OWN_BODIES" "[I") (List.mem_of_getElem? (i := 1) rfl)) (fun _ h9 => h9) dX5_call_21 ?_
    refine lv_iload hx hb dX5_call_24 (lv_at hl 1 rfl) ?_
    refine lv_iconst (v := 4) hx hb dX5_call_26 kk_ic_4 ?_
    refine lv_imul hx hb dX5_call_27 ?_
    refine lv_topi (fun y_33 e_33 => ?_)
    obtain rfl : y_33 = 8 := e_33.trans (by decide)
    refine lv_iload_n hx hb dX5_call_28 rfl (lv_at hl 5 rfl) ?_
    refine lv_iadd hx hb dX5_call_29 ?_
    refine lv_topi (fun y_34 e_34 => ?_)
    obtain rfl : y_34 = 8 := e_34.trans (by decide)
    refine va_ti (v := .int 0) hx hb hTOWN_BODIES hS (by unfold vp_in; decide) rfl dX5_call_30 ?_
    refine lv_if_ne (tgt := 48) hx hb dX5_call_31 (by decide) (fun c => absurd c (by decide)) (fun _ => ?_)
    refine va_gets hx hb hZABOVE hS hown (hts (.fieldLink RX5 22 "KinkStreet$Lines" "ABOVE" "[I") (List.mem_of_getElem? (i := 2) rfl)) (fun _ h9 => h9) dX5_call_34 ?_
    refine lv_iload hx hb dX5_call_37 (lv_at hl 1 rfl) ?_
    refine va_ti (v := .int 0) hx hb hTABOVE hS (by unfold vp_in; decide) rfl dX5_call_39 ?_
    refine lv_istore hx hb dX5_call_40 hl (by decide) (rfl : _ = ([(6, .int 0), (7, .int 0), (0, .ref h0), (1, .int p0), (2, .int 2), (3, .int 0), (4, .int p3), (5, .int p4)] : List (Nat × Value))) (fun ls hl => ?_)
    refine lv_iinc (v := 1) hx hb dX5_call_42 hl (k := 1) rfl (by first | rfl | decide) (by decide) (rfl : _ = ([(7, .int 1), (6, .int 0), (0, .ref h0), (1, .int p0), (2, .int 2), (3, .int 0), (4, .int p3), (5, .int p4)] : List (Nat × Value))) (fun ls hl => ?_)
    refine lv_goto (tgt := 6) hx hb dX5_call_45 (by decide) ?_
    refine lv_iload hx hb dX5_call_6 (lv_at hl 0 rfl) ?_
    refine lv_bipush (v := 8) hx hb dX5_call_8 kk_bi_8 ?_
    refine lv_icmp_ge (tgt := 48) hx hb dX5_call_10 (by decide) (fun c => absurd c (by decide)) (fun _ => ?_)
    refine lv_iload hx hb dX5_call_13 (lv_at hl 1 rfl) ?_
    obtain ⟨hPc, hDc, hFc⟩ := kk_cutout (wc := []) hP hD hS hA [] (by decide) rfl
    have hKc := kk_Ks (tq := []) hK [] rfl
    refine va_calli (va_runS (As := [.int 0]) (rest := []) ⟨hx, hb, hml, hown, hts⟩ (g_X5_isKind_11 l dC dI H.size) (va_cwS 1 hts gX5_call_X5_isKind rfl rfl rfl kh_X5_isKind ⟨Nat.le_of_ble_eq_true rfl, Nat.le_of_ble_eq_true rfl⟩) ⟨fun a U g mk q => by obtain ⟨q0, q1, qP, qK, qD⟩ := q; exact ⟨q0, q1, qP, va_K.moved (u := U) (U := U.calling g mk a) (Vm.Alike.refl U.vm) qK, qD⟩, fun U hU hW => ⟨rfl, by rw [hU], by rw [hU]; exact hPc, va_K.moved hW.alike hKc, hDc.weaken (fun _ _ _ _ => trivial)⟩⟩ rfl rfl hl.1 rfl (lv_room (Nat.le_of_ble_eq_true rfl)) dX5_call_15 ⟨Nat.le_of_ble_eq_true rfl, Nat.le_of_ble_eq_true rfl⟩) hS (fun q _ h => hFc q h) hFc (fun r_35 u t H1 locs ht hvm hw hB hz1 hk1 hS => ?_)
    obtain ⟨hP1, hK1, hD1⟩ := hB
    rw [ht] at hP1
    have hK1 := va_K.moved hvm.symm hK1
    obtain ⟨hP, hD⟩ := va_join (wr := [(h0, kO5 h1 n0_size h2 n0_ran), (h1, kAi cint 50 f1), (h2, kAi cint 24 f2)]) (w1 := []) hP hD [] [0, 1, 2] rfl rfl (by decide) (by decide) hk1 hFc hP1 hD1
    generalize H1 = H at hP hS ⊢
    have hP : va_P (dC, dI) vwCl [(h0, kO5 h1 n0_size h2 n0_ran), (h1, kAi cint 50 f1), (h2, kAi cint 24 f2)] H := hP
    have hD : va_D A [(h0, kO5 h1 n0_size h2 n0_ran), (h1, kAi cint 50 f1), (h2, kAi cint 24 f2)] := hD
    obtain rfl := hw
    refine lv_if_eq (tgt := 48) hx hb dX5_call_18 (by decide) (fun c => absurd c (by decide)) (fun _ => ?_)
    refine va_gets hx hb hZOWN_BODIES hS hown (hts (.fieldLink RX5 43 "KinkStreet$Lines" "OWN_BODIES" "[I") (List.mem_of_getElem? (i := 1) rfl)) (fun _ h9 => h9) dX5_call_21 ?_
    refine lv_iload hx hb dX5_call_24 (lv_at hl 1 rfl) ?_
    refine lv_iconst (v := 4) hx hb dX5_call_26 kk_ic_4 ?_
    refine lv_imul hx hb dX5_call_27 ?_
    refine lv_topi (fun y_36 e_36 => ?_)
    obtain rfl : y_36 = 0 := e_36.trans (by decide)
    refine lv_iload_n hx hb dX5_call_28 rfl (lv_at hl 5 rfl) ?_
    refine lv_iadd hx hb dX5_call_29 ?_
    refine lv_topi (fun y_37 e_37 => ?_)
    obtain rfl : y_37 = 0 := e_37.trans (by decide)
    refine va_ti (v := .int 1) hx hb hTOWN_BODIES hS (by unfold vp_in; decide) rfl dX5_call_30 ?_
    refine lv_if_ne (tgt := 48) hx hb dX5_call_31 (by decide) (fun _ => ?_) (fun c => absurd c (by decide))
    refine lv_iload hx hb dX5_call_48 (lv_at hl 1 rfl) ?_
    obtain ⟨hPc, hDc, hFc⟩ := kk_cutout (wc := []) hP hD hS hA [] (by decide) rfl
    have hKc := kk_Ks (tq := []) hK [] rfl
    refine va_calli (va_runS (As := [.int 0]) (rest := []) ⟨hx, hb, hml, hown, hts⟩ (g_X5_isKind_11 l dC dI H.size) (va_cwS 1 hts gX5_call_X5_isKind rfl rfl rfl kh_X5_isKind ⟨Nat.le_of_ble_eq_true rfl, Nat.le_of_ble_eq_true rfl⟩) ⟨fun a U g mk q => by obtain ⟨q0, q1, qP, qK, qD⟩ := q; exact ⟨q0, q1, qP, va_K.moved (u := U) (U := U.calling g mk a) (Vm.Alike.refl U.vm) qK, qD⟩, fun U hU hW => ⟨rfl, by rw [hU], by rw [hU]; exact hPc, va_K.moved hW.alike hKc, hDc.weaken (fun _ _ _ _ => trivial)⟩⟩ rfl rfl hl.1 rfl (lv_room (Nat.le_of_ble_eq_true rfl)) dX5_call_50 ⟨Nat.le_of_ble_eq_true rfl, Nat.le_of_ble_eq_true rfl⟩) hS (fun q _ h => hFc q h) hFc (fun r_38 u t H1 locs ht hvm hw hB hz1 hk1 hS => ?_)
    obtain ⟨hP1, hK1, hD1⟩ := hB
    rw [ht] at hP1
    have hK1 := va_K.moved hvm.symm hK1
    obtain ⟨hP, hD⟩ := va_join (wr := [(h0, kO5 h1 n0_size h2 n0_ran), (h1, kAi cint 50 f1), (h2, kAi cint 24 f2)]) (w1 := []) hP hD [] [0, 1, 2] rfl rfl (by decide) (by decide) hk1 hFc hP1 hD1
    generalize H1 = H at hP hS ⊢
    have hP : va_P (dC, dI) vwCl [(h0, kO5 h1 n0_size h2 n0_ran), (h1, kAi cint 50 f1), (h2, kAi cint 24 f2)] H := hP
    have hD : va_D A [(h0, kO5 h1 n0_size h2 n0_ran), (h1, kAi cint 50 f1), (h2, kAi cint 24 f2)] := hD
    obtain rfl := hw
    refine lv_if_eq (tgt := 63) hx hb dX5_call_53 (by decide) (fun c => absurd c (by decide)) (fun _ => ?_)
    refine lv_iload hx hb dX5_call_56 (lv_at hl 7 rfl) ?_
    refine lv_bipush (v := 40) hx hb dX5_call_58 kk_bi_40 ?_
    refine lv_icmp_le (tgt := 65) hx hb dX5_call_60 (by decide) (fun c_39 => ?_) (fun c_39 => ?_)
    · have t_39 : p4.toInt ≤ 40 := kk_le c_39
      refine va_gets hx hb hZOWN_BODIES hS hown (hts (.fieldLink RX5 43 "KinkStreet$Lines" "OWN_BODIES" "[I") (List.mem_of_getElem? (i := 1) rfl)) (fun _ h9 => h9) dX5_call_65 ?_
      refine lv_iload hx hb dX5_call_68 (lv_at hl 1 rfl) ?_
      refine lv_iconst (v := 4) hx hb dX5_call_70 kk_ic_4 ?_
      refine lv_imul hx hb dX5_call_71 ?_
      refine lv_topi (fun y_40 e_40 => ?_)
      obtain rfl : y_40 = 0 := e_40.trans (by decide)
      refine lv_iload_n hx hb dX5_call_72 rfl (lv_at hl 5 rfl) ?_
      refine lv_iadd hx hb dX5_call_73 ?_
      refine lv_topi (fun y_41 e_41 => ?_)
      obtain rfl : y_41 = 0 := e_41.trans (by decide)
      refine va_ti (v := .int 1) hx hb hTOWN_BODIES hS (by unfold vp_in; decide) rfl dX5_call_74 ?_
      refine lv_istore hx hb dX5_call_75 hl (by decide) (rfl : _ = ([(7, .int 1), (6, .int 0), (0, .ref h0), (1, .int p0), (2, .int 2), (3, .int 0), (4, .int p3), (5, .int p4)] : List (Nat × Value))) (fun ls hl => ?_)
      refine lv_aload_n hx hb dX5_call_77 rfl (lv_at hl 2 rfl) ?_
      refine va_get (D := (dC, dI)) (ci := 5) (v := .int n0_ran) (C := RX5) (T := TX5) (N := 4) hx hb hts (fun _ h => List.mem_cons_of_mem _ (List.mem_append_right _ h)) hown hK hP 0 rfl rfl 3 (by decide) (hts (.fieldLink RX5 36 "KinkStreet$Lines" "ran" "I") (List.mem_of_getElem? (i := 3) rfl)) (fun _ h9 => h9) rfl dX5_call_78 ?_
      refine lv_bipush (v := 24) hx hb dX5_call_81 kk_bi_24 ?_
      refine lv_icmp_ge (tgt := 97) hx hb dX5_call_83 (by decide) (fun c_42 => ?_) (fun c_42 => ?_)
      · have t_42 : 24 ≤ n0_ran.toInt := kk_le c_42
        refine lv_aload_n hx hb dX5_call_97 rfl (lv_at hl 2 rfl) ?_
        refine lv_dup hx hb dX5_call_98 rfl ?_
        refine va_get (D := (dC, dI)) (ci := 5) (v := .int n0_ran) (C := RX5) (T := TX5) (N := 4) hx hb hts (fun _ h => List.mem_cons_of_mem _ (List.mem_append_right _ h)) hown hK hP 0 rfl rfl 3 (by decide) (hts (.fieldLink RX5 36 "KinkStreet$Lines" "ran" "I") (List.mem_of_getElem? (i := 3) rfl)) (fun _ h9 => h9) rfl dX5_call_99 ?_
        refine lv_iconst (v := 1) hx hb dX5_call_102 kk_ic_1 ?_
        refine lv_iadd hx hb dX5_call_103 ?_
        refine va_put (D := (dC, dI)) (ci := 5) (v := .int (n0_ran + 1)) (ty := .int) (C := RX5) (T := TX5) (N := 4) hx hb hts (fun _ h => List.mem_cons_of_mem _ (List.mem_append_right _ h)) tyX5 tyX5_ok nmX5 hown hK hP hD hS 0 rfl rfl 3 (by decide) (hts (.fieldLink RX5 36 "KinkStreet$Lines" "ran" "I") (List.mem_of_getElem? (i := 3) rfl)) (fun _ h9 => h9) rfl (by decide +kernel) rfl rfl (Nat.le_of_ble_eq_true rfl) dX5_call_104 (fun H locs hP hD hS => ?_)
        have hP : va_P (dC, dI) vwCl [(h0, kO5 h1 n0_size h2 (n0_ran + 1)), (h1, kAi cint 50 f1), (h2, kAi cint 24 f2)] H := hP
        have hD : va_D A [(h0, kO5 h1 n0_size h2 (n0_ran + 1)), (h1, kAi cint 50 f1), (h2, kAi cint 24 f2)] := hD
        have hp_43 : kk_P f2 f2 n0_ran.toInt (n0_ran + 1 : Int32).toInt [1] := kk_P_out (by have := kk_add2 (x := n0_ran) (y := 1) (a := n0_ran.toInt) (b := 1) rfl rfl (by omega) (by omega); omega) (by have := kk_add2 (x := n0_ran) (y := 1) (a := n0_ran.toInt) (b := 1) rfl rfl (by omega) (by omega); omega)
        refine lv_iload hx hb dX5_call_107 (lv_at hl 1 rfl) ?_
        refine lv_if_ne (tgt := 128) hx hb dX5_call_109 (by decide) (fun c => absurd c (by decide)) (fun _ => ?_)
        refine lv_aload_n hx hb dX5_call_112 rfl (lv_at hl 2 rfl) ?_
        refine lv_iload_n hx hb dX5_call_113 rfl (lv_at hl 3 rfl) ?_
        refine lv_iload hx hb dX5_call_114 (lv_at hl 0 rfl) ?_
        refine lv_iload hx hb dX5_call_116 (lv_at hl 6 rfl) ?_
        refine lv_iload hx hb dX5_call_118 (lv_at hl 7 rfl) ?_
        refine lv_iconst (v := 1) hx hb dX5_call_120 kk_ic_1 ?_
        refine lv_iadd hx hb dX5_call_121 ?_
        obtain ⟨hPc, hDc, hFc⟩ := kk_cutout (wc := [(h0, kO5 h1 n0_size h2 (n0_ran + 1)), (h1, kAi cint 50 f1)]) hP hD hS hA [0, 1] (by decide) rfl
        have hKc := kk_Ks (tq := [(cint, .int)]) hK [0] rfl
        refine va_calli (va_runV (As := [.int p0, .int 1, .int p3, .int (p4 + 1)]) (rest := []) ⟨hx, hb, hml, hown, hts⟩ (g_X5_runLine_4 l dC dI h0 h1 h2 cint H.size p0 p3 (p4 + 1) (by show 0 ≤ ((p4 + 1) : Int32).toInt ∧ ((p4 + 1) : Int32).toInt ≤ 23; first | with_reducible assumption | (constructor <;> (have := kk_add2 (x := n0_ran) (y := 1) (a := n0_ran.toInt) (b := 1) rfl rfl (by omega) (by omega); have := kk_add2 (x := p4) (y := 1) (a := p4.toInt) (b := 1) rfl rfl (by omega) (by omega); omega))) n0_size (n0_ran + 1) f1 tn0_size (by show 0 ≤ ((n0_ran + 1) : Int32).toInt ∧ ((n0_ran + 1) : Int32).toInt ≤ 1000; first | with_reducible assumption | (constructor <;> (have := kk_add2 (x := n0_ran) (y := 1) (a := n0_ran.toInt) (b := 1) rfl rfl (by omega) (by omega); have := kk_add2 (x := p4) (y := 1) (a := p4.toInt) (b := 1) rfl rfl (by omega) (by omega); omega))) bf1 (by show (0 ≤ (p0 : Int32).toInt ∧ (p0 : Int32).toInt < (n0_size : Int32).toInt); first | with_reducible assumption | (have := kk_add2 (x := n0_ran) (y := 1) (a := n0_ran.toInt) (b := 1) rfl rfl (by omega) (by omega); have := kk_add2 (x := p4) (y := 1) (a := p4.toInt) (b := 1) rfl rfl (by omega) (by omega); omega))) (cwV 4 hts gX5_call_X5_runLine rfl rfl rfl ⟨rfl, kh_X5_runLine⟩ ⟨Nat.le_of_ble_eq_true rfl, Nat.le_of_ble_eq_true rfl⟩) ⟨fun a U g mk q => by obtain ⟨q0, q1, qP, qK, qD⟩ := q; exact ⟨q0, q1, qP, va_K.moved (u := U) (U := U.calling g mk a) (Vm.Alike.refl U.vm) qK, qD⟩, va_recv hKc hPc (ci := 5) (q0 := 0) rfl rfl, fun U hU hW => ⟨rfl, by rw [hU], by rw [hU]; exact hPc, va_K.moved hW.alike hKc, hDc.weaken (fun _ _ _ _ => trivial)⟩⟩ rfl rfl hl.1 rfl (lv_room (Nat.le_of_ble_eq_true rfl)) dX5_call_122 ⟨Nat.le_of_ble_eq_true rfl, Nat.le_of_ble_eq_true rfl⟩) hS (fun q _ h => hFc q h) hFc (fun r_44 u t H1 locs ht hvm hw hB hz1 hk1 hS => ?_)
        obtain ⟨hP1, hK1, hD1⟩ := hB
        rw [ht] at hP1
        have hK1 := va_K.moved hvm.symm hK1
        obtain ⟨hP, hD⟩ := va_join (wr := [(h2, kAi cint 24 f2)]) (w1 := [(h0, kO5 h1 n0_size h2 (n0_ran + 1)), (h1, kAi cint 50 f1)]) hP hD [0, 1] [2] rfl rfl (by decide) (by decide) hk1 hFc hP1 hD1
        generalize H1 = H at hP hS ⊢
        have hP : va_P (dC, dI) vwCl [(h2, kAi cint 24 f2), (h0, kO5 h1 n0_size h2 (n0_ran + 1)), (h1, kAi cint 50 f1)] H := hP
        have hD : va_D A [(h2, kAi cint 24 f2), (h0, kO5 h1 n0_size h2 (n0_ran + 1)), (h1, kAi cint 50 f1)] := hD
        rcases hw with ⟨t_44_0, rfl⟩
        · skip
          have t_44_0 : (p3 + p0) = kk_runs 0 p0 p3 := t_44_0
          refine lv_goto (tgt := 143) hx hb dX5_call_125 (by decide) ?_
          obtain ⟨hP9, hD9⟩ := kk_leafout (wc := [(h0, kO5 h1 n0_size h2 (n0_ran + 1)), (h1, kAi cint 50 f1), (h2, kAi cint 24 f2)]) hP hD [1, 2, 0] (by decide) rfl
          have hK9 := kk_Ks (tq := []) hK [] rfl
          exact W.iret (v := (p3 + p0)) hx hb hr (fun t ht hW => ⟨⟨(p3 + p0), (), rfl, ⟨(by first | rfl | (unfold kk_runs; (repeat' split) <;> first | rfl | (exfalso; have : (0 : Int32).toInt = 0 := rfl; have : (1 : Int32).toInt = 1 := rfl; have : (2 : Int32).toInt = 2 := rfl; have : (3 : Int32).toInt = 3 := rfl; have : (4 : Int32).toInt = 4 := rfl; have : (5 : Int32).toInt = 5 := rfl; have : (6 : Int32).toInt = 6 := rfl; have : (7 : Int32).toInt = 7 := rfl; have := kk_add2 (x := n0_ran) (y := 1) (a := n0_ran.toInt) (b := 1) rfl rfl (by omega) (by omega); have := kk_add2 (x := p4) (y := 1) (a := p4.toInt) (b := 1) rfl rfl (by omega) (by omega); omega))), trivial⟩, (n0_ran + 1), f2, (by show 1 ≤ ((n0_ran + 1) : Int32).toInt ∧ ((n0_ran + 1) : Int32).toInt ≤ 1000; first | with_reducible assumption | (constructor <;> (have := kk_add2 (x := n0_ran) (y := 1) (a := n0_ran.toInt) (b := 1) rfl rfl (by omega) (by omega); have := kk_add2 (x := p4) (y := 1) (a := p4.toInt) (b := 1) rfl rfl (by omega) (by omega); omega))), (by show ((n0_ran + 1) : Int32).toInt ≤ (n0_ran : Int32).toInt + 3; first | with_reducible assumption | (have := kk_add2 (x := n0_ran) (y := 1) (a := n0_ran.toInt) (b := 1) rfl rfl (by omega) (by omega); have := kk_add2 (x := p4) (y := 1) (a := p4.toInt) (b := 1) rfl rfl (by omega) (by omega); omega)), (by first | exact kk_P_eq hp_43 rfl | (unfold kt_runs; (repeat' split) <;> first | exact kk_P_eq hp_43 rfl | (exfalso; have : (0 : Int32).toInt = 0 := rfl; have : (1 : Int32).toInt = 1 := rfl; have : (2 : Int32).toInt = 2 := rfl; have : (3 : Int32).toInt = 3 := rfl; have : (4 : Int32).toInt = 4 := rfl; have : (5 : Int32).toInt = 5 := rfl; have : (6 : Int32).toInt = 6 := rfl; have : (7 : Int32).toInt = 7 := rfl; have := kk_add2 (x := n0_ran) (y := 1) (a := n0_ran.toInt) (b := 1) rfl rfl (by omega) (by omega); have := kk_add2 (x := p4) (y := 1) (a := p4.toInt) (b := 1) rfl rfl (by omega) (by omega); omega))), by rw [ht]; exact hP9, va_K.moved hW.alike hK9, hD9⟩, hS.F ht⟩) hS.2.2 dX5_call_143
      · have t_42 : n0_ran.toInt < 24 := kk_nle c_42
        refine lv_aload_n hx hb dX5_call_86 rfl (lv_at hl 2 rfl) ?_
        refine va_get (D := (dC, dI)) (ci := 5) (v := .ref h2) (C := RX5) (T := TX5) (N := 4) hx hb hts (fun _ h => List.mem_cons_of_mem _ (List.mem_append_right _ h)) hown hK hP 0 rfl rfl 2 (by decide) (hts (.fieldLink RX5 15 "KinkStreet$Lines" "trace" "[I") (List.mem_of_getElem? (i := 4) rfl)) (fun _ h9 => h9) rfl dX5_call_87 ?_
        refine lv_aload_n hx hb dX5_call_90 rfl (lv_at hl 2 rfl) ?_
        refine va_get (D := (dC, dI)) (ci := 5) (v := .int n0_ran) (C := RX5) (T := TX5) (N := 4) hx hb hts (fun _ h => List.mem_cons_of_mem _ (List.mem_append_right _ h)) hown hK hP 0 rfl rfl 3 (by decide) (hts (.fieldLink RX5 36 "KinkStreet$Lines" "ran" "I") (List.mem_of_getElem? (i := 3) rfl)) (fun _ h9 => h9) rfl dX5_call_91 ?_
        refine lv_iload hx hb dX5_call_94 (lv_at hl 0 rfl) ?_
        refine va_iast hx hb hK hP hD hS 2 0 rfl rfl (vp_in_iff.mpr ⟨by omega, by omega⟩) dX5_call_96 (fun H locs hP hD hS => ?_)
        have w_45 : ((upd f2 (n0_ran : Int32).toNatClampNeg 1) (n0_ran : Int32).toNatClampNeg).toInt = (1 : Int32).toInt := by rw [kk_ups]
        have hP : va_P (dC, dI) vwCl [(h0, kO5 h1 n0_size h2 n0_ran), (h1, kAi cint 50 f1), (h2, kAi cint 24 (upd f2 (n0_ran : Int32).toNatClampNeg 1))] H := hP
        have hD : va_D A [(h0, kO5 h1 n0_size h2 n0_ran), (h1, kAi cint 50 f1), (h2, kAi cint 24 (upd f2 (n0_ran : Int32).toNatClampNeg 1))] := hD
        refine lv_aload_n hx hb dX5_call_97 rfl (lv_at hl 2 rfl) ?_
        refine lv_dup hx hb dX5_call_98 rfl ?_
        refine va_get (D := (dC, dI)) (ci := 5) (v := .int n0_ran) (C := RX5) (T := TX5) (N := 4) hx hb hts (fun _ h => List.mem_cons_of_mem _ (List.mem_append_right _ h)) hown hK hP 0 rfl rfl 3 (by decide) (hts (.fieldLink RX5 36 "KinkStreet$Lines" "ran" "I") (List.mem_of_getElem? (i := 3) rfl)) (fun _ h9 => h9) rfl dX5_call_99 ?_
        refine lv_iconst (v := 1) hx hb dX5_call_102 kk_ic_1 ?_
        refine lv_iadd hx hb dX5_call_103 ?_
        refine va_put (D := (dC, dI)) (ci := 5) (v := .int (n0_ran + 1)) (ty := .int) (C := RX5) (T := TX5) (N := 4) hx hb hts (fun _ h => List.mem_cons_of_mem _ (List.mem_append_right _ h)) tyX5 tyX5_ok nmX5 hown hK hP hD hS 0 rfl rfl 3 (by decide) (hts (.fieldLink RX5 36 "KinkStreet$Lines" "ran" "I") (List.mem_of_getElem? (i := 3) rfl)) (fun _ h9 => h9) rfl (by decide +kernel) rfl rfl (Nat.le_of_ble_eq_true rfl) dX5_call_104 (fun H locs hP hD hS => ?_)
        have hP : va_P (dC, dI) vwCl [(h0, kO5 h1 n0_size h2 (n0_ran + 1)), (h1, kAi cint 50 f1), (h2, kAi cint 24 (upd f2 (n0_ran : Int32).toNatClampNeg 1))] H := hP
        have hD : va_D A [(h0, kO5 h1 n0_size h2 (n0_ran + 1)), (h1, kAi cint 50 f1), (h2, kAi cint 24 (upd f2 (n0_ran : Int32).toNatClampNeg 1))] := hD
        have hp_46 : kk_P f2 (upd f2 (n0_ran : Int32).toNatClampNeg 1) n0_ran.toInt (n0_ran + 1 : Int32).toInt [1] := kk_P_one (by have := kk_add2 (x := n0_ran) (y := 1) (a := n0_ran.toInt) (b := 1) rfl rfl (by omega) (by omega); omega) (by have := kk_add2 (x := n0_ran) (y := 1) (a := n0_ran.toInt) (b := 1) rfl rfl (by omega) (by omega); omega)
        refine lv_iload hx hb dX5_call_107 (lv_at hl 1 rfl) ?_
        refine lv_if_ne (tgt := 128) hx hb dX5_call_109 (by decide) (fun c => absurd c (by decide)) (fun _ => ?_)
        refine lv_aload_n hx hb dX5_call_112 rfl (lv_at hl 2 rfl) ?_
        refine lv_iload_n hx hb dX5_call_113 rfl (lv_at hl 3 rfl) ?_
        refine lv_iload hx hb dX5_call_114 (lv_at hl 0 rfl) ?_
        refine lv_iload hx hb dX5_call_116 (lv_at hl 6 rfl) ?_
        refine lv_iload hx hb dX5_call_118 (lv_at hl 7 rfl) ?_
        refine lv_iconst (v := 1) hx hb dX5_call_120 kk_ic_1 ?_
        refine lv_iadd hx hb dX5_call_121 ?_
        obtain ⟨hPc, hDc, hFc⟩ := kk_cutout (wc := [(h0, kO5 h1 n0_size h2 (n0_ran + 1)), (h1, kAi cint 50 f1)]) hP hD hS hA [0, 1] (by decide) rfl
        have hKc := kk_Ks (tq := [(cint, .int)]) hK [0] rfl
        refine va_calli (va_runV (As := [.int p0, .int 1, .int p3, .int (p4 + 1)]) (rest := []) ⟨hx, hb, hml, hown, hts⟩ (g_X5_runLine_4 l dC dI h0 h1 h2 cint H.size p0 p3 (p4 + 1) (by show 0 ≤ ((p4 + 1) : Int32).toInt ∧ ((p4 + 1) : Int32).toInt ≤ 23; first | with_reducible assumption | (constructor <;> (have := kk_add2 (x := n0_ran) (y := 1) (a := n0_ran.toInt) (b := 1) rfl rfl (by omega) (by omega); have := kk_add2 (x := p4) (y := 1) (a := p4.toInt) (b := 1) rfl rfl (by omega) (by omega); omega))) n0_size (n0_ran + 1) f1 tn0_size (by show 0 ≤ ((n0_ran + 1) : Int32).toInt ∧ ((n0_ran + 1) : Int32).toInt ≤ 1000; first | with_reducible assumption | (constructor <;> (have := kk_add2 (x := n0_ran) (y := 1) (a := n0_ran.toInt) (b := 1) rfl rfl (by omega) (by omega); have := kk_add2 (x := p4) (y := 1) (a := p4.toInt) (b := 1) rfl rfl (by omega) (by omega); omega))) bf1 (by show (0 ≤ (p0 : Int32).toInt ∧ (p0 : Int32).toInt < (n0_size : Int32).toInt); first | with_reducible assumption | (have := kk_add2 (x := n0_ran) (y := 1) (a := n0_ran.toInt) (b := 1) rfl rfl (by omega) (by omega); have := kk_add2 (x := p4) (y := 1) (a := p4.toInt) (b := 1) rfl rfl (by omega) (by omega); omega))) (cwV 4 hts gX5_call_X5_runLine rfl rfl rfl ⟨rfl, kh_X5_runLine⟩ ⟨Nat.le_of_ble_eq_true rfl, Nat.le_of_ble_eq_true rfl⟩) ⟨fun a U g mk q => by obtain ⟨q0, q1, qP, qK, qD⟩ := q; exact ⟨q0, q1, qP, va_K.moved (u := U) (U := U.calling g mk a) (Vm.Alike.refl U.vm) qK, qD⟩, va_recv hKc hPc (ci := 5) (q0 := 0) rfl rfl, fun U hU hW => ⟨rfl, by rw [hU], by rw [hU]; exact hPc, va_K.moved hW.alike hKc, hDc.weaken (fun _ _ _ _ => trivial)⟩⟩ rfl rfl hl.1 rfl (lv_room (Nat.le_of_ble_eq_true rfl)) dX5_call_122 ⟨Nat.le_of_ble_eq_true rfl, Nat.le_of_ble_eq_true rfl⟩) hS (fun q _ h => hFc q h) hFc (fun r_47 u t H1 locs ht hvm hw hB hz1 hk1 hS => ?_)
        obtain ⟨hP1, hK1, hD1⟩ := hB
        rw [ht] at hP1
        have hK1 := va_K.moved hvm.symm hK1
        obtain ⟨hP, hD⟩ := va_join (wr := [(h2, kAi cint 24 (upd f2 (n0_ran : Int32).toNatClampNeg 1))]) (w1 := [(h0, kO5 h1 n0_size h2 (n0_ran + 1)), (h1, kAi cint 50 f1)]) hP hD [0, 1] [2] rfl rfl (by decide) (by decide) hk1 hFc hP1 hD1
        generalize H1 = H at hP hS ⊢
        have hP : va_P (dC, dI) vwCl [(h2, kAi cint 24 (upd f2 (n0_ran : Int32).toNatClampNeg 1)), (h0, kO5 h1 n0_size h2 (n0_ran + 1)), (h1, kAi cint 50 f1)] H := hP
        have hD : va_D A [(h2, kAi cint 24 (upd f2 (n0_ran : Int32).toNatClampNeg 1)), (h0, kO5 h1 n0_size h2 (n0_ran + 1)), (h1, kAi cint 50 f1)] := hD
        rcases hw with ⟨t_47_0, rfl⟩
        · skip
          have t_47_0 : (p3 + p0) = kk_runs 0 p0 p3 := t_47_0
          refine lv_goto (tgt := 143) hx hb dX5_call_125 (by decide) ?_
          obtain ⟨hP9, hD9⟩ := kk_leafout (wc := [(h0, kO5 h1 n0_size h2 (n0_ran + 1)), (h1, kAi cint 50 f1), (h2, kAi cint 24 (upd f2 (n0_ran : Int32).toNatClampNeg 1))]) hP hD [1, 2, 0] (by decide) rfl
          have hK9 := kk_Ks (tq := []) hK [] rfl
          exact W.iret (v := (p3 + p0)) hx hb hr (fun t ht hW => ⟨⟨(p3 + p0), (), rfl, ⟨(by first | rfl | (unfold kk_runs; (repeat' split) <;> first | rfl | (exfalso; have : (0 : Int32).toInt = 0 := rfl; have : (1 : Int32).toInt = 1 := rfl; have : (2 : Int32).toInt = 2 := rfl; have : (3 : Int32).toInt = 3 := rfl; have : (4 : Int32).toInt = 4 := rfl; have : (5 : Int32).toInt = 5 := rfl; have : (6 : Int32).toInt = 6 := rfl; have : (7 : Int32).toInt = 7 := rfl; have := kk_add2 (x := n0_ran) (y := 1) (a := n0_ran.toInt) (b := 1) rfl rfl (by omega) (by omega); have := kk_add2 (x := p4) (y := 1) (a := p4.toInt) (b := 1) rfl rfl (by omega) (by omega); omega))), trivial⟩, (n0_ran + 1), (upd f2 (n0_ran : Int32).toNatClampNeg 1), (by show 1 ≤ ((n0_ran + 1) : Int32).toInt ∧ ((n0_ran + 1) : Int32).toInt ≤ 1000; first | with_reducible assumption | (constructor <;> (have := kk_add2 (x := n0_ran) (y := 1) (a := n0_ran.toInt) (b := 1) rfl rfl (by omega) (by omega); have := kk_add2 (x := p4) (y := 1) (a := p4.toInt) (b := 1) rfl rfl (by omega) (by omega); omega))), (by show ((n0_ran + 1) : Int32).toInt ≤ (n0_ran : Int32).toInt + 3; first | with_reducible assumption | (have := kk_add2 (x := n0_ran) (y := 1) (a := n0_ran.toInt) (b := 1) rfl rfl (by omega) (by omega); have := kk_add2 (x := p4) (y := 1) (a := p4.toInt) (b := 1) rfl rfl (by omega) (by omega); omega)), (by first | exact kk_P_eq hp_46 rfl | (unfold kt_runs; (repeat' split) <;> first | exact kk_P_eq hp_46 rfl | (exfalso; have : (0 : Int32).toInt = 0 := rfl; have : (1 : Int32).toInt = 1 := rfl; have : (2 : Int32).toInt = 2 := rfl; have : (3 : Int32).toInt = 3 := rfl; have : (4 : Int32).toInt = 4 := rfl; have : (5 : Int32).toInt = 5 := rfl; have : (6 : Int32).toInt = 6 := rfl; have : (7 : Int32).toInt = 7 := rfl; have := kk_add2 (x := n0_ran) (y := 1) (a := n0_ran.toInt) (b := 1) rfl rfl (by omega) (by omega); have := kk_add2 (x := p4) (y := 1) (a := p4.toInt) (b := 1) rfl rfl (by omega) (by omega); omega))), by rw [ht]; exact hP9, va_K.moved hW.alike hK9, hD9⟩, hS.F ht⟩) hS.2.2 dX5_call_143
    · have t_39 : 40 < p4.toInt := kk_nle c_39
      exfalso; omega
  · have t_1 : p1.toInt = 3 := by rw [e_1]; rfl
    subst e_1
    refine lv_iload_n hx hb dX5_call_0 rfl (lv_at hl 2 rfl) ?_
    refine lv_istore hx hb dX5_call_1 hl (by decide) (rfl : _ = ([(6, .int 3), (0, .ref h0), (1, .int p0), (2, .int 3), (3, .int 0), (4, .int p3), (5, .int p4)] : List (Nat × Value))) (fun ls hl => ?_)
    refine lv_iconst (v := 0) hx hb dX5_call_3 kk_ic_0 ?_
    refine lv_istore hx hb dX5_call_4 hl (by decide) (rfl : _ = ([(7, .int 0), (6, .int 3), (0, .ref h0), (1, .int p0), (2, .int 3), (3, .int 0), (4, .int p3), (5, .int p4)] : List (Nat × Value))) (fun ls hl => ?_)
    refine lv_iload hx hb dX5_call_6 (lv_at hl 0 rfl) ?_
    refine lv_bipush (v := 8) hx hb dX5_call_8 kk_bi_8 ?_
    refine lv_icmp_ge (tgt := 48) hx hb dX5_call_10 (by decide) (fun c => absurd c (by decide)) (fun _ => ?_)
    refine lv_iload hx hb dX5_call_13 (lv_at hl 1 rfl) ?_
    obtain ⟨hPc, hDc, hFc⟩ := kk_cutout (wc := []) hP hD hS hA [] (by decide) rfl
    have hKc := kk_Ks (tq := []) hK [] rfl
    refine va_calli (va_runS (As := [.int 3]) (rest := []) ⟨hx, hb, hml, hown, hts⟩ (g_X5_isKind_14 l dC dI s.heap.size) (va_cwS 1 hts gX5_call_X5_isKind rfl rfl rfl kh_X5_isKind ⟨Nat.le_of_ble_eq_true rfl, Nat.le_of_ble_eq_true rfl⟩) ⟨fun a U g mk q => by obtain ⟨q0, q1, qP, qK, qD⟩ := q; exact ⟨q0, q1, qP, va_K.moved (u := U) (U := U.calling g mk a) (Vm.Alike.refl U.vm) qK, qD⟩, fun U hU hW => ⟨rfl, by rw [hU], by rw [hU]; exact hPc, va_K.moved hW.alike hKc, hDc.weaken (fun _ _ _ _ => trivial)⟩⟩ rfl rfl hl.1 rfl (lv_room (Nat.le_of_ble_eq_true rfl)) dX5_call_15 ⟨Nat.le_of_ble_eq_true rfl, Nat.le_of_ble_eq_true rfl⟩) hS (fun q _ h => hFc q h) hFc (fun r_48 u t H1 locs ht hvm hw hB hz1 hk1 hS => ?_)
    obtain ⟨hP1, hK1, hD1⟩ := hB
    rw [ht] at hP1
    have hK1 := va_K.moved hvm.symm hK1
    obtain ⟨hP, hD⟩ := va_join (wr := [(h0, kO5 h1 n0_size h2 n0_ran), (h1, kAi cint 50 f1), (h2, kAi cint 24 f2)]) (w1 := []) hP hD [] [0, 1, 2] rfl rfl (by decide) (by decide) hk1 hFc hP1 hD1
    generalize H1 = H at hP hS ⊢
    have hP : va_P (dC, dI) vwCl [(h0, kO5 h1 n0_size h2 n0_ran), (h1, kAi cint 50 f1), (h2, kAi cint 24 f2)] H := hP
    have hD : va_D A [(h0, kO5 h1 n0_size h2 n0_ran), (h1, kAi cint 50 f1), (h2, kAi cint 24 f2)] := hD
    obtain rfl := hw
    refine lv_if_eq (tgt := 48) hx hb dX5_call_18 (by decide) (fun c => absurd c (by decide)) (fun _ => ?_)
    refine va_gets hx hb hZOWN_BODIES hS hown (hts (.fieldLink RX5 43 "KinkStreet$Lines" "OWN_BODIES" "[I") (List.mem_of_getElem? (i := 1) rfl)) (fun _ h9 => h9) dX5_call_21 ?_
    refine lv_iload hx hb dX5_call_24 (lv_at hl 1 rfl) ?_
    refine lv_iconst (v := 4) hx hb dX5_call_26 kk_ic_4 ?_
    refine lv_imul hx hb dX5_call_27 ?_
    refine lv_topi (fun y_49 e_49 => ?_)
    obtain rfl : y_49 = 12 := e_49.trans (by decide)
    refine lv_iload_n hx hb dX5_call_28 rfl (lv_at hl 5 rfl) ?_
    refine lv_iadd hx hb dX5_call_29 ?_
    refine lv_topi (fun y_50 e_50 => ?_)
    obtain rfl : y_50 = 12 := e_50.trans (by decide)
    refine va_ti (v := .int 0) hx hb hTOWN_BODIES hS (by unfold vp_in; decide) rfl dX5_call_30 ?_
    refine lv_if_ne (tgt := 48) hx hb dX5_call_31 (by decide) (fun c => absurd c (by decide)) (fun _ => ?_)
    refine va_gets hx hb hZABOVE hS hown (hts (.fieldLink RX5 22 "KinkStreet$Lines" "ABOVE" "[I") (List.mem_of_getElem? (i := 2) rfl)) (fun _ h9 => h9) dX5_call_34 ?_
    refine lv_iload hx hb dX5_call_37 (lv_at hl 1 rfl) ?_
    refine va_ti (v := .int 0) hx hb hTABOVE hS (by unfold vp_in; decide) rfl dX5_call_39 ?_
    refine lv_istore hx hb dX5_call_40 hl (by decide) (rfl : _ = ([(6, .int 0), (7, .int 0), (0, .ref h0), (1, .int p0), (2, .int 3), (3, .int 0), (4, .int p3), (5, .int p4)] : List (Nat × Value))) (fun ls hl => ?_)
    refine lv_iinc (v := 1) hx hb dX5_call_42 hl (k := 1) rfl (by first | rfl | decide) (by decide) (rfl : _ = ([(7, .int 1), (6, .int 0), (0, .ref h0), (1, .int p0), (2, .int 3), (3, .int 0), (4, .int p3), (5, .int p4)] : List (Nat × Value))) (fun ls hl => ?_)
    refine lv_goto (tgt := 6) hx hb dX5_call_45 (by decide) ?_
    refine lv_iload hx hb dX5_call_6 (lv_at hl 0 rfl) ?_
    refine lv_bipush (v := 8) hx hb dX5_call_8 kk_bi_8 ?_
    refine lv_icmp_ge (tgt := 48) hx hb dX5_call_10 (by decide) (fun c => absurd c (by decide)) (fun _ => ?_)
    refine lv_iload hx hb dX5_call_13 (lv_at hl 1 rfl) ?_
    obtain ⟨hPc, hDc, hFc⟩ := kk_cutout (wc := []) hP hD hS hA [] (by decide) rfl
    have hKc := kk_Ks (tq := []) hK [] rfl
    refine va_calli (va_runS (As := [.int 0]) (rest := []) ⟨hx, hb, hml, hown, hts⟩ (g_X5_isKind_11 l dC dI H.size) (va_cwS 1 hts gX5_call_X5_isKind rfl rfl rfl kh_X5_isKind ⟨Nat.le_of_ble_eq_true rfl, Nat.le_of_ble_eq_true rfl⟩) ⟨fun a U g mk q => by obtain ⟨q0, q1, qP, qK, qD⟩ := q; exact ⟨q0, q1, qP, va_K.moved (u := U) (U := U.calling g mk a) (Vm.Alike.refl U.vm) qK, qD⟩, fun U hU hW => ⟨rfl, by rw [hU], by rw [hU]; exact hPc, va_K.moved hW.alike hKc, hDc.weaken (fun _ _ _ _ => trivial)⟩⟩ rfl rfl hl.1 rfl (lv_room (Nat.le_of_ble_eq_true rfl)) dX5_call_15 ⟨Nat.le_of_ble_eq_true rfl, Nat.le_of_ble_eq_true rfl⟩) hS (fun q _ h => hFc q h) hFc (fun r_51 u t H1 locs ht hvm hw hB hz1 hk1 hS => ?_)
    obtain ⟨hP1, hK1, hD1⟩ := hB
    rw [ht] at hP1
    have hK1 := va_K.moved hvm.symm hK1
    obtain ⟨hP, hD⟩ := va_join (wr := [(h0, kO5 h1 n0_size h2 n0_ran), (h1, kAi cint 50 f1), (h2, kAi cint 24 f2)]) (w1 := []) hP hD [] [0, 1, 2] rfl rfl (by decide) (by decide) hk1 hFc hP1 hD1
    generalize H1 = H at hP hS ⊢
    have hP : va_P (dC, dI) vwCl [(h0, kO5 h1 n0_size h2 n0_ran), (h1, kAi cint 50 f1), (h2, kAi cint 24 f2)] H := hP
    have hD : va_D A [(h0, kO5 h1 n0_size h2 n0_ran), (h1, kAi cint 50 f1), (h2, kAi cint 24 f2)] := hD
    obtain rfl := hw
    refine lv_if_eq (tgt := 48) hx hb dX5_call_18 (by decide) (fun c => absurd c (by decide)) (fun _ => ?_)
    refine va_gets hx hb hZOWN_BODIES hS hown (hts (.fieldLink RX5 43 "KinkStreet$Lines" "OWN_BODIES" "[I") (List.mem_of_getElem? (i := 1) rfl)) (fun _ h9 => h9) dX5_call_21 ?_
    refine lv_iload hx hb dX5_call_24 (lv_at hl 1 rfl) ?_
    refine lv_iconst (v := 4) hx hb dX5_call_26 kk_ic_4 ?_
    refine lv_imul hx hb dX5_call_27 ?_
    refine lv_topi (fun y_52 e_52 => ?_)
    obtain rfl : y_52 = 0 := e_52.trans (by decide)
    refine lv_iload_n hx hb dX5_call_28 rfl (lv_at hl 5 rfl) ?_
    refine lv_iadd hx hb dX5_call_29 ?_
    refine lv_topi (fun y_53 e_53 => ?_)
    obtain rfl : y_53 = 0 := e_53.trans (by decide)
    refine va_ti (v := .int 1) hx hb hTOWN_BODIES hS (by unfold vp_in; decide) rfl dX5_call_30 ?_
    refine lv_if_ne (tgt := 48) hx hb dX5_call_31 (by decide) (fun _ => ?_) (fun c => absurd c (by decide))
    refine lv_iload hx hb dX5_call_48 (lv_at hl 1 rfl) ?_
    obtain ⟨hPc, hDc, hFc⟩ := kk_cutout (wc := []) hP hD hS hA [] (by decide) rfl
    have hKc := kk_Ks (tq := []) hK [] rfl
    refine va_calli (va_runS (As := [.int 0]) (rest := []) ⟨hx, hb, hml, hown, hts⟩ (g_X5_isKind_11 l dC dI H.size) (va_cwS 1 hts gX5_call_X5_isKind rfl rfl rfl kh_X5_isKind ⟨Nat.le_of_ble_eq_true rfl, Nat.le_of_ble_eq_true rfl⟩) ⟨fun a U g mk q => by obtain ⟨q0, q1, qP, qK, qD⟩ := q; exact ⟨q0, q1, qP, va_K.moved (u := U) (U := U.calling g mk a) (Vm.Alike.refl U.vm) qK, qD⟩, fun U hU hW => ⟨rfl, by rw [hU], by rw [hU]; exact hPc, va_K.moved hW.alike hKc, hDc.weaken (fun _ _ _ _ => trivial)⟩⟩ rfl rfl hl.1 rfl (lv_room (Nat.le_of_ble_eq_true rfl)) dX5_call_50 ⟨Nat.le_of_ble_eq_true rfl, Nat.le_of_ble_eq_true rfl⟩) hS (fun q _ h => hFc q h) hFc (fun r_54 u t H1 locs ht hvm hw hB hz1 hk1 hS => ?_)
    obtain ⟨hP1, hK1, hD1⟩ := hB
    rw [ht] at hP1
    have hK1 := va_K.moved hvm.symm hK1
    obtain ⟨hP, hD⟩ := va_join (wr := [(h0, kO5 h1 n0_size h2 n0_ran), (h1, kAi cint 50 f1), (h2, kAi cint 24 f2)]) (w1 := []) hP hD [] [0, 1, 2] rfl rfl (by decide) (by decide) hk1 hFc hP1 hD1
    generalize H1 = H at hP hS ⊢
    have hP : va_P (dC, dI) vwCl [(h0, kO5 h1 n0_size h2 n0_ran), (h1, kAi cint 50 f1), (h2, kAi cint 24 f2)] H := hP
    have hD : va_D A [(h0, kO5 h1 n0_size h2 n0_ran), (h1, kAi cint 50 f1), (h2, kAi cint 24 f2)] := hD
    obtain rfl := hw
    refine lv_if_eq (tgt := 63) hx hb dX5_call_53 (by decide) (fun c => absurd c (by decide)) (fun _ => ?_)
    refine lv_iload hx hb dX5_call_56 (lv_at hl 7 rfl) ?_
    refine lv_bipush (v := 40) hx hb dX5_call_58 kk_bi_40 ?_
    refine lv_icmp_le (tgt := 65) hx hb dX5_call_60 (by decide) (fun c_55 => ?_) (fun c_55 => ?_)
    · have t_55 : p4.toInt ≤ 40 := kk_le c_55
      refine va_gets hx hb hZOWN_BODIES hS hown (hts (.fieldLink RX5 43 "KinkStreet$Lines" "OWN_BODIES" "[I") (List.mem_of_getElem? (i := 1) rfl)) (fun _ h9 => h9) dX5_call_65 ?_
      refine lv_iload hx hb dX5_call_68 (lv_at hl 1 rfl) ?_
      refine lv_iconst (v := 4) hx hb dX5_call_70 kk_ic_4 ?_
      refine lv_imul hx hb dX5_call_71 ?_
      refine lv_topi (fun y_56 e_56 => ?_)
      obtain rfl : y_56 = 0 := e_56.trans (by decide)
      refine lv_iload_n hx hb dX5_call_72 rfl (lv_at hl 5 rfl) ?_
      refine lv_iadd hx hb dX5_call_73 ?_
      refine lv_topi (fun y_57 e_57 => ?_)
      obtain rfl : y_57 = 0 := e_57.trans (by decide)
      refine va_ti (v := .int 1) hx hb hTOWN_BODIES hS (by unfold vp_in; decide) rfl dX5_call_74 ?_
      refine lv_istore hx hb dX5_call_75 hl (by decide) (rfl : _ = ([(7, .int 1), (6, .int 0), (0, .ref h0), (1, .int p0), (2, .int 3), (3, .int 0), (4, .int p3), (5, .int p4)] : List (Nat × Value))) (fun ls hl => ?_)
      refine lv_aload_n hx hb dX5_call_77 rfl (lv_at hl 2 rfl) ?_
      refine va_get (D := (dC, dI)) (ci := 5) (v := .int n0_ran) (C := RX5) (T := TX5) (N := 4) hx hb hts (fun _ h => List.mem_cons_of_mem _ (List.mem_append_right _ h)) hown hK hP 0 rfl rfl 3 (by decide) (hts (.fieldLink RX5 36 "KinkStreet$Lines" "ran" "I") (List.mem_of_getElem? (i := 3) rfl)) (fun _ h9 => h9) rfl dX5_call_78 ?_
      refine lv_bipush (v := 24) hx hb dX5_call_81 kk_bi_24 ?_
      refine lv_icmp_ge (tgt := 97) hx hb dX5_call_83 (by decide) (fun c_58 => ?_) (fun c_58 => ?_)
      · have t_58 : 24 ≤ n0_ran.toInt := kk_le c_58
        refine lv_aload_n hx hb dX5_call_97 rfl (lv_at hl 2 rfl) ?_
        refine lv_dup hx hb dX5_call_98 rfl ?_
        refine va_get (D := (dC, dI)) (ci := 5) (v := .int n0_ran) (C := RX5) (T := TX5) (N := 4) hx hb hts (fun _ h => List.mem_cons_of_mem _ (List.mem_append_right _ h)) hown hK hP 0 rfl rfl 3 (by decide) (hts (.fieldLink RX5 36 "KinkStreet$Lines" "ran" "I") (List.mem_of_getElem? (i := 3) rfl)) (fun _ h9 => h9) rfl dX5_call_99 ?_
        refine lv_iconst (v := 1) hx hb dX5_call_102 kk_ic_1 ?_
        refine lv_iadd hx hb dX5_call_103 ?_
        refine va_put (D := (dC, dI)) (ci := 5) (v := .int (n0_ran + 1)) (ty := .int) (C := RX5) (T := TX5) (N := 4) hx hb hts (fun _ h => List.mem_cons_of_mem _ (List.mem_append_right _ h)) tyX5 tyX5_ok nmX5 hown hK hP hD hS 0 rfl rfl 3 (by decide) (hts (.fieldLink RX5 36 "KinkStreet$Lines" "ran" "I") (List.mem_of_getElem? (i := 3) rfl)) (fun _ h9 => h9) rfl (by decide +kernel) rfl rfl (Nat.le_of_ble_eq_true rfl) dX5_call_104 (fun H locs hP hD hS => ?_)
        have hP : va_P (dC, dI) vwCl [(h0, kO5 h1 n0_size h2 (n0_ran + 1)), (h1, kAi cint 50 f1), (h2, kAi cint 24 f2)] H := hP
        have hD : va_D A [(h0, kO5 h1 n0_size h2 (n0_ran + 1)), (h1, kAi cint 50 f1), (h2, kAi cint 24 f2)] := hD
        have hp_59 : kk_P f2 f2 n0_ran.toInt (n0_ran + 1 : Int32).toInt [1] := kk_P_out (by have := kk_add2 (x := n0_ran) (y := 1) (a := n0_ran.toInt) (b := 1) rfl rfl (by omega) (by omega); omega) (by have := kk_add2 (x := n0_ran) (y := 1) (a := n0_ran.toInt) (b := 1) rfl rfl (by omega) (by omega); omega)
        refine lv_iload hx hb dX5_call_107 (lv_at hl 1 rfl) ?_
        refine lv_if_ne (tgt := 128) hx hb dX5_call_109 (by decide) (fun c => absurd c (by decide)) (fun _ => ?_)
        refine lv_aload_n hx hb dX5_call_112 rfl (lv_at hl 2 rfl) ?_
        refine lv_iload_n hx hb dX5_call_113 rfl (lv_at hl 3 rfl) ?_
        refine lv_iload hx hb dX5_call_114 (lv_at hl 0 rfl) ?_
        refine lv_iload hx hb dX5_call_116 (lv_at hl 6 rfl) ?_
        refine lv_iload hx hb dX5_call_118 (lv_at hl 7 rfl) ?_
        refine lv_iconst (v := 1) hx hb dX5_call_120 kk_ic_1 ?_
        refine lv_iadd hx hb dX5_call_121 ?_
        obtain ⟨hPc, hDc, hFc⟩ := kk_cutout (wc := [(h0, kO5 h1 n0_size h2 (n0_ran + 1)), (h1, kAi cint 50 f1)]) hP hD hS hA [0, 1] (by decide) rfl
        have hKc := kk_Ks (tq := [(cint, .int)]) hK [0] rfl
        refine va_calli (va_runV (As := [.int p0, .int 1, .int p3, .int (p4 + 1)]) (rest := []) ⟨hx, hb, hml, hown, hts⟩ (g_X5_runLine_4 l dC dI h0 h1 h2 cint H.size p0 p3 (p4 + 1) (by show 0 ≤ ((p4 + 1) : Int32).toInt ∧ ((p4 + 1) : Int32).toInt ≤ 23; first | with_reducible assumption | (constructor <;> (have := kk_add2 (x := n0_ran) (y := 1) (a := n0_ran.toInt) (b := 1) rfl rfl (by omega) (by omega); have := kk_add2 (x := p4) (y := 1) (a := p4.toInt) (b := 1) rfl rfl (by omega) (by omega); omega))) n0_size (n0_ran + 1) f1 tn0_size (by show 0 ≤ ((n0_ran + 1) : Int32).toInt ∧ ((n0_ran + 1) : Int32).toInt ≤ 1000; first | with_reducible assumption | (constructor <;> (have := kk_add2 (x := n0_ran) (y := 1) (a := n0_ran.toInt) (b := 1) rfl rfl (by omega) (by omega); have := kk_add2 (x := p4) (y := 1) (a := p4.toInt) (b := 1) rfl rfl (by omega) (by omega); omega))) bf1 (by show (0 ≤ (p0 : Int32).toInt ∧ (p0 : Int32).toInt < (n0_size : Int32).toInt); first | with_reducible assumption | (have := kk_add2 (x := n0_ran) (y := 1) (a := n0_ran.toInt) (b := 1) rfl rfl (by omega) (by omega); have := kk_add2 (x := p4) (y := 1) (a := p4.toInt) (b := 1) rfl rfl (by omega) (by omega); omega))) (cwV 4 hts gX5_call_X5_runLine rfl rfl rfl ⟨rfl, kh_X5_runLine⟩ ⟨Nat.le_of_ble_eq_true rfl, Nat.le_of_ble_eq_true rfl⟩) ⟨fun a U g mk q => by obtain ⟨q0, q1, qP, qK, qD⟩ := q; exact ⟨q0, q1, qP, va_K.moved (u := U) (U := U.calling g mk a) (Vm.Alike.refl U.vm) qK, qD⟩, va_recv hKc hPc (ci := 5) (q0 := 0) rfl rfl, fun U hU hW => ⟨rfl, by rw [hU], by rw [hU]; exact hPc, va_K.moved hW.alike hKc, hDc.weaken (fun _ _ _ _ => trivial)⟩⟩ rfl rfl hl.1 rfl (lv_room (Nat.le_of_ble_eq_true rfl)) dX5_call_122 ⟨Nat.le_of_ble_eq_true rfl, Nat.le_of_ble_eq_true rfl⟩) hS (fun q _ h => hFc q h) hFc (fun r_60 u t H1 locs ht hvm hw hB hz1 hk1 hS => ?_)
        obtain ⟨hP1, hK1, hD1⟩ := hB
        rw [ht] at hP1
        have hK1 := va_K.moved hvm.symm hK1
        obtain ⟨hP, hD⟩ := va_join (wr := [(h2, kAi cint 24 f2)]) (w1 := [(h0, kO5 h1 n0_size h2 (n0_ran + 1)), (h1, kAi cint 50 f1)]) hP hD [0, 1] [2] rfl rfl (by decide) (by decide) hk1 hFc hP1 hD1
        generalize H1 = H at hP hS ⊢
        have hP : va_P (dC, dI) vwCl [(h2, kAi cint 24 f2), (h0, kO5 h1 n0_size h2 (n0_ran + 1)), (h1, kAi cint 50 f1)] H := hP
        have hD : va_D A [(h2, kAi cint 24 f2), (h0, kO5 h1 n0_size h2 (n0_ran + 1)), (h1, kAi cint 50 f1)] := hD
        rcases hw with ⟨t_60_0, rfl⟩
        · skip
          have t_60_0 : (p3 + p0) = kk_runs 0 p0 p3 := t_60_0
          refine lv_goto (tgt := 143) hx hb dX5_call_125 (by decide) ?_
          obtain ⟨hP9, hD9⟩ := kk_leafout (wc := [(h0, kO5 h1 n0_size h2 (n0_ran + 1)), (h1, kAi cint 50 f1), (h2, kAi cint 24 f2)]) hP hD [1, 2, 0] (by decide) rfl
          have hK9 := kk_Ks (tq := []) hK [] rfl
          exact W.iret (v := (p3 + p0)) hx hb hr (fun t ht hW => ⟨⟨(p3 + p0), (), rfl, ⟨(by first | rfl | (unfold kk_runs; (repeat' split) <;> first | rfl | (exfalso; have : (0 : Int32).toInt = 0 := rfl; have : (1 : Int32).toInt = 1 := rfl; have : (2 : Int32).toInt = 2 := rfl; have : (3 : Int32).toInt = 3 := rfl; have : (4 : Int32).toInt = 4 := rfl; have : (5 : Int32).toInt = 5 := rfl; have : (6 : Int32).toInt = 6 := rfl; have : (7 : Int32).toInt = 7 := rfl; have := kk_add2 (x := n0_ran) (y := 1) (a := n0_ran.toInt) (b := 1) rfl rfl (by omega) (by omega); have := kk_add2 (x := p4) (y := 1) (a := p4.toInt) (b := 1) rfl rfl (by omega) (by omega); omega))), trivial⟩, (n0_ran + 1), f2, (by show 1 ≤ ((n0_ran + 1) : Int32).toInt ∧ ((n0_ran + 1) : Int32).toInt ≤ 1000; first | with_reducible assumption | (constructor <;> (have := kk_add2 (x := n0_ran) (y := 1) (a := n0_ran.toInt) (b := 1) rfl rfl (by omega) (by omega); have := kk_add2 (x := p4) (y := 1) (a := p4.toInt) (b := 1) rfl rfl (by omega) (by omega); omega))), (by show ((n0_ran + 1) : Int32).toInt ≤ (n0_ran : Int32).toInt + 3; first | with_reducible assumption | (have := kk_add2 (x := n0_ran) (y := 1) (a := n0_ran.toInt) (b := 1) rfl rfl (by omega) (by omega); have := kk_add2 (x := p4) (y := 1) (a := p4.toInt) (b := 1) rfl rfl (by omega) (by omega); omega)), (by first | exact kk_P_eq hp_59 rfl | (unfold kt_runs; (repeat' split) <;> first | exact kk_P_eq hp_59 rfl | (exfalso; have : (0 : Int32).toInt = 0 := rfl; have : (1 : Int32).toInt = 1 := rfl; have : (2 : Int32).toInt = 2 := rfl; have : (3 : Int32).toInt = 3 := rfl; have : (4 : Int32).toInt = 4 := rfl; have : (5 : Int32).toInt = 5 := rfl; have : (6 : Int32).toInt = 6 := rfl; have : (7 : Int32).toInt = 7 := rfl; have := kk_add2 (x := n0_ran) (y := 1) (a := n0_ran.toInt) (b := 1) rfl rfl (by omega) (by omega); have := kk_add2 (x := p4) (y := 1) (a := p4.toInt) (b := 1) rfl rfl (by omega) (by omega); omega))), by rw [ht]; exact hP9, va_K.moved hW.alike hK9, hD9⟩, hS.F ht⟩) hS.2.2 dX5_call_143
      · have t_58 : n0_ran.toInt < 24 := kk_nle c_58
        refine lv_aload_n hx hb dX5_call_86 rfl (lv_at hl 2 rfl) ?_
        refine va_get (D := (dC, dI)) (ci := 5) (v := .ref h2) (C := RX5) (T := TX5) (N := 4) hx hb hts (fun _ h => List.mem_cons_of_mem _ (List.mem_append_right _ h)) hown hK hP 0 rfl rfl 2 (by decide) (hts (.fieldLink RX5 15 "KinkStreet$Lines" "trace" "[I") (List.mem_of_getElem? (i := 4) rfl)) (fun _ h9 => h9) rfl dX5_call_87 ?_
        refine lv_aload_n hx hb dX5_call_90 rfl (lv_at hl 2 rfl) ?_
        refine va_get (D := (dC, dI)) (ci := 5) (v := .int n0_ran) (C := RX5) (T := TX5) (N := 4) hx hb hts (fun _ h => List.mem_cons_of_mem _ (List.mem_append_right _ h)) hown hK hP 0 rfl rfl 3 (by decide) (hts (.fieldLink RX5 36 "KinkStreet$Lines" "ran" "I") (List.mem_of_getElem? (i := 3) rfl)) (fun _ h9 => h9) rfl dX5_call_91 ?_
        refine lv_iload hx hb dX5_call_94 (lv_at hl 0 rfl) ?_
        refine va_iast hx hb hK hP hD hS 2 0 rfl rfl (vp_in_iff.mpr ⟨by omega, by omega⟩) dX5_call_96 (fun H locs hP hD hS => ?_)
        have w_61 : ((upd f2 (n0_ran : Int32).toNatClampNeg 1) (n0_ran : Int32).toNatClampNeg).toInt = (1 : Int32).toInt := by rw [kk_ups]
        have hP : va_P (dC, dI) vwCl [(h0, kO5 h1 n0_size h2 n0_ran), (h1, kAi cint 50 f1), (h2, kAi cint 24 (upd f2 (n0_ran : Int32).toNatClampNeg 1))] H := hP
        have hD : va_D A [(h0, kO5 h1 n0_size h2 n0_ran), (h1, kAi cint 50 f1), (h2, kAi cint 24 (upd f2 (n0_ran : Int32).toNatClampNeg 1))] := hD
        refine lv_aload_n hx hb dX5_call_97 rfl (lv_at hl 2 rfl) ?_
        refine lv_dup hx hb dX5_call_98 rfl ?_
        refine va_get (D := (dC, dI)) (ci := 5) (v := .int n0_ran) (C := RX5) (T := TX5) (N := 4) hx hb hts (fun _ h => List.mem_cons_of_mem _ (List.mem_append_right _ h)) hown hK hP 0 rfl rfl 3 (by decide) (hts (.fieldLink RX5 36 "KinkStreet$Lines" "ran" "I") (List.mem_of_getElem? (i := 3) rfl)) (fun _ h9 => h9) rfl dX5_call_99 ?_
        refine lv_iconst (v := 1) hx hb dX5_call_102 kk_ic_1 ?_
        refine lv_iadd hx hb dX5_call_103 ?_
        refine va_put (D := (dC, dI)) (ci := 5) (v := .int (n0_ran + 1)) (ty := .int) (C := RX5) (T := TX5) (N := 4) hx hb hts (fun _ h => List.mem_cons_of_mem _ (List.mem_append_right _ h)) tyX5 tyX5_ok nmX5 hown hK hP hD hS 0 rfl rfl 3 (by decide) (hts (.fieldLink RX5 36 "KinkStreet$Lines" "ran" "I") (List.mem_of_getElem? (i := 3) rfl)) (fun _ h9 => h9) rfl (by decide +kernel) rfl rfl (Nat.le_of_ble_eq_true rfl) dX5_call_104 (fun H locs hP hD hS => ?_)
        have hP : va_P (dC, dI) vwCl [(h0, kO5 h1 n0_size h2 (n0_ran + 1)), (h1, kAi cint 50 f1), (h2, kAi cint 24 (upd f2 (n0_ran : Int32).toNatClampNeg 1))] H := hP
        have hD : va_D A [(h0, kO5 h1 n0_size h2 (n0_ran + 1)), (h1, kAi cint 50 f1), (h2, kAi cint 24 (upd f2 (n0_ran : Int32).toNatClampNeg 1))] := hD
        have hp_62 : kk_P f2 (upd f2 (n0_ran : Int32).toNatClampNeg 1) n0_ran.toInt (n0_ran + 1 : Int32).toInt [1] := kk_P_one (by have := kk_add2 (x := n0_ran) (y := 1) (a := n0_ran.toInt) (b := 1) rfl rfl (by omega) (by omega); omega) (by have := kk_add2 (x := n0_ran) (y := 1) (a := n0_ran.toInt) (b := 1) rfl rfl (by omega) (by omega); omega)
        refine lv_iload hx hb dX5_call_107 (lv_at hl 1 rfl) ?_
        refine lv_if_ne (tgt := 128) hx hb dX5_call_109 (by decide) (fun c => absurd c (by decide)) (fun _ => ?_)
        refine lv_aload_n hx hb dX5_call_112 rfl (lv_at hl 2 rfl) ?_
        refine lv_iload_n hx hb dX5_call_113 rfl (lv_at hl 3 rfl) ?_
        refine lv_iload hx hb dX5_call_114 (lv_at hl 0 rfl) ?_
        refine lv_iload hx hb dX5_call_116 (lv_at hl 6 rfl) ?_
        refine lv_iload hx hb dX5_call_118 (lv_at hl 7 rfl) ?_
        refine lv_iconst (v := 1) hx hb dX5_call_120 kk_ic_1 ?_
        refine lv_iadd hx hb dX5_call_121 ?_
        obtain ⟨hPc, hDc, hFc⟩ := kk_cutout (wc := [(h0, kO5 h1 n0_size h2 (n0_ran + 1)), (h1, kAi cint 50 f1)]) hP hD hS hA [0, 1] (by decide) rfl
        have hKc := kk_Ks (tq := [(cint, .int)]) hK [0] rfl
        refine va_calli (va_runV (As := [.int p0, .int 1, .int p3, .int (p4 + 1)]) (rest := []) ⟨hx, hb, hml, hown, hts⟩ (g_X5_runLine_4 l dC dI h0 h1 h2 cint H.size p0 p3 (p4 + 1) (by show 0 ≤ ((p4 + 1) : Int32).toInt ∧ ((p4 + 1) : Int32).toInt ≤ 23; first | with_reducible assumption | (constructor <;> (have := kk_add2 (x := n0_ran) (y := 1) (a := n0_ran.toInt) (b := 1) rfl rfl (by omega) (by omega); have := kk_add2 (x := p4) (y := 1) (a := p4.toInt) (b := 1) rfl rfl (by omega) (by omega); omega))) n0_size (n0_ran + 1) f1 tn0_size (by show 0 ≤ ((n0_ran + 1) : Int32).toInt ∧ ((n0_ran + 1) : Int32).toInt ≤ 1000; first | with_reducible assumption | (constructor <;> (have := kk_add2 (x := n0_ran) (y := 1) (a := n0_ran.toInt) (b := 1) rfl rfl (by omega) (by omega); have := kk_add2 (x := p4) (y := 1) (a := p4.toInt) (b := 1) rfl rfl (by omega) (by omega); omega))) bf1 (by show (0 ≤ (p0 : Int32).toInt ∧ (p0 : Int32).toInt < (n0_size : Int32).toInt); first | with_reducible assumption | (have := kk_add2 (x := n0_ran) (y := 1) (a := n0_ran.toInt) (b := 1) rfl rfl (by omega) (by omega); have := kk_add2 (x := p4) (y := 1) (a := p4.toInt) (b := 1) rfl rfl (by omega) (by omega); omega))) (cwV 4 hts gX5_call_X5_runLine rfl rfl rfl ⟨rfl, kh_X5_runLine⟩ ⟨Nat.le_of_ble_eq_true rfl, Nat.le_of_ble_eq_true rfl⟩) ⟨fun a U g mk q => by obtain ⟨q0, q1, qP, qK, qD⟩ := q; exact ⟨q0, q1, qP, va_K.moved (u := U) (U := U.calling g mk a) (Vm.Alike.refl U.vm) qK, qD⟩, va_recv hKc hPc (ci := 5) (q0 := 0) rfl rfl, fun U hU hW => ⟨rfl, by rw [hU], by rw [hU]; exact hPc, va_K.moved hW.alike hKc, hDc.weaken (fun _ _ _ _ => trivial)⟩⟩ rfl rfl hl.1 rfl (lv_room (Nat.le_of_ble_eq_true rfl)) dX5_call_122 ⟨Nat.le_of_ble_eq_true rfl, Nat.le_of_ble_eq_true rfl⟩) hS (fun q _ h => hFc q h) hFc (fun r_63 u t H1 locs ht hvm hw hB hz1 hk1 hS => ?_)
        obtain ⟨hP1, hK1, hD1⟩ := hB
        rw [ht] at hP1
        have hK1 := va_K.moved hvm.symm hK1
        obtain ⟨hP, hD⟩ := va_join (wr := [(h2, kAi cint 24 (upd f2 (n0_ran : Int32).toNatClampNeg 1))]) (w1 := [(h0, kO5 h1 n0_size h2 (n0_ran + 1)), (h1, kAi cint 50 f1)]) hP hD [0, 1] [2] rfl rfl (by decide) (by decide) hk1 hFc hP1 hD1
        generalize H1 = H at hP hS ⊢
        have hP : va_P (dC, dI) vwCl [(h2, kAi cint 24 (upd f2 (n0_ran : Int32).toNatClampNeg 1)), (h0, kO5 h1 n0_size h2 (n0_ran + 1)), (h1, kAi cint 50 f1)] H := hP
        have hD : va_D A [(h2, kAi cint 24 (upd f2 (n0_ran : Int32).toNatClampNeg 1)), (h0, kO5 h1 n0_size h2 (n0_ran + 1)), (h1, kAi cint 50 f1)] := hD
        rcases hw with ⟨t_63_0, rfl⟩
        · skip
          have t_63_0 : (p3 + p0) = kk_runs 0 p0 p3 := t_63_0
          refine lv_goto (tgt := 143) hx hb dX5_call_125 (by decide) ?_
          obtain ⟨hP9, hD9⟩ := kk_leafout (wc := [(h0, kO5 h1 n0_size h2 (n0_ran + 1)), (h1, kAi cint 50 f1), (h2, kAi cint 24 (upd f2 (n0_ran : Int32).toNatClampNeg 1))]) hP hD [1, 2, 0] (by decide) rfl
          have hK9 := kk_Ks (tq := []) hK [] rfl
          exact W.iret (v := (p3 + p0)) hx hb hr (fun t ht hW => ⟨⟨(p3 + p0), (), rfl, ⟨(by first | rfl | (unfold kk_runs; (repeat' split) <;> first | rfl | (exfalso; have : (0 : Int32).toInt = 0 := rfl; have : (1 : Int32).toInt = 1 := rfl; have : (2 : Int32).toInt = 2 := rfl; have : (3 : Int32).toInt = 3 := rfl; have : (4 : Int32).toInt = 4 := rfl; have : (5 : Int32).toInt = 5 := rfl; have : (6 : Int32).toInt = 6 := rfl; have : (7 : Int32).toInt = 7 := rfl; have := kk_add2 (x := n0_ran) (y := 1) (a := n0_ran.toInt) (b := 1) rfl rfl (by omega) (by omega); have := kk_add2 (x := p4) (y := 1) (a := p4.toInt) (b := 1) rfl rfl (by omega) (by omega); omega))), trivial⟩, (n0_ran + 1), (upd f2 (n0_ran : Int32).toNatClampNeg 1), (by show 1 ≤ ((n0_ran + 1) : Int32).toInt ∧ ((n0_ran + 1) : Int32).toInt ≤ 1000; first | with_reducible assumption | (constructor <;> (have := kk_add2 (x := n0_ran) (y := 1) (a := n0_ran.toInt) (b := 1) rfl rfl (by omega) (by omega); have := kk_add2 (x := p4) (y := 1) (a := p4.toInt) (b := 1) rfl rfl (by omega) (by omega); omega))), (by show ((n0_ran + 1) : Int32).toInt ≤ (n0_ran : Int32).toInt + 3; first | with_reducible assumption | (have := kk_add2 (x := n0_ran) (y := 1) (a := n0_ran.toInt) (b := 1) rfl rfl (by omega) (by omega); have := kk_add2 (x := p4) (y := 1) (a := p4.toInt) (b := 1) rfl rfl (by omega) (by omega); omega)), (by first | exact kk_P_eq hp_62 rfl | (unfold kt_runs; (repeat' split) <;> first | exact kk_P_eq hp_62 rfl | (exfalso; have : (0 : Int32).toInt = 0 := rfl; have : (1 : Int32).toInt = 1 := rfl; have : (2 : Int32).toInt = 2 := rfl; have : (3 : Int32).toInt = 3 := rfl; have : (4 : Int32).toInt = 4 := rfl; have : (5 : Int32).toInt = 5 := rfl; have : (6 : Int32).toInt = 6 := rfl; have : (7 : Int32).toInt = 7 := rfl; have := kk_add2 (x := n0_ran) (y := 1) (a := n0_ran.toInt) (b := 1) rfl rfl (by omega) (by omega); have := kk_add2 (x := p4) (y := 1) (a := p4.toInt) (b := 1) rfl rfl (by omega) (by omega); omega))), by rw [ht]; exact hP9, va_K.moved hW.alike hK9, hD9⟩, hS.F ht⟩) hS.2.2 dX5_call_143
    · have t_55 : 40 < p4.toInt := kk_nle c_55
      exfalso; omega
  · have t_1 : p1.toInt = 4 := by rw [e_1]; rfl
    subst e_1
    refine lv_iload_n hx hb dX5_call_0 rfl (lv_at hl 2 rfl) ?_
    refine lv_istore hx hb dX5_call_1 hl (by decide) (rfl : _ = ([(6, .int 4), (0, .ref h0), (1, .int p0), (2, .int 4), (3, .int 0), (4, .int p3), (5, .int p4)] : List (Nat × Value))) (fun ls hl => ?_)
    refine lv_iconst (v := 0) hx hb dX5_call_3 kk_ic_0 ?_
    refine lv_istore hx hb dX5_call_4 hl (by decide) (rfl : _ = ([(7, .int 0), (6, .int 4), (0, .ref h0), (1, .int p0), (2, .int 4), (3, .int 0), (4, .int p3), (5, .int p4)] : List (Nat × Value))) (fun ls hl => ?_)
    refine lv_iload hx hb dX5_call_6 (lv_at hl 0 rfl) ?_
    refine lv_bipush (v := 8) hx hb dX5_call_8 kk_bi_8 ?_
    refine lv_icmp_ge (tgt := 48) hx hb dX5_call_10 (by decide) (fun c => absurd c (by decide)) (fun _ => ?_)
    refine lv_iload hx hb dX5_call_13 (lv_at hl 1 rfl) ?_
    obtain ⟨hPc, hDc, hFc⟩ := kk_cutout (wc := []) hP hD hS hA [] (by decide) rfl
    have hKc := kk_Ks (tq := []) hK [] rfl
    refine va_calli (va_runS (As := [.int 4]) (rest := []) ⟨hx, hb, hml, hown, hts⟩ (g_X5_isKind_15 l dC dI s.heap.size) (va_cwS 1 hts gX5_call_X5_isKind rfl rfl rfl kh_X5_isKind ⟨Nat.le_of_ble_eq_true rfl, Nat.le_of_ble_eq_true rfl⟩) ⟨fun a U g mk q => by obtain ⟨q0, q1, qP, qK, qD⟩ := q; exact ⟨q0, q1, qP, va_K.moved (u := U) (U := U.calling g mk a) (Vm.Alike.refl U.vm) qK, qD⟩, fun U hU hW => ⟨rfl, by rw [hU], by rw [hU]; exact hPc, va_K.moved hW.alike hKc, hDc.weaken (fun _ _ _ _ => trivial)⟩⟩ rfl rfl hl.1 rfl (lv_room (Nat.le_of_ble_eq_true rfl)) dX5_call_15 ⟨Nat.le_of_ble_eq_true rfl, Nat.le_of_ble_eq_true rfl⟩) hS (fun q _ h => hFc q h) hFc (fun r_64 u t H1 locs ht hvm hw hB hz1 hk1 hS => ?_)
    obtain ⟨hP1, hK1, hD1⟩ := hB
    rw [ht] at hP1
    have hK1 := va_K.moved hvm.symm hK1
    obtain ⟨hP, hD⟩ := va_join (wr := [(h0, kO5 h1 n0_size h2 n0_ran), (h1, kAi cint 50 f1), (h2, kAi cint 24 f2)]) (w1 := []) hP hD [] [0, 1, 2] rfl rfl (by decide) (by decide) hk1 hFc hP1 hD1
    generalize H1 = H at hP hS ⊢
    have hP : va_P (dC, dI) vwCl [(h0, kO5 h1 n0_size h2 n0_ran), (h1, kAi cint 50 f1), (h2, kAi cint 24 f2)] H := hP
    have hD : va_D A [(h0, kO5 h1 n0_size h2 n0_ran), (h1, kAi cint 50 f1), (h2, kAi cint 24 f2)] := hD
    obtain rfl := hw
    refine lv_if_eq (tgt := 48) hx hb dX5_call_18 (by decide) (fun c => absurd c (by decide)) (fun _ => ?_)
    refine va_gets hx hb hZOWN_BODIES hS hown (hts (.fieldLink RX5 43 "KinkStreet$Lines" "OWN_BODIES" "[I") (List.mem_of_getElem? (i := 1) rfl)) (fun _ h9 => h9) dX5_call_21 ?_
    refine lv_iload hx hb dX5_call_24 (lv_at hl 1 rfl) ?_
    refine lv_iconst (v := 4) hx hb dX5_call_26 kk_ic_4 ?_
    refine lv_imul hx hb dX5_call_27 ?_
    refine lv_topi (fun y_65 e_65 => ?_)
    obtain rfl : y_65 = 16 := e_65.trans (by decide)
    refine lv_iload_n hx hb dX5_call_28 rfl (lv_at hl 5 rfl) ?_
    refine lv_iadd hx hb dX5_call_29 ?_
    refine lv_topi (fun y_66 e_66 => ?_)
    obtain rfl : y_66 = 16 := e_66.trans (by decide)
    refine va_ti (v := .int 0) hx hb hTOWN_BODIES hS (by unfold vp_in; decide) rfl dX5_call_30 ?_
    refine lv_if_ne (tgt := 48) hx hb dX5_call_31 (by decide) (fun c => absurd c (by decide)) (fun _ => ?_)
    refine va_gets hx hb hZABOVE hS hown (hts (.fieldLink RX5 22 "KinkStreet$Lines" "ABOVE" "[I") (List.mem_of_getElem? (i := 2) rfl)) (fun _ h9 => h9) dX5_call_34 ?_
    refine lv_iload hx hb dX5_call_37 (lv_at hl 1 rfl) ?_
    refine va_ti (v := .int 3) hx hb hTABOVE hS (by unfold vp_in; decide) rfl dX5_call_39 ?_
    refine lv_istore hx hb dX5_call_40 hl (by decide) (rfl : _ = ([(6, .int 3), (7, .int 0), (0, .ref h0), (1, .int p0), (2, .int 4), (3, .int 0), (4, .int p3), (5, .int p4)] : List (Nat × Value))) (fun ls hl => ?_)
    refine lv_iinc (v := 1) hx hb dX5_call_42 hl (k := 1) rfl (by first | rfl | decide) (by decide) (rfl : _ = ([(7, .int 1), (6, .int 3), (0, .ref h0), (1, .int p0), (2, .int 4), (3, .int 0), (4, .int p3), (5, .int p4)] : List (Nat × Value))) (fun ls hl => ?_)
    refine lv_goto (tgt := 6) hx hb dX5_call_45 (by decide) ?_
    refine lv_iload hx hb dX5_call_6 (lv_at hl 0 rfl) ?_
    refine lv_bipush (v := 8) hx hb dX5_call_8 kk_bi_8 ?_
    refine lv_icmp_ge (tgt := 48) hx hb dX5_call_10 (by decide) (fun c => absurd c (by decide)) (fun _ => ?_)
    refine lv_iload hx hb dX5_call_13 (lv_at hl 1 rfl) ?_
    obtain ⟨hPc, hDc, hFc⟩ := kk_cutout (wc := []) hP hD hS hA [] (by decide) rfl
    have hKc := kk_Ks (tq := []) hK [] rfl
    refine va_calli (va_runS (As := [.int 3]) (rest := []) ⟨hx, hb, hml, hown, hts⟩ (g_X5_isKind_14 l dC dI H.size) (va_cwS 1 hts gX5_call_X5_isKind rfl rfl rfl kh_X5_isKind ⟨Nat.le_of_ble_eq_true rfl, Nat.le_of_ble_eq_true rfl⟩) ⟨fun a U g mk q => by obtain ⟨q0, q1, qP, qK, qD⟩ := q; exact ⟨q0, q1, qP, va_K.moved (u := U) (U := U.calling g mk a) (Vm.Alike.refl U.vm) qK, qD⟩, fun U hU hW => ⟨rfl, by rw [hU], by rw [hU]; exact hPc, va_K.moved hW.alike hKc, hDc.weaken (fun _ _ _ _ => trivial)⟩⟩ rfl rfl hl.1 rfl (lv_room (Nat.le_of_ble_eq_true rfl)) dX5_call_15 ⟨Nat.le_of_ble_eq_true rfl, Nat.le_of_ble_eq_true rfl⟩) hS (fun q _ h => hFc q h) hFc (fun r_67 u t H1 locs ht hvm hw hB hz1 hk1 hS => ?_)
    obtain ⟨hP1, hK1, hD1⟩ := hB
    rw [ht] at hP1
    have hK1 := va_K.moved hvm.symm hK1
    obtain ⟨hP, hD⟩ := va_join (wr := [(h0, kO5 h1 n0_size h2 n0_ran), (h1, kAi cint 50 f1), (h2, kAi cint 24 f2)]) (w1 := []) hP hD [] [0, 1, 2] rfl rfl (by decide) (by decide) hk1 hFc hP1 hD1
    generalize H1 = H at hP hS ⊢
    have hP : va_P (dC, dI) vwCl [(h0, kO5 h1 n0_size h2 n0_ran), (h1, kAi cint 50 f1), (h2, kAi cint 24 f2)] H := hP
    have hD : va_D A [(h0, kO5 h1 n0_size h2 n0_ran), (h1, kAi cint 50 f1), (h2, kAi cint 24 f2)] := hD
    obtain rfl := hw
    refine lv_if_eq (tgt := 48) hx hb dX5_call_18 (by decide) (fun c => absurd c (by decide)) (fun _ => ?_)
    refine va_gets hx hb hZOWN_BODIES hS hown (hts (.fieldLink RX5 43 "KinkStreet$Lines" "OWN_BODIES" "[I") (List.mem_of_getElem? (i := 1) rfl)) (fun _ h9 => h9) dX5_call_21 ?_
    refine lv_iload hx hb dX5_call_24 (lv_at hl 1 rfl) ?_
    refine lv_iconst (v := 4) hx hb dX5_call_26 kk_ic_4 ?_
    refine lv_imul hx hb dX5_call_27 ?_
    refine lv_topi (fun y_68 e_68 => ?_)
    obtain rfl : y_68 = 12 := e_68.trans (by decide)
    refine lv_iload_n hx hb dX5_call_28 rfl (lv_at hl 5 rfl) ?_
    refine lv_iadd hx hb dX5_call_29 ?_
    refine lv_topi (fun y_69 e_69 => ?_)
    obtain rfl : y_69 = 12 := e_69.trans (by decide)
    refine va_ti (v := .int 0) hx hb hTOWN_BODIES hS (by unfold vp_in; decide) rfl dX5_call_30 ?_
    refine lv_if_ne (tgt := 48) hx hb dX5_call_31 (by decide) (fun c => absurd c (by decide)) (fun _ => ?_)
    refine va_gets hx hb hZABOVE hS hown (hts (.fieldLink RX5 22 "KinkStreet$Lines" "ABOVE" "[I") (List.mem_of_getElem? (i := 2) rfl)) (fun _ h9 => h9) dX5_call_34 ?_
    refine lv_iload hx hb dX5_call_37 (lv_at hl 1 rfl) ?_
    refine va_ti (v := .int 0) hx hb hTABOVE hS (by unfold vp_in; decide) rfl dX5_call_39 ?_
    refine lv_istore hx hb dX5_call_40 hl (by decide) (rfl : _ = ([(6, .int 0), (7, .int 1), (0, .ref h0), (1, .int p0), (2, .int 4), (3, .int 0), (4, .int p3), (5, .int p4)] : List (Nat × Value))) (fun ls hl => ?_)
    refine lv_iinc (v := 2) hx hb dX5_call_42 hl (k := 1) rfl (by first | rfl | decide) (by decide) (rfl : _ = ([(7, .int 2), (6, .int 0), (0, .ref h0), (1, .int p0), (2, .int 4), (3, .int 0), (4, .int p3), (5, .int p4)] : List (Nat × Value))) (fun ls hl => ?_)
    refine lv_goto (tgt := 6) hx hb dX5_call_45 (by decide) ?_
    refine lv_iload hx hb dX5_call_6 (lv_at hl 0 rfl) ?_
    refine lv_bipush (v := 8) hx hb dX5_call_8 kk_bi_8 ?_
    refine lv_icmp_ge (tgt := 48) hx hb dX5_call_10 (by decide) (fun c => absurd c (by decide)) (fun _ => ?_)
    refine lv_iload hx hb dX5_call_13 (lv_at hl 1 rfl) ?_
    obtain ⟨hPc, hDc, hFc⟩ := kk_cutout (wc := []) hP hD hS hA [] (by decide) rfl
    have hKc := kk_Ks (tq := []) hK [] rfl
    refine va_calli (va_runS (As := [.int 0]) (rest := []) ⟨hx, hb, hml, hown, hts⟩ (g_X5_isKind_11 l dC dI H.size) (va_cwS 1 hts gX5_call_X5_isKind rfl rfl rfl kh_X5_isKind ⟨Nat.le_of_ble_eq_true rfl, Nat.le_of_ble_eq_true rfl⟩) ⟨fun a U g mk q => by obtain ⟨q0, q1, qP, qK, qD⟩ := q; exact ⟨q0, q1, qP, va_K.moved (u := U) (U := U.calling g mk a) (Vm.Alike.refl U.vm) qK, qD⟩, fun U hU hW => ⟨rfl, by rw [hU], by rw [hU]; exact hPc, va_K.moved hW.alike hKc, hDc.weaken (fun _ _ _ _ => trivial)⟩⟩ rfl rfl hl.1 rfl (lv_room (Nat.le_of_ble_eq_true rfl)) dX5_call_15 ⟨Nat.le_of_ble_eq_true rfl, Nat.le_of_ble_eq_true rfl⟩) hS (fun q _ h => hFc q h) hFc (fun r_70 u t H1 locs ht hvm hw hB hz1 hk1 hS => ?_)
    obtain ⟨hP1, hK1, hD1⟩ := hB
    rw [ht] at hP1
    have hK1 := va_K.moved hvm.symm hK1
    obtain ⟨hP, hD⟩ := va_join (wr := [(h0, kO5 h1 n0_size h2 n0_ran), (h1, kAi cint 50 f1), (h2, kAi cint 24 f2)]) (w1 := []) hP hD [] [0, 1, 2] rfl rfl (by decide) (by decide) hk1 hFc hP1 hD1
    generalize H1 = H at hP hS ⊢
    have hP : va_P (dC, dI) vwCl [(h0, kO5 h1 n0_size h2 n0_ran), (h1, kAi cint 50 f1), (h2, kAi cint 24 f2)] H := hP
    have hD : va_D A [(h0, kO5 h1 n0_size h2 n0_ran), (h1, kAi cint 50 f1), (h2, kAi cint 24 f2)] := hD
    obtain rfl := hw
    refine lv_if_eq (tgt := 48) hx hb dX5_call_18 (by decide) (fun c => absurd c (by decide)) (fun _ => ?_)
    refine va_gets hx hb hZOWN_BODIES hS hown (hts (.fieldLink RX5 43 "KinkStreet$Lines" "OWN_BODIES" "[I") (List.mem_of_getElem? (i := 1) rfl)) (fun _ h9 => h9) dX5_call_21 ?_
    refine lv_iload hx hb dX5_call_24 (lv_at hl 1 rfl) ?_
    refine lv_iconst (v := 4) hx hb dX5_call_26 kk_ic_4 ?_
    refine lv_imul hx hb dX5_call_27 ?_
    refine lv_topi (fun y_71 e_71 => ?_)
    obtain rfl : y_71 = 0 := e_71.trans (by decide)
    refine lv_iload_n hx hb dX5_call_28 rfl (lv_at hl 5 rfl) ?_
    refine lv_iadd hx hb dX5_call_29 ?_
    refine lv_topi (fun y_72 e_72 => ?_)
    obtain rfl : y_72 = 0 := e_72.trans (by decide)
    refine va_ti (v := .int 1) hx hb hTOWN_BODIES hS (by unfold vp_in; decide) rfl dX5_call_30 ?_
    refine lv_if_ne (tgt := 48) hx hb dX5_call_31 (by decide) (fun _ => ?_) (fun c => absurd c (by decide))
    refine lv_iload hx hb dX5_call_48 (lv_at hl 1 rfl) ?_
    obtain ⟨hPc, hDc, hFc⟩ := kk_cutout (wc := []) hP hD hS hA [] (by decide) rfl
    have hKc := kk_Ks (tq := []) hK [] rfl
    refine va_calli (va_runS (As := [.int 0]) (rest := []) ⟨hx, hb, hml, hown, hts⟩ (g_X5_isKind_11 l dC dI H.size) (va_cwS 1 hts gX5_call_X5_isKind rfl rfl rfl kh_X5_isKind ⟨Nat.le_of_ble_eq_true rfl, Nat.le_of_ble_eq_true rfl⟩) ⟨fun a U g mk q => by obtain ⟨q0, q1, qP, qK, qD⟩ := q; exact ⟨q0, q1, qP, va_K.moved (u := U) (U := U.calling g mk a) (Vm.Alike.refl U.vm) qK, qD⟩, fun U hU hW => ⟨rfl, by rw [hU], by rw [hU]; exact hPc, va_K.moved hW.alike hKc, hDc.weaken (fun _ _ _ _ => trivial)⟩⟩ rfl rfl hl.1 rfl (lv_room (Nat.le_of_ble_eq_true rfl)) dX5_call_50 ⟨Nat.le_of_ble_eq_true rfl, Nat.le_of_ble_eq_true rfl⟩) hS (fun q _ h => hFc q h) hFc (fun r_73 u t H1 locs ht hvm hw hB hz1 hk1 hS => ?_)
    obtain ⟨hP1, hK1, hD1⟩ := hB
    rw [ht] at hP1
    have hK1 := va_K.moved hvm.symm hK1
    obtain ⟨hP, hD⟩ := va_join (wr := [(h0, kO5 h1 n0_size h2 n0_ran), (h1, kAi cint 50 f1), (h2, kAi cint 24 f2)]) (w1 := []) hP hD [] [0, 1, 2] rfl rfl (by decide) (by decide) hk1 hFc hP1 hD1
    generalize H1 = H at hP hS ⊢
    have hP : va_P (dC, dI) vwCl [(h0, kO5 h1 n0_size h2 n0_ran), (h1, kAi cint 50 f1), (h2, kAi cint 24 f2)] H := hP
    have hD : va_D A [(h0, kO5 h1 n0_size h2 n0_ran), (h1, kAi cint 50 f1), (h2, kAi cint 24 f2)] := hD
    obtain rfl := hw
    refine lv_if_eq (tgt := 63) hx hb dX5_call_53 (by decide) (fun c => absurd c (by decide)) (fun _ => ?_)
    refine lv_iload hx hb dX5_call_56 (lv_at hl 7 rfl) ?_
    refine lv_bipush (v := 40) hx hb dX5_call_58 kk_bi_40 ?_
    refine lv_icmp_le (tgt := 65) hx hb dX5_call_60 (by decide) (fun c_74 => ?_) (fun c_74 => ?_)
    · have t_74 : p4.toInt ≤ 40 := kk_le c_74
      refine va_gets hx hb hZOWN_BODIES hS hown (hts (.fieldLink RX5 43 "KinkStreet$Lines" "OWN_BODIES" "[I") (List.mem_of_getElem? (i := 1) rfl)) (fun _ h9 => h9) dX5_call_65 ?_
      refine lv_iload hx hb dX5_call_68 (lv_at hl 1 rfl) ?_
      refine lv_iconst (v := 4) hx hb dX5_call_70 kk_ic_4 ?_
      refine lv_imul hx hb dX5_call_71 ?_
      refine lv_topi (fun y_75 e_75 => ?_)
      obtain rfl : y_75 = 0 := e_75.trans (by decide)
      refine lv_iload_n hx hb dX5_call_72 rfl (lv_at hl 5 rfl) ?_
      refine lv_iadd hx hb dX5_call_73 ?_
      refine lv_topi (fun y_76 e_76 => ?_)
      obtain rfl : y_76 = 0 := e_76.trans (by decide)
      refine va_ti (v := .int 1) hx hb hTOWN_BODIES hS (by unfold vp_in; decide) rfl dX5_call_74 ?_
      refine lv_istore hx hb dX5_call_75 hl (by decide) (rfl : _ = ([(7, .int 1), (6, .int 0), (0, .ref h0), (1, .int p0), (2, .int 4), (3, .int 0), (4, .int p3), (5, .int p4)] : List (Nat × Value))) (fun ls hl => ?_)
      refine lv_aload_n hx hb dX5_call_77 rfl (lv_at hl 2 rfl) ?_
      refine va_get (D := (dC, dI)) (ci := 5) (v := .int n0_ran) (C := RX5) (T := TX5) (N := 4) hx hb hts (fun _ h => List.mem_cons_of_mem _ (List.mem_append_right _ h)) hown hK hP 0 rfl rfl 3 (by decide) (hts (.fieldLink RX5 36 "KinkStreet$Lines" "ran" "I") (List.mem_of_getElem? (i := 3) rfl)) (fun _ h9 => h9) rfl dX5_call_78 ?_
      refine lv_bipush (v := 24) hx hb dX5_call_81 kk_bi_24 ?_
      refine lv_icmp_ge (tgt := 97) hx hb dX5_call_83 (by decide) (fun c_77 => ?_) (fun c_77 => ?_)
      · have t_77 : 24 ≤ n0_ran.toInt := kk_le c_77
        refine lv_aload_n hx hb dX5_call_97 rfl (lv_at hl 2 rfl) ?_
        refine lv_dup hx hb dX5_call_98 rfl ?_
        refine va_get (D := (dC, dI)) (ci := 5) (v := .int n0_ran) (C := RX5) (T := TX5) (N := 4) hx hb hts (fun _ h => List.mem_cons_of_mem _ (List.mem_append_right _ h)) hown hK hP 0 rfl rfl 3 (by decide) (hts (.fieldLink RX5 36 "KinkStreet$Lines" "ran" "I") (List.mem_of_getElem? (i := 3) rfl)) (fun _ h9 => h9) rfl dX5_call_99 ?_
        refine lv_iconst (v := 1) hx hb dX5_call_102 kk_ic_1 ?_
        refine lv_iadd hx hb dX5_call_103 ?_
        refine va_put (D := (dC, dI)) (ci := 5) (v := .int (n0_ran + 1)) (ty := .int) (C := RX5) (T := TX5) (N := 4) hx hb hts (fun _ h => List.mem_cons_of_mem _ (List.mem_append_right _ h)) tyX5 tyX5_ok nmX5 hown hK hP hD hS 0 rfl rfl 3 (by decide) (hts (.fieldLink RX5 36 "KinkStreet$Lines" "ran" "I") (List.mem_of_getElem? (i := 3) rfl)) (fun _ h9 => h9) rfl (by decide +kernel) rfl rfl (Nat.le_of_ble_eq_true rfl) dX5_call_104 (fun H locs hP hD hS => ?_)
        have hP : va_P (dC, dI) vwCl [(h0, kO5 h1 n0_size h2 (n0_ran + 1)), (h1, kAi cint 50 f1), (h2, kAi cint 24 f2)] H := hP
        have hD : va_D A [(h0, kO5 h1 n0_size h2 (n0_ran + 1)), (h1, kAi cint 50 f1), (h2, kAi cint 24 f2)] := hD
        have hp_78 : kk_P f2 f2 n0_ran.toInt (n0_ran + 1 : Int32).toInt [1] := kk_P_out (by have := kk_add2 (x := n0_ran) (y := 1) (a := n0_ran.toInt) (b := 1) rfl rfl (by omega) (by omega); omega) (by have := kk_add2 (x := n0_ran) (y := 1) (a := n0_ran.toInt) (b := 1) rfl rfl (by omega) (by omega); omega)
        refine lv_iload hx hb dX5_call_107 (lv_at hl 1 rfl) ?_
        refine lv_if_ne (tgt := 128) hx hb dX5_call_109 (by decide) (fun c => absurd c (by decide)) (fun _ => ?_)
        refine lv_aload_n hx hb dX5_call_112 rfl (lv_at hl 2 rfl) ?_
        refine lv_iload_n hx hb dX5_call_113 rfl (lv_at hl 3 rfl) ?_
        refine lv_iload hx hb dX5_call_114 (lv_at hl 0 rfl) ?_
        refine lv_iload hx hb dX5_call_116 (lv_at hl 6 rfl) ?_
        refine lv_iload hx hb dX5_call_118 (lv_at hl 7 rfl) ?_
        refine lv_iconst (v := 1) hx hb dX5_call_120 kk_ic_1 ?_
        refine lv_iadd hx hb dX5_call_121 ?_
        obtain ⟨hPc, hDc, hFc⟩ := kk_cutout (wc := [(h0, kO5 h1 n0_size h2 (n0_ran + 1)), (h1, kAi cint 50 f1)]) hP hD hS hA [0, 1] (by decide) rfl
        have hKc := kk_Ks (tq := [(cint, .int)]) hK [0] rfl
        refine va_calli (va_runV (As := [.int p0, .int 1, .int p3, .int (p4 + 1)]) (rest := []) ⟨hx, hb, hml, hown, hts⟩ (g_X5_runLine_4 l dC dI h0 h1 h2 cint H.size p0 p3 (p4 + 1) (by show 0 ≤ ((p4 + 1) : Int32).toInt ∧ ((p4 + 1) : Int32).toInt ≤ 23; first | with_reducible assumption | (constructor <;> (have := kk_add2 (x := n0_ran) (y := 1) (a := n0_ran.toInt) (b := 1) rfl rfl (by omega) (by omega); have := kk_add2 (x := p4) (y := 1) (a := p4.toInt) (b := 1) rfl rfl (by omega) (by omega); omega))) n0_size (n0_ran + 1) f1 tn0_size (by show 0 ≤ ((n0_ran + 1) : Int32).toInt ∧ ((n0_ran + 1) : Int32).toInt ≤ 1000; first | with_reducible assumption | (constructor <;> (have := kk_add2 (x := n0_ran) (y := 1) (a := n0_ran.toInt) (b := 1) rfl rfl (by omega) (by omega); have := kk_add2 (x := p4) (y := 1) (a := p4.toInt) (b := 1) rfl rfl (by omega) (by omega); omega))) bf1 (by show (0 ≤ (p0 : Int32).toInt ∧ (p0 : Int32).toInt < (n0_size : Int32).toInt); first | with_reducible assumption | (have := kk_add2 (x := n0_ran) (y := 1) (a := n0_ran.toInt) (b := 1) rfl rfl (by omega) (by omega); have := kk_add2 (x := p4) (y := 1) (a := p4.toInt) (b := 1) rfl rfl (by omega) (by omega); omega))) (cwV 4 hts gX5_call_X5_runLine rfl rfl rfl ⟨rfl, kh_X5_runLine⟩ ⟨Nat.le_of_ble_eq_true rfl, Nat.le_of_ble_eq_true rfl⟩) ⟨fun a U g mk q => by obtain ⟨q0, q1, qP, qK, qD⟩ := q; exact ⟨q0, q1, qP, va_K.moved (u := U) (U := U.calling g mk a) (Vm.Alike.refl U.vm) qK, qD⟩, va_recv hKc hPc (ci := 5) (q0 := 0) rfl rfl, fun U hU hW => ⟨rfl, by rw [hU], by rw [hU]; exact hPc, va_K.moved hW.alike hKc, hDc.weaken (fun _ _ _ _ => trivial)⟩⟩ rfl rfl hl.1 rfl (lv_room (Nat.le_of_ble_eq_true rfl)) dX5_call_122 ⟨Nat.le_of_ble_eq_true rfl, Nat.le_of_ble_eq_true rfl⟩) hS (fun q _ h => hFc q h) hFc (fun r_79 u t H1 locs ht hvm hw hB hz1 hk1 hS => ?_)
        obtain ⟨hP1, hK1, hD1⟩ := hB
        rw [ht] at hP1
        have hK1 := va_K.moved hvm.symm hK1
        obtain ⟨hP, hD⟩ := va_join (wr := [(h2, kAi cint 24 f2)]) (w1 := [(h0, kO5 h1 n0_size h2 (n0_ran + 1)), (h1, kAi cint 50 f1)]) hP hD [0, 1] [2] rfl rfl (by decide) (by decide) hk1 hFc hP1 hD1
        generalize H1 = H at hP hS ⊢
        have hP : va_P (dC, dI) vwCl [(h2, kAi cint 24 f2), (h0, kO5 h1 n0_size h2 (n0_ran + 1)), (h1, kAi cint 50 f1)] H := hP
        have hD : va_D A [(h2, kAi cint 24 f2), (h0, kO5 h1 n0_size h2 (n0_ran + 1)), (h1, kAi cint 50 f1)] := hD
        rcases hw with ⟨t_79_0, rfl⟩
        · skip
          have t_79_0 : (p3 + p0) = kk_runs 0 p0 p3 := t_79_0
          refine lv_goto (tgt := 143) hx hb dX5_call_125 (by decide) ?_
          obtain ⟨hP9, hD9⟩ := kk_leafout (wc := [(h0, kO5 h1 n0_size h2 (n0_ran + 1)), (h1, kAi cint 50 f1), (h2, kAi cint 24 f2)]) hP hD [1, 2, 0] (by decide) rfl
          have hK9 := kk_Ks (tq := []) hK [] rfl
          exact W.iret (v := (p3 + p0)) hx hb hr (fun t ht hW => ⟨⟨(p3 + p0), (), rfl, ⟨(by first | rfl | (unfold kk_runs; (repeat' split) <;> first | rfl | (exfalso; have : (0 : Int32).toInt = 0 := rfl; have : (1 : Int32).toInt = 1 := rfl; have : (2 : Int32).toInt = 2 := rfl; have : (3 : Int32).toInt = 3 := rfl; have : (4 : Int32).toInt = 4 := rfl; have : (5 : Int32).toInt = 5 := rfl; have : (6 : Int32).toInt = 6 := rfl; have : (7 : Int32).toInt = 7 := rfl; have := kk_add2 (x := n0_ran) (y := 1) (a := n0_ran.toInt) (b := 1) rfl rfl (by omega) (by omega); have := kk_add2 (x := p4) (y := 1) (a := p4.toInt) (b := 1) rfl rfl (by omega) (by omega); omega))), trivial⟩, (n0_ran + 1), f2, (by show 1 ≤ ((n0_ran + 1) : Int32).toInt ∧ ((n0_ran + 1) : Int32).toInt ≤ 1000; first | with_reducible assumption | (constructor <;> (have := kk_add2 (x := n0_ran) (y := 1) (a := n0_ran.toInt) (b := 1) rfl rfl (by omega) (by omega); have := kk_add2 (x := p4) (y := 1) (a := p4.toInt) (b := 1) rfl rfl (by omega) (by omega); omega))), (by show ((n0_ran + 1) : Int32).toInt ≤ (n0_ran : Int32).toInt + 3; first | with_reducible assumption | (have := kk_add2 (x := n0_ran) (y := 1) (a := n0_ran.toInt) (b := 1) rfl rfl (by omega) (by omega); have := kk_add2 (x := p4) (y := 1) (a := p4.toInt) (b := 1) rfl rfl (by omega) (by omega); omega)), (by first | exact kk_P_eq hp_78 rfl | (unfold kt_runs; (repeat' split) <;> first | exact kk_P_eq hp_78 rfl | (exfalso; have : (0 : Int32).toInt = 0 := rfl; have : (1 : Int32).toInt = 1 := rfl; have : (2 : Int32).toInt = 2 := rfl; have : (3 : Int32).toInt = 3 := rfl; have : (4 : Int32).toInt = 4 := rfl; have : (5 : Int32).toInt = 5 := rfl; have : (6 : Int32).toInt = 6 := rfl; have : (7 : Int32).toInt = 7 := rfl; have := kk_add2 (x := n0_ran) (y := 1) (a := n0_ran.toInt) (b := 1) rfl rfl (by omega) (by omega); have := kk_add2 (x := p4) (y := 1) (a := p4.toInt) (b := 1) rfl rfl (by omega) (by omega); omega))), by rw [ht]; exact hP9, va_K.moved hW.alike hK9, hD9⟩, hS.F ht⟩) hS.2.2 dX5_call_143
      · have t_77 : n0_ran.toInt < 24 := kk_nle c_77
        refine lv_aload_n hx hb dX5_call_86 rfl (lv_at hl 2 rfl) ?_
        refine va_get (D := (dC, dI)) (ci := 5) (v := .ref h2) (C := RX5) (T := TX5) (N := 4) hx hb hts (fun _ h => List.mem_cons_of_mem _ (List.mem_append_right _ h)) hown hK hP 0 rfl rfl 2 (by decide) (hts (.fieldLink RX5 15 "KinkStreet$Lines" "trace" "[I") (List.mem_of_getElem? (i := 4) rfl)) (fun _ h9 => h9) rfl dX5_call_87 ?_
        refine lv_aload_n hx hb dX5_call_90 rfl (lv_at hl 2 rfl) ?_
        refine va_get (D := (dC, dI)) (ci := 5) (v := .int n0_ran) (C := RX5) (T := TX5) (N := 4) hx hb hts (fun _ h => List.mem_cons_of_mem _ (List.mem_append_right _ h)) hown hK hP 0 rfl rfl 3 (by decide) (hts (.fieldLink RX5 36 "KinkStreet$Lines" "ran" "I") (List.mem_of_getElem? (i := 3) rfl)) (fun _ h9 => h9) rfl dX5_call_91 ?_
        refine lv_iload hx hb dX5_call_94 (lv_at hl 0 rfl) ?_
        refine va_iast hx hb hK hP hD hS 2 0 rfl rfl (vp_in_iff.mpr ⟨by omega, by omega⟩) dX5_call_96 (fun H locs hP hD hS => ?_)
        have w_80 : ((upd f2 (n0_ran : Int32).toNatClampNeg 1) (n0_ran : Int32).toNatClampNeg).toInt = (1 : Int32).toInt := by rw [kk_ups]
        have hP : va_P (dC, dI) vwCl [(h0, kO5 h1 n0_size h2 n0_ran), (h1, kAi cint 50 f1), (h2, kAi cint 24 (upd f2 (n0_ran : Int32).toNatClampNeg 1))] H := hP
        have hD : va_D A [(h0, kO5 h1 n0_size h2 n0_ran), (h1, kAi cint 50 f1), (h2, kAi cint 24 (upd f2 (n0_ran : Int32).toNatClampNeg 1))] := hD
        refine lv_aload_n hx hb dX5_call_97 rfl (lv_at hl 2 rfl) ?_
        refine lv_dup hx hb dX5_call_98 rfl ?_
        refine va_get (D := (dC, dI)) (ci := 5) (v := .int n0_ran) (C := RX5) (T := TX5) (N := 4) hx hb hts (fun _ h => List.mem_cons_of_mem _ (List.mem_append_right _ h)) hown hK hP 0 rfl rfl 3 (by decide) (hts (.fieldLink RX5 36 "KinkStreet$Lines" "ran" "I") (List.mem_of_getElem? (i := 3) rfl)) (fun _ h9 => h9) rfl dX5_call_99 ?_
        refine lv_iconst (v := 1) hx hb dX5_call_102 kk_ic_1 ?_
        refine lv_iadd hx hb dX5_call_103 ?_
        refine va_put (D := (dC, dI)) (ci := 5) (v := .int (n0_ran + 1)) (ty := .int) (C := RX5) (T := TX5) (N := 4) hx hb hts (fun _ h => List.mem_cons_of_mem _ (List.mem_append_right _ h)) tyX5 tyX5_ok nmX5 hown hK hP hD hS 0 rfl rfl 3 (by decide) (hts (.fieldLink RX5 36 "KinkStreet$Lines" "ran" "I") (List.mem_of_getElem? (i := 3) rfl)) (fun _ h9 => h9) rfl (by decide +kernel) rfl rfl (Nat.le_of_ble_eq_true rfl) dX5_call_104 (fun H locs hP hD hS => ?_)
        have hP : va_P (dC, dI) vwCl [(h0, kO5 h1 n0_size h2 (n0_ran + 1)), (h1, kAi cint 50 f1), (h2, kAi cint 24 (upd f2 (n0_ran : Int32).toNatClampNeg 1))] H := hP
        have hD : va_D A [(h0, kO5 h1 n0_size h2 (n0_ran + 1)), (h1, kAi cint 50 f1), (h2, kAi cint 24 (upd f2 (n0_ran : Int32).toNatClampNeg 1))] := hD
        have hp_81 : kk_P f2 (upd f2 (n0_ran : Int32).toNatClampNeg 1) n0_ran.toInt (n0_ran + 1 : Int32).toInt [1] := kk_P_one (by have := kk_add2 (x := n0_ran) (y := 1) (a := n0_ran.toInt) (b := 1) rfl rfl (by omega) (by omega); omega) (by have := kk_add2 (x := n0_ran) (y := 1) (a := n0_ran.toInt) (b := 1) rfl rfl (by omega) (by omega); omega)
        refine lv_iload hx hb dX5_call_107 (lv_at hl 1 rfl) ?_
        refine lv_if_ne (tgt := 128) hx hb dX5_call_109 (by decide) (fun c => absurd c (by decide)) (fun _ => ?_)
        refine lv_aload_n hx hb dX5_call_112 rfl (lv_at hl 2 rfl) ?_
        refine lv_iload_n hx hb dX5_call_113 rfl (lv_at hl 3 rfl) ?_
        refine lv_iload hx hb dX5_call_114 (lv_at hl 0 rfl) ?_
        refine lv_iload hx hb dX5_call_116 (lv_at hl 6 rfl) ?_
        refine lv_iload hx hb dX5_call_118 (lv_at hl 7 rfl) ?_
        refine lv_iconst (v := 1) hx hb dX5_call_120 kk_ic_1 ?_
        refine lv_iadd hx hb dX5_call_121 ?_
        obtain ⟨hPc, hDc, hFc⟩ := kk_cutout (wc := [(h0, kO5 h1 n0_size h2 (n0_ran + 1)), (h1, kAi cint 50 f1)]) hP hD hS hA [0, 1] (by decide) rfl
        have hKc := kk_Ks (tq := [(cint, .int)]) hK [0] rfl
        refine va_calli (va_runV (As := [.int p0, .int 1, .int p3, .int (p4 + 1)]) (rest := []) ⟨hx, hb, hml, hown, hts⟩ (g_X5_runLine_4 l dC dI h0 h1 h2 cint H.size p0 p3 (p4 + 1) (by show 0 ≤ ((p4 + 1) : Int32).toInt ∧ ((p4 + 1) : Int32).toInt ≤ 23; first | with_reducible assumption | (constructor <;> (have := kk_add2 (x := n0_ran) (y := 1) (a := n0_ran.toInt) (b := 1) rfl rfl (by omega) (by omega); have := kk_add2 (x := p4) (y := 1) (a := p4.toInt) (b := 1) rfl rfl (by omega) (by omega); omega))) n0_size (n0_ran + 1) f1 tn0_size (by show 0 ≤ ((n0_ran + 1) : Int32).toInt ∧ ((n0_ran + 1) : Int32).toInt ≤ 1000; first | with_reducible assumption | (constructor <;> (have := kk_add2 (x := n0_ran) (y := 1) (a := n0_ran.toInt) (b := 1) rfl rfl (by omega) (by omega); have := kk_add2 (x := p4) (y := 1) (a := p4.toInt) (b := 1) rfl rfl (by omega) (by omega); omega))) bf1 (by show (0 ≤ (p0 : Int32).toInt ∧ (p0 : Int32).toInt < (n0_size : Int32).toInt); first | with_reducible assumption | (have := kk_add2 (x := n0_ran) (y := 1) (a := n0_ran.toInt) (b := 1) rfl rfl (by omega) (by omega); have := kk_add2 (x := p4) (y := 1) (a := p4.toInt) (b := 1) rfl rfl (by omega) (by omega); omega))) (cwV 4 hts gX5_call_X5_runLine rfl rfl rfl ⟨rfl, kh_X5_runLine⟩ ⟨Nat.le_of_ble_eq_true rfl, Nat.le_of_ble_eq_true rfl⟩) ⟨fun a U g mk q => by obtain ⟨q0, q1, qP, qK, qD⟩ := q; exact ⟨q0, q1, qP, va_K.moved (u := U) (U := U.calling g mk a) (Vm.Alike.refl U.vm) qK, qD⟩, va_recv hKc hPc (ci := 5) (q0 := 0) rfl rfl, fun U hU hW => ⟨rfl, by rw [hU], by rw [hU]; exact hPc, va_K.moved hW.alike hKc, hDc.weaken (fun _ _ _ _ => trivial)⟩⟩ rfl rfl hl.1 rfl (lv_room (Nat.le_of_ble_eq_true rfl)) dX5_call_122 ⟨Nat.le_of_ble_eq_true rfl, Nat.le_of_ble_eq_true rfl⟩) hS (fun q _ h => hFc q h) hFc (fun r_82 u t H1 locs ht hvm hw hB hz1 hk1 hS => ?_)
        obtain ⟨hP1, hK1, hD1⟩ := hB
        rw [ht] at hP1
        have hK1 := va_K.moved hvm.symm hK1
        obtain ⟨hP, hD⟩ := va_join (wr := [(h2, kAi cint 24 (upd f2 (n0_ran : Int32).toNatClampNeg 1))]) (w1 := [(h0, kO5 h1 n0_size h2 (n0_ran + 1)), (h1, kAi cint 50 f1)]) hP hD [0, 1] [2] rfl rfl (by decide) (by decide) hk1 hFc hP1 hD1
        generalize H1 = H at hP hS ⊢
        have hP : va_P (dC, dI) vwCl [(h2, kAi cint 24 (upd f2 (n0_ran : Int32).toNatClampNeg 1)), (h0, kO5 h1 n0_size h2 (n0_ran + 1)), (h1, kAi cint 50 f1)] H := hP
        have hD : va_D A [(h2, kAi cint 24 (upd f2 (n0_ran : Int32).toNatClampNeg 1)), (h0, kO5 h1 n0_size h2 (n0_ran + 1)), (h1, kAi cint 50 f1)] := hD
        rcases hw with ⟨t_82_0, rfl⟩
        · skip
          have t_82_0 : (p3 + p0) = kk_runs 0 p0 p3 := t_82_0
          refine lv_goto (tgt := 143) hx hb dX5_call_125 (by decide) ?_
          obtain ⟨hP9, hD9⟩ := kk_leafout (wc := [(h0, kO5 h1 n0_size h2 (n0_ran + 1)), (h1, kAi cint 50 f1), (h2, kAi cint 24 (upd f2 (n0_ran : Int32).toNatClampNeg 1))]) hP hD [1, 2, 0] (by decide) rfl
          have hK9 := kk_Ks (tq := []) hK [] rfl
          exact W.iret (v := (p3 + p0)) hx hb hr (fun t ht hW => ⟨⟨(p3 + p0), (), rfl, ⟨(by first | rfl | (unfold kk_runs; (repeat' split) <;> first | rfl | (exfalso; have : (0 : Int32).toInt = 0 := rfl; have : (1 : Int32).toInt = 1 := rfl; have : (2 : Int32).toInt = 2 := rfl; have : (3 : Int32).toInt = 3 := rfl; have : (4 : Int32).toInt = 4 := rfl; have : (5 : Int32).toInt = 5 := rfl; have : (6 : Int32).toInt = 6 := rfl; have : (7 : Int32).toInt = 7 := rfl; have := kk_add2 (x := n0_ran) (y := 1) (a := n0_ran.toInt) (b := 1) rfl rfl (by omega) (by omega); have := kk_add2 (x := p4) (y := 1) (a := p4.toInt) (b := 1) rfl rfl (by omega) (by omega); omega))), trivial⟩, (n0_ran + 1), (upd f2 (n0_ran : Int32).toNatClampNeg 1), (by show 1 ≤ ((n0_ran + 1) : Int32).toInt ∧ ((n0_ran + 1) : Int32).toInt ≤ 1000; first | with_reducible assumption | (constructor <;> (have := kk_add2 (x := n0_ran) (y := 1) (a := n0_ran.toInt) (b := 1) rfl rfl (by omega) (by omega); have := kk_add2 (x := p4) (y := 1) (a := p4.toInt) (b := 1) rfl rfl (by omega) (by omega); omega))), (by show ((n0_ran + 1) : Int32).toInt ≤ (n0_ran : Int32).toInt + 3; first | with_reducible assumption | (have := kk_add2 (x := n0_ran) (y := 1) (a := n0_ran.toInt) (b := 1) rfl rfl (by omega) (by omega); have := kk_add2 (x := p4) (y := 1) (a := p4.toInt) (b := 1) rfl rfl (by omega) (by omega); omega)), (by first | exact kk_P_eq hp_81 rfl | (unfold kt_runs; (repeat' split) <;> first | exact kk_P_eq hp_81 rfl | (exfalso; have : (0 : Int32).toInt = 0 := rfl; have : (1 : Int32).toInt = 1 := rfl; have : (2 : Int32).toInt = 2 := rfl; have : (3 : Int32).toInt = 3 := rfl; have : (4 : Int32).toInt = 4 := rfl; have : (5 : Int32).toInt = 5 := rfl; have : (6 : Int32).toInt = 6 := rfl; have : (7 : Int32).toInt = 7 := rfl; have := kk_add2 (x := n0_ran) (y := 1) (a := n0_ran.toInt) (b := 1) rfl rfl (by omega) (by omega); have := kk_add2 (x := p4) (y := 1) (a := p4.toInt) (b := 1) rfl rfl (by omega) (by omega); omega))), by rw [ht]; exact hP9, va_K.moved hW.alike hK9, hD9⟩, hS.F ht⟩) hS.2.2 dX5_call_143
    · have t_74 : 40 < p4.toInt := kk_nle c_74
      exfalso; omega
  · have t_1 : p1.toInt = 5 := by rw [e_1]; rfl
    subst e_1
    refine lv_iload_n hx hb dX5_call_0 rfl (lv_at hl 2 rfl) ?_
    refine lv_istore hx hb dX5_call_1 hl (by decide) (rfl : _ = ([(6, .int 5), (0, .ref h0), (1, .int p0), (2, .int 5), (3, .int 0), (4, .int p3), (5, .int p4)] : List (Nat × Value))) (fun ls hl => ?_)
    refine lv_iconst (v := 0) hx hb dX5_call_3 kk_ic_0 ?_
    refine lv_istore hx hb dX5_call_4 hl (by decide) (rfl : _ = ([(7, .int 0), (6, .int 5), (0, .ref h0), (1, .int p0), (2, .int 5), (3, .int 0), (4, .int p3), (5, .int p4)] : List (Nat × Value))) (fun ls hl => ?_)
    refine lv_iload hx hb dX5_call_6 (lv_at hl 0 rfl) ?_
    refine lv_bipush (v := 8) hx hb dX5_call_8 kk_bi_8 ?_
    refine lv_icmp_ge (tgt := 48) hx hb dX5_call_10 (by decide) (fun c => absurd c (by decide)) (fun _ => ?_)
    refine lv_iload hx hb dX5_call_13 (lv_at hl 1 rfl) ?_
    obtain ⟨hPc, hDc, hFc⟩ := kk_cutout (wc := []) hP hD hS hA [] (by decide) rfl
    have hKc := kk_Ks (tq := []) hK [] rfl
    refine va_calli (va_runS (As := [.int 5]) (rest := []) ⟨hx, hb, hml, hown, hts⟩ (g_X5_isKind_16 l dC dI s.heap.size) (va_cwS 1 hts gX5_call_X5_isKind rfl rfl rfl kh_X5_isKind ⟨Nat.le_of_ble_eq_true rfl, Nat.le_of_ble_eq_true rfl⟩) ⟨fun a U g mk q => by obtain ⟨q0, q1, qP, qK, qD⟩ := q; exact ⟨q0, q1, qP, va_K.moved (u := U) (U := U.calling g mk a) (Vm.Alike.refl U.vm) qK, qD⟩, fun U hU hW => ⟨rfl, by rw [hU], by rw [hU]; exact hPc, va_K.moved hW.alike hKc, hDc.weaken (fun _ _ _ _ => trivial)⟩⟩ rfl rfl hl.1 rfl (lv_room (Nat.le_of_ble_eq_true rfl)) dX5_call_15 ⟨Nat.le_of_ble_eq_true rfl, Nat.le_of_ble_eq_true rfl⟩) hS (fun q _ h => hFc q h) hFc (fun r_83 u t H1 locs ht hvm hw hB hz1 hk1 hS => ?_)
    obtain ⟨hP1, hK1, hD1⟩ := hB
    rw [ht] at hP1
    have hK1 := va_K.moved hvm.symm hK1
    obtain ⟨hP, hD⟩ := va_join (wr := [(h0, kO5 h1 n0_size h2 n0_ran), (h1, kAi cint 50 f1), (h2, kAi cint 24 f2)]) (w1 := []) hP hD [] [0, 1, 2] rfl rfl (by decide) (by decide) hk1 hFc hP1 hD1
    generalize H1 = H at hP hS ⊢
    have hP : va_P (dC, dI) vwCl [(h0, kO5 h1 n0_size h2 n0_ran), (h1, kAi cint 50 f1), (h2, kAi cint 24 f2)] H := hP
    have hD : va_D A [(h0, kO5 h1 n0_size h2 n0_ran), (h1, kAi cint 50 f1), (h2, kAi cint 24 f2)] := hD
    obtain rfl := hw
    refine lv_if_eq (tgt := 48) hx hb dX5_call_18 (by decide) (fun c => absurd c (by decide)) (fun _ => ?_)
    refine va_gets hx hb hZOWN_BODIES hS hown (hts (.fieldLink RX5 43 "KinkStreet$Lines" "OWN_BODIES" "[I") (List.mem_of_getElem? (i := 1) rfl)) (fun _ h9 => h9) dX5_call_21 ?_
    refine lv_iload hx hb dX5_call_24 (lv_at hl 1 rfl) ?_
    refine lv_iconst (v := 4) hx hb dX5_call_26 kk_ic_4 ?_
    refine lv_imul hx hb dX5_call_27 ?_
    refine lv_topi (fun y_84 e_84 => ?_)
    obtain rfl : y_84 = 20 := e_84.trans (by decide)
    refine lv_iload_n hx hb dX5_call_28 rfl (lv_at hl 5 rfl) ?_
    refine lv_iadd hx hb dX5_call_29 ?_
    refine lv_topi (fun y_85 e_85 => ?_)
    obtain rfl : y_85 = 20 := e_85.trans (by decide)
    refine va_ti (v := .int 0) hx hb hTOWN_BODIES hS (by unfold vp_in; decide) rfl dX5_call_30 ?_
    refine lv_if_ne (tgt := 48) hx hb dX5_call_31 (by decide) (fun c => absurd c (by decide)) (fun _ => ?_)
    refine va_gets hx hb hZABOVE hS hown (hts (.fieldLink RX5 22 "KinkStreet$Lines" "ABOVE" "[I") (List.mem_of_getElem? (i := 2) rfl)) (fun _ h9 => h9) dX5_call_34 ?_
    refine lv_iload hx hb dX5_call_37 (lv_at hl 1 rfl) ?_
    refine va_ti (v := .int 1) hx hb hTABOVE hS (by unfold vp_in; decide) rfl dX5_call_39 ?_
    refine lv_istore hx hb dX5_call_40 hl (by decide) (rfl : _ = ([(6, .int 1), (7, .int 0), (0, .ref h0), (1, .int p0), (2, .int 5), (3, .int 0), (4, .int p3), (5, .int p4)] : List (Nat × Value))) (fun ls hl => ?_)
    refine lv_iinc (v := 1) hx hb dX5_call_42 hl (k := 1) rfl (by first | rfl | decide) (by decide) (rfl : _ = ([(7, .int 1), (6, .int 1), (0, .ref h0), (1, .int p0), (2, .int 5), (3, .int 0), (4, .int p3), (5, .int p4)] : List (Nat × Value))) (fun ls hl => ?_)
    refine lv_goto (tgt := 6) hx hb dX5_call_45 (by decide) ?_
    refine lv_iload hx hb dX5_call_6 (lv_at hl 0 rfl) ?_
    refine lv_bipush (v := 8) hx hb dX5_call_8 kk_bi_8 ?_
    refine lv_icmp_ge (tgt := 48) hx hb dX5_call_10 (by decide) (fun c => absurd c (by decide)) (fun _ => ?_)
    refine lv_iload hx hb dX5_call_13 (lv_at hl 1 rfl) ?_
    obtain ⟨hPc, hDc, hFc⟩ := kk_cutout (wc := []) hP hD hS hA [] (by decide) rfl
    have hKc := kk_Ks (tq := []) hK [] rfl
    refine va_calli (va_runS (As := [.int 1]) (rest := []) ⟨hx, hb, hml, hown, hts⟩ (g_X5_isKind_12 l dC dI H.size) (va_cwS 1 hts gX5_call_X5_isKind rfl rfl rfl kh_X5_isKind ⟨Nat.le_of_ble_eq_true rfl, Nat.le_of_ble_eq_true rfl⟩) ⟨fun a U g mk q => by obtain ⟨q0, q1, qP, qK, qD⟩ := q; exact ⟨q0, q1, qP, va_K.moved (u := U) (U := U.calling g mk a) (Vm.Alike.refl U.vm) qK, qD⟩, fun U hU hW => ⟨rfl, by rw [hU], by rw [hU]; exact hPc, va_K.moved hW.alike hKc, hDc.weaken (fun _ _ _ _ => trivial)⟩⟩ rfl rfl hl.1 rfl (lv_room (Nat.le_of_ble_eq_true rfl)) dX5_call_15 ⟨Nat.le_of_ble_eq_true rfl, Nat.le_of_ble_eq_true rfl⟩) hS (fun q _ h => hFc q h) hFc (fun r_86 u t H1 locs ht hvm hw hB hz1 hk1 hS => ?_)
    obtain ⟨hP1, hK1, hD1⟩ := hB
    rw [ht] at hP1
    have hK1 := va_K.moved hvm.symm hK1
    obtain ⟨hP, hD⟩ := va_join (wr := [(h0, kO5 h1 n0_size h2 n0_ran), (h1, kAi cint 50 f1), (h2, kAi cint 24 f2)]) (w1 := []) hP hD [] [0, 1, 2] rfl rfl (by decide) (by decide) hk1 hFc hP1 hD1
    generalize H1 = H at hP hS ⊢
    have hP : va_P (dC, dI) vwCl [(h0, kO5 h1 n0_size h2 n0_ran), (h1, kAi cint 50 f1), (h2, kAi cint 24 f2)] H := hP
    have hD : va_D A [(h0, kO5 h1 n0_size h2 n0_ran), (h1, kAi cint 50 f1), (h2, kAi cint 24 f2)] := hD
    obtain rfl := hw
    refine lv_if_eq (tgt := 48) hx hb dX5_call_18 (by decide) (fun c => absurd c (by decide)) (fun _ => ?_)
    refine va_gets hx hb hZOWN_BODIES hS hown (hts (.fieldLink RX5 43 "KinkStreet$Lines" "OWN_BODIES" "[I") (List.mem_of_getElem? (i := 1) rfl)) (fun _ h9 => h9) dX5_call_21 ?_
    refine lv_iload hx hb dX5_call_24 (lv_at hl 1 rfl) ?_
    refine lv_iconst (v := 4) hx hb dX5_call_26 kk_ic_4 ?_
    refine lv_imul hx hb dX5_call_27 ?_
    refine lv_topi (fun y_87 e_87 => ?_)
    obtain rfl : y_87 = 4 := e_87.trans (by decide)
    refine lv_iload_n hx hb dX5_call_28 rfl (lv_at hl 5 rfl) ?_
    refine lv_iadd hx hb dX5_call_29 ?_
    refine lv_topi (fun y_88 e_88 => ?_)
    obtain rfl : y_88 = 4 := e_88.trans (by decide)
    refine va_ti (v := .int 20) hx hb hTOWN_BODIES hS (by unfold vp_in; decide) rfl dX5_call_30 ?_
    refine lv_if_ne (tgt := 48) hx hb dX5_call_31 (by decide) (fun _ => ?_) (fun c => absurd c (by decide))
    refine lv_iload hx hb dX5_call_48 (lv_at hl 1 rfl) ?_
    obtain ⟨hPc, hDc, hFc⟩ := kk_cutout (wc := []) hP hD hS hA [] (by decide) rfl
    have hKc := kk_Ks (tq := []) hK [] rfl
    refine va_calli (va_runS (As := [.int 1]) (rest := []) ⟨hx, hb, hml, hown, hts⟩ (g_X5_isKind_12 l dC dI H.size) (va_cwS 1 hts gX5_call_X5_isKind rfl rfl rfl kh_X5_isKind ⟨Nat.le_of_ble_eq_true rfl, Nat.le_of_ble_eq_true rfl⟩) ⟨fun a U g mk q => by obtain ⟨q0, q1, qP, qK, qD⟩ := q; exact ⟨q0, q1, qP, va_K.moved (u := U) (U := U.calling g mk a) (Vm.Alike.refl U.vm) qK, qD⟩, fun U hU hW => ⟨rfl, by rw [hU], by rw [hU]; exact hPc, va_K.moved hW.alike hKc, hDc.weaken (fun _ _ _ _ => trivial)⟩⟩ rfl rfl hl.1 rfl (lv_room (Nat.le_of_ble_eq_true rfl)) dX5_call_50 ⟨Nat.le_of_ble_eq_true rfl, Nat.le_of_ble_eq_true rfl⟩) hS (fun q _ h => hFc q h) hFc (fun r_89 u t H1 locs ht hvm hw hB hz1 hk1 hS => ?_)
    obtain ⟨hP1, hK1, hD1⟩ := hB
    rw [ht] at hP1
    have hK1 := va_K.moved hvm.symm hK1
    obtain ⟨hP, hD⟩ := va_join (wr := [(h0, kO5 h1 n0_size h2 n0_ran), (h1, kAi cint 50 f1), (h2, kAi cint 24 f2)]) (w1 := []) hP hD [] [0, 1, 2] rfl rfl (by decide) (by decide) hk1 hFc hP1 hD1
    generalize H1 = H at hP hS ⊢
    have hP : va_P (dC, dI) vwCl [(h0, kO5 h1 n0_size h2 n0_ran), (h1, kAi cint 50 f1), (h2, kAi cint 24 f2)] H := hP
    have hD : va_D A [(h0, kO5 h1 n0_size h2 n0_ran), (h1, kAi cint 50 f1), (h2, kAi cint 24 f2)] := hD
    obtain rfl := hw
    refine lv_if_eq (tgt := 63) hx hb dX5_call_53 (by decide) (fun c => absurd c (by decide)) (fun _ => ?_)
    refine lv_iload hx hb dX5_call_56 (lv_at hl 7 rfl) ?_
    refine lv_bipush (v := 40) hx hb dX5_call_58 kk_bi_40 ?_
    refine lv_icmp_le (tgt := 65) hx hb dX5_call_60 (by decide) (fun c_90 => ?_) (fun c_90 => ?_)
    · have t_90 : p4.toInt ≤ 40 := kk_le c_90
      refine va_gets hx hb hZOWN_BODIES hS hown (hts (.fieldLink RX5 43 "KinkStreet$Lines" "OWN_BODIES" "[I") (List.mem_of_getElem? (i := 1) rfl)) (fun _ h9 => h9) dX5_call_65 ?_
      refine lv_iload hx hb dX5_call_68 (lv_at hl 1 rfl) ?_
      refine lv_iconst (v := 4) hx hb dX5_call_70 kk_ic_4 ?_
      refine lv_imul hx hb dX5_call_71 ?_
      refine lv_topi (fun y_91 e_91 => ?_)
      obtain rfl : y_91 = 4 := e_91.trans (by decide)
      refine lv_iload_n hx hb dX5_call_72 rfl (lv_at hl 5 rfl) ?_
      refine lv_iadd hx hb dX5_call_73 ?_
      refine lv_topi (fun y_92 e_92 => ?_)
      obtain rfl : y_92 = 4 := e_92.trans (by decide)
      refine va_ti (v := .int 20) hx hb hTOWN_BODIES hS (by unfold vp_in; decide) rfl dX5_call_74 ?_
      refine lv_istore hx hb dX5_call_75 hl (by decide) (rfl : _ = ([(7, .int 20), (6, .int 1), (0, .ref h0), (1, .int p0), (2, .int 5), (3, .int 0), (4, .int p3), (5, .int p4)] : List (Nat × Value))) (fun ls hl => ?_)
      refine lv_aload_n hx hb dX5_call_77 rfl (lv_at hl 2 rfl) ?_
      refine va_get (D := (dC, dI)) (ci := 5) (v := .int n0_ran) (C := RX5) (T := TX5) (N := 4) hx hb hts (fun _ h => List.mem_cons_of_mem _ (List.mem_append_right _ h)) hown hK hP 0 rfl rfl 3 (by decide) (hts (.fieldLink RX5 36 "KinkStreet$Lines" "ran" "I") (List.mem_of_getElem? (i := 3) rfl)) (fun _ h9 => h9) rfl dX5_call_78 ?_
      refine lv_bipush (v := 24) hx hb dX5_call_81 kk_bi_24 ?_
      refine lv_icmp_ge (tgt := 97) hx hb dX5_call_83 (by decide) (fun c_93 => ?_) (fun c_93 => ?_)
      · have t_93 : 24 ≤ n0_ran.toInt := kk_le c_93
        refine lv_aload_n hx hb dX5_call_97 rfl (lv_at hl 2 rfl) ?_
        refine lv_dup hx hb dX5_call_98 rfl ?_
        refine va_get (D := (dC, dI)) (ci := 5) (v := .int n0_ran) (C := RX5) (T := TX5) (N := 4) hx hb hts (fun _ h => List.mem_cons_of_mem _ (List.mem_append_right _ h)) hown hK hP 0 rfl rfl 3 (by decide) (hts (.fieldLink RX5 36 "KinkStreet$Lines" "ran" "I") (List.mem_of_getElem? (i := 3) rfl)) (fun _ h9 => h9) rfl dX5_call_99 ?_
        refine lv_iconst (v := 1) hx hb dX5_call_102 kk_ic_1 ?_
        refine lv_iadd hx hb dX5_call_103 ?_
        refine va_put (D := (dC, dI)) (ci := 5) (v := .int (n0_ran + 1)) (ty := .int) (C := RX5) (T := TX5) (N := 4) hx hb hts (fun _ h => List.mem_cons_of_mem _ (List.mem_append_right _ h)) tyX5 tyX5_ok nmX5 hown hK hP hD hS 0 rfl rfl 3 (by decide) (hts (.fieldLink RX5 36 "KinkStreet$Lines" "ran" "I") (List.mem_of_getElem? (i := 3) rfl)) (fun _ h9 => h9) rfl (by decide +kernel) rfl rfl (Nat.le_of_ble_eq_true rfl) dX5_call_104 (fun H locs hP hD hS => ?_)
        have hP : va_P (dC, dI) vwCl [(h0, kO5 h1 n0_size h2 (n0_ran + 1)), (h1, kAi cint 50 f1), (h2, kAi cint 24 f2)] H := hP
        have hD : va_D A [(h0, kO5 h1 n0_size h2 (n0_ran + 1)), (h1, kAi cint 50 f1), (h2, kAi cint 24 f2)] := hD
        have hp_94 : kk_P f2 f2 n0_ran.toInt (n0_ran + 1 : Int32).toInt [20] := kk_P_out (by have := kk_add2 (x := n0_ran) (y := 1) (a := n0_ran.toInt) (b := 1) rfl rfl (by omega) (by omega); omega) (by have := kk_add2 (x := n0_ran) (y := 1) (a := n0_ran.toInt) (b := 1) rfl rfl (by omega) (by omega); omega)
        refine lv_iload hx hb dX5_call_107 (lv_at hl 1 rfl) ?_
        refine lv_if_ne (tgt := 128) hx hb dX5_call_109 (by decide) (fun _ => ?_) (fun c => absurd c (by decide))
        refine lv_aload_n hx hb dX5_call_128 rfl (lv_at hl 2 rfl) ?_
        refine lv_iload_n hx hb dX5_call_129 rfl (lv_at hl 3 rfl) ?_
        refine lv_iload hx hb dX5_call_130 (lv_at hl 1 rfl) ?_
        refine lv_iload hx hb dX5_call_132 (lv_at hl 0 rfl) ?_
        refine lv_iload hx hb dX5_call_134 (lv_at hl 6 rfl) ?_
        refine lv_iload hx hb dX5_call_136 (lv_at hl 7 rfl) ?_
        refine lv_iconst (v := 1) hx hb dX5_call_138 kk_ic_1 ?_
        refine lv_iadd hx hb dX5_call_139 ?_
        obtain ⟨hPc, hDc, hFc⟩ := kk_cutout (wc := [(h0, kO5 h1 n0_size h2 (n0_ran + 1)), (h1, kAi cint 50 f1), (h2, kAi cint 24 f2)]) hP hD hS hA [0, 1, 2] (by decide) rfl
        have hKc := kk_Ks (tq := [(cint, .int)]) hK [0] rfl
        refine va_calli (va_runV (As := [.int p0, .int 1, .int 20, .int p3, .int (p4 + 1)]) (rest := []) ⟨hx, hb, hml, hown, hts⟩ (g_X5_runUnder_9 l dC dI h0 h1 h2 cint H.size p0 p3 (p4 + 1) (by show 0 ≤ ((p4 + 1) : Int32).toInt ∧ ((p4 + 1) : Int32).toInt ≤ 22; first | with_reducible assumption | (constructor <;> (have := kk_add2 (x := n0_ran) (y := 1) (a := n0_ran.toInt) (b := 1) rfl rfl (by omega) (by omega); have := kk_add2 (x := p4) (y := 1) (a := p4.toInt) (b := 1) rfl rfl (by omega) (by omega); omega))) n0_size (n0_ran + 1) f1 f2 tn0_size (by show 0 ≤ ((n0_ran + 1) : Int32).toInt ∧ ((n0_ran + 1) : Int32).toInt ≤ 999; first | with_reducible assumption | (constructor <;> (have := kk_add2 (x := n0_ran) (y := 1) (a := n0_ran.toInt) (b := 1) rfl rfl (by omega) (by omega); have := kk_add2 (x := p4) (y := 1) (a := p4.toInt) (b := 1) rfl rfl (by omega) (by omega); omega))) bf1 (by show (0 ≤ (p0 : Int32).toInt ∧ (p0 : Int32).toInt < (n0_size : Int32).toInt); first | with_reducible assumption | (have := kk_add2 (x := n0_ran) (y := 1) (a := n0_ran.toInt) (b := 1) rfl rfl (by omega) (by omega); have := kk_add2 (x := p4) (y := 1) (a := p4.toInt) (b := 1) rfl rfl (by omega) (by omega); omega)) aABOVE aOWN_BODIES) (cwV 5 hts gX5_call_X5_runUnder rfl rfl rfl ⟨rfl, kh_X5_runUnder⟩ ⟨Nat.le_of_ble_eq_true rfl, Nat.le_of_ble_eq_true rfl⟩) ⟨fun a U g mk q => by obtain ⟨q0, q1, qP, qK, qD, qx0, qx1, qx2, qx3⟩ := q; exact ⟨q0, q1, qP, va_K.moved (u := U) (U := U.calling g mk a) (Vm.Alike.refl U.vm) qK, qD, va_Z.moved (u := U) (U := U.calling g mk a) (Vm.Alike.refl U.vm) qx0, va_T.moved (u := U) (U := U.calling g mk a) (Vm.Alike.refl U.vm) qx1, va_Z.moved (u := U) (U := U.calling g mk a) (Vm.Alike.refl U.vm) qx2, va_T.moved (u := U) (U := U.calling g mk a) (Vm.Alike.refl U.vm) qx3⟩, va_recv hKc hPc (ci := 5) (q0 := 0) rfl rfl, fun U hU hW => ⟨rfl, by rw [hU], by rw [hU]; exact hPc, va_K.moved hW.alike hKc, hDc.weaken (fun _ _ _ _ => trivial), by rw [hU]; exact ((hZABOVE.kept (fun a h1 h2 => hS.2.1 a h1 h2)).narrow hFc).moved hW.alike, by rw [hU]; exact ((hTABOVE.kept (fun a h1 h2 => hS.2.1 a h1 h2)).narrow hFc).moved hW.alike, by rw [hU]; exact ((hZOWN_BODIES.kept (fun a h1 h2 => hS.2.1 a h1 h2)).narrow hFc).moved hW.alike, by rw [hU]; exact ((hTOWN_BODIES.kept (fun a h1 h2 => hS.2.1 a h1 h2)).narrow hFc).moved hW.alike⟩⟩ rfl rfl hl.1 rfl (lv_room (Nat.le_of_ble_eq_true rfl)) dX5_call_140 ⟨Nat.le_of_ble_eq_true rfl, Nat.le_of_ble_eq_true rfl⟩) hS (fun q _ h => hFc q h) hFc (fun r_95 u t H1 locs ht hvm hw hB hz1 hk1 hS => ?_)
        obtain ⟨y_96, f_97, by_96, v_97_0, hn_97_0, hP1, hK1, hD1⟩ := hB
        have v_97_0 : y_96.toInt ≤ (n0_ran + 1).toInt + 1 := v_97_0
        have hn_97_0 : kk_P f2 f_97 (n0_ran + 1).toInt y_96.toInt ((kt_runs 1).tail) := hn_97_0
        rw [ht] at hP1
        have hK1 := va_K.moved hvm.symm hK1
        obtain ⟨hP, hD⟩ := va_join (wr := []) (w1 := [(h0, kO5 h1 n0_size h2 y_96), (h1, kAi cint 50 f1), (h2, kAi cint 24 f_97)]) hP hD [0, 1, 2] [] rfl rfl (by decide) (by decide) hk1 hFc hP1 hD1
        generalize H1 = H at hP hS ⊢
        have hP : va_P (dC, dI) vwCl [(h0, kO5 h1 n0_size h2 y_96), (h1, kAi cint 50 f1), (h2, kAi cint 24 f_97)] H := hP
        have hD : va_D A [(h0, kO5 h1 n0_size h2 y_96), (h1, kAi cint 50 f1), (h2, kAi cint 24 f_97)] := hD
        rcases hw with ⟨t_95_0, rfl⟩
        · skip
          have t_95_0 : ((p3 + p0) + 3) = kk_runs 1 p0 p3 := t_95_0
          obtain ⟨hP9, hD9⟩ := kk_leafout (wc := [(h0, kO5 h1 n0_size h2 y_96), (h1, kAi cint 50 f1), (h2, kAi cint 24 f_97)]) hP hD [0, 1, 2] (by decide) rfl
          have hK9 := kk_Ks (tq := []) hK [] rfl
          exact W.iret (v := ((p3 + p0) + 3)) hx hb hr (fun t ht hW => ⟨⟨((p3 + p0) + 3), (), rfl, ⟨(by first | rfl | (unfold kk_runs; (repeat' split) <;> first | rfl | (exfalso; have : (0 : Int32).toInt = 0 := rfl; have : (1 : Int32).toInt = 1 := rfl; have : (2 : Int32).toInt = 2 := rfl; have : (3 : Int32).toInt = 3 := rfl; have : (4 : Int32).toInt = 4 := rfl; have : (5 : Int32).toInt = 5 := rfl; have : (6 : Int32).toInt = 6 := rfl; have : (7 : Int32).toInt = 7 := rfl; have := kk_add2 (x := n0_ran) (y := 1) (a := n0_ran.toInt) (b := 1) rfl rfl (by omega) (by omega); have := kk_add2 (x := p4) (y := 1) (a := p4.toInt) (b := 1) rfl rfl (by omega) (by omega); omega))), trivial⟩, y_96, f_97, (by show 1 ≤ (y_96 : Int32).toInt ∧ (y_96 : Int32).toInt ≤ 1000; first | with_reducible assumption | (constructor <;> (have := kk_add2 (x := n0_ran) (y := 1) (a := n0_ran.toInt) (b := 1) rfl rfl (by omega) (by omega); have := kk_add2 (x := p4) (y := 1) (a := p4.toInt) (b := 1) rfl rfl (by omega) (by omega); omega))), (by show (y_96 : Int32).toInt ≤ (n0_ran : Int32).toInt + 3; first | with_reducible assumption | (have := kk_add2 (x := n0_ran) (y := 1) (a := n0_ran.toInt) (b := 1) rfl rfl (by omega) (by omega); have := kk_add2 (x := p4) (y := 1) (a := p4.toInt) (b := 1) rfl rfl (by omega) (by omega); omega)), (by first | exact kk_P_eq (kk_P_trans hp_94 hn_97_0) rfl | (unfold kt_runs; (repeat' split) <;> first | exact kk_P_eq (kk_P_trans hp_94 hn_97_0) rfl | (exfalso; have : (0 : Int32).toInt = 0 := rfl; have : (1 : Int32).toInt = 1 := rfl; have : (2 : Int32).toInt = 2 := rfl; have : (3 : Int32).toInt = 3 := rfl; have : (4 : Int32).toInt = 4 := rfl; have : (5 : Int32).toInt = 5 := rfl; have : (6 : Int32).toInt = 6 := rfl; have : (7 : Int32).toInt = 7 := rfl; have := kk_add2 (x := n0_ran) (y := 1) (a := n0_ran.toInt) (b := 1) rfl rfl (by omega) (by omega); have := kk_add2 (x := p4) (y := 1) (a := p4.toInt) (b := 1) rfl rfl (by omega) (by omega); omega))), by rw [ht]; exact hP9, va_K.moved hW.alike hK9, hD9⟩, hS.F ht⟩) hS.2.2 dX5_call_143
      · have t_93 : n0_ran.toInt < 24 := kk_nle c_93
        refine lv_aload_n hx hb dX5_call_86 rfl (lv_at hl 2 rfl) ?_
        refine va_get (D := (dC, dI)) (ci := 5) (v := .ref h2) (C := RX5) (T := TX5) (N := 4) hx hb hts (fun _ h => List.mem_cons_of_mem _ (List.mem_append_right _ h)) hown hK hP 0 rfl rfl 2 (by decide) (hts (.fieldLink RX5 15 "KinkStreet$Lines" "trace" "[I") (List.mem_of_getElem? (i := 4) rfl)) (fun _ h9 => h9) rfl dX5_call_87 ?_
        refine lv_aload_n hx hb dX5_call_90 rfl (lv_at hl 2 rfl) ?_
        refine va_get (D := (dC, dI)) (ci := 5) (v := .int n0_ran) (C := RX5) (T := TX5) (N := 4) hx hb hts (fun _ h => List.mem_cons_of_mem _ (List.mem_append_right _ h)) hown hK hP 0 rfl rfl 3 (by decide) (hts (.fieldLink RX5 36 "KinkStreet$Lines" "ran" "I") (List.mem_of_getElem? (i := 3) rfl)) (fun _ h9 => h9) rfl dX5_call_91 ?_
        refine lv_iload hx hb dX5_call_94 (lv_at hl 0 rfl) ?_
        refine va_iast hx hb hK hP hD hS 2 0 rfl rfl (vp_in_iff.mpr ⟨by omega, by omega⟩) dX5_call_96 (fun H locs hP hD hS => ?_)
        have w_98 : ((upd f2 (n0_ran : Int32).toNatClampNeg 20) (n0_ran : Int32).toNatClampNeg).toInt = (20 : Int32).toInt := by rw [kk_ups]
        have hP : va_P (dC, dI) vwCl [(h0, kO5 h1 n0_size h2 n0_ran), (h1, kAi cint 50 f1), (h2, kAi cint 24 (upd f2 (n0_ran : Int32).toNatClampNeg 20))] H := hP
        have hD : va_D A [(h0, kO5 h1 n0_size h2 n0_ran), (h1, kAi cint 50 f1), (h2, kAi cint 24 (upd f2 (n0_ran : Int32).toNatClampNeg 20))] := hD
        refine lv_aload_n hx hb dX5_call_97 rfl (lv_at hl 2 rfl) ?_
        refine lv_dup hx hb dX5_call_98 rfl ?_
        refine va_get (D := (dC, dI)) (ci := 5) (v := .int n0_ran) (C := RX5) (T := TX5) (N := 4) hx hb hts (fun _ h => List.mem_cons_of_mem _ (List.mem_append_right _ h)) hown hK hP 0 rfl rfl 3 (by decide) (hts (.fieldLink RX5 36 "KinkStreet$Lines" "ran" "I") (List.mem_of_getElem? (i := 3) rfl)) (fun _ h9 => h9) rfl dX5_call_99 ?_
        refine lv_iconst (v := 1) hx hb dX5_call_102 kk_ic_1 ?_
        refine lv_iadd hx hb dX5_call_103 ?_
        refine va_put (D := (dC, dI)) (ci := 5) (v := .int (n0_ran + 1)) (ty := .int) (C := RX5) (T := TX5) (N := 4) hx hb hts (fun _ h => List.mem_cons_of_mem _ (List.mem_append_right _ h)) tyX5 tyX5_ok nmX5 hown hK hP hD hS 0 rfl rfl 3 (by decide) (hts (.fieldLink RX5 36 "KinkStreet$Lines" "ran" "I") (List.mem_of_getElem? (i := 3) rfl)) (fun _ h9 => h9) rfl (by decide +kernel) rfl rfl (Nat.le_of_ble_eq_true rfl) dX5_call_104 (fun H locs hP hD hS => ?_)
        have hP : va_P (dC, dI) vwCl [(h0, kO5 h1 n0_size h2 (n0_ran + 1)), (h1, kAi cint 50 f1), (h2, kAi cint 24 (upd f2 (n0_ran : Int32).toNatClampNeg 20))] H := hP
        have hD : va_D A [(h0, kO5 h1 n0_size h2 (n0_ran + 1)), (h1, kAi cint 50 f1), (h2, kAi cint 24 (upd f2 (n0_ran : Int32).toNatClampNeg 20))] := hD
        have hp_99 : kk_P f2 (upd f2 (n0_ran : Int32).toNatClampNeg 20) n0_ran.toInt (n0_ran + 1 : Int32).toInt [20] := kk_P_one (by have := kk_add2 (x := n0_ran) (y := 1) (a := n0_ran.toInt) (b := 1) rfl rfl (by omega) (by omega); omega) (by have := kk_add2 (x := n0_ran) (y := 1) (a := n0_ran.toInt) (b := 1) rfl rfl (by omega) (by omega); omega)
        refine lv_iload hx hb dX5_call_107 (lv_at hl 1 rfl) ?_
        refine lv_if_ne (tgt := 128) hx hb dX5_call_109 (by decide) (fun _ => ?_) (fun c => absurd c (by decide))
        refine lv_aload_n hx hb dX5_call_128 rfl (lv_at hl 2 rfl) ?_
        refine lv_iload_n hx hb dX5_call_129 rfl (lv_at hl 3 rfl) ?_
        refine lv_iload hx hb dX5_call_130 (lv_at hl 1 rfl) ?_
        refine lv_iload hx hb dX5_call_132 (lv_at hl 0 rfl) ?_
        refine lv_iload hx hb dX5_call_134 (lv_at hl 6 rfl) ?_
        refine lv_iload hx hb dX5_call_136 (lv_at hl 7 rfl) ?_
        refine lv_iconst (v := 1) hx hb dX5_call_138 kk_ic_1 ?_
        refine lv_iadd hx hb dX5_call_139 ?_
        obtain ⟨hPc, hDc, hFc⟩ := kk_cutout (wc := [(h0, kO5 h1 n0_size h2 (n0_ran + 1)), (h1, kAi cint 50 f1), (h2, kAi cint 24 (upd f2 (n0_ran : Int32).toNatClampNeg 20))]) hP hD hS hA [0, 1, 2] (by decide) rfl
        have hKc := kk_Ks (tq := [(cint, .int)]) hK [0] rfl
        refine va_calli (va_runV (As := [.int p0, .int 1, .int 20, .int p3, .int (p4 + 1)]) (rest := []) ⟨hx, hb, hml, hown, hts⟩ (g_X5_runUnder_9 l dC dI h0 h1 h2 cint H.size p0 p3 (p4 + 1) (by show 0 ≤ ((p4 + 1) : Int32).toInt ∧ ((p4 + 1) : Int32).toInt ≤ 22; first | with_reducible assumption | (constructor <;> (have := kk_add2 (x := n0_ran) (y := 1) (a := n0_ran.toInt) (b := 1) rfl rfl (by omega) (by omega); have := kk_add2 (x := p4) (y := 1) (a := p4.toInt) (b := 1) rfl rfl (by omega) (by omega); omega))) n0_size (n0_ran + 1) f1 (upd f2 (n0_ran : Int32).toNatClampNeg 20) tn0_size (by show 0 ≤ ((n0_ran + 1) : Int32).toInt ∧ ((n0_ran + 1) : Int32).toInt ≤ 999; first | with_reducible assumption | (constructor <;> (have := kk_add2 (x := n0_ran) (y := 1) (a := n0_ran.toInt) (b := 1) rfl rfl (by omega) (by omega); have := kk_add2 (x := p4) (y := 1) (a := p4.toInt) (b := 1) rfl rfl (by omega) (by omega); omega))) bf1 (by show (0 ≤ (p0 : Int32).toInt ∧ (p0 : Int32).toInt < (n0_size : Int32).toInt); first | with_reducible assumption | (have := kk_add2 (x := n0_ran) (y := 1) (a := n0_ran.toInt) (b := 1) rfl rfl (by omega) (by omega); have := kk_add2 (x := p4) (y := 1) (a := p4.toInt) (b := 1) rfl rfl (by omega) (by omega); omega)) aABOVE aOWN_BODIES) (cwV 5 hts gX5_call_X5_runUnder rfl rfl rfl ⟨rfl, kh_X5_runUnder⟩ ⟨Nat.le_of_ble_eq_true rfl, Nat.le_of_ble_eq_true rfl⟩) ⟨fun a U g mk q => by obtain ⟨q0, q1, qP, qK, qD, qx0, qx1, qx2, qx3⟩ := q; exact ⟨q0, q1, qP, va_K.moved (u := U) (U := U.calling g mk a) (Vm.Alike.refl U.vm) qK, qD, va_Z.moved (u := U) (U := U.calling g mk a) (Vm.Alike.refl U.vm) qx0, va_T.moved (u := U) (U := U.calling g mk a) (Vm.Alike.refl U.vm) qx1, va_Z.moved (u := U) (U := U.calling g mk a) (Vm.Alike.refl U.vm) qx2, va_T.moved (u := U) (U := U.calling g mk a) (Vm.Alike.refl U.vm) qx3⟩, va_recv hKc hPc (ci := 5) (q0 := 0) rfl rfl, fun U hU hW => ⟨rfl, by rw [hU], by rw [hU]; exact hPc, va_K.moved hW.alike hKc, hDc.weaken (fun _ _ _ _ => trivial), by rw [hU]; exact ((hZABOVE.kept (fun a h1 h2 => hS.2.1 a h1 h2)).narrow hFc).moved hW.alike, by rw [hU]; exact ((hTABOVE.kept (fun a h1 h2 => hS.2.1 a h1 h2)).narrow hFc).moved hW.alike, by rw [hU]; exact ((hZOWN_BODIES.kept (fun a h1 h2 => hS.2.1 a h1 h2)).narrow hFc).moved hW.alike, by rw [hU]; exact ((hTOWN_BODIES.kept (fun a h1 h2 => hS.2.1 a h1 h2)).narrow hFc).moved hW.alike⟩⟩ rfl rfl hl.1 rfl (lv_room (Nat.le_of_ble_eq_true rfl)) dX5_call_140 ⟨Nat.le_of_ble_eq_true rfl, Nat.le_of_ble_eq_true rfl⟩) hS (fun q _ h => hFc q h) hFc (fun r_100 u t H1 locs ht hvm hw hB hz1 hk1 hS => ?_)
        obtain ⟨y_101, f_102, by_101, v_102_0, hn_102_0, hP1, hK1, hD1⟩ := hB
        have v_102_0 : y_101.toInt ≤ (n0_ran + 1).toInt + 1 := v_102_0
        have hn_102_0 : kk_P (upd f2 (n0_ran : Int32).toNatClampNeg 20) f_102 (n0_ran + 1).toInt y_101.toInt ((kt_runs 1).tail) := hn_102_0
        rw [ht] at hP1
        have hK1 := va_K.moved hvm.symm hK1
        obtain ⟨hP, hD⟩ := va_join (wr := []) (w1 := [(h0, kO5 h1 n0_size h2 y_101), (h1, kAi cint 50 f1), (h2, kAi cint 24 f_102)]) hP hD [0, 1, 2] [] rfl rfl (by decide) (by decide) hk1 hFc hP1 hD1
        generalize H1 = H at hP hS ⊢
        have hP : va_P (dC, dI) vwCl [(h0, kO5 h1 n0_size h2 y_101), (h1, kAi cint 50 f1), (h2, kAi cint 24 f_102)] H := hP
        have hD : va_D A [(h0, kO5 h1 n0_size h2 y_101), (h1, kAi cint 50 f1), (h2, kAi cint 24 f_102)] := hD
        rcases hw with ⟨t_100_0, rfl⟩
        · skip
          have t_100_0 : ((p3 + p0) + 3) = kk_runs 1 p0 p3 := t_100_0
          obtain ⟨hP9, hD9⟩ := kk_leafout (wc := [(h0, kO5 h1 n0_size h2 y_101), (h1, kAi cint 50 f1), (h2, kAi cint 24 f_102)]) hP hD [0, 1, 2] (by decide) rfl
          have hK9 := kk_Ks (tq := []) hK [] rfl
          exact W.iret (v := ((p3 + p0) + 3)) hx hb hr (fun t ht hW => ⟨⟨((p3 + p0) + 3), (), rfl, ⟨(by first | rfl | (unfold kk_runs; (repeat' split) <;> first | rfl | (exfalso; have : (0 : Int32).toInt = 0 := rfl; have : (1 : Int32).toInt = 1 := rfl; have : (2 : Int32).toInt = 2 := rfl; have : (3 : Int32).toInt = 3 := rfl; have : (4 : Int32).toInt = 4 := rfl; have : (5 : Int32).toInt = 5 := rfl; have : (6 : Int32).toInt = 6 := rfl; have : (7 : Int32).toInt = 7 := rfl; have := kk_add2 (x := n0_ran) (y := 1) (a := n0_ran.toInt) (b := 1) rfl rfl (by omega) (by omega); have := kk_add2 (x := p4) (y := 1) (a := p4.toInt) (b := 1) rfl rfl (by omega) (by omega); omega))), trivial⟩, y_101, f_102, (by show 1 ≤ (y_101 : Int32).toInt ∧ (y_101 : Int32).toInt ≤ 1000; first | with_reducible assumption | (constructor <;> (have := kk_add2 (x := n0_ran) (y := 1) (a := n0_ran.toInt) (b := 1) rfl rfl (by omega) (by omega); have := kk_add2 (x := p4) (y := 1) (a := p4.toInt) (b := 1) rfl rfl (by omega) (by omega); omega))), (by show (y_101 : Int32).toInt ≤ (n0_ran : Int32).toInt + 3; first | with_reducible assumption | (have := kk_add2 (x := n0_ran) (y := 1) (a := n0_ran.toInt) (b := 1) rfl rfl (by omega) (by omega); have := kk_add2 (x := p4) (y := 1) (a := p4.toInt) (b := 1) rfl rfl (by omega) (by omega); omega)), (by first | exact kk_P_eq (kk_P_trans hp_99 hn_102_0) rfl | (unfold kt_runs; (repeat' split) <;> first | exact kk_P_eq (kk_P_trans hp_99 hn_102_0) rfl | (exfalso; have : (0 : Int32).toInt = 0 := rfl; have : (1 : Int32).toInt = 1 := rfl; have : (2 : Int32).toInt = 2 := rfl; have : (3 : Int32).toInt = 3 := rfl; have : (4 : Int32).toInt = 4 := rfl; have : (5 : Int32).toInt = 5 := rfl; have : (6 : Int32).toInt = 6 := rfl; have : (7 : Int32).toInt = 7 := rfl; have := kk_add2 (x := n0_ran) (y := 1) (a := n0_ran.toInt) (b := 1) rfl rfl (by omega) (by omega); have := kk_add2 (x := p4) (y := 1) (a := p4.toInt) (b := 1) rfl rfl (by omega) (by omega); omega))), by rw [ht]; exact hP9, va_K.moved hW.alike hK9, hD9⟩, hS.F ht⟩) hS.2.2 dX5_call_143
    · have t_90 : 40 < p4.toInt := kk_nle c_90
      exfalso; omega
  · have t_1 : p1.toInt = 6 := by rw [e_1]; rfl
    subst e_1
    refine lv_iload_n hx hb dX5_call_0 rfl (lv_at hl 2 rfl) ?_
    refine lv_istore hx hb dX5_call_1 hl (by decide) (rfl : _ = ([(6, .int 6), (0, .ref h0), (1, .int p0), (2, .int 6), (3, .int 0), (4, .int p3), (5, .int p4)] : List (Nat × Value))) (fun ls hl => ?_)
    refine lv_iconst (v := 0) hx hb dX5_call_3 kk_ic_0 ?_
    refine lv_istore hx hb dX5_call_4 hl (by decide) (rfl : _ = ([(7, .int 0), (6, .int 6), (0, .ref h0), (1, .int p0), (2, .int 6), (3, .int 0), (4, .int p3), (5, .int p4)] : List (Nat × Value))) (fun ls hl => ?_)
    refine lv_iload hx hb dX5_call_6 (lv_at hl 0 rfl) ?_
    refine lv_bipush (v := 8) hx hb dX5_call_8 kk_bi_8 ?_
    refine lv_icmp_ge (tgt := 48) hx hb dX5_call_10 (by decide) (fun c => absurd c (by decide)) (fun _ => ?_)
    refine lv_iload hx hb dX5_call_13 (lv_at hl 1 rfl) ?_
    obtain ⟨hPc, hDc, hFc⟩ := kk_cutout (wc := []) hP hD hS hA [] (by decide) rfl
    have hKc := kk_Ks (tq := []) hK [] rfl
    refine va_calli (va_runS (As := [.int 6]) (rest := []) ⟨hx, hb, hml, hown, hts⟩ (g_X5_isKind_17 l dC dI s.heap.size) (va_cwS 1 hts gX5_call_X5_isKind rfl rfl rfl kh_X5_isKind ⟨Nat.le_of_ble_eq_true rfl, Nat.le_of_ble_eq_true rfl⟩) ⟨fun a U g mk q => by obtain ⟨q0, q1, qP, qK, qD⟩ := q; exact ⟨q0, q1, qP, va_K.moved (u := U) (U := U.calling g mk a) (Vm.Alike.refl U.vm) qK, qD⟩, fun U hU hW => ⟨rfl, by rw [hU], by rw [hU]; exact hPc, va_K.moved hW.alike hKc, hDc.weaken (fun _ _ _ _ => trivial)⟩⟩ rfl rfl hl.1 rfl (lv_room (Nat.le_of_ble_eq_true rfl)) dX5_call_15 ⟨Nat.le_of_ble_eq_true rfl, Nat.le_of_ble_eq_true rfl⟩) hS (fun q _ h => hFc q h) hFc (fun r_103 u t H1 locs ht hvm hw hB hz1 hk1 hS => ?_)
    obtain ⟨hP1, hK1, hD1⟩ := hB
    rw [ht] at hP1
    have hK1 := va_K.moved hvm.symm hK1
    obtain ⟨hP, hD⟩ := va_join (wr := [(h0, kO5 h1 n0_size h2 n0_ran), (h1, kAi cint 50 f1), (h2, kAi cint 24 f2)]) (w1 := []) hP hD [] [0, 1, 2] rfl rfl (by decide) (by decide) hk1 hFc hP1 hD1
    generalize H1 = H at hP hS ⊢
    have hP : va_P (dC, dI) vwCl [(h0, kO5 h1 n0_size h2 n0_ran), (h1, kAi cint 50 f1), (h2, kAi cint 24 f2)] H := hP
    have hD : va_D A [(h0, kO5 h1 n0_size h2 n0_ran), (h1, kAi cint 50 f1), (h2, kAi cint 24 f2)] := hD
    obtain rfl := hw
    refine lv_if_eq (tgt := 48) hx hb dX5_call_18 (by decide) (fun c => absurd c (by decide)) (fun _ => ?_)
    refine va_gets hx hb hZOWN_BODIES hS hown (hts (.fieldLink RX5 43 "KinkStreet$Lines" "OWN_BODIES" "[I") (List.mem_of_getElem? (i := 1) rfl)) (fun _ h9 => h9) dX5_call_21 ?_
    refine lv_iload hx hb dX5_call_24 (lv_at hl 1 rfl) ?_
    refine lv_iconst (v := 4) hx hb dX5_call_26 kk_ic_4 ?_
    refine lv_imul hx hb dX5_call_27 ?_
    refine lv_topi (fun y_104 e_104 => ?_)
    obtain rfl : y_104 = 24 := e_104.trans (by decide)
    refine lv_iload_n hx hb dX5_call_28 rfl (lv_at hl 5 rfl) ?_
    refine lv_iadd hx hb dX5_call_29 ?_
    refine lv_topi (fun y_105 e_105 => ?_)
    obtain rfl : y_105 = 24 := e_105.trans (by decide)
    refine va_ti (v := .int 70) hx hb hTOWN_BODIES hS (by unfold vp_in; decide) rfl dX5_call_30 ?_
    refine lv_if_ne (tgt := 48) hx hb dX5_call_31 (by decide) (fun _ => ?_) (fun c => absurd c (by decide))
    refine lv_iload hx hb dX5_call_48 (lv_at hl 1 rfl) ?_
    obtain ⟨hPc, hDc, hFc⟩ := kk_cutout (wc := []) hP hD hS hA [] (by decide) rfl
    have hKc := kk_Ks (tq := []) hK [] rfl
    refine va_calli (va_runS (As := [.int 6]) (rest := []) ⟨hx, hb, hml, hown, hts⟩ (g_X5_isKind_17 l dC dI H.size) (va_cwS 1 hts gX5_call_X5_isKind rfl rfl rfl kh_X5_isKind ⟨Nat.le_of_ble_eq_true rfl, Nat.le_of_ble_eq_true rfl⟩) ⟨fun a U g mk q => by obtain ⟨q0, q1, qP, qK, qD⟩ := q; exact ⟨q0, q1, qP, va_K.moved (u := U) (U := U.calling g mk a) (Vm.Alike.refl U.vm) qK, qD⟩, fun U hU hW => ⟨rfl, by rw [hU], by rw [hU]; exact hPc, va_K.moved hW.alike hKc, hDc.weaken (fun _ _ _ _ => trivial)⟩⟩ rfl rfl hl.1 rfl (lv_room (Nat.le_of_ble_eq_true rfl)) dX5_call_50 ⟨Nat.le_of_ble_eq_true rfl, Nat.le_of_ble_eq_true rfl⟩) hS (fun q _ h => hFc q h) hFc (fun r_106 u t H1 locs ht hvm hw hB hz1 hk1 hS => ?_)
    obtain ⟨hP1, hK1, hD1⟩ := hB
    rw [ht] at hP1
    have hK1 := va_K.moved hvm.symm hK1
    obtain ⟨hP, hD⟩ := va_join (wr := [(h0, kO5 h1 n0_size h2 n0_ran), (h1, kAi cint 50 f1), (h2, kAi cint 24 f2)]) (w1 := []) hP hD [] [0, 1, 2] rfl rfl (by decide) (by decide) hk1 hFc hP1 hD1
    generalize H1 = H at hP hS ⊢
    have hP : va_P (dC, dI) vwCl [(h0, kO5 h1 n0_size h2 n0_ran), (h1, kAi cint 50 f1), (h2, kAi cint 24 f2)] H := hP
    have hD : va_D A [(h0, kO5 h1 n0_size h2 n0_ran), (h1, kAi cint 50 f1), (h2, kAi cint 24 f2)] := hD
    obtain rfl := hw
    refine lv_if_eq (tgt := 63) hx hb dX5_call_53 (by decide) (fun c => absurd c (by decide)) (fun _ => ?_)
    refine lv_iload hx hb dX5_call_56 (lv_at hl 7 rfl) ?_
    refine lv_bipush (v := 40) hx hb dX5_call_58 kk_bi_40 ?_
    refine lv_icmp_le (tgt := 65) hx hb dX5_call_60 (by decide) (fun c_107 => ?_) (fun c_107 => ?_)
    · have t_107 : p4.toInt ≤ 40 := kk_le c_107
      refine va_gets hx hb hZOWN_BODIES hS hown (hts (.fieldLink RX5 43 "KinkStreet$Lines" "OWN_BODIES" "[I") (List.mem_of_getElem? (i := 1) rfl)) (fun _ h9 => h9) dX5_call_65 ?_
      refine lv_iload hx hb dX5_call_68 (lv_at hl 1 rfl) ?_
      refine lv_iconst (v := 4) hx hb dX5_call_70 kk_ic_4 ?_
      refine lv_imul hx hb dX5_call_71 ?_
      refine lv_topi (fun y_108 e_108 => ?_)
      obtain rfl : y_108 = 24 := e_108.trans (by decide)
      refine lv_iload_n hx hb dX5_call_72 rfl (lv_at hl 5 rfl) ?_
      refine lv_iadd hx hb dX5_call_73 ?_
      refine lv_topi (fun y_109 e_109 => ?_)
      obtain rfl : y_109 = 24 := e_109.trans (by decide)
      refine va_ti (v := .int 70) hx hb hTOWN_BODIES hS (by unfold vp_in; decide) rfl dX5_call_74 ?_
      refine lv_istore hx hb dX5_call_75 hl (by decide) (rfl : _ = ([(7, .int 70), (6, .int 6), (0, .ref h0), (1, .int p0), (2, .int 6), (3, .int 0), (4, .int p3), (5, .int p4)] : List (Nat × Value))) (fun ls hl => ?_)
      refine lv_aload_n hx hb dX5_call_77 rfl (lv_at hl 2 rfl) ?_
      refine va_get (D := (dC, dI)) (ci := 5) (v := .int n0_ran) (C := RX5) (T := TX5) (N := 4) hx hb hts (fun _ h => List.mem_cons_of_mem _ (List.mem_append_right _ h)) hown hK hP 0 rfl rfl 3 (by decide) (hts (.fieldLink RX5 36 "KinkStreet$Lines" "ran" "I") (List.mem_of_getElem? (i := 3) rfl)) (fun _ h9 => h9) rfl dX5_call_78 ?_
      refine lv_bipush (v := 24) hx hb dX5_call_81 kk_bi_24 ?_
      refine lv_icmp_ge (tgt := 97) hx hb dX5_call_83 (by decide) (fun c_110 => ?_) (fun c_110 => ?_)
      · have t_110 : 24 ≤ n0_ran.toInt := kk_le c_110
        refine lv_aload_n hx hb dX5_call_97 rfl (lv_at hl 2 rfl) ?_
        refine lv_dup hx hb dX5_call_98 rfl ?_
        refine va_get (D := (dC, dI)) (ci := 5) (v := .int n0_ran) (C := RX5) (T := TX5) (N := 4) hx hb hts (fun _ h => List.mem_cons_of_mem _ (List.mem_append_right _ h)) hown hK hP 0 rfl rfl 3 (by decide) (hts (.fieldLink RX5 36 "KinkStreet$Lines" "ran" "I") (List.mem_of_getElem? (i := 3) rfl)) (fun _ h9 => h9) rfl dX5_call_99 ?_
        refine lv_iconst (v := 1) hx hb dX5_call_102 kk_ic_1 ?_
        refine lv_iadd hx hb dX5_call_103 ?_
        refine va_put (D := (dC, dI)) (ci := 5) (v := .int (n0_ran + 1)) (ty := .int) (C := RX5) (T := TX5) (N := 4) hx hb hts (fun _ h => List.mem_cons_of_mem _ (List.mem_append_right _ h)) tyX5 tyX5_ok nmX5 hown hK hP hD hS 0 rfl rfl 3 (by decide) (hts (.fieldLink RX5 36 "KinkStreet$Lines" "ran" "I") (List.mem_of_getElem? (i := 3) rfl)) (fun _ h9 => h9) rfl (by decide +kernel) rfl rfl (Nat.le_of_ble_eq_true rfl) dX5_call_104 (fun H locs hP hD hS => ?_)
        have hP : va_P (dC, dI) vwCl [(h0, kO5 h1 n0_size h2 (n0_ran + 1)), (h1, kAi cint 50 f1), (h2, kAi cint 24 f2)] H := hP
        have hD : va_D A [(h0, kO5 h1 n0_size h2 (n0_ran + 1)), (h1, kAi cint 50 f1), (h2, kAi cint 24 f2)] := hD
        have hp_111 : kk_P f2 f2 n0_ran.toInt (n0_ran + 1 : Int32).toInt [70] := kk_P_out (by have := kk_add2 (x := n0_ran) (y := 1) (a := n0_ran.toInt) (b := 1) rfl rfl (by omega) (by omega); omega) (by have := kk_add2 (x := n0_ran) (y := 1) (a := n0_ran.toInt) (b := 1) rfl rfl (by omega) (by omega); omega)
        refine lv_iload hx hb dX5_call_107 (lv_at hl 1 rfl) ?_
        refine lv_if_ne (tgt := 128) hx hb dX5_call_109 (by decide) (fun _ => ?_) (fun c => absurd c (by decide))
        refine lv_aload_n hx hb dX5_call_128 rfl (lv_at hl 2 rfl) ?_
        refine lv_iload_n hx hb dX5_call_129 rfl (lv_at hl 3 rfl) ?_
        refine lv_iload hx hb dX5_call_130 (lv_at hl 1 rfl) ?_
        refine lv_iload hx hb dX5_call_132 (lv_at hl 0 rfl) ?_
        refine lv_iload hx hb dX5_call_134 (lv_at hl 6 rfl) ?_
        refine lv_iload hx hb dX5_call_136 (lv_at hl 7 rfl) ?_
        refine lv_iconst (v := 1) hx hb dX5_call_138 kk_ic_1 ?_
        refine lv_iadd hx hb dX5_call_139 ?_
        obtain ⟨hPc, hDc, hFc⟩ := kk_cutout (wc := [(h0, kO5 h1 n0_size h2 (n0_ran + 1)), (h1, kAi cint 50 f1), (h2, kAi cint 24 f2)]) hP hD hS hA [0, 1, 2] (by decide) rfl
        have hKc := kk_Ks (tq := [(cint, .int)]) hK [0] rfl
        refine va_calli (va_runV (As := [.int p0, .int 6, .int 70, .int p3, .int (p4 + 1)]) (rest := []) ⟨hx, hb, hml, hown, hts⟩ (g_X5_runUnder_10 l dC dI h0 h1 h2 cint H.size p0 p3 (p4 + 1) (by show 0 ≤ ((p4 + 1) : Int32).toInt ∧ ((p4 + 1) : Int32).toInt ≤ 22; first | with_reducible assumption | (constructor <;> (have := kk_add2 (x := n0_ran) (y := 1) (a := n0_ran.toInt) (b := 1) rfl rfl (by omega) (by omega); have := kk_add2 (x := p4) (y := 1) (a := p4.toInt) (b := 1) rfl rfl (by omega) (by omega); omega))) n0_size (n0_ran + 1) f1 f2 tn0_size (by show 0 ≤ ((n0_ran + 1) : Int32).toInt ∧ ((n0_ran + 1) : Int32).toInt ≤ 999; first | with_reducible assumption | (constructor <;> (have := kk_add2 (x := n0_ran) (y := 1) (a := n0_ran.toInt) (b := 1) rfl rfl (by omega) (by omega); have := kk_add2 (x := p4) (y := 1) (a := p4.toInt) (b := 1) rfl rfl (by omega) (by omega); omega))) bf1 (by show (0 ≤ (p0 : Int32).toInt ∧ (p0 : Int32).toInt < (n0_size : Int32).toInt); first | with_reducible assumption | (have := kk_add2 (x := n0_ran) (y := 1) (a := n0_ran.toInt) (b := 1) rfl rfl (by omega) (by omega); have := kk_add2 (x := p4) (y := 1) (a := p4.toInt) (b := 1) rfl rfl (by omega) (by omega); omega)) aABOVE aOWN_BODIES) (cwV 5 hts gX5_call_X5_runUnder rfl rfl rfl ⟨rfl, kh_X5_runUnder⟩ ⟨Nat.le_of_ble_eq_true rfl, Nat.le_of_ble_eq_true rfl⟩) ⟨fun a U g mk q => by obtain ⟨q0, q1, qP, qK, qD, qx0, qx1, qx2, qx3⟩ := q; exact ⟨q0, q1, qP, va_K.moved (u := U) (U := U.calling g mk a) (Vm.Alike.refl U.vm) qK, qD, va_Z.moved (u := U) (U := U.calling g mk a) (Vm.Alike.refl U.vm) qx0, va_T.moved (u := U) (U := U.calling g mk a) (Vm.Alike.refl U.vm) qx1, va_Z.moved (u := U) (U := U.calling g mk a) (Vm.Alike.refl U.vm) qx2, va_T.moved (u := U) (U := U.calling g mk a) (Vm.Alike.refl U.vm) qx3⟩, va_recv hKc hPc (ci := 5) (q0 := 0) rfl rfl, fun U hU hW => ⟨rfl, by rw [hU], by rw [hU]; exact hPc, va_K.moved hW.alike hKc, hDc.weaken (fun _ _ _ _ => trivial), by rw [hU]; exact ((hZABOVE.kept (fun a h1 h2 => hS.2.1 a h1 h2)).narrow hFc).moved hW.alike, by rw [hU]; exact ((hTABOVE.kept (fun a h1 h2 => hS.2.1 a h1 h2)).narrow hFc).moved hW.alike, by rw [hU]; exact ((hZOWN_BODIES.kept (fun a h1 h2 => hS.2.1 a h1 h2)).narrow hFc).moved hW.alike, by rw [hU]; exact ((hTOWN_BODIES.kept (fun a h1 h2 => hS.2.1 a h1 h2)).narrow hFc).moved hW.alike⟩⟩ rfl rfl hl.1 rfl (lv_room (Nat.le_of_ble_eq_true rfl)) dX5_call_140 ⟨Nat.le_of_ble_eq_true rfl, Nat.le_of_ble_eq_true rfl⟩) hS (fun q _ h => hFc q h) hFc (fun r_112 u t H1 locs ht hvm hw hB hz1 hk1 hS => ?_)
        obtain ⟨y_113, f_114, by_113, v_114_0, hn_114_0, hP1, hK1, hD1⟩ := hB
        have v_114_0 : y_113.toInt ≤ (n0_ran + 1).toInt + 1 := v_114_0
        have hn_114_0 : kk_P f2 f_114 (n0_ran + 1).toInt y_113.toInt ((kt_runs 6).tail) := hn_114_0
        rw [ht] at hP1
        have hK1 := va_K.moved hvm.symm hK1
        obtain ⟨hP, hD⟩ := va_join (wr := []) (w1 := [(h0, kO5 h1 n0_size h2 y_113), (h1, kAi cint 50 f1), (h2, kAi cint 24 f_114)]) hP hD [0, 1, 2] [] rfl rfl (by decide) (by decide) hk1 hFc hP1 hD1
        generalize H1 = H at hP hS ⊢
        have hP : va_P (dC, dI) vwCl [(h0, kO5 h1 n0_size h2 y_113), (h1, kAi cint 50 f1), (h2, kAi cint 24 f_114)] H := hP
        have hD : va_D A [(h0, kO5 h1 n0_size h2 y_113), (h1, kAi cint 50 f1), (h2, kAi cint 24 f_114)] := hD
        rcases hw with ⟨t_112_0, rfl⟩
        · skip
          have t_112_0 : ((p3 + 1) + p0) = kk_runs 6 p0 p3 := t_112_0
          obtain ⟨hP9, hD9⟩ := kk_leafout (wc := [(h0, kO5 h1 n0_size h2 y_113), (h1, kAi cint 50 f1), (h2, kAi cint 24 f_114)]) hP hD [0, 1, 2] (by decide) rfl
          have hK9 := kk_Ks (tq := []) hK [] rfl
          exact W.iret (v := ((p3 + 1) + p0)) hx hb hr (fun t ht hW => ⟨⟨((p3 + 1) + p0), (), rfl, ⟨(by first | rfl | (unfold kk_runs; (repeat' split) <;> first | rfl | (exfalso; have : (0 : Int32).toInt = 0 := rfl; have : (1 : Int32).toInt = 1 := rfl; have : (2 : Int32).toInt = 2 := rfl; have : (3 : Int32).toInt = 3 := rfl; have : (4 : Int32).toInt = 4 := rfl; have : (5 : Int32).toInt = 5 := rfl; have : (6 : Int32).toInt = 6 := rfl; have : (7 : Int32).toInt = 7 := rfl; have := kk_add2 (x := n0_ran) (y := 1) (a := n0_ran.toInt) (b := 1) rfl rfl (by omega) (by omega); have := kk_add2 (x := p4) (y := 1) (a := p4.toInt) (b := 1) rfl rfl (by omega) (by omega); omega))), trivial⟩, y_113, f_114, (by show 1 ≤ (y_113 : Int32).toInt ∧ (y_113 : Int32).toInt ≤ 1000; first | with_reducible assumption | (constructor <;> (have := kk_add2 (x := n0_ran) (y := 1) (a := n0_ran.toInt) (b := 1) rfl rfl (by omega) (by omega); have := kk_add2 (x := p4) (y := 1) (a := p4.toInt) (b := 1) rfl rfl (by omega) (by omega); omega))), (by show (y_113 : Int32).toInt ≤ (n0_ran : Int32).toInt + 3; first | with_reducible assumption | (have := kk_add2 (x := n0_ran) (y := 1) (a := n0_ran.toInt) (b := 1) rfl rfl (by omega) (by omega); have := kk_add2 (x := p4) (y := 1) (a := p4.toInt) (b := 1) rfl rfl (by omega) (by omega); omega)), (by first | exact kk_P_eq (kk_P_trans hp_111 hn_114_0) rfl | (unfold kt_runs; (repeat' split) <;> first | exact kk_P_eq (kk_P_trans hp_111 hn_114_0) rfl | (exfalso; have : (0 : Int32).toInt = 0 := rfl; have : (1 : Int32).toInt = 1 := rfl; have : (2 : Int32).toInt = 2 := rfl; have : (3 : Int32).toInt = 3 := rfl; have : (4 : Int32).toInt = 4 := rfl; have : (5 : Int32).toInt = 5 := rfl; have : (6 : Int32).toInt = 6 := rfl; have : (7 : Int32).toInt = 7 := rfl; have := kk_add2 (x := n0_ran) (y := 1) (a := n0_ran.toInt) (b := 1) rfl rfl (by omega) (by omega); have := kk_add2 (x := p4) (y := 1) (a := p4.toInt) (b := 1) rfl rfl (by omega) (by omega); omega))), by rw [ht]; exact hP9, va_K.moved hW.alike hK9, hD9⟩, hS.F ht⟩) hS.2.2 dX5_call_143
      · have t_110 : n0_ran.toInt < 24 := kk_nle c_110
        refine lv_aload_n hx hb dX5_call_86 rfl (lv_at hl 2 rfl) ?_
        refine va_get (D := (dC, dI)) (ci := 5) (v := .ref h2) (C := RX5) (T := TX5) (N := 4) hx hb hts (fun _ h => List.mem_cons_of_mem _ (List.mem_append_right _ h)) hown hK hP 0 rfl rfl 2 (by decide) (hts (.fieldLink RX5 15 "KinkStreet$Lines" "trace" "[I") (List.mem_of_getElem? (i := 4) rfl)) (fun _ h9 => h9) rfl dX5_call_87 ?_
        refine lv_aload_n hx hb dX5_call_90 rfl (lv_at hl 2 rfl) ?_
        refine va_get (D := (dC, dI)) (ci := 5) (v := .int n0_ran) (C := RX5) (T := TX5) (N := 4) hx hb hts (fun _ h => List.mem_cons_of_mem _ (List.mem_append_right _ h)) hown hK hP 0 rfl rfl 3 (by decide) (hts (.fieldLink RX5 36 "KinkStreet$Lines" "ran" "I") (List.mem_of_getElem? (i := 3) rfl)) (fun _ h9 => h9) rfl dX5_call_91 ?_
        refine lv_iload hx hb dX5_call_94 (lv_at hl 0 rfl) ?_
        refine va_iast hx hb hK hP hD hS 2 0 rfl rfl (vp_in_iff.mpr ⟨by omega, by omega⟩) dX5_call_96 (fun H locs hP hD hS => ?_)
        have w_115 : ((upd f2 (n0_ran : Int32).toNatClampNeg 70) (n0_ran : Int32).toNatClampNeg).toInt = (70 : Int32).toInt := by rw [kk_ups]
        have hP : va_P (dC, dI) vwCl [(h0, kO5 h1 n0_size h2 n0_ran), (h1, kAi cint 50 f1), (h2, kAi cint 24 (upd f2 (n0_ran : Int32).toNatClampNeg 70))] H := hP
        have hD : va_D A [(h0, kO5 h1 n0_size h2 n0_ran), (h1, kAi cint 50 f1), (h2, kAi cint 24 (upd f2 (n0_ran : Int32).toNatClampNeg 70))] := hD
        refine lv_aload_n hx hb dX5_call_97 rfl (lv_at hl 2 rfl) ?_
        refine lv_dup hx hb dX5_call_98 rfl ?_
        refine va_get (D := (dC, dI)) (ci := 5) (v := .int n0_ran) (C := RX5) (T := TX5) (N := 4) hx hb hts (fun _ h => List.mem_cons_of_mem _ (List.mem_append_right _ h)) hown hK hP 0 rfl rfl 3 (by decide) (hts (.fieldLink RX5 36 "KinkStreet$Lines" "ran" "I") (List.mem_of_getElem? (i := 3) rfl)) (fun _ h9 => h9) rfl dX5_call_99 ?_
        refine lv_iconst (v := 1) hx hb dX5_call_102 kk_ic_1 ?_
        refine lv_iadd hx hb dX5_call_103 ?_
        refine va_put (D := (dC, dI)) (ci := 5) (v := .int (n0_ran + 1)) (ty := .int) (C := RX5) (T := TX5) (N := 4) hx hb hts (fun _ h => List.mem_cons_of_mem _ (List.mem_append_right _ h)) tyX5 tyX5_ok nmX5 hown hK hP hD hS 0 rfl rfl 3 (by decide) (hts (.fieldLink RX5 36 "KinkStreet$Lines" "ran" "I") (List.mem_of_getElem? (i := 3) rfl)) (fun _ h9 => h9) rfl (by decide +kernel) rfl rfl (Nat.le_of_ble_eq_true rfl) dX5_call_104 (fun H locs hP hD hS => ?_)
        have hP : va_P (dC, dI) vwCl [(h0, kO5 h1 n0_size h2 (n0_ran + 1)), (h1, kAi cint 50 f1), (h2, kAi cint 24 (upd f2 (n0_ran : Int32).toNatClampNeg 70))] H := hP
        have hD : va_D A [(h0, kO5 h1 n0_size h2 (n0_ran + 1)), (h1, kAi cint 50 f1), (h2, kAi cint 24 (upd f2 (n0_ran : Int32).toNatClampNeg 70))] := hD
        have hp_116 : kk_P f2 (upd f2 (n0_ran : Int32).toNatClampNeg 70) n0_ran.toInt (n0_ran + 1 : Int32).toInt [70] := kk_P_one (by have := kk_add2 (x := n0_ran) (y := 1) (a := n0_ran.toInt) (b := 1) rfl rfl (by omega) (by omega); omega) (by have := kk_add2 (x := n0_ran) (y := 1) (a := n0_ran.toInt) (b := 1) rfl rfl (by omega) (by omega); omega)
        refine lv_iload hx hb dX5_call_107 (lv_at hl 1 rfl) ?_
        refine lv_if_ne (tgt := 128) hx hb dX5_call_109 (by decide) (fun _ => ?_) (fun c => absurd c (by decide))
        refine lv_aload_n hx hb dX5_call_128 rfl (lv_at hl 2 rfl) ?_
        refine lv_iload_n hx hb dX5_call_129 rfl (lv_at hl 3 rfl) ?_
        refine lv_iload hx hb dX5_call_130 (lv_at hl 1 rfl) ?_
        refine lv_iload hx hb dX5_call_132 (lv_at hl 0 rfl) ?_
        refine lv_iload hx hb dX5_call_134 (lv_at hl 6 rfl) ?_
        refine lv_iload hx hb dX5_call_136 (lv_at hl 7 rfl) ?_
        refine lv_iconst (v := 1) hx hb dX5_call_138 kk_ic_1 ?_
        refine lv_iadd hx hb dX5_call_139 ?_
        obtain ⟨hPc, hDc, hFc⟩ := kk_cutout (wc := [(h0, kO5 h1 n0_size h2 (n0_ran + 1)), (h1, kAi cint 50 f1), (h2, kAi cint 24 (upd f2 (n0_ran : Int32).toNatClampNeg 70))]) hP hD hS hA [0, 1, 2] (by decide) rfl
        have hKc := kk_Ks (tq := [(cint, .int)]) hK [0] rfl
        refine va_calli (va_runV (As := [.int p0, .int 6, .int 70, .int p3, .int (p4 + 1)]) (rest := []) ⟨hx, hb, hml, hown, hts⟩ (g_X5_runUnder_10 l dC dI h0 h1 h2 cint H.size p0 p3 (p4 + 1) (by show 0 ≤ ((p4 + 1) : Int32).toInt ∧ ((p4 + 1) : Int32).toInt ≤ 22; first | with_reducible assumption | (constructor <;> (have := kk_add2 (x := n0_ran) (y := 1) (a := n0_ran.toInt) (b := 1) rfl rfl (by omega) (by omega); have := kk_add2 (x := p4) (y := 1) (a := p4.toInt) (b := 1) rfl rfl (by omega) (by omega); omega))) n0_size (n0_ran + 1) f1 (upd f2 (n0_ran : Int32).toNatClampNeg 70) tn0_size (by show 0 ≤ ((n0_ran + 1) : Int32).toInt ∧ ((n0_ran + 1) : Int32).toInt ≤ 999; first | with_reducible assumption | (constructor <;> (have := kk_add2 (x := n0_ran) (y := 1) (a := n0_ran.toInt) (b := 1) rfl rfl (by omega) (by omega); have := kk_add2 (x := p4) (y := 1) (a := p4.toInt) (b := 1) rfl rfl (by omega) (by omega); omega))) bf1 (by show (0 ≤ (p0 : Int32).toInt ∧ (p0 : Int32).toInt < (n0_size : Int32).toInt); first | with_reducible assumption | (have := kk_add2 (x := n0_ran) (y := 1) (a := n0_ran.toInt) (b := 1) rfl rfl (by omega) (by omega); have := kk_add2 (x := p4) (y := 1) (a := p4.toInt) (b := 1) rfl rfl (by omega) (by omega); omega)) aABOVE aOWN_BODIES) (cwV 5 hts gX5_call_X5_runUnder rfl rfl rfl ⟨rfl, kh_X5_runUnder⟩ ⟨Nat.le_of_ble_eq_true rfl, Nat.le_of_ble_eq_true rfl⟩) ⟨fun a U g mk q => by obtain ⟨q0, q1, qP, qK, qD, qx0, qx1, qx2, qx3⟩ := q; exact ⟨q0, q1, qP, va_K.moved (u := U) (U := U.calling g mk a) (Vm.Alike.refl U.vm) qK, qD, va_Z.moved (u := U) (U := U.calling g mk a) (Vm.Alike.refl U.vm) qx0, va_T.moved (u := U) (U := U.calling g mk a) (Vm.Alike.refl U.vm) qx1, va_Z.moved (u := U) (U := U.calling g mk a) (Vm.Alike.refl U.vm) qx2, va_T.moved (u := U) (U := U.calling g mk a) (Vm.Alike.refl U.vm) qx3⟩, va_recv hKc hPc (ci := 5) (q0 := 0) rfl rfl, fun U hU hW => ⟨rfl, by rw [hU], by rw [hU]; exact hPc, va_K.moved hW.alike hKc, hDc.weaken (fun _ _ _ _ => trivial), by rw [hU]; exact ((hZABOVE.kept (fun a h1 h2 => hS.2.1 a h1 h2)).narrow hFc).moved hW.alike, by rw [hU]; exact ((hTABOVE.kept (fun a h1 h2 => hS.2.1 a h1 h2)).narrow hFc).moved hW.alike, by rw [hU]; exact ((hZOWN_BODIES.kept (fun a h1 h2 => hS.2.1 a h1 h2)).narrow hFc).moved hW.alike, by rw [hU]; exact ((hTOWN_BODIES.kept (fun a h1 h2 => hS.2.1 a h1 h2)).narrow hFc).moved hW.alike⟩⟩ rfl rfl hl.1 rfl (lv_room (Nat.le_of_ble_eq_true rfl)) dX5_call_140 ⟨Nat.le_of_ble_eq_true rfl, Nat.le_of_ble_eq_true rfl⟩) hS (fun q _ h => hFc q h) hFc (fun r_117 u t H1 locs ht hvm hw hB hz1 hk1 hS => ?_)
        obtain ⟨y_118, f_119, by_118, v_119_0, hn_119_0, hP1, hK1, hD1⟩ := hB
        have v_119_0 : y_118.toInt ≤ (n0_ran + 1).toInt + 1 := v_119_0
        have hn_119_0 : kk_P (upd f2 (n0_ran : Int32).toNatClampNeg 70) f_119 (n0_ran + 1).toInt y_118.toInt ((kt_runs 6).tail) := hn_119_0
        rw [ht] at hP1
        have hK1 := va_K.moved hvm.symm hK1
        obtain ⟨hP, hD⟩ := va_join (wr := []) (w1 := [(h0, kO5 h1 n0_size h2 y_118), (h1, kAi cint 50 f1), (h2, kAi cint 24 f_119)]) hP hD [0, 1, 2] [] rfl rfl (by decide) (by decide) hk1 hFc hP1 hD1
        generalize H1 = H at hP hS ⊢
        have hP : va_P (dC, dI) vwCl [(h0, kO5 h1 n0_size h2 y_118), (h1, kAi cint 50 f1), (h2, kAi cint 24 f_119)] H := hP
        have hD : va_D A [(h0, kO5 h1 n0_size h2 y_118), (h1, kAi cint 50 f1), (h2, kAi cint 24 f_119)] := hD
        rcases hw with ⟨t_117_0, rfl⟩
        · skip
          have t_117_0 : ((p3 + 1) + p0) = kk_runs 6 p0 p3 := t_117_0
          obtain ⟨hP9, hD9⟩ := kk_leafout (wc := [(h0, kO5 h1 n0_size h2 y_118), (h1, kAi cint 50 f1), (h2, kAi cint 24 f_119)]) hP hD [0, 1, 2] (by decide) rfl
          have hK9 := kk_Ks (tq := []) hK [] rfl
          exact W.iret (v := ((p3 + 1) + p0)) hx hb hr (fun t ht hW => ⟨⟨((p3 + 1) + p0), (), rfl, ⟨(by first | rfl | (unfold kk_runs; (repeat' split) <;> first | rfl | (exfalso; have : (0 : Int32).toInt = 0 := rfl; have : (1 : Int32).toInt = 1 := rfl; have : (2 : Int32).toInt = 2 := rfl; have : (3 : Int32).toInt = 3 := rfl; have : (4 : Int32).toInt = 4 := rfl; have : (5 : Int32).toInt = 5 := rfl; have : (6 : Int32).toInt = 6 := rfl; have : (7 : Int32).toInt = 7 := rfl; have := kk_add2 (x := n0_ran) (y := 1) (a := n0_ran.toInt) (b := 1) rfl rfl (by omega) (by omega); have := kk_add2 (x := p4) (y := 1) (a := p4.toInt) (b := 1) rfl rfl (by omega) (by omega); omega))), trivial⟩, y_118, f_119, (by show 1 ≤ (y_118 : Int32).toInt ∧ (y_118 : Int32).toInt ≤ 1000; first | with_reducible assumption | (constructor <;> (have := kk_add2 (x := n0_ran) (y := 1) (a := n0_ran.toInt) (b := 1) rfl rfl (by omega) (by omega); have := kk_add2 (x := p4) (y := 1) (a := p4.toInt) (b := 1) rfl rfl (by omega) (by omega); omega))), (by show (y_118 : Int32).toInt ≤ (n0_ran : Int32).toInt + 3; first | with_reducible assumption | (have := kk_add2 (x := n0_ran) (y := 1) (a := n0_ran.toInt) (b := 1) rfl rfl (by omega) (by omega); have := kk_add2 (x := p4) (y := 1) (a := p4.toInt) (b := 1) rfl rfl (by omega) (by omega); omega)), (by first | exact kk_P_eq (kk_P_trans hp_116 hn_119_0) rfl | (unfold kt_runs; (repeat' split) <;> first | exact kk_P_eq (kk_P_trans hp_116 hn_119_0) rfl | (exfalso; have : (0 : Int32).toInt = 0 := rfl; have : (1 : Int32).toInt = 1 := rfl; have : (2 : Int32).toInt = 2 := rfl; have : (3 : Int32).toInt = 3 := rfl; have : (4 : Int32).toInt = 4 := rfl; have : (5 : Int32).toInt = 5 := rfl; have : (6 : Int32).toInt = 6 := rfl; have : (7 : Int32).toInt = 7 := rfl; have := kk_add2 (x := n0_ran) (y := 1) (a := n0_ran.toInt) (b := 1) rfl rfl (by omega) (by omega); have := kk_add2 (x := p4) (y := 1) (a := p4.toInt) (b := 1) rfl rfl (by omega) (by omega); omega))), by rw [ht]; exact hP9, va_K.moved hW.alike hK9, hD9⟩, hS.F ht⟩) hS.2.2 dX5_call_143
    · have t_107 : 40 < p4.toInt := kk_nle c_107
      exfalso; omega
  · have t_1 : p1.toInt = 7 := by rw [e_1]; rfl
    subst e_1
    refine lv_iload_n hx hb dX5_call_0 rfl (lv_at hl 2 rfl) ?_
    refine lv_istore hx hb dX5_call_1 hl (by decide) (rfl : _ = ([(6, .int 7), (0, .ref h0), (1, .int p0), (2, .int 7), (3, .int 0), (4, .int p3), (5, .int p4)] : List (Nat × Value))) (fun ls hl => ?_)
    refine lv_iconst (v := 0) hx hb dX5_call_3 kk_ic_0 ?_
    refine lv_istore hx hb dX5_call_4 hl (by decide) (rfl : _ = ([(7, .int 0), (6, .int 7), (0, .ref h0), (1, .int p0), (2, .int 7), (3, .int 0), (4, .int p3), (5, .int p4)] : List (Nat × Value))) (fun ls hl => ?_)
    refine lv_iload hx hb dX5_call_6 (lv_at hl 0 rfl) ?_
    refine lv_bipush (v := 8) hx hb dX5_call_8 kk_bi_8 ?_
    refine lv_icmp_ge (tgt := 48) hx hb dX5_call_10 (by decide) (fun c => absurd c (by decide)) (fun _ => ?_)
    refine lv_iload hx hb dX5_call_13 (lv_at hl 1 rfl) ?_
    obtain ⟨hPc, hDc, hFc⟩ := kk_cutout (wc := []) hP hD hS hA [] (by decide) rfl
    have hKc := kk_Ks (tq := []) hK [] rfl
    refine va_calli (va_runS (As := [.int 7]) (rest := []) ⟨hx, hb, hml, hown, hts⟩ (g_X5_isKind_18 l dC dI s.heap.size) (va_cwS 1 hts gX5_call_X5_isKind rfl rfl rfl kh_X5_isKind ⟨Nat.le_of_ble_eq_true rfl, Nat.le_of_ble_eq_true rfl⟩) ⟨fun a U g mk q => by obtain ⟨q0, q1, qP, qK, qD⟩ := q; exact ⟨q0, q1, qP, va_K.moved (u := U) (U := U.calling g mk a) (Vm.Alike.refl U.vm) qK, qD⟩, fun U hU hW => ⟨rfl, by rw [hU], by rw [hU]; exact hPc, va_K.moved hW.alike hKc, hDc.weaken (fun _ _ _ _ => trivial)⟩⟩ rfl rfl hl.1 rfl (lv_room (Nat.le_of_ble_eq_true rfl)) dX5_call_15 ⟨Nat.le_of_ble_eq_true rfl, Nat.le_of_ble_eq_true rfl⟩) hS (fun q _ h => hFc q h) hFc (fun r_120 u t H1 locs ht hvm hw hB hz1 hk1 hS => ?_)
    obtain ⟨hP1, hK1, hD1⟩ := hB
    rw [ht] at hP1
    have hK1 := va_K.moved hvm.symm hK1
    obtain ⟨hP, hD⟩ := va_join (wr := [(h0, kO5 h1 n0_size h2 n0_ran), (h1, kAi cint 50 f1), (h2, kAi cint 24 f2)]) (w1 := []) hP hD [] [0, 1, 2] rfl rfl (by decide) (by decide) hk1 hFc hP1 hD1
    generalize H1 = H at hP hS ⊢
    have hP : va_P (dC, dI) vwCl [(h0, kO5 h1 n0_size h2 n0_ran), (h1, kAi cint 50 f1), (h2, kAi cint 24 f2)] H := hP
    have hD : va_D A [(h0, kO5 h1 n0_size h2 n0_ran), (h1, kAi cint 50 f1), (h2, kAi cint 24 f2)] := hD
    obtain rfl := hw
    refine lv_if_eq (tgt := 48) hx hb dX5_call_18 (by decide) (fun c => absurd c (by decide)) (fun _ => ?_)
    refine va_gets hx hb hZOWN_BODIES hS hown (hts (.fieldLink RX5 43 "KinkStreet$Lines" "OWN_BODIES" "[I") (List.mem_of_getElem? (i := 1) rfl)) (fun _ h9 => h9) dX5_call_21 ?_
    refine lv_iload hx hb dX5_call_24 (lv_at hl 1 rfl) ?_
    refine lv_iconst (v := 4) hx hb dX5_call_26 kk_ic_4 ?_
    refine lv_imul hx hb dX5_call_27 ?_
    refine lv_topi (fun y_121 e_121 => ?_)
    obtain rfl : y_121 = 28 := e_121.trans (by decide)
    refine lv_iload_n hx hb dX5_call_28 rfl (lv_at hl 5 rfl) ?_
    refine lv_iadd hx hb dX5_call_29 ?_
    refine lv_topi (fun y_122 e_122 => ?_)
    obtain rfl : y_122 = 28 := e_122.trans (by decide)
    refine va_ti (v := .int 80) hx hb hTOWN_BODIES hS (by unfold vp_in; decide) rfl dX5_call_30 ?_
    refine lv_if_ne (tgt := 48) hx hb dX5_call_31 (by decide) (fun _ => ?_) (fun c => absurd c (by decide))
    refine lv_iload hx hb dX5_call_48 (lv_at hl 1 rfl) ?_
    obtain ⟨hPc, hDc, hFc⟩ := kk_cutout (wc := []) hP hD hS hA [] (by decide) rfl
    have hKc := kk_Ks (tq := []) hK [] rfl
    refine va_calli (va_runS (As := [.int 7]) (rest := []) ⟨hx, hb, hml, hown, hts⟩ (g_X5_isKind_18 l dC dI H.size) (va_cwS 1 hts gX5_call_X5_isKind rfl rfl rfl kh_X5_isKind ⟨Nat.le_of_ble_eq_true rfl, Nat.le_of_ble_eq_true rfl⟩) ⟨fun a U g mk q => by obtain ⟨q0, q1, qP, qK, qD⟩ := q; exact ⟨q0, q1, qP, va_K.moved (u := U) (U := U.calling g mk a) (Vm.Alike.refl U.vm) qK, qD⟩, fun U hU hW => ⟨rfl, by rw [hU], by rw [hU]; exact hPc, va_K.moved hW.alike hKc, hDc.weaken (fun _ _ _ _ => trivial)⟩⟩ rfl rfl hl.1 rfl (lv_room (Nat.le_of_ble_eq_true rfl)) dX5_call_50 ⟨Nat.le_of_ble_eq_true rfl, Nat.le_of_ble_eq_true rfl⟩) hS (fun q _ h => hFc q h) hFc (fun r_123 u t H1 locs ht hvm hw hB hz1 hk1 hS => ?_)
    obtain ⟨hP1, hK1, hD1⟩ := hB
    rw [ht] at hP1
    have hK1 := va_K.moved hvm.symm hK1
    obtain ⟨hP, hD⟩ := va_join (wr := [(h0, kO5 h1 n0_size h2 n0_ran), (h1, kAi cint 50 f1), (h2, kAi cint 24 f2)]) (w1 := []) hP hD [] [0, 1, 2] rfl rfl (by decide) (by decide) hk1 hFc hP1 hD1
    generalize H1 = H at hP hS ⊢
    have hP : va_P (dC, dI) vwCl [(h0, kO5 h1 n0_size h2 n0_ran), (h1, kAi cint 50 f1), (h2, kAi cint 24 f2)] H := hP
    have hD : va_D A [(h0, kO5 h1 n0_size h2 n0_ran), (h1, kAi cint 50 f1), (h2, kAi cint 24 f2)] := hD
    obtain rfl := hw
    refine lv_if_eq (tgt := 63) hx hb dX5_call_53 (by decide) (fun c => absurd c (by decide)) (fun _ => ?_)
    refine lv_iload hx hb dX5_call_56 (lv_at hl 7 rfl) ?_
    refine lv_bipush (v := 40) hx hb dX5_call_58 kk_bi_40 ?_
    refine lv_icmp_le (tgt := 65) hx hb dX5_call_60 (by decide) (fun c_124 => ?_) (fun c_124 => ?_)
    · have t_124 : p4.toInt ≤ 40 := kk_le c_124
      refine va_gets hx hb hZOWN_BODIES hS hown (hts (.fieldLink RX5 43 "KinkStreet$Lines" "OWN_BODIES" "[I") (List.mem_of_getElem? (i := 1) rfl)) (fun _ h9 => h9) dX5_call_65 ?_
      refine lv_iload hx hb dX5_call_68 (lv_at hl 1 rfl) ?_
      refine lv_iconst (v := 4) hx hb dX5_call_70 kk_ic_4 ?_
      refine lv_imul hx hb dX5_call_71 ?_
      refine lv_topi (fun y_125 e_125 => ?_)
      obtain rfl : y_125 = 28 := e_125.trans (by decide)
      refine lv_iload_n hx hb dX5_call_72 rfl (lv_at hl 5 rfl) ?_
      refine lv_iadd hx hb dX5_call_73 ?_
      refine lv_topi (fun y_126 e_126 => ?_)
      obtain rfl : y_126 = 28 := e_126.trans (by decide)
      refine va_ti (v := .int 80) hx hb hTOWN_BODIES hS (by unfold vp_in; decide) rfl dX5_call_74 ?_
      refine lv_istore hx hb dX5_call_75 hl (by decide) (rfl : _ = ([(7, .int 80), (6, .int 7), (0, .ref h0), (1, .int p0), (2, .int 7), (3, .int 0), (4, .int p3), (5, .int p4)] : List (Nat × Value))) (fun ls hl => ?_)
      refine lv_aload_n hx hb dX5_call_77 rfl (lv_at hl 2 rfl) ?_
      refine va_get (D := (dC, dI)) (ci := 5) (v := .int n0_ran) (C := RX5) (T := TX5) (N := 4) hx hb hts (fun _ h => List.mem_cons_of_mem _ (List.mem_append_right _ h)) hown hK hP 0 rfl rfl 3 (by decide) (hts (.fieldLink RX5 36 "KinkStreet$Lines" "ran" "I") (List.mem_of_getElem? (i := 3) rfl)) (fun _ h9 => h9) rfl dX5_call_78 ?_
      refine lv_bipush (v := 24) hx hb dX5_call_81 kk_bi_24 ?_
      refine lv_icmp_ge (tgt := 97) hx hb dX5_call_83 (by decide) (fun c_127 => ?_) (fun c_127 => ?_)
      · have t_127 : 24 ≤ n0_ran.toInt := kk_le c_127
        refine lv_aload_n hx hb dX5_call_97 rfl (lv_at hl 2 rfl) ?_
        refine lv_dup hx hb dX5_call_98 rfl ?_
        refine va_get (D := (dC, dI)) (ci := 5) (v := .int n0_ran) (C := RX5) (T := TX5) (N := 4) hx hb hts (fun _ h => List.mem_cons_of_mem _ (List.mem_append_right _ h)) hown hK hP 0 rfl rfl 3 (by decide) (hts (.fieldLink RX5 36 "KinkStreet$Lines" "ran" "I") (List.mem_of_getElem? (i := 3) rfl)) (fun _ h9 => h9) rfl dX5_call_99 ?_
        refine lv_iconst (v := 1) hx hb dX5_call_102 kk_ic_1 ?_
        refine lv_iadd hx hb dX5_call_103 ?_
        refine va_put (D := (dC, dI)) (ci := 5) (v := .int (n0_ran + 1)) (ty := .int) (C := RX5) (T := TX5) (N := 4) hx hb hts (fun _ h => List.mem_cons_of_mem _ (List.mem_append_right _ h)) tyX5 tyX5_ok nmX5 hown hK hP hD hS 0 rfl rfl 3 (by decide) (hts (.fieldLink RX5 36 "KinkStreet$Lines" "ran" "I") (List.mem_of_getElem? (i := 3) rfl)) (fun _ h9 => h9) rfl (by decide +kernel) rfl rfl (Nat.le_of_ble_eq_true rfl) dX5_call_104 (fun H locs hP hD hS => ?_)
        have hP : va_P (dC, dI) vwCl [(h0, kO5 h1 n0_size h2 (n0_ran + 1)), (h1, kAi cint 50 f1), (h2, kAi cint 24 f2)] H := hP
        have hD : va_D A [(h0, kO5 h1 n0_size h2 (n0_ran + 1)), (h1, kAi cint 50 f1), (h2, kAi cint 24 f2)] := hD
        have hp_128 : kk_P f2 f2 n0_ran.toInt (n0_ran + 1 : Int32).toInt [80] := kk_P_out (by have := kk_add2 (x := n0_ran) (y := 1) (a := n0_ran.toInt) (b := 1) rfl rfl (by omega) (by omega); omega) (by have := kk_add2 (x := n0_ran) (y := 1) (a := n0_ran.toInt) (b := 1) rfl rfl (by omega) (by omega); omega)
        refine lv_iload hx hb dX5_call_107 (lv_at hl 1 rfl) ?_
        refine lv_if_ne (tgt := 128) hx hb dX5_call_109 (by decide) (fun _ => ?_) (fun c => absurd c (by decide))
        refine lv_aload_n hx hb dX5_call_128 rfl (lv_at hl 2 rfl) ?_
        refine lv_iload_n hx hb dX5_call_129 rfl (lv_at hl 3 rfl) ?_
        refine lv_iload hx hb dX5_call_130 (lv_at hl 1 rfl) ?_
        refine lv_iload hx hb dX5_call_132 (lv_at hl 0 rfl) ?_
        refine lv_iload hx hb dX5_call_134 (lv_at hl 6 rfl) ?_
        refine lv_iload hx hb dX5_call_136 (lv_at hl 7 rfl) ?_
        refine lv_iconst (v := 1) hx hb dX5_call_138 kk_ic_1 ?_
        refine lv_iadd hx hb dX5_call_139 ?_
        obtain ⟨hPc, hDc, hFc⟩ := kk_cutout (wc := [(h0, kO5 h1 n0_size h2 (n0_ran + 1)), (h1, kAi cint 50 f1), (h2, kAi cint 24 f2)]) hP hD hS hA [0, 1, 2] (by decide) rfl
        have hKc := kk_Ks (tq := [(cint, .int)]) hK [0] rfl
        refine va_calli (va_runV (As := [.int p0, .int 7, .int 80, .int p3, .int (p4 + 1)]) (rest := []) ⟨hx, hb, hml, hown, hts⟩ (g_X5_runUnder_11 l dC dI h0 h1 h2 cint H.size p0 p3 (p4 + 1) (by show 0 ≤ ((p4 + 1) : Int32).toInt ∧ ((p4 + 1) : Int32).toInt ≤ 21; first | with_reducible assumption | (constructor <;> (have := kk_add2 (x := n0_ran) (y := 1) (a := n0_ran.toInt) (b := 1) rfl rfl (by omega) (by omega); have := kk_add2 (x := p4) (y := 1) (a := p4.toInt) (b := 1) rfl rfl (by omega) (by omega); omega))) n0_size (n0_ran + 1) f1 f2 tn0_size (by show 0 ≤ ((n0_ran + 1) : Int32).toInt ∧ ((n0_ran + 1) : Int32).toInt ≤ 998; first | with_reducible assumption | (constructor <;> (have := kk_add2 (x := n0_ran) (y := 1) (a := n0_ran.toInt) (b := 1) rfl rfl (by omega) (by omega); have := kk_add2 (x := p4) (y := 1) (a := p4.toInt) (b := 1) rfl rfl (by omega) (by omega); omega))) bf1 (by show (0 ≤ (p0 : Int32).toInt ∧ (p0 : Int32).toInt < (n0_size : Int32).toInt); first | with_reducible assumption | (have := kk_add2 (x := n0_ran) (y := 1) (a := n0_ran.toInt) (b := 1) rfl rfl (by omega) (by omega); have := kk_add2 (x := p4) (y := 1) (a := p4.toInt) (b := 1) rfl rfl (by omega) (by omega); omega)) aABOVE aOWN_BODIES) (cwV 5 hts gX5_call_X5_runUnder rfl rfl rfl ⟨rfl, kh_X5_runUnder⟩ ⟨Nat.le_of_ble_eq_true rfl, Nat.le_of_ble_eq_true rfl⟩) ⟨fun a U g mk q => by obtain ⟨q0, q1, qP, qK, qD, qx0, qx1, qx2, qx3⟩ := q; exact ⟨q0, q1, qP, va_K.moved (u := U) (U := U.calling g mk a) (Vm.Alike.refl U.vm) qK, qD, va_Z.moved (u := U) (U := U.calling g mk a) (Vm.Alike.refl U.vm) qx0, va_T.moved (u := U) (U := U.calling g mk a) (Vm.Alike.refl U.vm) qx1, va_Z.moved (u := U) (U := U.calling g mk a) (Vm.Alike.refl U.vm) qx2, va_T.moved (u := U) (U := U.calling g mk a) (Vm.Alike.refl U.vm) qx3⟩, va_recv hKc hPc (ci := 5) (q0 := 0) rfl rfl, fun U hU hW => ⟨rfl, by rw [hU], by rw [hU]; exact hPc, va_K.moved hW.alike hKc, hDc.weaken (fun _ _ _ _ => trivial), by rw [hU]; exact ((hZABOVE.kept (fun a h1 h2 => hS.2.1 a h1 h2)).narrow hFc).moved hW.alike, by rw [hU]; exact ((hTABOVE.kept (fun a h1 h2 => hS.2.1 a h1 h2)).narrow hFc).moved hW.alike, by rw [hU]; exact ((hZOWN_BODIES.kept (fun a h1 h2 => hS.2.1 a h1 h2)).narrow hFc).moved hW.alike, by rw [hU]; exact ((hTOWN_BODIES.kept (fun a h1 h2 => hS.2.1 a h1 h2)).narrow hFc).moved hW.alike⟩⟩ rfl rfl hl.1 rfl (lv_room (Nat.le_of_ble_eq_true rfl)) dX5_call_140 ⟨Nat.le_of_ble_eq_true rfl, Nat.le_of_ble_eq_true rfl⟩) hS (fun q _ h => hFc q h) hFc (fun r_129 u t H1 locs ht hvm hw hB hz1 hk1 hS => ?_)
        obtain ⟨y_130, f_131, by_130, v_131_0, hn_131_0, hP1, hK1, hD1⟩ := hB
        have v_131_0 : y_130.toInt ≤ (n0_ran + 1).toInt + 2 := v_131_0
        have hn_131_0 : kk_P f2 f_131 (n0_ran + 1).toInt y_130.toInt ((kt_runs 7).tail) := hn_131_0
        rw [ht] at hP1
        have hK1 := va_K.moved hvm.symm hK1
        obtain ⟨hP, hD⟩ := va_join (wr := []) (w1 := [(h0, kO5 h1 n0_size h2 y_130), (h1, kAi cint 50 f1), (h2, kAi cint 24 f_131)]) hP hD [0, 1, 2] [] rfl rfl (by decide) (by decide) hk1 hFc hP1 hD1
        generalize H1 = H at hP hS ⊢
        have hP : va_P (dC, dI) vwCl [(h0, kO5 h1 n0_size h2 y_130), (h1, kAi cint 50 f1), (h2, kAi cint 24 f_131)] H := hP
        have hD : va_D A [(h0, kO5 h1 n0_size h2 y_130), (h1, kAi cint 50 f1), (h2, kAi cint 24 f_131)] := hD
        rcases hw with ⟨t_129_0, rfl⟩
        · skip
          have t_129_0 : (((p3 + p0) + 3) * 2) = kk_runs 7 p0 p3 := t_129_0
          obtain ⟨hP9, hD9⟩ := kk_leafout (wc := [(h0, kO5 h1 n0_size h2 y_130), (h1, kAi cint 50 f1), (h2, kAi cint 24 f_131)]) hP hD [0, 1, 2] (by decide) rfl
          have hK9 := kk_Ks (tq := []) hK [] rfl
          exact W.iret (v := (((p3 + p0) + 3) * 2)) hx hb hr (fun t ht hW => ⟨⟨(((p3 + p0) + 3) * 2), (), rfl, ⟨(by first | rfl | (unfold kk_runs; (repeat' split) <;> first | rfl | (exfalso; have : (0 : Int32).toInt = 0 := rfl; have : (1 : Int32).toInt = 1 := rfl; have : (2 : Int32).toInt = 2 := rfl; have : (3 : Int32).toInt = 3 := rfl; have : (4 : Int32).toInt = 4 := rfl; have : (5 : Int32).toInt = 5 := rfl; have : (6 : Int32).toInt = 6 := rfl; have : (7 : Int32).toInt = 7 := rfl; have := kk_add2 (x := n0_ran) (y := 1) (a := n0_ran.toInt) (b := 1) rfl rfl (by omega) (by omega); have := kk_add2 (x := p4) (y := 1) (a := p4.toInt) (b := 1) rfl rfl (by omega) (by omega); omega))), trivial⟩, y_130, f_131, (by show 1 ≤ (y_130 : Int32).toInt ∧ (y_130 : Int32).toInt ≤ 1000; first | with_reducible assumption | (constructor <;> (have := kk_add2 (x := n0_ran) (y := 1) (a := n0_ran.toInt) (b := 1) rfl rfl (by omega) (by omega); have := kk_add2 (x := p4) (y := 1) (a := p4.toInt) (b := 1) rfl rfl (by omega) (by omega); omega))), (by show (y_130 : Int32).toInt ≤ (n0_ran : Int32).toInt + 3; first | with_reducible assumption | (have := kk_add2 (x := n0_ran) (y := 1) (a := n0_ran.toInt) (b := 1) rfl rfl (by omega) (by omega); have := kk_add2 (x := p4) (y := 1) (a := p4.toInt) (b := 1) rfl rfl (by omega) (by omega); omega)), (by first | exact kk_P_eq (kk_P_trans hp_128 hn_131_0) rfl | (unfold kt_runs; (repeat' split) <;> first | exact kk_P_eq (kk_P_trans hp_128 hn_131_0) rfl | (exfalso; have : (0 : Int32).toInt = 0 := rfl; have : (1 : Int32).toInt = 1 := rfl; have : (2 : Int32).toInt = 2 := rfl; have : (3 : Int32).toInt = 3 := rfl; have : (4 : Int32).toInt = 4 := rfl; have : (5 : Int32).toInt = 5 := rfl; have : (6 : Int32).toInt = 6 := rfl; have : (7 : Int32).toInt = 7 := rfl; have := kk_add2 (x := n0_ran) (y := 1) (a := n0_ran.toInt) (b := 1) rfl rfl (by omega) (by omega); have := kk_add2 (x := p4) (y := 1) (a := p4.toInt) (b := 1) rfl rfl (by omega) (by omega); omega))), by rw [ht]; exact hP9, va_K.moved hW.alike hK9, hD9⟩, hS.F ht⟩) hS.2.2 dX5_call_143
      · have t_127 : n0_ran.toInt < 24 := kk_nle c_127
        refine lv_aload_n hx hb dX5_call_86 rfl (lv_at hl 2 rfl) ?_
        refine va_get (D := (dC, dI)) (ci := 5) (v := .ref h2) (C := RX5) (T := TX5) (N := 4) hx hb hts (fun _ h => List.mem_cons_of_mem _ (List.mem_append_right _ h)) hown hK hP 0 rfl rfl 2 (by decide) (hts (.fieldLink RX5 15 "KinkStreet$Lines" "trace" "[I") (List.mem_of_getElem? (i := 4) rfl)) (fun _ h9 => h9) rfl dX5_call_87 ?_
        refine lv_aload_n hx hb dX5_call_90 rfl (lv_at hl 2 rfl) ?_
        refine va_get (D := (dC, dI)) (ci := 5) (v := .int n0_ran) (C := RX5) (T := TX5) (N := 4) hx hb hts (fun _ h => List.mem_cons_of_mem _ (List.mem_append_right _ h)) hown hK hP 0 rfl rfl 3 (by decide) (hts (.fieldLink RX5 36 "KinkStreet$Lines" "ran" "I") (List.mem_of_getElem? (i := 3) rfl)) (fun _ h9 => h9) rfl dX5_call_91 ?_
        refine lv_iload hx hb dX5_call_94 (lv_at hl 0 rfl) ?_
        refine va_iast hx hb hK hP hD hS 2 0 rfl rfl (vp_in_iff.mpr ⟨by omega, by omega⟩) dX5_call_96 (fun H locs hP hD hS => ?_)
        have w_132 : ((upd f2 (n0_ran : Int32).toNatClampNeg 80) (n0_ran : Int32).toNatClampNeg).toInt = (80 : Int32).toInt := by rw [kk_ups]
        have hP : va_P (dC, dI) vwCl [(h0, kO5 h1 n0_size h2 n0_ran), (h1, kAi cint 50 f1), (h2, kAi cint 24 (upd f2 (n0_ran : Int32).toNatClampNeg 80))] H := hP
        have hD : va_D A [(h0, kO5 h1 n0_size h2 n0_ran), (h1, kAi cint 50 f1), (h2, kAi cint 24 (upd f2 (n0_ran : Int32).toNatClampNeg 80))] := hD
        refine lv_aload_n hx hb dX5_call_97 rfl (lv_at hl 2 rfl) ?_
        refine lv_dup hx hb dX5_call_98 rfl ?_
        refine va_get (D := (dC, dI)) (ci := 5) (v := .int n0_ran) (C := RX5) (T := TX5) (N := 4) hx hb hts (fun _ h => List.mem_cons_of_mem _ (List.mem_append_right _ h)) hown hK hP 0 rfl rfl 3 (by decide) (hts (.fieldLink RX5 36 "KinkStreet$Lines" "ran" "I") (List.mem_of_getElem? (i := 3) rfl)) (fun _ h9 => h9) rfl dX5_call_99 ?_
        refine lv_iconst (v := 1) hx hb dX5_call_102 kk_ic_1 ?_
        refine lv_iadd hx hb dX5_call_103 ?_
        refine va_put (D := (dC, dI)) (ci := 5) (v := .int (n0_ran + 1)) (ty := .int) (C := RX5) (T := TX5) (N := 4) hx hb hts (fun _ h => List.mem_cons_of_mem _ (List.mem_append_right _ h)) tyX5 tyX5_ok nmX5 hown hK hP hD hS 0 rfl rfl 3 (by decide) (hts (.fieldLink RX5 36 "KinkStreet$Lines" "ran" "I") (List.mem_of_getElem? (i := 3) rfl)) (fun _ h9 => h9) rfl (by decide +kernel) rfl rfl (Nat.le_of_ble_eq_true rfl) dX5_call_104 (fun H locs hP hD hS => ?_)
        have hP : va_P (dC, dI) vwCl [(h0, kO5 h1 n0_size h2 (n0_ran + 1)), (h1, kAi cint 50 f1), (h2, kAi cint 24 (upd f2 (n0_ran : Int32).toNatClampNeg 80))] H := hP
        have hD : va_D A [(h0, kO5 h1 n0_size h2 (n0_ran + 1)), (h1, kAi cint 50 f1), (h2, kAi cint 24 (upd f2 (n0_ran : Int32).toNatClampNeg 80))] := hD
        have hp_133 : kk_P f2 (upd f2 (n0_ran : Int32).toNatClampNeg 80) n0_ran.toInt (n0_ran + 1 : Int32).toInt [80] := kk_P_one (by have := kk_add2 (x := n0_ran) (y := 1) (a := n0_ran.toInt) (b := 1) rfl rfl (by omega) (by omega); omega) (by have := kk_add2 (x := n0_ran) (y := 1) (a := n0_ran.toInt) (b := 1) rfl rfl (by omega) (by omega); omega)
        refine lv_iload hx hb dX5_call_107 (lv_at hl 1 rfl) ?_
        refine lv_if_ne (tgt := 128) hx hb dX5_call_109 (by decide) (fun _ => ?_) (fun c => absurd c (by decide))
        refine lv_aload_n hx hb dX5_call_128 rfl (lv_at hl 2 rfl) ?_
        refine lv_iload_n hx hb dX5_call_129 rfl (lv_at hl 3 rfl) ?_
        refine lv_iload hx hb dX5_call_130 (lv_at hl 1 rfl) ?_
        refine lv_iload hx hb dX5_call_132 (lv_at hl 0 rfl) ?_
        refine lv_iload hx hb dX5_call_134 (lv_at hl 6 rfl) ?_
        refine lv_iload hx hb dX5_call_136 (lv_at hl 7 rfl) ?_
        refine lv_iconst (v := 1) hx hb dX5_call_138 kk_ic_1 ?_
        refine lv_iadd hx hb dX5_call_139 ?_
        obtain ⟨hPc, hDc, hFc⟩ := kk_cutout (wc := [(h0, kO5 h1 n0_size h2 (n0_ran + 1)), (h1, kAi cint 50 f1), (h2, kAi cint 24 (upd f2 (n0_ran : Int32).toNatClampNeg 80))]) hP hD hS hA [0, 1, 2] (by decide) rfl
        have hKc := kk_Ks (tq := [(cint, .int)]) hK [0] rfl
        refine va_calli (va_runV (As := [.int p0, .int 7, .int 80, .int p3, .int (p4 + 1)]) (rest := []) ⟨hx, hb, hml, hown, hts⟩ (g_X5_runUnder_11 l dC dI h0 h1 h2 cint H.size p0 p3 (p4 + 1) (by show 0 ≤ ((p4 + 1) : Int32).toInt ∧ ((p4 + 1) : Int32).toInt ≤ 21; first | with_reducible assumption | (constructor <;> (have := kk_add2 (x := n0_ran) (y := 1) (a := n0_ran.toInt) (b := 1) rfl rfl (by omega) (by omega); have := kk_add2 (x := p4) (y := 1) (a := p4.toInt) (b := 1) rfl rfl (by omega) (by omega); omega))) n0_size (n0_ran + 1) f1 (upd f2 (n0_ran : Int32).toNatClampNeg 80) tn0_size (by show 0 ≤ ((n0_ran + 1) : Int32).toInt ∧ ((n0_ran + 1) : Int32).toInt ≤ 998; first | with_reducible assumption | (constructor <;> (have := kk_add2 (x := n0_ran) (y := 1) (a := n0_ran.toInt) (b := 1) rfl rfl (by omega) (by omega); have := kk_add2 (x := p4) (y := 1) (a := p4.toInt) (b := 1) rfl rfl (by omega) (by omega); omega))) bf1 (by show (0 ≤ (p0 : Int32).toInt ∧ (p0 : Int32).toInt < (n0_size : Int32).toInt); first | with_reducible assumption | (have := kk_add2 (x := n0_ran) (y := 1) (a := n0_ran.toInt) (b := 1) rfl rfl (by omega) (by omega); have := kk_add2 (x := p4) (y := 1) (a := p4.toInt) (b := 1) rfl rfl (by omega) (by omega); omega)) aABOVE aOWN_BODIES) (cwV 5 hts gX5_call_X5_runUnder rfl rfl rfl ⟨rfl, kh_X5_runUnder⟩ ⟨Nat.le_of_ble_eq_true rfl, Nat.le_of_ble_eq_true rfl⟩) ⟨fun a U g mk q => by obtain ⟨q0, q1, qP, qK, qD, qx0, qx1, qx2, qx3⟩ := q; exact ⟨q0, q1, qP, va_K.moved (u := U) (U := U.calling g mk a) (Vm.Alike.refl U.vm) qK, qD, va_Z.moved (u := U) (U := U.calling g mk a) (Vm.Alike.refl U.vm) qx0, va_T.moved (u := U) (U := U.calling g mk a) (Vm.Alike.refl U.vm) qx1, va_Z.moved (u := U) (U := U.calling g mk a) (Vm.Alike.refl U.vm) qx2, va_T.moved (u := U) (U := U.calling g mk a) (Vm.Alike.refl U.vm) qx3⟩, va_recv hKc hPc (ci := 5) (q0 := 0) rfl rfl, fun U hU hW => ⟨rfl, by rw [hU], by rw [hU]; exact hPc, va_K.moved hW.alike hKc, hDc.weaken (fun _ _ _ _ => trivial), by rw [hU]; exact ((hZABOVE.kept (fun a h1 h2 => hS.2.1 a h1 h2)).narrow hFc).moved hW.alike, by rw [hU]; exact ((hTABOVE.kept (fun a h1 h2 => hS.2.1 a h1 h2)).narrow hFc).moved hW.alike, by rw [hU]; exact ((hZOWN_BODIES.kept (fun a h1 h2 => hS.2.1 a h1 h2)).narrow hFc).moved hW.alike, by rw [hU]; exact ((hTOWN_BODIES.kept (fun a h1 h2 => hS.2.1 a h1 h2)).narrow hFc).moved hW.alike⟩⟩ rfl rfl hl.1 rfl (lv_room (Nat.le_of_ble_eq_true rfl)) dX5_call_140 ⟨Nat.le_of_ble_eq_true rfl, Nat.le_of_ble_eq_true rfl⟩) hS (fun q _ h => hFc q h) hFc (fun r_134 u t H1 locs ht hvm hw hB hz1 hk1 hS => ?_)
        obtain ⟨y_135, f_136, by_135, v_136_0, hn_136_0, hP1, hK1, hD1⟩ := hB
        have v_136_0 : y_135.toInt ≤ (n0_ran + 1).toInt + 2 := v_136_0
        have hn_136_0 : kk_P (upd f2 (n0_ran : Int32).toNatClampNeg 80) f_136 (n0_ran + 1).toInt y_135.toInt ((kt_runs 7).tail) := hn_136_0
        rw [ht] at hP1
        have hK1 := va_K.moved hvm.symm hK1
        obtain ⟨hP, hD⟩ := va_join (wr := []) (w1 := [(h0, kO5 h1 n0_size h2 y_135), (h1, kAi cint 50 f1), (h2, kAi cint 24 f_136)]) hP hD [0, 1, 2] [] rfl rfl (by decide) (by decide) hk1 hFc hP1 hD1
        generalize H1 = H at hP hS ⊢
        have hP : va_P (dC, dI) vwCl [(h0, kO5 h1 n0_size h2 y_135), (h1, kAi cint 50 f1), (h2, kAi cint 24 f_136)] H := hP
        have hD : va_D A [(h0, kO5 h1 n0_size h2 y_135), (h1, kAi cint 50 f1), (h2, kAi cint 24 f_136)] := hD
        rcases hw with ⟨t_134_0, rfl⟩
        · skip
          have t_134_0 : (((p3 + p0) + 3) * 2) = kk_runs 7 p0 p3 := t_134_0
          obtain ⟨hP9, hD9⟩ := kk_leafout (wc := [(h0, kO5 h1 n0_size h2 y_135), (h1, kAi cint 50 f1), (h2, kAi cint 24 f_136)]) hP hD [0, 1, 2] (by decide) rfl
          have hK9 := kk_Ks (tq := []) hK [] rfl
          exact W.iret (v := (((p3 + p0) + 3) * 2)) hx hb hr (fun t ht hW => ⟨⟨(((p3 + p0) + 3) * 2), (), rfl, ⟨(by first | rfl | (unfold kk_runs; (repeat' split) <;> first | rfl | (exfalso; have : (0 : Int32).toInt = 0 := rfl; have : (1 : Int32).toInt = 1 := rfl; have : (2 : Int32).toInt = 2 := rfl; have : (3 : Int32).toInt = 3 := rfl; have : (4 : Int32).toInt = 4 := rfl; have : (5 : Int32).toInt = 5 := rfl; have : (6 : Int32).toInt = 6 := rfl; have : (7 : Int32).toInt = 7 := rfl; have := kk_add2 (x := n0_ran) (y := 1) (a := n0_ran.toInt) (b := 1) rfl rfl (by omega) (by omega); have := kk_add2 (x := p4) (y := 1) (a := p4.toInt) (b := 1) rfl rfl (by omega) (by omega); omega))), trivial⟩, y_135, f_136, (by show 1 ≤ (y_135 : Int32).toInt ∧ (y_135 : Int32).toInt ≤ 1000; first | with_reducible assumption | (constructor <;> (have := kk_add2 (x := n0_ran) (y := 1) (a := n0_ran.toInt) (b := 1) rfl rfl (by omega) (by omega); have := kk_add2 (x := p4) (y := 1) (a := p4.toInt) (b := 1) rfl rfl (by omega) (by omega); omega))), (by show (y_135 : Int32).toInt ≤ (n0_ran : Int32).toInt + 3; first | with_reducible assumption | (have := kk_add2 (x := n0_ran) (y := 1) (a := n0_ran.toInt) (b := 1) rfl rfl (by omega) (by omega); have := kk_add2 (x := p4) (y := 1) (a := p4.toInt) (b := 1) rfl rfl (by omega) (by omega); omega)), (by first | exact kk_P_eq (kk_P_trans hp_133 hn_136_0) rfl | (unfold kt_runs; (repeat' split) <;> first | exact kk_P_eq (kk_P_trans hp_133 hn_136_0) rfl | (exfalso; have : (0 : Int32).toInt = 0 := rfl; have : (1 : Int32).toInt = 1 := rfl; have : (2 : Int32).toInt = 2 := rfl; have : (3 : Int32).toInt = 3 := rfl; have : (4 : Int32).toInt = 4 := rfl; have : (5 : Int32).toInt = 5 := rfl; have : (6 : Int32).toInt = 6 := rfl; have : (7 : Int32).toInt = 7 := rfl; have := kk_add2 (x := n0_ran) (y := 1) (a := n0_ran.toInt) (b := 1) rfl rfl (by omega) (by omega); have := kk_add2 (x := p4) (y := 1) (a := p4.toInt) (b := 1) rfl rfl (by omega) (by omega); omega))), by rw [ht]; exact hP9, va_K.moved hW.alike hK9, hD9⟩, hS.F ht⟩) hS.2.2 dX5_call_143
    · have t_124 : 40 < p4.toInt := kk_nle c_124
      exfalso; omega
