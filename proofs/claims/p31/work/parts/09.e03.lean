set_option maxHeartbeats 4000000 in
set_option maxRecDepth 100000 in
theorem g_X5_runLine_5 (l : Launch) (dC : Nat → ClassId) (dI : Nat → Nat → Nat) (h0 : Nat) (h1 : Nat) (h2 : Nat) (cint : ClassId) (sz : Nat) (p0 : Int32) (p2 : Int32) (p3 : Int32) (tp3 : 0 ≤ p3.toInt ∧ p3.toInt ≤ 9) (n0_size : Int32) (n0_ran : Int32) (f1 : Nat → Int32) (f2 : Nat → Int32) (tn0_size : 0 ≤ n0_size.toInt ∧ n0_size.toInt ≤ 50) (tn0_ran : 0 ≤ n0_ran.toInt ∧ n0_ran.toInt ≤ 997) (bf1 : ∀ j, j < 50 → 0 ≤ (f1 j).toInt ∧ (f1 j).toInt ≤ 7) (pr0 : (0 ≤ p0.toInt ∧ p0.toInt < n0_size.toInt)) (aOWN_BODIES : Nat) (aABOVE : Nat) : Met l yX5_runLine wsX5_runLine ({ frames := 8, cells := 0, slots := 0, locals := 202 }) (va_Pc [.ref h0, .int p0, .int 10, .int p2, .int p3] (fun U => U.heap.size = sz ∧ va_P (dC, dI) vwCl [(h0, kO5 h1 n0_size h2 n0_ran), (h1, kAi cint 50 f1), (h2, kAi cint 24 f2)] U.heap ∧ va_K (dC, dI) vwCl [(cint, .int)] U ∧ va_D (fun _ => True) [(h0, kO5 h1 n0_size h2 n0_ran), (h1, kAi cint 50 f1), (h2, kAi cint 24 f2)] ∧ va_Z "KinkStreet$Lines" "OWN_BODIES" "[I" (.ref aOWN_BODIES) (va_A [(h0, kO5 h1 n0_size h2 n0_ran), (h1, kAi cint 50 f1), (h2, kAi cint 24 f2)] sz) U U.heap ∧ va_T .int aOWN_BODIES 32 tb_OWN_BODIES (va_A [(h0, kO5 h1 n0_size h2 n0_ran), (h1, kAi cint 50 f1), (h2, kAi cint 24 f2)] sz) U U.heap ∧ va_Z "KinkStreet$Lines" "ABOVE" "[I" (.ref aABOVE) (va_A [(h0, kO5 h1 n0_size h2 n0_ran), (h1, kAi cint 50 f1), (h2, kAi cint 24 f2)] sz) U U.heap ∧ va_T .int aABOVE 8 tb_ABOVE (va_A [(h0, kO5 h1 n0_size h2 n0_ran), (h1, kAi cint 50 f1), (h2, kAi cint 24 f2)] sz) U U.heap)) (va_Qi (fun (r : Int32) (_ : Unit) => r = kk_breaks (f1 (p0 : Int32).toNatClampNeg) 0 p0 p2 ∧ True) (fun (_ : Unit) t => ∃ (m0_ran : Int32) (g2 : Nat → Int32), (1 ≤ m0_ran.toInt ∧ m0_ran.toInt ≤ 1000) ∧ (m0_ran.toInt ≤ n0_ran.toInt + 3) ∧ (kk_P f2 g2 n0_ran.toInt m0_ran.toInt ((kt_breaks (f1 (p0 : Int32).toNatClampNeg) 0).tail)) ∧ va_P (dC, dI) vwCl [(h0, kO5 h1 n0_size h2 m0_ran), (h1, kAi cint 50 f1), (h2, kAi cint 24 g2)] t.heap ∧ va_K (dC, dI) vwCl [] t ∧ va_D (va_A [(h0, kO5 h1 n0_size h2 n0_ran), (h1, kAi cint 50 f1), (h2, kAi cint 24 f2)] sz) [(h0, kO5 h1 n0_size h2 m0_ran), (h1, kAi cint 50 f1), (h2, kAi cint 24 g2)]) (va_A [(h0, kO5 h1 n0_size h2 n0_ran), (h1, kAi cint 50 f1), (h2, kAi cint 24 f2)] sz)) 0 0 (va_A [(h0, kO5 h1 n0_size h2 n0_ran), (h1, kAi cint 50 f1), (h2, kAi cint 24 f2)] sz) := by
  refine Met.ofW (cc := cX5_runLine) (maxL := 6) (ret := (some .int)) (by decide) rfl ?_
  intro p e s m args below meth c s₁ B hml hv
  obtain ⟨rfl, hsz, hP, hK, hD0, hZOWN_BODIES, hTOWN_BODIES, hZABOVE, hTABOVE⟩ := hv
  have hx := B.exec
  have hb := B.bytes
  have hr := B.returns
  have hts := atoms_spec (ws := wsX5_runLine) B.pre
  have hown : s.vm.findClass RX5 = some m.cls := findClass_of_methodNamed B.named
  have hlocks := B.notSynchronized
  subst hsz
  have hD := hD0.self (sz := s.heap.size)
  generalize hAe : va_A [(h0, kO5 h1 n0_size h2 n0_ran), (h1, kAi cint 50 f1), (h2, kAi cint 24 f2)] s.heap.size = A at hD hZOWN_BODIES hTOWN_BODIES hZABOVE hTABOVE ⊢
  have hA : ∀ q : Nat, s.heap.size ≤ q → A q := fun q h => by rw [← hAe]; exact Or.inr h
  have hS : va_S A s.heap s.heap [] := va_S.rf
  have hP : va_P (dC, dI) vwCl [(h0, kO5 h1 n0_size h2 n0_ran), (h1, kAi cint 50 f1), (h2, kAi cint 24 f2)] s.heap := hP
  have hl := lv_entry ([.ref h0, .int p0, .int 10, .int p2, .int p3]) (n := 6) (Nat.le_of_ble_eq_true rfl)
  rw [lg_entry_eq]
  generalize (lg_sl ([.ref h0, .int p0, .int 10, .int p2, .int p3]) ++ List.replicate (6 - (lg_sl ([.ref h0, .int p0, .int 10, .int p2, .int p3])).length) Slot.unset).toArray = ls at hl ⊢
  have hl : lv_has ls 6 [(0, .ref h0), (1, .int p0), (2, .int 10), (3, .int p2), (4, .int p3)] := hl
  refine lv_aload_n hx hb dX5_runLine_0 rfl (lv_at hl 0 rfl) ?_
  refine lv_iload_n hx hb dX5_runLine_1 rfl (lv_at hl 1 rfl) ?_
  obtain ⟨hPc, hDc, hFc⟩ := kk_cutout (wc := [(h0, kO5 h1 n0_size h2 n0_ran), (h1, kAi cint 50 f1)]) hP hD hS hA [0, 1] (by decide) rfl
  have hKc := kk_Ks (tq := [(cint, .int)]) hK [0] rfl
  refine va_calli (va_runV (As := [.int p0]) (rest := []) ⟨hx, hb, hml, hown, hts⟩ (g_X5_kindOf_1 l dC dI h0 h1 h2 cint s.heap.size p0 n0_size n0_ran f1 tn0_size (by show 0 ≤ (n0_ran : Int32).toInt ∧ (n0_ran : Int32).toInt ≤ 1000; first | with_reducible assumption | (constructor <;> (omega))) bf1) (cwV 1 hts gX5_runLine_X5_kindOf rfl rfl rfl ⟨rfl, kh_X5_kindOf⟩ ⟨Nat.le_of_ble_eq_true rfl, Nat.le_of_ble_eq_true rfl⟩) ⟨fun a U g mk q => by obtain ⟨q0, q1, qP, qK, qD⟩ := q; exact ⟨q0, q1, qP, va_K.moved (u := U) (U := U.calling g mk a) (Vm.Alike.refl U.vm) qK, qD⟩, va_recv hKc hPc (ci := 5) (q0 := 0) rfl rfl, fun U hU hW => ⟨rfl, by rw [hU], by rw [hU]; exact hPc, va_K.moved hW.alike hKc, hDc.weaken (fun _ _ _ _ => trivial)⟩⟩ rfl rfl hl.1 rfl (lv_room (Nat.le_of_ble_eq_true rfl)) dX5_runLine_2 ⟨Nat.le_of_ble_eq_true rfl, Nat.le_of_ble_eq_true rfl⟩) hS (fun q _ h => hFc q h) hFc (fun r_1 u t H1 locs ht hvm hw hB hz1 hk1 hS => ?_)
  obtain ⟨hP1, hK1, hD1⟩ := hB
  rw [ht] at hP1
  have hK1 := va_K.moved hvm.symm hK1
  obtain ⟨hP, hD⟩ := va_join (wr := [(h2, kAi cint 24 f2)]) (w1 := [(h0, kO5 h1 n0_size h2 n0_ran), (h1, kAi cint 50 f1)]) hP hD [0, 1] [2] rfl rfl (by decide) (by decide) hk1 hFc hP1 hD1
  generalize H1 = H at hP hS ⊢
  have hP : va_P (dC, dI) vwCl [(h2, kAi cint 24 f2), (h0, kO5 h1 n0_size h2 n0_ran), (h1, kAi cint 50 f1)] H := hP
  have hD : va_D A [(h2, kAi cint 24 f2), (h0, kO5 h1 n0_size h2 n0_ran), (h1, kAi cint 50 f1)] := hD
  rcases hw with ⟨t_1_0, t_1_1, t_1_any⟩
  · skip
    have t_1_0 : ((0 ≤ p0.toInt ∧ p0.toInt < n0_size.toInt → r_1.toInt = (f1 (p0 : Int32).toNatClampNeg).toInt ∧ 0 ≤ (f1 (p0 : Int32).toNatClampNeg).toInt) ∧ (¬ (0 ≤ p0.toInt ∧ p0.toInt < n0_size.toInt) → r_1.toInt = -1)) := t_1_0
    have t_1_1 : (0 ≤ p0.toInt ∧ p0.toInt < n0_size.toInt → r_1 = (f1 (p0 : Int32).toNatClampNeg)) := t_1_1
    obtain rfl : r_1 = (f1 (p0 : Int32).toNatClampNeg) := t_1_1 (by omega)
    refine lv_istore hx hb dX5_runLine_5 hl (by decide) (rfl : _ = ([(5, .int (f1 (p0 : Int32).toNatClampNeg)), (0, .ref h0), (1, .int p0), (2, .int 10), (3, .int p2), (4, .int p3)] : List (Nat × Value))) (fun ls hl => ?_)
    refine lv_iload_n hx hb dX5_runLine_7 rfl (lv_at hl 3 rfl) ?_
    refine lv_lookup (tgt := 72) (off := 64) hx hb dX5_runLine_8 (by decide) (by decide) (by decide) ?_
    refine lv_aload_n hx hb dX5_runLine_72 rfl (lv_at hl 1 rfl) ?_
    refine lv_iload_n hx hb dX5_runLine_73 rfl (lv_at hl 2 rfl) ?_
    refine lv_iload hx hb dX5_runLine_74 (lv_at hl 0 rfl) ?_
    refine lv_iconst (v := 0) hx hb dX5_runLine_76 kk_ic_0 ?_
    refine lv_iload_n hx hb dX5_runLine_77 rfl (lv_at hl 4 rfl) ?_
    refine lv_iload hx hb dX5_runLine_78 (lv_at hl 5 rfl) ?_
    obtain ⟨hPc, hDc, hFc⟩ := kk_cutout (wc := [(h0, kO5 h1 n0_size h2 n0_ran), (h1, kAi cint 50 f1), (h2, kAi cint 24 f2)]) hP hD hS hA [1, 2, 0] (by decide) rfl
    have hKc := kk_Ks (tq := [(cint, .int)]) hK [0] rfl
    refine va_calli (va_runV (As := [.int p0, .int (f1 (p0 : Int32).toNatClampNeg), .int 0, .int p2, .int p3]) (rest := []) ⟨hx, hb, hml, hown, hts⟩ (g_X5_call_14 l dC dI h0 h1 h2 cint H.size p0 (f1 (p0 : Int32).toNatClampNeg) p2 p3 (by show 0 ≤ ((f1 (p0 : Int32).toNatClampNeg) : Int32).toInt ∧ ((f1 (p0 : Int32).toNatClampNeg) : Int32).toInt ≤ 7; first | with_reducible assumption | (constructor <;> (omega))) (by show 0 ≤ (p3 : Int32).toInt ∧ (p3 : Int32).toInt ≤ 20; first | with_reducible assumption | (constructor <;> (omega))) n0_size n0_ran f1 f2 tn0_size tn0_ran bf1 (by show (0 ≤ (p0 : Int32).toInt ∧ (p0 : Int32).toInt < (n0_size : Int32).toInt); first | with_reducible assumption | (omega)) aOWN_BODIES aABOVE) (cwV 5 hts gX5_runLine_X5_call rfl rfl rfl ⟨rfl, kh_X5_call⟩ ⟨Nat.le_of_ble_eq_true rfl, Nat.le_of_ble_eq_true rfl⟩) ⟨fun a U g mk q => by obtain ⟨q0, q1, qP, qK, qD, qx0, qx1, qx2, qx3⟩ := q; exact ⟨q0, q1, qP, va_K.moved (u := U) (U := U.calling g mk a) (Vm.Alike.refl U.vm) qK, qD, va_Z.moved (u := U) (U := U.calling g mk a) (Vm.Alike.refl U.vm) qx0, va_T.moved (u := U) (U := U.calling g mk a) (Vm.Alike.refl U.vm) qx1, va_Z.moved (u := U) (U := U.calling g mk a) (Vm.Alike.refl U.vm) qx2, va_T.moved (u := U) (U := U.calling g mk a) (Vm.Alike.refl U.vm) qx3⟩, va_recv hKc hPc (ci := 5) (q0 := 0) rfl rfl, fun U hU hW => ⟨rfl, by rw [hU], by rw [hU]; exact hPc, va_K.moved hW.alike hKc, hDc.weaken (fun _ _ _ _ => trivial), by rw [hU]; exact ((hZOWN_BODIES.kept (fun a h1 h2 => hS.2.1 a h1 h2)).narrow hFc).moved hW.alike, by rw [hU]; exact ((hTOWN_BODIES.kept (fun a h1 h2 => hS.2.1 a h1 h2)).narrow hFc).moved hW.alike, by rw [hU]; exact ((hZABOVE.kept (fun a h1 h2 => hS.2.1 a h1 h2)).narrow hFc).moved hW.alike, by rw [hU]; exact ((hTABOVE.kept (fun a h1 h2 => hS.2.1 a h1 h2)).narrow hFc).moved hW.alike⟩⟩ rfl rfl hl.1 rfl (lv_room (Nat.le_of_ble_eq_true rfl)) dX5_runLine_80 ⟨Nat.le_of_ble_eq_true rfl, Nat.le_of_ble_eq_true rfl⟩) hS (fun q _ h => hFc q h) hFc (fun r_2 u t H1 locs ht hvm hw hB hz1 hk1 hS => ?_)
    obtain ⟨y_3, f_4, by_3, v_4_0, hn_4_0, hP1, hK1, hD1⟩ := hB
    have v_4_0 : y_3.toInt ≤ n0_ran.toInt + 3 := v_4_0
    have hn_4_0 : kk_P f2 f_4 n0_ran.toInt y_3.toInt (kt_runs (f1 (p0 : Int32).toNatClampNeg)) := hn_4_0
    rw [ht] at hP1
    have hK1 := va_K.moved hvm.symm hK1
    obtain ⟨hP, hD⟩ := va_join (wr := []) (w1 := [(h0, kO5 h1 n0_size h2 y_3), (h1, kAi cint 50 f1), (h2, kAi cint 24 f_4)]) hP hD [1, 2, 0] [] rfl rfl (by decide) (by decide) hk1 hFc hP1 hD1
    generalize H1 = H at hP hS ⊢
    have hP : va_P (dC, dI) vwCl [(h0, kO5 h1 n0_size h2 y_3), (h1, kAi cint 50 f1), (h2, kAi cint 24 f_4)] H := hP
    have hD : va_D A [(h0, kO5 h1 n0_size h2 y_3), (h1, kAi cint 50 f1), (h2, kAi cint 24 f_4)] := hD
    rcases hw with ⟨t_2_0, _⟩
    · skip
      have t_2_0 : r_2 = kk_runs (f1 (p0 : Int32).toNatClampNeg) p0 p2 := t_2_0
      obtain rfl : r_2 = (kk_runs (f1 (p0 : Int32).toNatClampNeg) p0 p2) := t_2_0
      refine lv_iconst (v := 2) hx hb dX5_runLine_83 kk_ic_2 ?_
      refine lv_imul hx hb dX5_runLine_84 ?_
      obtain ⟨hP9, hD9⟩ := kk_leafout (wc := [(h0, kO5 h1 n0_size h2 y_3), (h1, kAi cint 50 f1), (h2, kAi cint 24 f_4)]) hP hD [0, 1, 2] (by decide) rfl
      have hK9 := kk_Ks (tq := []) hK [] rfl
      exact W.iret (v := ((kk_runs (f1 (p0 : Int32).toNatClampNeg) p0 p2) * 2)) hx hb hr (fun t ht hW => ⟨⟨((kk_runs (f1 (p0 : Int32).toNatClampNeg) p0 p2) * 2), (), rfl, ⟨(by first | rfl | (unfold kk_breaks; (repeat' split) <;> first | rfl | (exfalso; have : (0 : Int32).toInt = 0 := rfl; have : (1 : Int32).toInt = 1 := rfl; have : (2 : Int32).toInt = 2 := rfl; have : (3 : Int32).toInt = 3 := rfl; have : (4 : Int32).toInt = 4 := rfl; have : (5 : Int32).toInt = 5 := rfl; have : (6 : Int32).toInt = 6 := rfl; have : (7 : Int32).toInt = 7 := rfl; omega))), trivial⟩, y_3, f_4, (by show 1 ≤ (y_3 : Int32).toInt ∧ (y_3 : Int32).toInt ≤ 1000; first | with_reducible assumption | (constructor <;> (omega))), (by show (y_3 : Int32).toInt ≤ (n0_ran : Int32).toInt + 3; first | with_reducible assumption | (omega)), (by first | exact kk_P_eq hn_4_0 rfl | (unfold kt_breaks; (repeat' split) <;> first | exact kk_P_eq hn_4_0 rfl | (exfalso; have : (0 : Int32).toInt = 0 := rfl; have : (1 : Int32).toInt = 1 := rfl; have : (2 : Int32).toInt = 2 := rfl; have : (3 : Int32).toInt = 3 := rfl; have : (4 : Int32).toInt = 4 := rfl; have : (5 : Int32).toInt = 5 := rfl; have : (6 : Int32).toInt = 6 := rfl; have : (7 : Int32).toInt = 7 := rfl; omega))), by rw [ht]; exact hP9, va_K.moved hW.alike hK9, hD9⟩, hS.F ht⟩) hS.2.2 dX5_runLine_85
set_option maxHeartbeats 4000000 in
set_option maxRecDepth 100000 in
theorem g_X5_call_15 (l : Launch) (dC : Nat → ClassId) (dI : Nat → Nat → Nat) (h0 : Nat) (h1 : Nat) (h2 : Nat) (cint : ClassId) (sz : Nat) (p0 : Int32) (p3 : Int32) (p4 : Int32) (tp4 : 0 ≤ p4.toInt ∧ p4.toInt ≤ 8) (n0_size : Int32) (n0_ran : Int32) (f1 : Nat → Int32) (f2 : Nat → Int32) (tn0_size : 0 ≤ n0_size.toInt ∧ n0_size.toInt ≤ 50) (tn0_ran : 0 ≤ n0_ran.toInt ∧ n0_ran.toInt ≤ 996) (bf1 : ∀ j, j < 50 → 0 ≤ (f1 j).toInt ∧ (f1 j).toInt ≤ 7) (pr0 : (0 ≤ p0.toInt ∧ p0.toInt < n0_size.toInt)) (aOWN_BODIES : Nat) (aABOVE : Nat) : Met l yX5_call wsX5_call ({ frames := 9, cells := 0, slots := 0, locals := 227 }) (va_Pc [.ref h0, .int p0, .int 0, .int 1, .int p3, .int p4] (fun U => U.heap.size = sz ∧ va_P (dC, dI) vwCl [(h0, kO5 h1 n0_size h2 n0_ran), (h1, kAi cint 50 f1), (h2, kAi cint 24 f2)] U.heap ∧ va_K (dC, dI) vwCl [(cint, .int)] U ∧ va_D (fun _ => True) [(h0, kO5 h1 n0_size h2 n0_ran), (h1, kAi cint 50 f1), (h2, kAi cint 24 f2)] ∧ va_Z "KinkStreet$Lines" "OWN_BODIES" "[I" (.ref aOWN_BODIES) (va_A [(h0, kO5 h1 n0_size h2 n0_ran), (h1, kAi cint 50 f1), (h2, kAi cint 24 f2)] sz) U U.heap ∧ va_T .int aOWN_BODIES 32 tb_OWN_BODIES (va_A [(h0, kO5 h1 n0_size h2 n0_ran), (h1, kAi cint 50 f1), (h2, kAi cint 24 f2)] sz) U U.heap ∧ va_Z "KinkStreet$Lines" "ABOVE" "[I" (.ref aABOVE) (va_A [(h0, kO5 h1 n0_size h2 n0_ran), (h1, kAi cint 50 f1), (h2, kAi cint 24 f2)] sz) U U.heap ∧ va_T .int aABOVE 8 tb_ABOVE (va_A [(h0, kO5 h1 n0_size h2 n0_ran), (h1, kAi cint 50 f1), (h2, kAi cint 24 f2)] sz) U U.heap)) (va_Qi (fun (r : Int32) (_ : Unit) => r = kk_breaks (f1 (p0 : Int32).toNatClampNeg) 0 p0 p3 ∧ True) (fun (_ : Unit) t => ∃ (m0_ran : Int32) (g2 : Nat → Int32), (1 ≤ m0_ran.toInt ∧ m0_ran.toInt ≤ 1000) ∧ (m0_ran.toInt ≤ n0_ran.toInt + 4) ∧ (kk_P f2 g2 n0_ran.toInt m0_ran.toInt (kt_breaks (f1 (p0 : Int32).toNatClampNeg) 0)) ∧ va_P (dC, dI) vwCl [(h0, kO5 h1 n0_size h2 m0_ran), (h1, kAi cint 50 f1), (h2, kAi cint 24 g2)] t.heap ∧ va_K (dC, dI) vwCl [] t ∧ va_D (va_A [(h0, kO5 h1 n0_size h2 n0_ran), (h1, kAi cint 50 f1), (h2, kAi cint 24 f2)] sz) [(h0, kO5 h1 n0_size h2 m0_ran), (h1, kAi cint 50 f1), (h2, kAi cint 24 g2)]) (va_A [(h0, kO5 h1 n0_size h2 n0_ran), (h1, kAi cint 50 f1), (h2, kAi cint 24 f2)] sz)) 0 0 (va_A [(h0, kO5 h1 n0_size h2 n0_ran), (h1, kAi cint 50 f1), (h2, kAi cint 24 f2)] sz) := by
  refine Met.ofW (cc := cX5_call) (maxL := 8) (ret := (some .int)) (by decide) rfl ?_
  intro p e s m args below meth c s₁ B hml hv
  obtain ⟨rfl, hsz, hP, hK, hD0, hZOWN_BODIES, hTOWN_BODIES, hZABOVE, hTABOVE⟩ := hv
  have hx := B.exec
  have hb := B.bytes
  have hr := B.returns
  have hts := atoms_spec (ws := wsX5_call) B.pre
  have hown : s.vm.findClass RX5 = some m.cls := findClass_of_methodNamed B.named
  have hlocks := B.notSynchronized
  subst hsz
  have hD := hD0.self (sz := s.heap.size)
  generalize hAe : va_A [(h0, kO5 h1 n0_size h2 n0_ran), (h1, kAi cint 50 f1), (h2, kAi cint 24 f2)] s.heap.size = A at hD hZOWN_BODIES hTOWN_BODIES hZABOVE hTABOVE ⊢
  have hA : ∀ q : Nat, s.heap.size ≤ q → A q := fun q h => by rw [← hAe]; exact Or.inr h
  have hS : va_S A s.heap s.heap [] := va_S.rf
  have hP : va_P (dC, dI) vwCl [(h0, kO5 h1 n0_size h2 n0_ran), (h1, kAi cint 50 f1), (h2, kAi cint 24 f2)] s.heap := hP
  have hl := lv_entry ([.ref h0, .int p0, .int 0, .int 1, .int p3, .int p4]) (n := 8) (Nat.le_of_ble_eq_true rfl)
  rw [lg_entry_eq]
  generalize (lg_sl ([.ref h0, .int p0, .int 0, .int 1, .int p3, .int p4]) ++ List.replicate (8 - (lg_sl ([.ref h0, .int p0, .int 0, .int 1, .int p3, .int p4])).length) Slot.unset).toArray = ls at hl ⊢
  have hl : lv_has ls 8 [(0, .ref h0), (1, .int p0), (2, .int 0), (3, .int 1), (4, .int p3), (5, .int p4)] := hl
  refine lv_iload_n hx hb dX5_call_0 rfl (lv_at hl 2 rfl) ?_
  refine lv_istore hx hb dX5_call_1 hl (by decide) (rfl : _ = ([(6, .int 0), (0, .ref h0), (1, .int p0), (2, .int 0), (3, .int 1), (4, .int p3), (5, .int p4)] : List (Nat × Value))) (fun ls hl => ?_)
  refine lv_iconst (v := 0) hx hb dX5_call_3 kk_ic_0 ?_
  refine lv_istore hx hb dX5_call_4 hl (by decide) (rfl : _ = ([(7, .int 0), (6, .int 0), (0, .ref h0), (1, .int p0), (2, .int 0), (3, .int 1), (4, .int p3), (5, .int p4)] : List (Nat × Value))) (fun ls hl => ?_)
  refine lv_iload hx hb dX5_call_6 (lv_at hl 0 rfl) ?_
  refine lv_bipush (v := 8) hx hb dX5_call_8 kk_bi_8 ?_
  refine lv_icmp_ge (tgt := 48) hx hb dX5_call_10 (by decide) (fun c => absurd c (by decide)) (fun _ => ?_)
  refine lv_iload hx hb dX5_call_13 (lv_at hl 1 rfl) ?_
  obtain ⟨hPc, hDc, hFc⟩ := kk_cutout (wc := []) hP hD hS hA [] (by decide) rfl
  have hKc := kk_Ks (tq := []) hK [] rfl
  refine va_calli (va_runS (As := [.int 0]) (rest := []) ⟨hx, hb, hml, hown, hts⟩ (g_X5_isKind_11 l dC dI s.heap.size) (va_cwS 1 hts gX5_call_X5_isKind rfl rfl rfl kh_X5_isKind ⟨Nat.le_of_ble_eq_true rfl, Nat.le_of_ble_eq_true rfl⟩) ⟨fun a U g mk q => by obtain ⟨q0, q1, qP, qK, qD⟩ := q; exact ⟨q0, q1, qP, va_K.moved (u := U) (U := U.calling g mk a) (Vm.Alike.refl U.vm) qK, qD⟩, fun U hU hW => ⟨rfl, by rw [hU], by rw [hU]; exact hPc, va_K.moved hW.alike hKc, hDc.weaken (fun _ _ _ _ => trivial)⟩⟩ rfl rfl hl.1 rfl (lv_room (Nat.le_of_ble_eq_true rfl)) dX5_call_15 ⟨Nat.le_of_ble_eq_true rfl, Nat.le_of_ble_eq_true rfl⟩) hS (fun q _ h => hFc q h) hFc (fun r_1 u t H1 locs ht hvm hw hB hz1 hk1 hS => ?_)
  obtain ⟨hP1, hK1, hD1⟩ := hB
  rw [ht] at hP1
  have hK1 := va_K.moved hvm.symm hK1
  obtain ⟨hP, hD⟩ := va_join (wr := [(h0, kO5 h1 n0_size h2 n0_ran), (h1, kAi cint 50 f1), (h2, kAi cint 24 f2)]) (w1 := []) hP hD [] [0, 1, 2] rfl rfl (by decide) (by decide) hk1 hFc hP1 hD1
  generalize H1 = H at hP hS ⊢
  have hP : va_P (dC, dI) vwCl [(h0, kO5 h1 n0_size h2 n0_ran), (h1, kAi cint 50 f1), (h2, kAi cint 24 f2)] H := hP
  have hD : va_D A [(h0, kO5 h1 n0_size h2 n0_ran), (h1, kAi cint 50 f1), (h2, kAi cint 24 f2)] := hD
  obtain rfl := hw
  refine lv_if_eq (tgt := 48) hx hb dX5_call_18 (by decide) (fun c => absurd c (by decide)) (fun _ => ?_)
  refine va_gets hx hb hZOWN_BODIES hS hown (hts (.fieldLink RX5 43 "KinkStreet$Lines" "OWN_BODIES" "[I") (List.mem_of_getElem? (i := 1) rfl)) (fun _ h9 => h9) dX5_call_21 ?_
  refine lv_iload hx hb dX5_call_24 (lv_at hl 1 rfl) ?_
  refine lv_iconst (v := 4) hx hb dX5_call_26 kk_ic_4 ?_
  refine lv_imul hx hb dX5_call_27 ?_
  refine lv_topi (fun y_2 e_2 => ?_)
  obtain rfl : y_2 = 0 := e_2.trans (by decide)
  refine lv_iload_n hx hb dX5_call_28 rfl (lv_at hl 5 rfl) ?_
  refine lv_iadd hx hb dX5_call_29 ?_
  refine lv_topi (fun y_3 e_3 => ?_)
  obtain rfl : y_3 = 1 := e_3.trans (by decide)
  refine va_ti (v := .int 10) hx hb hTOWN_BODIES hS (by unfold vp_in; decide) rfl dX5_call_30 ?_
  refine lv_if_ne (tgt := 48) hx hb dX5_call_31 (by decide) (fun _ => ?_) (fun c => absurd c (by decide))
  refine lv_iload hx hb dX5_call_48 (lv_at hl 1 rfl) ?_
  obtain ⟨hPc, hDc, hFc⟩ := kk_cutout (wc := []) hP hD hS hA [] (by decide) rfl
  have hKc := kk_Ks (tq := []) hK [] rfl
  refine va_calli (va_runS (As := [.int 0]) (rest := []) ⟨hx, hb, hml, hown, hts⟩ (g_X5_isKind_11 l dC dI H.size) (va_cwS 1 hts gX5_call_X5_isKind rfl rfl rfl kh_X5_isKind ⟨Nat.le_of_ble_eq_true rfl, Nat.le_of_ble_eq_true rfl⟩) ⟨fun a U g mk q => by obtain ⟨q0, q1, qP, qK, qD⟩ := q; exact ⟨q0, q1, qP, va_K.moved (u := U) (U := U.calling g mk a) (Vm.Alike.refl U.vm) qK, qD⟩, fun U hU hW => ⟨rfl, by rw [hU], by rw [hU]; exact hPc, va_K.moved hW.alike hKc, hDc.weaken (fun _ _ _ _ => trivial)⟩⟩ rfl rfl hl.1 rfl (lv_room (Nat.le_of_ble_eq_true rfl)) dX5_call_50 ⟨Nat.le_of_ble_eq_true rfl, Nat.le_of_ble_eq_true rfl⟩) hS (fun q _ h => hFc q h) hFc (fun r_4 u t H1 locs ht hvm hw hB hz1 hk1 hS => ?_)
  obtain ⟨hP1, hK1, hD1⟩ := hB
  rw [ht] at hP1
  have hK1 := va_K.moved hvm.symm hK1
  obtain ⟨hP, hD⟩ := va_join (wr := [(h0, kO5 h1 n0_size h2 n0_ran), (h1, kAi cint 50 f1), (h2, kAi cint 24 f2)]) (w1 := []) hP hD [] [0, 1, 2] rfl rfl (by decide) (by decide) hk1 hFc hP1 hD1
  generalize H1 = H at hP hS ⊢
  have hP : va_P (dC, dI) vwCl [(h0, kO5 h1 n0_size h2 n0_ran), (h1, kAi cint 50 f1), (h2, kAi cint 24 f2)] H := hP
  have hD : va_D A [(h0, kO5 h1 n0_size h2 n0_ran), (h1, kAi cint 50 f1), (h2, kAi cint 24 f2)] := hD
  obtain rfl := hw
  refine lv_if_eq (tgt := 63) hx hb dX5_call_53 (by decide) (fun c => absurd c (by decide)) (fun _ => ?_)
  refine lv_iload hx hb dX5_call_56 (lv_at hl 7 rfl) ?_
  refine lv_bipush (v := 40) hx hb dX5_call_58 kk_bi_40 ?_
  refine lv_icmp_le (tgt := 65) hx hb dX5_call_60 (by decide) (fun c_5 => ?_) (fun c_5 => ?_)
  · have t_5 : p4.toInt ≤ 40 := kk_le c_5
    refine va_gets hx hb hZOWN_BODIES hS hown (hts (.fieldLink RX5 43 "KinkStreet$Lines" "OWN_BODIES" "[I") (List.mem_of_getElem? (i := 1) rfl)) (fun _ h9 => h9) dX5_call_65 ?_
    refine lv_iload hx hb dX5_call_68 (lv_at hl 1 rfl) ?_
    refine lv_iconst (v := 4) hx hb dX5_call_70 kk_ic_4 ?_
    refine lv_imul hx hb dX5_call_71 ?_
    refine lv_topi (fun y_6 e_6 => ?_)
    obtain rfl : y_6 = 0 := e_6.trans (by decide)
    refine lv_iload_n hx hb dX5_call_72 rfl (lv_at hl 5 rfl) ?_
    refine lv_iadd hx hb dX5_call_73 ?_
    refine lv_topi (fun y_7 e_7 => ?_)
    obtain rfl : y_7 = 1 := e_7.trans (by decide)
    refine va_ti (v := .int 10) hx hb hTOWN_BODIES hS (by unfold vp_in; decide) rfl dX5_call_74 ?_
    refine lv_istore hx hb dX5_call_75 hl (by decide) (rfl : _ = ([(7, .int 10), (6, .int 0), (0, .ref h0), (1, .int p0), (2, .int 0), (3, .int 1), (4, .int p3), (5, .int p4)] : List (Nat × Value))) (fun ls hl => ?_)
    refine lv_aload_n hx hb dX5_call_77 rfl (lv_at hl 2 rfl) ?_
    refine va_get (D := (dC, dI)) (ci := 5) (v := .int n0_ran) (C := RX5) (T := TX5) (N := 4) hx hb hts (fun _ h => List.mem_cons_of_mem _ (List.mem_append_right _ h)) hown hK hP 0 rfl rfl 3 (by decide) (hts (.fieldLink RX5 36 "KinkStreet$Lines" "ran" "I") (List.mem_of_getElem? (i := 3) rfl)) (fun _ h9 => h9) rfl dX5_call_78 ?_
    refine lv_bipush (v := 24) hx hb dX5_call_81 kk_bi_24 ?_
    refine lv_icmp_ge (tgt := 97) hx hb dX5_call_83 (by decide) (fun c_8 => ?_) (fun c_8 => ?_)
    · have t_8 : 24 ≤ n0_ran.toInt := kk_le c_8
      refine lv_aload_n hx hb dX5_call_97 rfl (lv_at hl 2 rfl) ?_
      refine lv_dup hx hb dX5_call_98 rfl ?_
      refine va_get (D := (dC, dI)) (ci := 5) (v := .int n0_ran) (C := RX5) (T := TX5) (N := 4) hx hb hts (fun _ h => List.mem_cons_of_mem _ (List.mem_append_right _ h)) hown hK hP 0 rfl rfl 3 (by decide) (hts (.fieldLink RX5 36 "KinkStreet$Lines" "ran" "I") (List.mem_of_getElem? (i := 3) rfl)) (fun _ h9 => h9) rfl dX5_call_99 ?_
      refine lv_iconst (v := 1) hx hb dX5_call_102 kk_ic_1 ?_
      refine lv_iadd hx hb dX5_call_103 ?_
      refine va_put (D := (dC, dI)) (ci := 5) (v := .int (n0_ran + 1)) (ty := .int) (C := RX5) (T := TX5) (N := 4) hx hb hts (fun _ h => List.mem_cons_of_mem _ (List.mem_append_right _ h)) tyX5 tyX5_ok nmX5 hown hK hP hD hS 0 rfl rfl 3 (by decide) (hts (.fieldLink RX5 36 "KinkStreet$Lines" "ran" "I") (List.mem_of_getElem? (i := 3) rfl)) (fun _ h9 => h9) rfl (by decide +kernel) rfl rfl (Nat.le_of_ble_eq_true rfl) dX5_call_104 (fun H locs hP hD hS => ?_)
      have hP : va_P (dC, dI) vwCl [(h0, kO5 h1 n0_size h2 (n0_ran + 1)), (h1, kAi cint 50 f1), (h2, kAi cint 24 f2)] H := hP
      have hD : va_D A [(h0, kO5 h1 n0_size h2 (n0_ran + 1)), (h1, kAi cint 50 f1), (h2, kAi cint 24 f2)] := hD
      have hp_9 : kk_P f2 f2 n0_ran.toInt (n0_ran + 1 : Int32).toInt [10] := kk_P_out (by have := kk_add2 (x := n0_ran) (y := 1) (a := n0_ran.toInt) (b := 1) rfl rfl (by omega) (by omega); omega) (by have := kk_add2 (x := n0_ran) (y := 1) (a := n0_ran.toInt) (b := 1) rfl rfl (by omega) (by omega); omega)
      refine lv_iload hx hb dX5_call_107 (lv_at hl 1 rfl) ?_
      refine lv_if_ne (tgt := 128) hx hb dX5_call_109 (by decide) (fun c => absurd c (by decide)) (fun _ => ?_)
      refine lv_aload_n hx hb dX5_call_112 rfl (lv_at hl 2 rfl) ?_
      refine lv_iload_n hx hb dX5_call_113 rfl (lv_at hl 3 rfl) ?_
      refine lv_iload hx hb dX5_call_114 (lv_at hl 0 rfl) ?_
      refine lv_iload hx hb dX5_call_116 (lv_at hl 6 rfl) ?_
      refine lv_iload hx hb dX5_call_118 (lv_at hl 7 rfl) ?_
      refine lv_iconst (v := 1) hx hb dX5_call_120 kk_ic_1 ?_
      refine lv_iadd hx hb dX5_call_121 ?_
      obtain ⟨hPc, hDc, hFc⟩ := kk_cutout (wc := [(h0, kO5 h1 n0_size h2 (n0_ran + 1)), (h1, kAi cint 50 f1), (h2, kAi cint 24 f2)]) hP hD hS hA [0, 1, 2] (by decide) rfl
      have hKc := kk_Ks (tq := [(cint, .int)]) hK [0] rfl
      refine va_calli (va_runV (As := [.int p0, .int 10, .int p3, .int (p4 + 1)]) (rest := []) ⟨hx, hb, hml, hown, hts⟩ (g_X5_runLine_5 l dC dI h0 h1 h2 cint H.size p0 p3 (p4 + 1) (by show 0 ≤ ((p4 + 1) : Int32).toInt ∧ ((p4 + 1) : Int32).toInt ≤ 9; first | with_reducible assumption | (constructor <;> (have := kk_add2 (x := n0_ran) (y := 1) (a := n0_ran.toInt) (b := 1) rfl rfl (by omega) (by omega); have := kk_add2 (x := p4) (y := 1) (a := p4.toInt) (b := 1) rfl rfl (by omega) (by omega); omega))) n0_size (n0_ran + 1) f1 f2 tn0_size (by show 0 ≤ ((n0_ran + 1) : Int32).toInt ∧ ((n0_ran + 1) : Int32).toInt ≤ 997; first | with_reducible assumption | (constructor <;> (have := kk_add2 (x := n0_ran) (y := 1) (a := n0_ran.toInt) (b := 1) rfl rfl (by omega) (by omega); have := kk_add2 (x := p4) (y := 1) (a := p4.toInt) (b := 1) rfl rfl (by omega) (by omega); omega))) bf1 (by show (0 ≤ (p0 : Int32).toInt ∧ (p0 : Int32).toInt < (n0_size : Int32).toInt); first | with_reducible assumption | (have := kk_add2 (x := n0_ran) (y := 1) (a := n0_ran.toInt) (b := 1) rfl rfl (by omega) (by omega); have := kk_add2 (x := p4) (y := 1) (a := p4.toInt) (b := 1) rfl rfl (by omega) (by omega); omega)) aOWN_BODIES aABOVE) (cwV 4 hts gX5_call_X5_runLine rfl rfl rfl ⟨rfl, kh_X5_runLine⟩ ⟨Nat.le_of_ble_eq_true rfl, Nat.le_of_ble_eq_true rfl⟩) ⟨fun a U g mk q => by obtain ⟨q0, q1, qP, qK, qD, qx0, qx1, qx2, qx3⟩ := q; exact ⟨q0, q1, qP, va_K.moved (u := U) (U := U.calling g mk a) (Vm.Alike.refl U.vm) qK, qD, va_Z.moved (u := U) (U := U.calling g mk a) (Vm.Alike.refl U.vm) qx0, va_T.moved (u := U) (U := U.calling g mk a) (Vm.Alike.refl U.vm) qx1, va_Z.moved (u := U) (U := U.calling g mk a) (Vm.Alike.refl U.vm) qx2, va_T.moved (u := U) (U := U.calling g mk a) (Vm.Alike.refl U.vm) qx3⟩, va_recv hKc hPc (ci := 5) (q0 := 0) rfl rfl, fun U hU hW => ⟨rfl, by rw [hU], by rw [hU]; exact hPc, va_K.moved hW.alike hKc, hDc.weaken (fun _ _ _ _ => trivial), by rw [hU]; exact ((hZOWN_BODIES.kept (fun a h1 h2 => hS.2.1 a h1 h2)).narrow hFc).moved hW.alike, by rw [hU]; exact ((hTOWN_BODIES.kept (fun a h1 h2 => hS.2.1 a h1 h2)).narrow hFc).moved hW.alike, by rw [hU]; exact ((hZABOVE.kept (fun a h1 h2 => hS.2.1 a h1 h2)).narrow hFc).moved hW.alike, by rw [hU]; exact ((hTABOVE.kept (fun a h1 h2 => hS.2.1 a h1 h2)).narrow hFc).moved hW.alike⟩⟩ rfl rfl hl.1 rfl (lv_room (Nat.le_of_ble_eq_true rfl)) dX5_call_122 ⟨Nat.le_of_ble_eq_true rfl, Nat.le_of_ble_eq_true rfl⟩) hS (fun q _ h => hFc q h) hFc (fun r_10 u t H1 locs ht hvm hw hB hz1 hk1 hS => ?_)
      obtain ⟨y_11, f_12, by_11, v_12_0, hn_12_0, hP1, hK1, hD1⟩ := hB
      have v_12_0 : y_11.toInt ≤ (n0_ran + 1).toInt + 3 := v_12_0
      have hn_12_0 : kk_P f2 f_12 (n0_ran + 1).toInt y_11.toInt ((kt_breaks (f1 (p0 : Int32).toNatClampNeg) 0).tail) := hn_12_0
      rw [ht] at hP1
      have hK1 := va_K.moved hvm.symm hK1
      obtain ⟨hP, hD⟩ := va_join (wr := []) (w1 := [(h0, kO5 h1 n0_size h2 y_11), (h1, kAi cint 50 f1), (h2, kAi cint 24 f_12)]) hP hD [0, 1, 2] [] rfl rfl (by decide) (by decide) hk1 hFc hP1 hD1
      generalize H1 = H at hP hS ⊢
      have hP : va_P (dC, dI) vwCl [(h0, kO5 h1 n0_size h2 y_11), (h1, kAi cint 50 f1), (h2, kAi cint 24 f_12)] H := hP
      have hD : va_D A [(h0, kO5 h1 n0_size h2 y_11), (h1, kAi cint 50 f1), (h2, kAi cint 24 f_12)] := hD
      rcases hw with ⟨t_10_0, _⟩
      · skip
        have t_10_0 : r_10 = kk_breaks (f1 (p0 : Int32).toNatClampNeg) 0 p0 p3 := t_10_0
        obtain rfl : r_10 = (kk_breaks (f1 (p0 : Int32).toNatClampNeg) 0 p0 p3) := t_10_0
        refine lv_goto (tgt := 143) hx hb dX5_call_125 (by decide) ?_
        obtain ⟨hP9, hD9⟩ := kk_leafout (wc := [(h0, kO5 h1 n0_size h2 y_11), (h1, kAi cint 50 f1), (h2, kAi cint 24 f_12)]) hP hD [0, 1, 2] (by decide) rfl
        have hK9 := kk_Ks (tq := []) hK [] rfl
        exact W.iret (v := (kk_breaks (f1 (p0 : Int32).toNatClampNeg) 0 p0 p3)) hx hb hr (fun t ht hW => ⟨⟨(kk_breaks (f1 (p0 : Int32).toNatClampNeg) 0 p0 p3), (), rfl, ⟨(by first | rfl | (unfold kk_breaks; (repeat' split) <;> first | rfl | (exfalso; have : (0 : Int32).toInt = 0 := rfl; have : (1 : Int32).toInt = 1 := rfl; have : (2 : Int32).toInt = 2 := rfl; have : (3 : Int32).toInt = 3 := rfl; have : (4 : Int32).toInt = 4 := rfl; have : (5 : Int32).toInt = 5 := rfl; have : (6 : Int32).toInt = 6 := rfl; have : (7 : Int32).toInt = 7 := rfl; have := kk_add2 (x := n0_ran) (y := 1) (a := n0_ran.toInt) (b := 1) rfl rfl (by omega) (by omega); have := kk_add2 (x := p4) (y := 1) (a := p4.toInt) (b := 1) rfl rfl (by omega) (by omega); omega))), trivial⟩, y_11, f_12, (by show 1 ≤ (y_11 : Int32).toInt ∧ (y_11 : Int32).toInt ≤ 1000; first | with_reducible assumption | (constructor <;> (have := kk_add2 (x := n0_ran) (y := 1) (a := n0_ran.toInt) (b := 1) rfl rfl (by omega) (by omega); have := kk_add2 (x := p4) (y := 1) (a := p4.toInt) (b := 1) rfl rfl (by omega) (by omega); omega))), (by show (y_11 : Int32).toInt ≤ (n0_ran : Int32).toInt + 4; first | with_reducible assumption | (have := kk_add2 (x := n0_ran) (y := 1) (a := n0_ran.toInt) (b := 1) rfl rfl (by omega) (by omega); have := kk_add2 (x := p4) (y := 1) (a := p4.toInt) (b := 1) rfl rfl (by omega) (by omega); omega)), (by first | exact kk_P_eq (kk_P_trans hp_9 hn_12_0) rfl | (unfold kt_breaks; (repeat' split) <;> first | exact kk_P_eq (kk_P_trans hp_9 hn_12_0) rfl | (exfalso; have : (0 : Int32).toInt = 0 := rfl; have : (1 : Int32).toInt = 1 := rfl; have : (2 : Int32).toInt = 2 := rfl; have : (3 : Int32).toInt = 3 := rfl; have : (4 : Int32).toInt = 4 := rfl; have : (5 : Int32).toInt = 5 := rfl; have : (6 : Int32).toInt = 6 := rfl; have : (7 : Int32).toInt = 7 := rfl; have := kk_add2 (x := n0_ran) (y := 1) (a := n0_ran.toInt) (b := 1) rfl rfl (by omega) (by omega); have := kk_add2 (x := p4) (y := 1) (a := p4.toInt) (b := 1) rfl rfl (by omega) (by omega); omega))), by rw [ht]; exact hP9, va_K.moved hW.alike hK9, hD9⟩, hS.F ht⟩) hS.2.2 dX5_call_143
    · have t_8 : n0_ran.toInt < 24 := kk_nle c_8
      refine lv_aload_n hx hb dX5_call_86 rfl (lv_at hl 2 rfl) ?_
      refine va_get (D := (dC, dI)) (ci := 5) (v := .ref h2) (C := RX5) (T := TX5) (N := 4) hx hb hts (fun _ h => List.mem_cons_of_mem _ (List.mem_append_right _ h)) hown hK hP 0 rfl rfl 2 (by decide) (hts (.fieldLink RX5 15 "KinkStreet$Lines" "trace" "[I") (List.mem_of_getElem? (i := 4) rfl)) (fun _ h9 => h9) rfl dX5_call_87 ?_
      refine lv_aload_n hx hb dX5_call_90 rfl (lv_at hl 2 rfl) ?_
      refine va_get (D := (dC, dI)) (ci := 5) (v := .int n0_ran) (C := RX5) (T := TX5) (N := 4) hx hb hts (fun _ h => List.mem_cons_of_mem _ (List.mem_append_right _ h)) hown hK hP 0 rfl rfl 3 (by decide) (hts (.fieldLink RX5 36 "KinkStreet$Lines" "ran" "I") (List.mem_of_getElem? (i := 3) rfl)) (fun _ h9 => h9) rfl dX5_call_91 ?_
      refine lv_iload hx hb dX5_call_94 (lv_at hl 0 rfl) ?_
      refine va_iast hx hb hK hP hD hS 2 0 rfl rfl (vp_in_iff.mpr ⟨by omega, by omega⟩) dX5_call_96 (fun H locs hP hD hS => ?_)
      have w_13 : ((upd f2 (n0_ran : Int32).toNatClampNeg 10) (n0_ran : Int32).toNatClampNeg).toInt = (10 : Int32).toInt := by rw [kk_ups]
      have hP : va_P (dC, dI) vwCl [(h0, kO5 h1 n0_size h2 n0_ran), (h1, kAi cint 50 f1), (h2, kAi cint 24 (upd f2 (n0_ran : Int32).toNatClampNeg 10))] H := hP
      have hD : va_D A [(h0, kO5 h1 n0_size h2 n0_ran), (h1, kAi cint 50 f1), (h2, kAi cint 24 (upd f2 (n0_ran : Int32).toNatClampNeg 10))] := hD
      refine lv_aload_n hx hb dX5_call_97 rfl (lv_at hl 2 rfl) ?_
      refine lv_dup hx hb dX5_call_98 rfl ?_
      refine va_get (D := (dC, dI)) (ci := 5) (v := .int n0_ran) (C := RX5) (T := TX5) (N := 4) hx hb hts (fun _ h => List.mem_cons_of_mem _ (List.mem_append_right _ h)) hown hK hP 0 rfl rfl 3 (by decide) (hts (.fieldLink RX5 36 "KinkStreet$Lines" "ran" "I") (List.mem_of_getElem? (i := 3) rfl)) (fun _ h9 => h9) rfl dX5_call_99 ?_
      refine lv_iconst (v := 1) hx hb dX5_call_102 kk_ic_1 ?_
      refine lv_iadd hx hb dX5_call_103 ?_
      refine va_put (D := (dC, dI)) (ci := 5) (v := .int (n0_ran + 1)) (ty := .int) (C := RX5) (T := TX5) (N := 4) hx hb hts (fun _ h => List.mem_cons_of_mem _ (List.mem_append_right _ h)) tyX5 tyX5_ok nmX5 hown hK hP hD hS 0 rfl rfl 3 (by decide) (hts (.fieldLink RX5 36 "KinkStreet$Lines" "ran" "I") (List.mem_of_getElem? (i := 3) rfl)) (fun _ h9 => h9) rfl (by decide +kernel) rfl rfl (Nat.le_of_ble_eq_true rfl) dX5_call_104 (fun H locs hP hD hS => ?_)
      have hP : va_P (dC, dI) vwCl [(h0, kO5 h1 n0_size h2 (n0_ran + 1)), (h1, kAi cint 50 f1), (h2, kAi cint 24 (upd f2 (n0_ran : Int32).toNatClampNeg 10))] H := hP
      have hD : va_D A [(h0, kO5 h1 n0_size h2 (n0_ran + 1)), (h1, kAi cint 50 f1), (h2, kAi cint 24 (upd f2 (n0_ran : Int32).toNatClampNeg 10))] := hD
      have hp_14 : kk_P f2 (upd f2 (n0_ran : Int32).toNatClampNeg 10) n0_ran.toInt (n0_ran + 1 : Int32).toInt [10] := kk_P_one (by have := kk_add2 (x := n0_ran) (y := 1) (a := n0_ran.toInt) (b := 1) rfl rfl (by omega) (by omega); omega) (by have := kk_add2 (x := n0_ran) (y := 1) (a := n0_ran.toInt) (b := 1) rfl rfl (by omega) (by omega); omega)
      refine lv_iload hx hb dX5_call_107 (lv_at hl 1 rfl) ?_
      refine lv_if_ne (tgt := 128) hx hb dX5_call_109 (by decide) (fun c => absurd c (by decide)) (fun _ => ?_)
      refine lv_aload_n hx hb dX5_call_112 rfl (lv_at hl 2 rfl) ?_
      refine lv_iload_n hx hb dX5_call_113 rfl (lv_at hl 3 rfl) ?_
      refine lv_iload hx hb dX5_call_114 (lv_at hl 0 rfl) ?_
      refine lv_iload hx hb dX5_call_116 (lv_at hl 6 rfl) ?_
      refine lv_iload hx hb dX5_call_118 (lv_at hl 7 rfl) ?_
      refine lv_iconst (v := 1) hx hb dX5_call_120 kk_ic_1 ?_
      refine lv_iadd hx hb dX5_call_121 ?_
      obtain ⟨hPc, hDc, hFc⟩ := kk_cutout (wc := [(h0, kO5 h1 n0_size h2 (n0_ran + 1)), (h1, kAi cint 50 f1), (h2, kAi cint 24 (upd f2 (n0_ran : Int32).toNatClampNeg 10))]) hP hD hS hA [0, 1, 2] (by decide) rfl
      have hKc := kk_Ks (tq := [(cint, .int)]) hK [0] rfl
      refine va_calli (va_runV (As := [.int p0, .int 10, .int p3, .int (p4 + 1)]) (rest := []) ⟨hx, hb, hml, hown, hts⟩ (g_X5_runLine_5 l dC dI h0 h1 h2 cint H.size p0 p3 (p4 + 1) (by show 0 ≤ ((p4 + 1) : Int32).toInt ∧ ((p4 + 1) : Int32).toInt ≤ 9; first | with_reducible assumption | (constructor <;> (have := kk_add2 (x := n0_ran) (y := 1) (a := n0_ran.toInt) (b := 1) rfl rfl (by omega) (by omega); have := kk_add2 (x := p4) (y := 1) (a := p4.toInt) (b := 1) rfl rfl (by omega) (by omega); omega))) n0_size (n0_ran + 1) f1 (upd f2 (n0_ran : Int32).toNatClampNeg 10) tn0_size (by show 0 ≤ ((n0_ran + 1) : Int32).toInt ∧ ((n0_ran + 1) : Int32).toInt ≤ 997; first | with_reducible assumption | (constructor <;> (have := kk_add2 (x := n0_ran) (y := 1) (a := n0_ran.toInt) (b := 1) rfl rfl (by omega) (by omega); have := kk_add2 (x := p4) (y := 1) (a := p4.toInt) (b := 1) rfl rfl (by omega) (by omega); omega))) bf1 (by show (0 ≤ (p0 : Int32).toInt ∧ (p0 : Int32).toInt < (n0_size : Int32).toInt); first | with_reducible assumption | (have := kk_add2 (x := n0_ran) (y := 1) (a := n0_ran.toInt) (b := 1) rfl rfl (by omega) (by omega); have := kk_add2 (x := p4) (y := 1) (a := p4.toInt) (b := 1) rfl rfl (by omega) (by omega); omega)) aOWN_BODIES aABOVE) (cwV 4 hts gX5_call_X5_runLine rfl rfl rfl ⟨rfl, kh_X5_runLine⟩ ⟨Nat.le_of_ble_eq_true rfl, Nat.le_of_ble_eq_true rfl⟩) ⟨fun a U g mk q => by obtain ⟨q0, q1, qP, qK, qD, qx0, qx1, qx2, qx3⟩ := q; exact ⟨q0, q1, qP, va_K.moved (u := U) (U := U.calling g mk a) (Vm.Alike.refl U.vm) qK, qD, va_Z.moved (u := U) (U := U.calling g mk a) (Vm.Alike.refl U.vm) qx0, va_T.moved (u := U) (U := U.calling g mk a) (Vm.Alike.refl U.vm) qx1, va_Z.moved (u := U) (U := U.calling g mk a) (Vm.Alike.refl U.vm) qx2, va_T.moved (u := U) (U := U.calling g mk a) (Vm.Alike.refl U.vm) qx3⟩, va_recv hKc hPc (ci := 5) (q0 := 0) rfl rfl, fun U hU hW => ⟨rfl, by rw [hU], by rw [hU]; exact hPc, va_K.moved hW.alike hKc, hDc.weaken (fun _ _ _ _ => trivial), by rw [hU]; exact ((hZOWN_BODIES.kept (fun a h1 h2 => hS.2.1 a h1 h2)).narrow hFc).moved hW.alike, by rw [hU]; exact ((hTOWN_BODIES.kept (fun a h1 h2 => hS.2.1 a h1 h2)).narrow hFc).moved hW.alike, by rw [hU]; exact ((hZABOVE.kept (fun a h1 h2 => hS.2.1 a h1 h2)).narrow hFc).moved hW.alike, by rw [hU]; exact ((hTABOVE.kept (fun a h1 h2 => hS.2.1 a h1 h2)).narrow hFc).moved hW.alike⟩⟩ rfl rfl hl.1 rfl (lv_room (Nat.le_of_ble_eq_true rfl)) dX5_call_122 ⟨Nat.le_of_ble_eq_true rfl, Nat.le_of_ble_eq_true rfl⟩) hS (fun q _ h => hFc q h) hFc (fun r_15 u t H1 locs ht hvm hw hB hz1 hk1 hS => ?_)
      obtain ⟨y_16, f_17, by_16, v_17_0, hn_17_0, hP1, hK1, hD1⟩ := hB
      have v_17_0 : y_16.toInt ≤ (n0_ran + 1).toInt + 3 := v_17_0
      have hn_17_0 : kk_P (upd f2 (n0_ran : Int32).toNatClampNeg 10) f_17 (n0_ran + 1).toInt y_16.toInt ((kt_breaks (f1 (p0 : Int32).toNatClampNeg) 0).tail) := hn_17_0
      rw [ht] at hP1
      have hK1 := va_K.moved hvm.symm hK1
      obtain ⟨hP, hD⟩ := va_join (wr := []) (w1 := [(h0, kO5 h1 n0_size h2 y_16), (h1, kAi cint 50 f1), (h2, kAi cint 24 f_17)]) hP hD [0, 1, 2] [] rfl rfl (by decide) (by decide) hk1 hFc hP1 hD1
      generalize H1 = H at hP hS ⊢
      have hP : va_P (dC, dI) vwCl [(h0, kO5 h1 n0_size h2 y_16), (h1, kAi cint 50 f1), (h2, kAi cint 24 f_17)] H := hP
      have hD : va_D A [(h0, kO5 h1 n0_size h2 y_16), (h1, kAi cint 50 f1), (h2, kAi cint 24 f_17)] := hD
      rcases hw with ⟨t_15_0, _⟩
      · skip
        have t_15_0 : r_15 = kk_breaks (f1 (p0 : Int32).toNatClampNeg) 0 p0 p3 := t_15_0
        obtain rfl : r_15 = (kk_breaks (f1 (p0 : Int32).toNatClampNeg) 0 p0 p3) := t_15_0
        refine lv_goto (tgt := 143) hx hb dX5_call_125 (by decide) ?_
        obtain ⟨hP9, hD9⟩ := kk_leafout (wc := [(h0, kO5 h1 n0_size h2 y_16), (h1, kAi cint 50 f1), (h2, kAi cint 24 f_17)]) hP hD [0, 1, 2] (by decide) rfl
        have hK9 := kk_Ks (tq := []) hK [] rfl
        exact W.iret (v := (kk_breaks (f1 (p0 : Int32).toNatClampNeg) 0 p0 p3)) hx hb hr (fun t ht hW => ⟨⟨(kk_breaks (f1 (p0 : Int32).toNatClampNeg) 0 p0 p3), (), rfl, ⟨(by first | rfl | (unfold kk_breaks; (repeat' split) <;> first | rfl | (exfalso; have : (0 : Int32).toInt = 0 := rfl; have : (1 : Int32).toInt = 1 := rfl; have : (2 : Int32).toInt = 2 := rfl; have : (3 : Int32).toInt = 3 := rfl; have : (4 : Int32).toInt = 4 := rfl; have : (5 : Int32).toInt = 5 := rfl; have : (6 : Int32).toInt = 6 := rfl; have : (7 : Int32).toInt = 7 := rfl; have := kk_add2 (x := n0_ran) (y := 1) (a := n0_ran.toInt) (b := 1) rfl rfl (by omega) (by omega); have := kk_add2 (x := p4) (y := 1) (a := p4.toInt) (b := 1) rfl rfl (by omega) (by omega); omega))), trivial⟩, y_16, f_17, (by show 1 ≤ (y_16 : Int32).toInt ∧ (y_16 : Int32).toInt ≤ 1000; first | with_reducible assumption | (constructor <;> (have := kk_add2 (x := n0_ran) (y := 1) (a := n0_ran.toInt) (b := 1) rfl rfl (by omega) (by omega); have := kk_add2 (x := p4) (y := 1) (a := p4.toInt) (b := 1) rfl rfl (by omega) (by omega); omega))), (by show (y_16 : Int32).toInt ≤ (n0_ran : Int32).toInt + 4; first | with_reducible assumption | (have := kk_add2 (x := n0_ran) (y := 1) (a := n0_ran.toInt) (b := 1) rfl rfl (by omega) (by omega); have := kk_add2 (x := p4) (y := 1) (a := p4.toInt) (b := 1) rfl rfl (by omega) (by omega); omega)), (by first | exact kk_P_eq (kk_P_trans hp_14 hn_17_0) rfl | (unfold kt_breaks; (repeat' split) <;> first | exact kk_P_eq (kk_P_trans hp_14 hn_17_0) rfl | (exfalso; have : (0 : Int32).toInt = 0 := rfl; have : (1 : Int32).toInt = 1 := rfl; have : (2 : Int32).toInt = 2 := rfl; have : (3 : Int32).toInt = 3 := rfl; have : (4 : Int32).toInt = 4 := rfl; have : (5 : Int32).toInt = 5 := rfl; have : (6 : Int32).toInt = 6 := rfl; have : (7 : Int32).toInt = 7 := rfl; have := kk_add2 (x := n0_ran) (y := 1) (a := n0_ran.toInt) (b := 1) rfl rfl (by omega) (by omega); have := kk_add2 (x := p4) (y := 1) (a := p4.toInt) (b := 1) rfl rfl (by omega) (by omega); omega))), by rw [ht]; exact hP9, va_K.moved hW.alike hK9, hD9⟩, hS.F ht⟩) hS.2.2 dX5_call_143
  · have t_5 : 40 < p4.toInt := kk_nle c_5
    exfalso; omega
set_option maxHeartbeats 4000000 in
set_option maxRecDepth 100000 in
theorem g_X5_runUnder_12 (l : Launch) (dC : Nat → ClassId) (dI : Nat → Nat → Nat) (h0 : Nat) (h1 : Nat) (h2 : Nat) (cint : ClassId) (sz : Nat) (p0 : Int32) (p3 : Int32) (p4 : Int32) (tp4 : 0 ≤ p4.toInt ∧ p4.toInt ≤ 8) (n0_size : Int32) (n0_ran : Int32) (f1 : Nat → Int32) (f2 : Nat → Int32) (tn0_size : 0 ≤ n0_size.toInt ∧ n0_size.toInt ≤ 50) (tn0_ran : 0 ≤ n0_ran.toInt ∧ n0_ran.toInt ≤ 996) (bf1 : ∀ j, j < 50 → 0 ≤ (f1 j).toInt ∧ (f1 j).toInt ≤ 7) (pr0 : (0 ≤ p0.toInt ∧ p0.toInt < n0_size.toInt)) (aABOVE : Nat) (aOWN_BODIES : Nat) : Met l yX5_runUnder wsX5_runUnder ({ frames := 10, cells := 0, slots := 0, locals := 254 }) (va_Pc [.ref h0, .int p0, .int 2, .int 30, .int p3, .int p4] (fun U => U.heap.size = sz ∧ va_P (dC, dI) vwCl [(h0, kO5 h1 n0_size h2 n0_ran), (h1, kAi cint 50 f1), (h2, kAi cint 24 f2)] U.heap ∧ va_K (dC, dI) vwCl [(cint, .int)] U ∧ va_D (fun _ => True) [(h0, kO5 h1 n0_size h2 n0_ran), (h1, kAi cint 50 f1), (h2, kAi cint 24 f2)] ∧ va_Z "KinkStreet$Lines" "ABOVE" "[I" (.ref aABOVE) (va_A [(h0, kO5 h1 n0_size h2 n0_ran), (h1, kAi cint 50 f1), (h2, kAi cint 24 f2)] sz) U U.heap ∧ va_T .int aABOVE 8 tb_ABOVE (va_A [(h0, kO5 h1 n0_size h2 n0_ran), (h1, kAi cint 50 f1), (h2, kAi cint 24 f2)] sz) U U.heap ∧ va_Z "KinkStreet$Lines" "OWN_BODIES" "[I" (.ref aOWN_BODIES) (va_A [(h0, kO5 h1 n0_size h2 n0_ran), (h1, kAi cint 50 f1), (h2, kAi cint 24 f2)] sz) U U.heap ∧ va_T .int aOWN_BODIES 32 tb_OWN_BODIES (va_A [(h0, kO5 h1 n0_size h2 n0_ran), (h1, kAi cint 50 f1), (h2, kAi cint 24 f2)] sz) U U.heap)) (va_Qi (fun (r : Int32) (_ : Unit) => r = kk_breaks (f1 (p0 : Int32).toNatClampNeg) 2 p0 p3 ∧ True) (fun (_ : Unit) t => ∃ (m0_ran : Int32) (g2 : Nat → Int32), (1 ≤ m0_ran.toInt ∧ m0_ran.toInt ≤ 1000) ∧ (m0_ran.toInt ≤ n0_ran.toInt + 4) ∧ (kk_P f2 g2 n0_ran.toInt m0_ran.toInt ((kt_breaks (f1 (p0 : Int32).toNatClampNeg) 2).tail)) ∧ va_P (dC, dI) vwCl [(h0, kO5 h1 n0_size h2 m0_ran), (h1, kAi cint 50 f1), (h2, kAi cint 24 g2)] t.heap ∧ va_K (dC, dI) vwCl [] t ∧ va_D (va_A [(h0, kO5 h1 n0_size h2 n0_ran), (h1, kAi cint 50 f1), (h2, kAi cint 24 f2)] sz) [(h0, kO5 h1 n0_size h2 m0_ran), (h1, kAi cint 50 f1), (h2, kAi cint 24 g2)]) (va_A [(h0, kO5 h1 n0_size h2 n0_ran), (h1, kAi cint 50 f1), (h2, kAi cint 24 f2)] sz)) 0 0 (va_A [(h0, kO5 h1 n0_size h2 n0_ran), (h1, kAi cint 50 f1), (h2, kAi cint 24 f2)] sz) := by
  refine Met.ofW (cc := cX5_runUnder) (maxL := 8) (ret := (some .int)) (by decide) rfl ?_
  intro p e s m args below meth c s₁ B hml hv
  obtain ⟨rfl, hsz, hP, hK, hD0, hZABOVE, hTABOVE, hZOWN_BODIES, hTOWN_BODIES⟩ := hv
  have hx := B.exec
  have hb := B.bytes
  have hr := B.returns
  have hts := atoms_spec (ws := wsX5_runUnder) B.pre
  have hown : s.vm.findClass RX5 = some m.cls := findClass_of_methodNamed B.named
  have hlocks := B.notSynchronized
  subst hsz
  have hD := hD0.self (sz := s.heap.size)
  generalize hAe : va_A [(h0, kO5 h1 n0_size h2 n0_ran), (h1, kAi cint 50 f1), (h2, kAi cint 24 f2)] s.heap.size = A at hD hZABOVE hTABOVE hZOWN_BODIES hTOWN_BODIES ⊢
  have hA : ∀ q : Nat, s.heap.size ≤ q → A q := fun q h => by rw [← hAe]; exact Or.inr h
  have hS : va_S A s.heap s.heap [] := va_S.rf
  have hP : va_P (dC, dI) vwCl [(h0, kO5 h1 n0_size h2 n0_ran), (h1, kAi cint 50 f1), (h2, kAi cint 24 f2)] s.heap := hP
  have hl := lv_entry ([.ref h0, .int p0, .int 2, .int 30, .int p3, .int p4]) (n := 8) (Nat.le_of_ble_eq_true rfl)
  rw [lg_entry_eq]
  generalize (lg_sl ([.ref h0, .int p0, .int 2, .int 30, .int p3, .int p4]) ++ List.replicate (8 - (lg_sl ([.ref h0, .int p0, .int 2, .int 30, .int p3, .int p4])).length) Slot.unset).toArray = ls at hl ⊢
  have hl : lv_has ls 8 [(0, .ref h0), (1, .int p0), (2, .int 2), (3, .int 30), (4, .int p3), (5, .int p4)] := hl
  refine lv_aload_n hx hb dX5_runUnder_0 rfl (lv_at hl 0 rfl) ?_
  refine lv_iload_n hx hb dX5_runUnder_1 rfl (lv_at hl 1 rfl) ?_
  obtain ⟨hPc, hDc, hFc⟩ := kk_cutout (wc := [(h0, kO5 h1 n0_size h2 n0_ran), (h1, kAi cint 50 f1)]) hP hD hS hA [0, 1] (by decide) rfl
  have hKc := kk_Ks (tq := [(cint, .int)]) hK [0] rfl
  refine va_calli (va_runV (As := [.int p0]) (rest := []) ⟨hx, hb, hml, hown, hts⟩ (g_X5_kindOf_1 l dC dI h0 h1 h2 cint s.heap.size p0 n0_size n0_ran f1 tn0_size (by show 0 ≤ (n0_ran : Int32).toInt ∧ (n0_ran : Int32).toInt ≤ 1000; first | with_reducible assumption | (constructor <;> (omega))) bf1) (cwV 1 hts gX5_runUnder_X5_kindOf rfl rfl rfl ⟨rfl, kh_X5_kindOf⟩ ⟨Nat.le_of_ble_eq_true rfl, Nat.le_of_ble_eq_true rfl⟩) ⟨fun a U g mk q => by obtain ⟨q0, q1, qP, qK, qD⟩ := q; exact ⟨q0, q1, qP, va_K.moved (u := U) (U := U.calling g mk a) (Vm.Alike.refl U.vm) qK, qD⟩, va_recv hKc hPc (ci := 5) (q0 := 0) rfl rfl, fun U hU hW => ⟨rfl, by rw [hU], by rw [hU]; exact hPc, va_K.moved hW.alike hKc, hDc.weaken (fun _ _ _ _ => trivial)⟩⟩ rfl rfl hl.1 rfl (lv_room (Nat.le_of_ble_eq_true rfl)) dX5_runUnder_2 ⟨Nat.le_of_ble_eq_true rfl, Nat.le_of_ble_eq_true rfl⟩) hS (fun q _ h => hFc q h) hFc (fun r_1 u t H1 locs ht hvm hw hB hz1 hk1 hS => ?_)
  obtain ⟨hP1, hK1, hD1⟩ := hB
  rw [ht] at hP1
  have hK1 := va_K.moved hvm.symm hK1
  obtain ⟨hP, hD⟩ := va_join (wr := [(h2, kAi cint 24 f2)]) (w1 := [(h0, kO5 h1 n0_size h2 n0_ran), (h1, kAi cint 50 f1)]) hP hD [0, 1] [2] rfl rfl (by decide) (by decide) hk1 hFc hP1 hD1
  generalize H1 = H at hP hS ⊢
  have hP : va_P (dC, dI) vwCl [(h2, kAi cint 24 f2), (h0, kO5 h1 n0_size h2 n0_ran), (h1, kAi cint 50 f1)] H := hP
  have hD : va_D A [(h2, kAi cint 24 f2), (h0, kO5 h1 n0_size h2 n0_ran), (h1, kAi cint 50 f1)] := hD
  rcases hw with ⟨t_1_0, t_1_1, t_1_any⟩
  · skip
    have t_1_0 : ((0 ≤ p0.toInt ∧ p0.toInt < n0_size.toInt → r_1.toInt = (f1 (p0 : Int32).toNatClampNeg).toInt ∧ 0 ≤ (f1 (p0 : Int32).toNatClampNeg).toInt) ∧ (¬ (0 ≤ p0.toInt ∧ p0.toInt < n0_size.toInt) → r_1.toInt = -1)) := t_1_0
    have t_1_1 : (0 ≤ p0.toInt ∧ p0.toInt < n0_size.toInt → r_1 = (f1 (p0 : Int32).toNatClampNeg)) := t_1_1
    obtain rfl : r_1 = (f1 (p0 : Int32).toNatClampNeg) := t_1_1 (by omega)
    refine lv_istore hx hb dX5_runUnder_5 hl (by decide) (rfl : _ = ([(6, .int (f1 (p0 : Int32).toNatClampNeg)), (0, .ref h0), (1, .int p0), (2, .int 2), (3, .int 30), (4, .int p3), (5, .int p4)] : List (Nat × Value))) (fun ls hl => ?_)
    refine lv_iload_n hx hb dX5_runUnder_7 rfl (lv_at hl 3 rfl) ?_
    obtain ⟨hPc, hDc, hFc⟩ := kk_cutout (wc := []) hP hD hS hA [] (by decide) rfl
    have hKc := kk_Ks (tq := []) hK [] rfl
    refine va_calli (va_runS (As := [.int 2]) (rest := []) ⟨hx, hb, hml, hown, hts⟩ (g_X5_isKind_13 l dC dI H.size) (va_cwS 1 hts gX5_runUnder_X5_isKind rfl rfl rfl kh_X5_isKind ⟨Nat.le_of_ble_eq_true rfl, Nat.le_of_ble_eq_true rfl⟩) ⟨fun a U g mk q => by obtain ⟨q0, q1, qP, qK, qD⟩ := q; exact ⟨q0, q1, qP, va_K.moved (u := U) (U := U.calling g mk a) (Vm.Alike.refl U.vm) qK, qD⟩, fun U hU hW => ⟨rfl, by rw [hU], by rw [hU]; exact hPc, va_K.moved hW.alike hKc, hDc.weaken (fun _ _ _ _ => trivial)⟩⟩ rfl rfl hl.1 rfl (lv_room (Nat.le_of_ble_eq_true rfl)) dX5_runUnder_8 ⟨Nat.le_of_ble_eq_true rfl, Nat.le_of_ble_eq_true rfl⟩) hS (fun q _ h => hFc q h) hFc (fun r_2 u t H1 locs ht hvm hw hB hz1 hk1 hS => ?_)
    obtain ⟨hP1, hK1, hD1⟩ := hB
    rw [ht] at hP1
    have hK1 := va_K.moved hvm.symm hK1
    obtain ⟨hP, hD⟩ := va_join (wr := [(h2, kAi cint 24 f2), (h0, kO5 h1 n0_size h2 n0_ran), (h1, kAi cint 50 f1)]) (w1 := []) hP hD [] [0, 1, 2] rfl rfl (by decide) (by decide) hk1 hFc hP1 hD1
    generalize H1 = H at hP hS ⊢
    have hP : va_P (dC, dI) vwCl [(h2, kAi cint 24 f2), (h0, kO5 h1 n0_size h2 n0_ran), (h1, kAi cint 50 f1)] H := hP
    have hD : va_D A [(h2, kAi cint 24 f2), (h0, kO5 h1 n0_size h2 n0_ran), (h1, kAi cint 50 f1)] := hD
    obtain rfl := hw
    refine lv_if_eq (tgt := 22) hx hb dX5_runUnder_11 (by decide) (fun c => absurd c (by decide)) (fun _ => ?_)
    refine va_gets hx hb hZABOVE hS hown (hts (.fieldLink RX5 22 "KinkStreet$Lines" "ABOVE" "[I") (List.mem_of_getElem? (i := 1) rfl)) (fun _ h9 => h9) dX5_runUnder_14 ?_
    refine lv_iload_n hx hb dX5_runUnder_17 rfl (lv_at hl 3 rfl) ?_
    refine va_ti (v := .int 0) hx hb hTABOVE hS (by unfold vp_in; decide) rfl dX5_runUnder_18 ?_
    refine lv_goto (tgt := 23) hx hb dX5_runUnder_19 (by decide) ?_
    refine lv_istore hx hb dX5_runUnder_23 hl (by decide) (rfl : _ = ([(7, .int 0), (6, .int (f1 (p0 : Int32).toNatClampNeg)), (0, .ref h0), (1, .int p0), (2, .int 2), (3, .int 30), (4, .int p3), (5, .int p4)] : List (Nat × Value))) (fun ls hl => ?_)
    refine lv_iload_n hx hb dX5_runUnder_25 rfl (lv_at hl 5 rfl) ?_
    refine lv_lookup (tgt := 115) (off := 89) hx hb dX5_runUnder_26 (by decide) (by decide) (by decide) ?_
    refine lv_aload_n hx hb dX5_runUnder_115 rfl (lv_at hl 2 rfl) ?_
    refine lv_iload_n hx hb dX5_runUnder_116 rfl (lv_at hl 3 rfl) ?_
    refine lv_iload hx hb dX5_runUnder_117 (lv_at hl 0 rfl) ?_
    refine lv_iconst (v := 1) hx hb dX5_runUnder_119 kk_ic_1 ?_
    refine lv_iload hx hb dX5_runUnder_120 (lv_at hl 6 rfl) ?_
    refine lv_iload hx hb dX5_runUnder_122 (lv_at hl 7 rfl) ?_
    obtain ⟨hPc, hDc, hFc⟩ := kk_cutout (wc := [(h0, kO5 h1 n0_size h2 n0_ran), (h1, kAi cint 50 f1), (h2, kAi cint 24 f2)]) hP hD hS hA [1, 2, 0] (by decide) rfl
    have hKc := kk_Ks (tq := [(cint, .int)]) hK [0] rfl
    refine va_calli (va_runV (As := [.int p0, .int 0, .int 1, .int p3, .int p4]) (rest := []) ⟨hx, hb, hml, hown, hts⟩ (g_X5_call_15 l dC dI h0 h1 h2 cint H.size p0 p3 p4 tp4 n0_size n0_ran f1 f2 tn0_size tn0_ran bf1 (by show (0 ≤ (p0 : Int32).toInt ∧ (p0 : Int32).toInt < (n0_size : Int32).toInt); first | with_reducible assumption | (omega)) aOWN_BODIES aABOVE) (cwV 5 hts gX5_runUnder_X5_call rfl rfl rfl ⟨rfl, kh_X5_call⟩ ⟨Nat.le_of_ble_eq_true rfl, Nat.le_of_ble_eq_true rfl⟩) ⟨fun a U g mk q => by obtain ⟨q0, q1, qP, qK, qD, qx0, qx1, qx2, qx3⟩ := q; exact ⟨q0, q1, qP, va_K.moved (u := U) (U := U.calling g mk a) (Vm.Alike.refl U.vm) qK, qD, va_Z.moved (u := U) (U := U.calling g mk a) (Vm.Alike.refl U.vm) qx0, va_T.moved (u := U) (U := U.calling g mk a) (Vm.Alike.refl U.vm) qx1, va_Z.moved (u := U) (U := U.calling g mk a) (Vm.Alike.refl U.vm) qx2, va_T.moved (u := U) (U := U.calling g mk a) (Vm.Alike.refl U.vm) qx3⟩, va_recv hKc hPc (ci := 5) (q0 := 0) rfl rfl, fun U hU hW => ⟨rfl, by rw [hU], by rw [hU]; exact hPc, va_K.moved hW.alike hKc, hDc.weaken (fun _ _ _ _ => trivial), by rw [hU]; exact ((hZOWN_BODIES.kept (fun a h1 h2 => hS.2.1 a h1 h2)).narrow hFc).moved hW.alike, by rw [hU]; exact ((hTOWN_BODIES.kept (fun a h1 h2 => hS.2.1 a h1 h2)).narrow hFc).moved hW.alike, by rw [hU]; exact ((hZABOVE.kept (fun a h1 h2 => hS.2.1 a h1 h2)).narrow hFc).moved hW.alike, by rw [hU]; exact ((hTABOVE.kept (fun a h1 h2 => hS.2.1 a h1 h2)).narrow hFc).moved hW.alike⟩⟩ rfl rfl hl.1 rfl (lv_room (Nat.le_of_ble_eq_true rfl)) dX5_runUnder_124 ⟨Nat.le_of_ble_eq_true rfl, Nat.le_of_ble_eq_true rfl⟩) hS (fun q _ h => hFc q h) hFc (fun r_3 u t H1 locs ht hvm hw hB hz1 hk1 hS => ?_)
    obtain ⟨y_4, f_5, by_4, v_5_0, hn_5_0, hP1, hK1, hD1⟩ := hB
    have v_5_0 : y_4.toInt ≤ n0_ran.toInt + 4 := v_5_0
    have hn_5_0 : kk_P f2 f_5 n0_ran.toInt y_4.toInt (kt_breaks (f1 (p0 : Int32).toNatClampNeg) 0) := hn_5_0
    rw [ht] at hP1
    have hK1 := va_K.moved hvm.symm hK1
    obtain ⟨hP, hD⟩ := va_join (wr := []) (w1 := [(h0, kO5 h1 n0_size h2 y_4), (h1, kAi cint 50 f1), (h2, kAi cint 24 f_5)]) hP hD [1, 2, 0] [] rfl rfl (by decide) (by decide) hk1 hFc hP1 hD1
    generalize H1 = H at hP hS ⊢
    have hP : va_P (dC, dI) vwCl [(h0, kO5 h1 n0_size h2 y_4), (h1, kAi cint 50 f1), (h2, kAi cint 24 f_5)] H := hP
    have hD : va_D A [(h0, kO5 h1 n0_size h2 y_4), (h1, kAi cint 50 f1), (h2, kAi cint 24 f_5)] := hD
    rcases hw with ⟨t_3_0, _⟩
    · skip
      have t_3_0 : r_3 = kk_breaks (f1 (p0 : Int32).toNatClampNeg) 0 p0 p3 := t_3_0
      obtain rfl : r_3 = (kk_breaks (f1 (p0 : Int32).toNatClampNeg) 0 p0 p3) := t_3_0
      refine lv_ineg hx hb dX5_runUnder_127 ?_
      obtain ⟨hP9, hD9⟩ := kk_leafout (wc := [(h0, kO5 h1 n0_size h2 y_4), (h1, kAi cint 50 f1), (h2, kAi cint 24 f_5)]) hP hD [0, 1, 2] (by decide) rfl
      have hK9 := kk_Ks (tq := []) hK [] rfl
      exact W.iret (v := (-(kk_breaks (f1 (p0 : Int32).toNatClampNeg) 0 p0 p3))) hx hb hr (fun t ht hW => ⟨⟨(-(kk_breaks (f1 (p0 : Int32).toNatClampNeg) 0 p0 p3)), (), rfl, ⟨(by first | rfl | (unfold kk_breaks; (repeat' split) <;> first | rfl | (exfalso; have : (0 : Int32).toInt = 0 := rfl; have : (1 : Int32).toInt = 1 := rfl; have : (2 : Int32).toInt = 2 := rfl; have : (3 : Int32).toInt = 3 := rfl; have : (4 : Int32).toInt = 4 := rfl; have : (5 : Int32).toInt = 5 := rfl; have : (6 : Int32).toInt = 6 := rfl; have : (7 : Int32).toInt = 7 := rfl; omega))), trivial⟩, y_4, f_5, (by show 1 ≤ (y_4 : Int32).toInt ∧ (y_4 : Int32).toInt ≤ 1000; first | with_reducible assumption | (constructor <;> (omega))), (by show (y_4 : Int32).toInt ≤ (n0_ran : Int32).toInt + 4; first | with_reducible assumption | (omega)), (by first | exact kk_P_eq hn_5_0 rfl | (unfold kt_breaks; (repeat' split) <;> first | exact kk_P_eq hn_5_0 rfl | (exfalso; have : (0 : Int32).toInt = 0 := rfl; have : (1 : Int32).toInt = 1 := rfl; have : (2 : Int32).toInt = 2 := rfl; have : (3 : Int32).toInt = 3 := rfl; have : (4 : Int32).toInt = 4 := rfl; have : (5 : Int32).toInt = 5 := rfl; have : (6 : Int32).toInt = 6 := rfl; have : (7 : Int32).toInt = 7 := rfl; omega))), by rw [ht]; exact hP9, va_K.moved hW.alike hK9, hD9⟩, hS.F ht⟩) hS.2.2 dX5_runUnder_128
set_option maxHeartbeats 4000000 in
set_option maxRecDepth 100000 in
theorem g_X5_call_16 (l : Launch) (dC : Nat → ClassId) (dI : Nat → Nat → Nat) (h0 : Nat) (h1 : Nat) (h2 : Nat) (cint : ClassId) (sz : Nat) (p0 : Int32) (p3 : Int32) (p4 : Int32) (tp4 : 0 ≤ p4.toInt ∧ p4.toInt ≤ 7) (n0_size : Int32) (n0_ran : Int32) (f1 : Nat → Int32) (f2 : Nat → Int32) (tn0_size : 0 ≤ n0_size.toInt ∧ n0_size.toInt ≤ 50) (tn0_ran : 0 ≤ n0_ran.toInt ∧ n0_ran.toInt ≤ 996) (bf1 : ∀ j, j < 50 → 0 ≤ (f1 j).toInt ∧ (f1 j).toInt ≤ 7) (pr0 : (0 ≤ p0.toInt ∧ p0.toInt < n0_size.toInt)) (aOWN_BODIES : Nat) (aABOVE : Nat) : Met l yX5_call wsX5_call ({ frames := 9, cells := 0, slots := 0, locals := 227 }) (va_Pc [.ref h0, .int p0, .int 1, .int 1, .int p3, .int p4] (fun U => U.heap.size = sz ∧ va_P (dC, dI) vwCl [(h0, kO5 h1 n0_size h2 n0_ran), (h1, kAi cint 50 f1), (h2, kAi cint 24 f2)] U.heap ∧ va_K (dC, dI) vwCl [(cint, .int)] U ∧ va_D (fun _ => True) [(h0, kO5 h1 n0_size h2 n0_ran), (h1, kAi cint 50 f1), (h2, kAi cint 24 f2)] ∧ va_Z "KinkStreet$Lines" "OWN_BODIES" "[I" (.ref aOWN_BODIES) (va_A [(h0, kO5 h1 n0_size h2 n0_ran), (h1, kAi cint 50 f1), (h2, kAi cint 24 f2)] sz) U U.heap ∧ va_T .int aOWN_BODIES 32 tb_OWN_BODIES (va_A [(h0, kO5 h1 n0_size h2 n0_ran), (h1, kAi cint 50 f1), (h2, kAi cint 24 f2)] sz) U U.heap ∧ va_Z "KinkStreet$Lines" "ABOVE" "[I" (.ref aABOVE) (va_A [(h0, kO5 h1 n0_size h2 n0_ran), (h1, kAi cint 50 f1), (h2, kAi cint 24 f2)] sz) U U.heap ∧ va_T .int aABOVE 8 tb_ABOVE (va_A [(h0, kO5 h1 n0_size h2 n0_ran), (h1, kAi cint 50 f1), (h2, kAi cint 24 f2)] sz) U U.heap)) (va_Qi (fun (r : Int32) (_ : Unit) => r = kk_breaks (f1 (p0 : Int32).toNatClampNeg) 1 p0 p3 ∧ True) (fun (_ : Unit) t => ∃ (m0_ran : Int32) (g2 : Nat → Int32), (1 ≤ m0_ran.toInt ∧ m0_ran.toInt ≤ 1000) ∧ (m0_ran.toInt ≤ n0_ran.toInt + 4) ∧ (kk_P f2 g2 n0_ran.toInt m0_ran.toInt (kt_breaks (f1 (p0 : Int32).toNatClampNeg) 1)) ∧ va_P (dC, dI) vwCl [(h0, kO5 h1 n0_size h2 m0_ran), (h1, kAi cint 50 f1), (h2, kAi cint 24 g2)] t.heap ∧ va_K (dC, dI) vwCl [] t ∧ va_D (va_A [(h0, kO5 h1 n0_size h2 n0_ran), (h1, kAi cint 50 f1), (h2, kAi cint 24 f2)] sz) [(h0, kO5 h1 n0_size h2 m0_ran), (h1, kAi cint 50 f1), (h2, kAi cint 24 g2)]) (va_A [(h0, kO5 h1 n0_size h2 n0_ran), (h1, kAi cint 50 f1), (h2, kAi cint 24 f2)] sz)) 0 0 (va_A [(h0, kO5 h1 n0_size h2 n0_ran), (h1, kAi cint 50 f1), (h2, kAi cint 24 f2)] sz) := by
  refine Met.ofW (cc := cX5_call) (maxL := 8) (ret := (some .int)) (by decide) rfl ?_
  intro p e s m args below meth c s₁ B hml hv
  obtain ⟨rfl, hsz, hP, hK, hD0, hZOWN_BODIES, hTOWN_BODIES, hZABOVE, hTABOVE⟩ := hv
  have hx := B.exec
  have hb := B.bytes
  have hr := B.returns
  have hts := atoms_spec (ws := wsX5_call) B.pre
  have hown : s.vm.findClass RX5 = some m.cls := findClass_of_methodNamed B.named
  have hlocks := B.notSynchronized
  subst hsz
  have hD := hD0.self (sz := s.heap.size)
  generalize hAe : va_A [(h0, kO5 h1 n0_size h2 n0_ran), (h1, kAi cint 50 f1), (h2, kAi cint 24 f2)] s.heap.size = A at hD hZOWN_BODIES hTOWN_BODIES hZABOVE hTABOVE ⊢
  have hA : ∀ q : Nat, s.heap.size ≤ q → A q := fun q h => by rw [← hAe]; exact Or.inr h
  have hS : va_S A s.heap s.heap [] := va_S.rf
  have hP : va_P (dC, dI) vwCl [(h0, kO5 h1 n0_size h2 n0_ran), (h1, kAi cint 50 f1), (h2, kAi cint 24 f2)] s.heap := hP
  have hl := lv_entry ([.ref h0, .int p0, .int 1, .int 1, .int p3, .int p4]) (n := 8) (Nat.le_of_ble_eq_true rfl)
  rw [lg_entry_eq]
  generalize (lg_sl ([.ref h0, .int p0, .int 1, .int 1, .int p3, .int p4]) ++ List.replicate (8 - (lg_sl ([.ref h0, .int p0, .int 1, .int 1, .int p3, .int p4])).length) Slot.unset).toArray = ls at hl ⊢
  have hl : lv_has ls 8 [(0, .ref h0), (1, .int p0), (2, .int 1), (3, .int 1), (4, .int p3), (5, .int p4)] := hl
  refine lv_iload_n hx hb dX5_call_0 rfl (lv_at hl 2 rfl) ?_
  refine lv_istore hx hb dX5_call_1 hl (by decide) (rfl : _ = ([(6, .int 1), (0, .ref h0), (1, .int p0), (2, .int 1), (3, .int 1), (4, .int p3), (5, .int p4)] : List (Nat × Value))) (fun ls hl => ?_)
  refine lv_iconst (v := 0) hx hb dX5_call_3 kk_ic_0 ?_
  refine lv_istore hx hb dX5_call_4 hl (by decide) (rfl : _ = ([(7, .int 0), (6, .int 1), (0, .ref h0), (1, .int p0), (2, .int 1), (3, .int 1), (4, .int p3), (5, .int p4)] : List (Nat × Value))) (fun ls hl => ?_)
  refine lv_iload hx hb dX5_call_6 (lv_at hl 0 rfl) ?_
  refine lv_bipush (v := 8) hx hb dX5_call_8 kk_bi_8 ?_
  refine lv_icmp_ge (tgt := 48) hx hb dX5_call_10 (by decide) (fun c => absurd c (by decide)) (fun _ => ?_)
  refine lv_iload hx hb dX5_call_13 (lv_at hl 1 rfl) ?_
  obtain ⟨hPc, hDc, hFc⟩ := kk_cutout (wc := []) hP hD hS hA [] (by decide) rfl
  have hKc := kk_Ks (tq := []) hK [] rfl
  refine va_calli (va_runS (As := [.int 1]) (rest := []) ⟨hx, hb, hml, hown, hts⟩ (g_X5_isKind_12 l dC dI s.heap.size) (va_cwS 1 hts gX5_call_X5_isKind rfl rfl rfl kh_X5_isKind ⟨Nat.le_of_ble_eq_true rfl, Nat.le_of_ble_eq_true rfl⟩) ⟨fun a U g mk q => by obtain ⟨q0, q1, qP, qK, qD⟩ := q; exact ⟨q0, q1, qP, va_K.moved (u := U) (U := U.calling g mk a) (Vm.Alike.refl U.vm) qK, qD⟩, fun U hU hW => ⟨rfl, by rw [hU], by rw [hU]; exact hPc, va_K.moved hW.alike hKc, hDc.weaken (fun _ _ _ _ => trivial)⟩⟩ rfl rfl hl.1 rfl (lv_room (Nat.le_of_ble_eq_true rfl)) dX5_call_15 ⟨Nat.le_of_ble_eq_true rfl, Nat.le_of_ble_eq_true rfl⟩) hS (fun q _ h => hFc q h) hFc (fun r_1 u t H1 locs ht hvm hw hB hz1 hk1 hS => ?_)
  obtain ⟨hP1, hK1, hD1⟩ := hB
  rw [ht] at hP1
  have hK1 := va_K.moved hvm.symm hK1
  obtain ⟨hP, hD⟩ := va_join (wr := [(h0, kO5 h1 n0_size h2 n0_ran), (h1, kAi cint 50 f1), (h2, kAi cint 24 f2)]) (w1 := []) hP hD [] [0, 1, 2] rfl rfl (by decide) (by decide) hk1 hFc hP1 hD1
  generalize H1 = H at hP hS ⊢
  have hP : va_P (dC, dI) vwCl [(h0, kO5 h1 n0_size h2 n0_ran), (h1, kAi cint 50 f1), (h2, kAi cint 24 f2)] H := hP
  have hD : va_D A [(h0, kO5 h1 n0_size h2 n0_ran), (h1, kAi cint 50 f1), (h2, kAi cint 24 f2)] := hD
  obtain rfl := hw
  refine lv_if_eq (tgt := 48) hx hb dX5_call_18 (by decide) (fun c => absurd c (by decide)) (fun _ => ?_)
  refine va_gets hx hb hZOWN_BODIES hS hown (hts (.fieldLink RX5 43 "KinkStreet$Lines" "OWN_BODIES" "[I") (List.mem_of_getElem? (i := 1) rfl)) (fun _ h9 => h9) dX5_call_21 ?_
  refine lv_iload hx hb dX5_call_24 (lv_at hl 1 rfl) ?_
  refine lv_iconst (v := 4) hx hb dX5_call_26 kk_ic_4 ?_
  refine lv_imul hx hb dX5_call_27 ?_
  refine lv_topi (fun y_2 e_2 => ?_)
  obtain rfl : y_2 = 4 := e_2.trans (by decide)
  refine lv_iload_n hx hb dX5_call_28 rfl (lv_at hl 5 rfl) ?_
  refine lv_iadd hx hb dX5_call_29 ?_
  refine lv_topi (fun y_3 e_3 => ?_)
  obtain rfl : y_3 = 5 := e_3.trans (by decide)
  refine va_ti (v := .int 0) hx hb hTOWN_BODIES hS (by unfold vp_in; decide) rfl dX5_call_30 ?_
  refine lv_if_ne (tgt := 48) hx hb dX5_call_31 (by decide) (fun c => absurd c (by decide)) (fun _ => ?_)
  refine va_gets hx hb hZABOVE hS hown (hts (.fieldLink RX5 22 "KinkStreet$Lines" "ABOVE" "[I") (List.mem_of_getElem? (i := 2) rfl)) (fun _ h9 => h9) dX5_call_34 ?_
  refine lv_iload hx hb dX5_call_37 (lv_at hl 1 rfl) ?_
  refine va_ti (v := .int 0) hx hb hTABOVE hS (by unfold vp_in; decide) rfl dX5_call_39 ?_
  refine lv_istore hx hb dX5_call_40 hl (by decide) (rfl : _ = ([(6, .int 0), (7, .int 0), (0, .ref h0), (1, .int p0), (2, .int 1), (3, .int 1), (4, .int p3), (5, .int p4)] : List (Nat × Value))) (fun ls hl => ?_)
  refine lv_iinc (v := 1) hx hb dX5_call_42 hl (k := 1) rfl (by first | rfl | decide) (by decide) (rfl : _ = ([(7, .int 1), (6, .int 0), (0, .ref h0), (1, .int p0), (2, .int 1), (3, .int 1), (4, .int p3), (5, .int p4)] : List (Nat × Value))) (fun ls hl => ?_)
  refine lv_goto (tgt := 6) hx hb dX5_call_45 (by decide) ?_
  refine lv_iload hx hb dX5_call_6 (lv_at hl 0 rfl) ?_
  refine lv_bipush (v := 8) hx hb dX5_call_8 kk_bi_8 ?_
  refine lv_icmp_ge (tgt := 48) hx hb dX5_call_10 (by decide) (fun c => absurd c (by decide)) (fun _ => ?_)
  refine lv_iload hx hb dX5_call_13 (lv_at hl 1 rfl) ?_
  obtain ⟨hPc, hDc, hFc⟩ := kk_cutout (wc := []) hP hD hS hA [] (by decide) rfl
  have hKc := kk_Ks (tq := []) hK [] rfl
  refine va_calli (va_runS (As := [.int 0]) (rest := []) ⟨hx, hb, hml, hown, hts⟩ (g_X5_isKind_11 l dC dI H.size) (va_cwS 1 hts gX5_call_X5_isKind rfl rfl rfl kh_X5_isKind ⟨Nat.le_of_ble_eq_true rfl, Nat.le_of_ble_eq_true rfl⟩) ⟨fun a U g mk q => by obtain ⟨q0, q1, qP, qK, qD⟩ := q; exact ⟨q0, q1, qP, va_K.moved (u := U) (U := U.calling g mk a) (Vm.Alike.refl U.vm) qK, qD⟩, fun U hU hW => ⟨rfl, by rw [hU], by rw [hU]; exact hPc, va_K.moved hW.alike hKc, hDc.weaken (fun _ _ _ _ => trivial)⟩⟩ rfl rfl hl.1 rfl (lv_room (Nat.le_of_ble_eq_true rfl)) dX5_call_15 ⟨Nat.le_of_ble_eq_true rfl, Nat.le_of_ble_eq_true rfl⟩) hS (fun q _ h => hFc q h) hFc (fun r_4 u t H1 locs ht hvm hw hB hz1 hk1 hS => ?_)
  obtain ⟨hP1, hK1, hD1⟩ := hB
  rw [ht] at hP1
  have hK1 := va_K.moved hvm.symm hK1
  obtain ⟨hP, hD⟩ := va_join (wr := [(h0, kO5 h1 n0_size h2 n0_ran), (h1, kAi cint 50 f1), (h2, kAi cint 24 f2)]) (w1 := []) hP hD [] [0, 1, 2] rfl rfl (by decide) (by decide) hk1 hFc hP1 hD1
  generalize H1 = H at hP hS ⊢
  have hP : va_P (dC, dI) vwCl [(h0, kO5 h1 n0_size h2 n0_ran), (h1, kAi cint 50 f1), (h2, kAi cint 24 f2)] H := hP
  have hD : va_D A [(h0, kO5 h1 n0_size h2 n0_ran), (h1, kAi cint 50 f1), (h2, kAi cint 24 f2)] := hD
  obtain rfl := hw
  refine lv_if_eq (tgt := 48) hx hb dX5_call_18 (by decide) (fun c => absurd c (by decide)) (fun _ => ?_)
  refine va_gets hx hb hZOWN_BODIES hS hown (hts (.fieldLink RX5 43 "KinkStreet$Lines" "OWN_BODIES" "[I") (List.mem_of_getElem? (i := 1) rfl)) (fun _ h9 => h9) dX5_call_21 ?_
  refine lv_iload hx hb dX5_call_24 (lv_at hl 1 rfl) ?_
  refine lv_iconst (v := 4) hx hb dX5_call_26 kk_ic_4 ?_
  refine lv_imul hx hb dX5_call_27 ?_
  refine lv_topi (fun y_5 e_5 => ?_)
  obtain rfl : y_5 = 0 := e_5.trans (by decide)
  refine lv_iload_n hx hb dX5_call_28 rfl (lv_at hl 5 rfl) ?_
  refine lv_iadd hx hb dX5_call_29 ?_
  refine lv_topi (fun y_6 e_6 => ?_)
  obtain rfl : y_6 = 1 := e_6.trans (by decide)
  refine va_ti (v := .int 10) hx hb hTOWN_BODIES hS (by unfold vp_in; decide) rfl dX5_call_30 ?_
  refine lv_if_ne (tgt := 48) hx hb dX5_call_31 (by decide) (fun _ => ?_) (fun c => absurd c (by decide))
  refine lv_iload hx hb dX5_call_48 (lv_at hl 1 rfl) ?_
  obtain ⟨hPc, hDc, hFc⟩ := kk_cutout (wc := []) hP hD hS hA [] (by decide) rfl
  have hKc := kk_Ks (tq := []) hK [] rfl
  refine va_calli (va_runS (As := [.int 0]) (rest := []) ⟨hx, hb, hml, hown, hts⟩ (g_X5_isKind_11 l dC dI H.size) (va_cwS 1 hts gX5_call_X5_isKind rfl rfl rfl kh_X5_isKind ⟨Nat.le_of_ble_eq_true rfl, Nat.le_of_ble_eq_true rfl⟩) ⟨fun a U g mk q => by obtain ⟨q0, q1, qP, qK, qD⟩ := q; exact ⟨q0, q1, qP, va_K.moved (u := U) (U := U.calling g mk a) (Vm.Alike.refl U.vm) qK, qD⟩, fun U hU hW => ⟨rfl, by rw [hU], by rw [hU]; exact hPc, va_K.moved hW.alike hKc, hDc.weaken (fun _ _ _ _ => trivial)⟩⟩ rfl rfl hl.1 rfl (lv_room (Nat.le_of_ble_eq_true rfl)) dX5_call_50 ⟨Nat.le_of_ble_eq_true rfl, Nat.le_of_ble_eq_true rfl⟩) hS (fun q _ h => hFc q h) hFc (fun r_7 u t H1 locs ht hvm hw hB hz1 hk1 hS => ?_)
  obtain ⟨hP1, hK1, hD1⟩ := hB
  rw [ht] at hP1
  have hK1 := va_K.moved hvm.symm hK1
  obtain ⟨hP, hD⟩ := va_join (wr := [(h0, kO5 h1 n0_size h2 n0_ran), (h1, kAi cint 50 f1), (h2, kAi cint 24 f2)]) (w1 := []) hP hD [] [0, 1, 2] rfl rfl (by decide) (by decide) hk1 hFc hP1 hD1
  generalize H1 = H at hP hS ⊢
  have hP : va_P (dC, dI) vwCl [(h0, kO5 h1 n0_size h2 n0_ran), (h1, kAi cint 50 f1), (h2, kAi cint 24 f2)] H := hP
  have hD : va_D A [(h0, kO5 h1 n0_size h2 n0_ran), (h1, kAi cint 50 f1), (h2, kAi cint 24 f2)] := hD
  obtain rfl := hw
  refine lv_if_eq (tgt := 63) hx hb dX5_call_53 (by decide) (fun c => absurd c (by decide)) (fun _ => ?_)
  refine lv_iload hx hb dX5_call_56 (lv_at hl 7 rfl) ?_
  refine lv_bipush (v := 40) hx hb dX5_call_58 kk_bi_40 ?_
  refine lv_icmp_le (tgt := 65) hx hb dX5_call_60 (by decide) (fun c_8 => ?_) (fun c_8 => ?_)
  · have t_8 : p4.toInt ≤ 40 := kk_le c_8
    refine va_gets hx hb hZOWN_BODIES hS hown (hts (.fieldLink RX5 43 "KinkStreet$Lines" "OWN_BODIES" "[I") (List.mem_of_getElem? (i := 1) rfl)) (fun _ h9 => h9) dX5_call_65 ?_
    refine lv_iload hx hb dX5_call_68 (lv_at hl 1 rfl) ?_
    refine lv_iconst (v := 4) hx hb dX5_call_70 kk_ic_4 ?_
    refine lv_imul hx hb dX5_call_71 ?_
    refine lv_topi (fun y_9 e_9 => ?_)
    obtain rfl : y_9 = 0 := e_9.trans (by decide)
    refine lv_iload_n hx hb dX5_call_72 rfl (lv_at hl 5 rfl) ?_
    refine lv_iadd hx hb dX5_call_73 ?_
    refine lv_topi (fun y_10 e_10 => ?_)
    obtain rfl : y_10 = 1 := e_10.trans (by decide)
    refine va_ti (v := .int 10) hx hb hTOWN_BODIES hS (by unfold vp_in; decide) rfl dX5_call_74 ?_
    refine lv_istore hx hb dX5_call_75 hl (by decide) (rfl : _ = ([(7, .int 10), (6, .int 0), (0, .ref h0), (1, .int p0), (2, .int 1), (3, .int 1), (4, .int p3), (5, .int p4)] : List (Nat × Value))) (fun ls hl => ?_)
    refine lv_aload_n hx hb dX5_call_77 rfl (lv_at hl 2 rfl) ?_
    refine va_get (D := (dC, dI)) (ci := 5) (v := .int n0_ran) (C := RX5) (T := TX5) (N := 4) hx hb hts (fun _ h => List.mem_cons_of_mem _ (List.mem_append_right _ h)) hown hK hP 0 rfl rfl 3 (by decide) (hts (.fieldLink RX5 36 "KinkStreet$Lines" "ran" "I") (List.mem_of_getElem? (i := 3) rfl)) (fun _ h9 => h9) rfl dX5_call_78 ?_
    refine lv_bipush (v := 24) hx hb dX5_call_81 kk_bi_24 ?_
    refine lv_icmp_ge (tgt := 97) hx hb dX5_call_83 (by decide) (fun c_11 => ?_) (fun c_11 => ?_)
    · have t_11 : 24 ≤ n0_ran.toInt := kk_le c_11
      refine lv_aload_n hx hb dX5_call_97 rfl (lv_at hl 2 rfl) ?_
      refine lv_dup hx hb dX5_call_98 rfl ?_
      refine va_get (D := (dC, dI)) (ci := 5) (v := .int n0_ran) (C := RX5) (T := TX5) (N := 4) hx hb hts (fun _ h => List.mem_cons_of_mem _ (List.mem_append_right _ h)) hown hK hP 0 rfl rfl 3 (by decide) (hts (.fieldLink RX5 36 "KinkStreet$Lines" "ran" "I") (List.mem_of_getElem? (i := 3) rfl)) (fun _ h9 => h9) rfl dX5_call_99 ?_
      refine lv_iconst (v := 1) hx hb dX5_call_102 kk_ic_1 ?_
      refine lv_iadd hx hb dX5_call_103 ?_
      refine va_put (D := (dC, dI)) (ci := 5) (v := .int (n0_ran + 1)) (ty := .int) (C := RX5) (T := TX5) (N := 4) hx hb hts (fun _ h => List.mem_cons_of_mem _ (List.mem_append_right _ h)) tyX5 tyX5_ok nmX5 hown hK hP hD hS 0 rfl rfl 3 (by decide) (hts (.fieldLink RX5 36 "KinkStreet$Lines" "ran" "I") (List.mem_of_getElem? (i := 3) rfl)) (fun _ h9 => h9) rfl (by decide +kernel) rfl rfl (Nat.le_of_ble_eq_true rfl) dX5_call_104 (fun H locs hP hD hS => ?_)
      have hP : va_P (dC, dI) vwCl [(h0, kO5 h1 n0_size h2 (n0_ran + 1)), (h1, kAi cint 50 f1), (h2, kAi cint 24 f2)] H := hP
      have hD : va_D A [(h0, kO5 h1 n0_size h2 (n0_ran + 1)), (h1, kAi cint 50 f1), (h2, kAi cint 24 f2)] := hD
      have hp_12 : kk_P f2 f2 n0_ran.toInt (n0_ran + 1 : Int32).toInt [10] := kk_P_out (by have := kk_add2 (x := n0_ran) (y := 1) (a := n0_ran.toInt) (b := 1) rfl rfl (by omega) (by omega); omega) (by have := kk_add2 (x := n0_ran) (y := 1) (a := n0_ran.toInt) (b := 1) rfl rfl (by omega) (by omega); omega)
      refine lv_iload hx hb dX5_call_107 (lv_at hl 1 rfl) ?_
      refine lv_if_ne (tgt := 128) hx hb dX5_call_109 (by decide) (fun c => absurd c (by decide)) (fun _ => ?_)
      refine lv_aload_n hx hb dX5_call_112 rfl (lv_at hl 2 rfl) ?_
      refine lv_iload_n hx hb dX5_call_113 rfl (lv_at hl 3 rfl) ?_
      refine lv_iload hx hb dX5_call_114 (lv_at hl 0 rfl) ?_
      refine lv_iload hx hb dX5_call_116 (lv_at hl 6 rfl) ?_
      refine lv_iload hx hb dX5_call_118 (lv_at hl 7 rfl) ?_
      refine lv_iconst (v := 1) hx hb dX5_call_120 kk_ic_1 ?_
      refine lv_iadd hx hb dX5_call_121 ?_
      obtain ⟨hPc, hDc, hFc⟩ := kk_cutout (wc := [(h0, kO5 h1 n0_size h2 (n0_ran + 1)), (h1, kAi cint 50 f1), (h2, kAi cint 24 f2)]) hP hD hS hA [0, 1, 2] (by decide) rfl
      have hKc := kk_Ks (tq := [(cint, .int)]) hK [0] rfl
      refine va_calli (va_runV (As := [.int p0, .int 10, .int p3, .int (p4 + 1)]) (rest := []) ⟨hx, hb, hml, hown, hts⟩ (g_X5_runLine_5 l dC dI h0 h1 h2 cint H.size p0 p3 (p4 + 1) (by show 0 ≤ ((p4 + 1) : Int32).toInt ∧ ((p4 + 1) : Int32).toInt ≤ 9; first | with_reducible assumption | (constructor <;> (have := kk_add2 (x := n0_ran) (y := 1) (a := n0_ran.toInt) (b := 1) rfl rfl (by omega) (by omega); have := kk_add2 (x := p4) (y := 1) (a := p4.toInt) (b := 1) rfl rfl (by omega) (by omega); omega))) n0_size (n0_ran + 1) f1 f2 tn0_size (by show 0 ≤ ((n0_ran + 1) : Int32).toInt ∧ ((n0_ran + 1) : Int32).toInt ≤ 997; first | with_reducible assumption | (constructor <;> (have := kk_add2 (x := n0_ran) (y := 1) (a := n0_ran.toInt) (b := 1) rfl rfl (by omega) (by omega); have := kk_add2 (x := p4) (y := 1) (a := p4.toInt) (b := 1) rfl rfl (by omega) (by omega); omega))) bf1 (by show (0 ≤ (p0 : Int32).toInt ∧ (p0 : Int32).toInt < (n0_size : Int32).toInt); first | with_reducible assumption | (have := kk_add2 (x := n0_ran) (y := 1) (a := n0_ran.toInt) (b := 1) rfl rfl (by omega) (by omega); have := kk_add2 (x := p4) (y := 1) (a := p4.toInt) (b := 1) rfl rfl (by omega) (by omega); omega)) aOWN_BODIES aABOVE) (cwV 4 hts gX5_call_X5_runLine rfl rfl rfl ⟨rfl, kh_X5_runLine⟩ ⟨Nat.le_of_ble_eq_true rfl, Nat.le_of_ble_eq_true rfl⟩) ⟨fun a U g mk q => by obtain ⟨q0, q1, qP, qK, qD, qx0, qx1, qx2, qx3⟩ := q; exact ⟨q0, q1, qP, va_K.moved (u := U) (U := U.calling g mk a) (Vm.Alike.refl U.vm) qK, qD, va_Z.moved (u := U) (U := U.calling g mk a) (Vm.Alike.refl U.vm) qx0, va_T.moved (u := U) (U := U.calling g mk a) (Vm.Alike.refl U.vm) qx1, va_Z.moved (u := U) (U := U.calling g mk a) (Vm.Alike.refl U.vm) qx2, va_T.moved (u := U) (U := U.calling g mk a) (Vm.Alike.refl U.vm) qx3⟩, va_recv hKc hPc (ci := 5) (q0 := 0) rfl rfl, fun U hU hW => ⟨rfl, by rw [hU], by rw [hU]; exact hPc, va_K.moved hW.alike hKc, hDc.weaken (fun _ _ _ _ => trivial), by rw [hU]; exact ((hZOWN_BODIES.kept (fun a h1 h2 => hS.2.1 a h1 h2)).narrow hFc).moved hW.alike, by rw [hU]; exact ((hTOWN_BODIES.kept (fun a h1 h2 => hS.2.1 a h1 h2)).narrow hFc).moved hW.alike, by rw [hU]; exact ((hZABOVE.kept (fun a h1 h2 => hS.2.1 a h1 h2)).narrow hFc).moved hW.alike, by rw [hU]; exact ((hTABOVE.kept (fun a h1 h2 => hS.2.1 a h1 h2)).narrow hFc).moved hW.alike⟩⟩ rfl rfl hl.1 rfl (lv_room (Nat.le_of_ble_eq_true rfl)) dX5_call_122 ⟨Nat.le_of_ble_eq_true rfl, Nat.le_of_ble_eq_true rfl⟩) hS (fun q _ h => hFc q h) hFc (fun r_13 u t H1 locs ht hvm hw hB hz1 hk1 hS => ?_)
      obtain ⟨y_14, f_15, by_14, v_15_0, hn_15_0, hP1, hK1, hD1⟩ := hB
      have v_15_0 : y_14.toInt ≤ (n0_ran + 1).toInt + 3 := v_15_0
      have hn_15_0 : kk_P f2 f_15 (n0_ran + 1).toInt y_14.toInt ((kt_breaks (f1 (p0 : Int32).toNatClampNeg) 0).tail) := hn_15_0
      rw [ht] at hP1
      have hK1 := va_K.moved hvm.symm hK1
      obtain ⟨hP, hD⟩ := va_join (wr := []) (w1 := [(h0, kO5 h1 n0_size h2 y_14), (h1, kAi cint 50 f1), (h2, kAi cint 24 f_15)]) hP hD [0, 1, 2] [] rfl rfl (by decide) (by decide) hk1 hFc hP1 hD1
      generalize H1 = H at hP hS ⊢
      have hP : va_P (dC, dI) vwCl [(h0, kO5 h1 n0_size h2 y_14), (h1, kAi cint 50 f1), (h2, kAi cint 24 f_15)] H := hP
      have hD : va_D A [(h0, kO5 h1 n0_size h2 y_14), (h1, kAi cint 50 f1), (h2, kAi cint 24 f_15)] := hD
      rcases hw with ⟨t_13_0, _⟩
      · skip
        have t_13_0 : r_13 = kk_breaks (f1 (p0 : Int32).toNatClampNeg) 0 p0 p3 := t_13_0
        obtain rfl : r_13 = (kk_breaks (f1 (p0 : Int32).toNatClampNeg) 0 p0 p3) := t_13_0
        refine lv_goto (tgt := 143) hx hb dX5_call_125 (by decide) ?_
        obtain ⟨hP9, hD9⟩ := kk_leafout (wc := [(h0, kO5 h1 n0_size h2 y_14), (h1, kAi cint 50 f1), (h2, kAi cint 24 f_15)]) hP hD [0, 1, 2] (by decide) rfl
        have hK9 := kk_Ks (tq := []) hK [] rfl
        exact W.iret (v := (kk_breaks (f1 (p0 : Int32).toNatClampNeg) 0 p0 p3)) hx hb hr (fun t ht hW => ⟨⟨(kk_breaks (f1 (p0 : Int32).toNatClampNeg) 0 p0 p3), (), rfl, ⟨(by first | rfl | (unfold kk_breaks; (repeat' split) <;> first | rfl | (exfalso; have : (0 : Int32).toInt = 0 := rfl; have : (1 : Int32).toInt = 1 := rfl; have : (2 : Int32).toInt = 2 := rfl; have : (3 : Int32).toInt = 3 := rfl; have : (4 : Int32).toInt = 4 := rfl; have : (5 : Int32).toInt = 5 := rfl; have : (6 : Int32).toInt = 6 := rfl; have : (7 : Int32).toInt = 7 := rfl; have := kk_add2 (x := n0_ran) (y := 1) (a := n0_ran.toInt) (b := 1) rfl rfl (by omega) (by omega); have := kk_add2 (x := p4) (y := 1) (a := p4.toInt) (b := 1) rfl rfl (by omega) (by omega); omega))), trivial⟩, y_14, f_15, (by show 1 ≤ (y_14 : Int32).toInt ∧ (y_14 : Int32).toInt ≤ 1000; first | with_reducible assumption | (constructor <;> (have := kk_add2 (x := n0_ran) (y := 1) (a := n0_ran.toInt) (b := 1) rfl rfl (by omega) (by omega); have := kk_add2 (x := p4) (y := 1) (a := p4.toInt) (b := 1) rfl rfl (by omega) (by omega); omega))), (by show (y_14 : Int32).toInt ≤ (n0_ran : Int32).toInt + 4; first | with_reducible assumption | (have := kk_add2 (x := n0_ran) (y := 1) (a := n0_ran.toInt) (b := 1) rfl rfl (by omega) (by omega); have := kk_add2 (x := p4) (y := 1) (a := p4.toInt) (b := 1) rfl rfl (by omega) (by omega); omega)), (by first | exact kk_P_eq (kk_P_trans hp_12 hn_15_0) rfl | (unfold kt_breaks; (repeat' split) <;> first | exact kk_P_eq (kk_P_trans hp_12 hn_15_0) rfl | (exfalso; have : (0 : Int32).toInt = 0 := rfl; have : (1 : Int32).toInt = 1 := rfl; have : (2 : Int32).toInt = 2 := rfl; have : (3 : Int32).toInt = 3 := rfl; have : (4 : Int32).toInt = 4 := rfl; have : (5 : Int32).toInt = 5 := rfl; have : (6 : Int32).toInt = 6 := rfl; have : (7 : Int32).toInt = 7 := rfl; have := kk_add2 (x := n0_ran) (y := 1) (a := n0_ran.toInt) (b := 1) rfl rfl (by omega) (by omega); have := kk_add2 (x := p4) (y := 1) (a := p4.toInt) (b := 1) rfl rfl (by omega) (by omega); omega))), by rw [ht]; exact hP9, va_K.moved hW.alike hK9, hD9⟩, hS.F ht⟩) hS.2.2 dX5_call_143
    · have t_11 : n0_ran.toInt < 24 := kk_nle c_11
      refine lv_aload_n hx hb dX5_call_86 rfl (lv_at hl 2 rfl) ?_
      refine va_get (D := (dC, dI)) (ci := 5) (v := .ref h2) (C := RX5) (T := TX5) (N := 4) hx hb hts (fun _ h => List.mem_cons_of_mem _ (List.mem_append_right _ h)) hown hK hP 0 rfl rfl 2 (by decide) (hts (.fieldLink RX5 15 "KinkStreet$Lines" "trace" "[I") (List.mem_of_getElem? (i := 4) rfl)) (fun _ h9 => h9) rfl dX5_call_87 ?_
      refine lv_aload_n hx hb dX5_call_90 rfl (lv_at hl 2 rfl) ?_
      refine va_get (D := (dC, dI)) (ci := 5) (v := .int n0_ran) (C := RX5) (T := TX5) (N := 4) hx hb hts (fun _ h => List.mem_cons_of_mem _ (List.mem_append_right _ h)) hown hK hP 0 rfl rfl 3 (by decide) (hts (.fieldLink RX5 36 "KinkStreet$Lines" "ran" "I") (List.mem_of_getElem? (i := 3) rfl)) (fun _ h9 => h9) rfl dX5_call_91 ?_
      refine lv_iload hx hb dX5_call_94 (lv_at hl 0 rfl) ?_
      refine va_iast hx hb hK hP hD hS 2 0 rfl rfl (vp_in_iff.mpr ⟨by omega, by omega⟩) dX5_call_96 (fun H locs hP hD hS => ?_)
      have w_16 : ((upd f2 (n0_ran : Int32).toNatClampNeg 10) (n0_ran : Int32).toNatClampNeg).toInt = (10 : Int32).toInt := by rw [kk_ups]
      have hP : va_P (dC, dI) vwCl [(h0, kO5 h1 n0_size h2 n0_ran), (h1, kAi cint 50 f1), (h2, kAi cint 24 (upd f2 (n0_ran : Int32).toNatClampNeg 10))] H := hP
      have hD : va_D A [(h0, kO5 h1 n0_size h2 n0_ran), (h1, kAi cint 50 f1), (h2, kAi cint 24 (upd f2 (n0_ran : Int32).toNatClampNeg 10))] := hD
      refine lv_aload_n hx hb dX5_call_97 rfl (lv_at hl 2 rfl) ?_
      refine lv_dup hx hb dX5_call_98 rfl ?_
      refine va_get (D := (dC, dI)) (ci := 5) (v := .int n0_ran) (C := RX5) (T := TX5) (N := 4) hx hb hts (fun _ h => List.mem_cons_of_mem _ (List.mem_append_right _ h)) hown hK hP 0 rfl rfl 3 (by decide) (hts (.fieldLink RX5 36 "KinkStreet$Lines" "ran" "I") (List.mem_of_getElem? (i := 3) rfl)) (fun _ h9 => h9) rfl dX5_call_99 ?_
      refine lv_iconst (v := 1) hx hb dX5_call_102 kk_ic_1 ?_
      refine lv_iadd hx hb dX5_call_103 ?_
      refine va_put (D := (dC, dI)) (ci := 5) (v := .int (n0_ran + 1)) (ty := .int) (C := RX5) (T := TX5) (N := 4) hx hb hts (fun _ h => List.mem_cons_of_mem _ (List.mem_append_right _ h)) tyX5 tyX5_ok nmX5 hown hK hP hD hS 0 rfl rfl 3 (by decide) (hts (.fieldLink RX5 36 "KinkStreet$Lines" "ran" "I") (List.mem_of_getElem? (i := 3) rfl)) (fun _ h9 => h9) rfl (by decide +kernel) rfl rfl (Nat.le_of_ble_eq_true rfl) dX5_call_104 (fun H locs hP hD hS => ?_)
      have hP : va_P (dC, dI) vwCl [(h0, kO5 h1 n0_size h2 (n0_ran + 1)), (h1, kAi cint 50 f1), (h2, kAi cint 24 (upd f2 (n0_ran : Int32).toNatClampNeg 10))] H := hP
      have hD : va_D A [(h0, kO5 h1 n0_size h2 (n0_ran + 1)), (h1, kAi cint 50 f1), (h2, kAi cint 24 (upd f2 (n0_ran : Int32).toNatClampNeg 10))] := hD
      have hp_17 : kk_P f2 (upd f2 (n0_ran : Int32).toNatClampNeg 10) n0_ran.toInt (n0_ran + 1 : Int32).toInt [10] := kk_P_one (by have := kk_add2 (x := n0_ran) (y := 1) (a := n0_ran.toInt) (b := 1) rfl rfl (by omega) (by omega); omega) (by have := kk_add2 (x := n0_ran) (y := 1) (a := n0_ran.toInt) (b := 1) rfl rfl (by omega) (by omega); omega)
      refine lv_iload hx hb dX5_call_107 (lv_at hl 1 rfl) ?_
      refine lv_if_ne (tgt := 128) hx hb dX5_call_109 (by decide) (fun c => absurd c (by decide)) (fun _ => ?_)
      refine lv_aload_n hx hb dX5_call_112 rfl (lv_at hl 2 rfl) ?_
      refine lv_iload_n hx hb dX5_call_113 rfl (lv_at hl 3 rfl) ?_
      refine lv_iload hx hb dX5_call_114 (lv_at hl 0 rfl) ?_
      refine lv_iload hx hb dX5_call_116 (lv_at hl 6 rfl) ?_
      refine lv_iload hx hb dX5_call_118 (lv_at hl 7 rfl) ?_
      refine lv_iconst (v := 1) hx hb dX5_call_120 kk_ic_1 ?_
      refine lv_iadd hx hb dX5_call_121 ?_
      obtain ⟨hPc, hDc, hFc⟩ := kk_cutout (wc := [(h0, kO5 h1 n0_size h2 (n0_ran + 1)), (h1, kAi cint 50 f1), (h2, kAi cint 24 (upd f2 (n0_ran : Int32).toNatClampNeg 10))]) hP hD hS hA [0, 1, 2] (by decide) rfl
      have hKc := kk_Ks (tq := [(cint, .int)]) hK [0] rfl
      refine va_calli (va_runV (As := [.int p0, .int 10, .int p3, .int (p4 + 1)]) (rest := []) ⟨hx, hb, hml, hown, hts⟩ (g_X5_runLine_5 l dC dI h0 h1 h2 cint H.size p0 p3 (p4 + 1) (by show 0 ≤ ((p4 + 1) : Int32).toInt ∧ ((p4 + 1) : Int32).toInt ≤ 9; first | with_reducible assumption | (constructor <;> (have := kk_add2 (x := n0_ran) (y := 1) (a := n0_ran.toInt) (b := 1) rfl rfl (by omega) (by omega); have := kk_add2 (x := p4) (y := 1) (a := p4.toInt) (b := 1) rfl rfl (by omega) (by omega); omega))) n0_size (n0_ran + 1) f1 (upd f2 (n0_ran : Int32).toNatClampNeg 10) tn0_size (by show 0 ≤ ((n0_ran + 1) : Int32).toInt ∧ ((n0_ran + 1) : Int32).toInt ≤ 997; first | with_reducible assumption | (constructor <;> (have := kk_add2 (x := n0_ran) (y := 1) (a := n0_ran.toInt) (b := 1) rfl rfl (by omega) (by omega); have := kk_add2 (x := p4) (y := 1) (a := p4.toInt) (b := 1) rfl rfl (by omega) (by omega); omega))) bf1 (by show (0 ≤ (p0 : Int32).toInt ∧ (p0 : Int32).toInt < (n0_size : Int32).toInt); first | with_reducible assumption | (have := kk_add2 (x := n0_ran) (y := 1) (a := n0_ran.toInt) (b := 1) rfl rfl (by omega) (by omega); have := kk_add2 (x := p4) (y := 1) (a := p4.toInt) (b := 1) rfl rfl (by omega) (by omega); omega)) aOWN_BODIES aABOVE) (cwV 4 hts gX5_call_X5_runLine rfl rfl rfl ⟨rfl, kh_X5_runLine⟩ ⟨Nat.le_of_ble_eq_true rfl, Nat.le_of_ble_eq_true rfl⟩) ⟨fun a U g mk q => by obtain ⟨q0, q1, qP, qK, qD, qx0, qx1, qx2, qx3⟩ := q; exact ⟨q0, q1, qP, va_K.moved (u := U) (U := U.calling g mk a) (Vm.Alike.refl U.vm) qK, qD, va_Z.moved (u := U) (U := U.calling g mk a) (Vm.Alike.refl U.vm) qx0, va_T.moved (u := U) (U := U.calling g mk a) (Vm.Alike.refl U.vm) qx1, va_Z.moved (u := U) (U := U.calling g mk a) (Vm.Alike.refl U.vm) qx2, va_T.moved (u := U) (U := U.calling g mk a) (Vm.Alike.refl U.vm) qx3⟩, va_recv hKc hPc (ci := 5) (q0 := 0) rfl rfl, fun U hU hW => ⟨rfl, by rw [hU], by rw [hU]; exact hPc, va_K.moved hW.alike hKc, hDc.weaken (fun _ _ _ _ => trivial), by rw [hU]; exact ((hZOWN_BODIES.kept (fun a h1 h2 => hS.2.1 a h1 h2)).narrow hFc).moved hW.alike, by rw [hU]; exact ((hTOWN_BODIES.kept (fun a h1 h2 => hS.2.1 a h1 h2)).narrow hFc).moved hW.alike, by rw [hU]; exact ((hZABOVE.kept (fun a h1 h2 => hS.2.1 a h1 h2)).narrow hFc).moved hW.alike, by rw [hU]; exact ((hTABOVE.kept (fun a h1 h2 => hS.2.1 a h1 h2)).narrow hFc).moved hW.alike⟩⟩ rfl rfl hl.1 rfl (lv_room (Nat.le_of_ble_eq_true rfl)) dX5_call_122 ⟨Nat.le_of_ble_eq_true rfl, Nat.le_of_ble_eq_true rfl⟩) hS (fun q _ h => hFc q h) hFc (fun r_18 u t H1 locs ht hvm hw hB hz1 hk1 hS => ?_)
      obtain ⟨y_19, f_20, by_19, v_20_0, hn_20_0, hP1, hK1, hD1⟩ := hB
      have v_20_0 : y_19.toInt ≤ (n0_ran + 1).toInt + 3 := v_20_0
      have hn_20_0 : kk_P (upd f2 (n0_ran : Int32).toNatClampNeg 10) f_20 (n0_ran + 1).toInt y_19.toInt ((kt_breaks (f1 (p0 : Int32).toNatClampNeg) 0).tail) := hn_20_0
      rw [ht] at hP1
      have hK1 := va_K.moved hvm.symm hK1
      obtain ⟨hP, hD⟩ := va_join (wr := []) (w1 := [(h0, kO5 h1 n0_size h2 y_19), (h1, kAi cint 50 f1), (h2, kAi cint 24 f_20)]) hP hD [0, 1, 2] [] rfl rfl (by decide) (by decide) hk1 hFc hP1 hD1
      generalize H1 = H at hP hS ⊢
      have hP : va_P (dC, dI) vwCl [(h0, kO5 h1 n0_size h2 y_19), (h1, kAi cint 50 f1), (h2, kAi cint 24 f_20)] H := hP
      have hD : va_D A [(h0, kO5 h1 n0_size h2 y_19), (h1, kAi cint 50 f1), (h2, kAi cint 24 f_20)] := hD
      rcases hw with ⟨t_18_0, _⟩
      · skip
        have t_18_0 : r_18 = kk_breaks (f1 (p0 : Int32).toNatClampNeg) 0 p0 p3 := t_18_0
        obtain rfl : r_18 = (kk_breaks (f1 (p0 : Int32).toNatClampNeg) 0 p0 p3) := t_18_0
        refine lv_goto (tgt := 143) hx hb dX5_call_125 (by decide) ?_
        obtain ⟨hP9, hD9⟩ := kk_leafout (wc := [(h0, kO5 h1 n0_size h2 y_19), (h1, kAi cint 50 f1), (h2, kAi cint 24 f_20)]) hP hD [0, 1, 2] (by decide) rfl
        have hK9 := kk_Ks (tq := []) hK [] rfl
        exact W.iret (v := (kk_breaks (f1 (p0 : Int32).toNatClampNeg) 0 p0 p3)) hx hb hr (fun t ht hW => ⟨⟨(kk_breaks (f1 (p0 : Int32).toNatClampNeg) 0 p0 p3), (), rfl, ⟨(by first | rfl | (unfold kk_breaks; (repeat' split) <;> first | rfl | (exfalso; have : (0 : Int32).toInt = 0 := rfl; have : (1 : Int32).toInt = 1 := rfl; have : (2 : Int32).toInt = 2 := rfl; have : (3 : Int32).toInt = 3 := rfl; have : (4 : Int32).toInt = 4 := rfl; have : (5 : Int32).toInt = 5 := rfl; have : (6 : Int32).toInt = 6 := rfl; have : (7 : Int32).toInt = 7 := rfl; have := kk_add2 (x := n0_ran) (y := 1) (a := n0_ran.toInt) (b := 1) rfl rfl (by omega) (by omega); have := kk_add2 (x := p4) (y := 1) (a := p4.toInt) (b := 1) rfl rfl (by omega) (by omega); omega))), trivial⟩, y_19, f_20, (by show 1 ≤ (y_19 : Int32).toInt ∧ (y_19 : Int32).toInt ≤ 1000; first | with_reducible assumption | (constructor <;> (have := kk_add2 (x := n0_ran) (y := 1) (a := n0_ran.toInt) (b := 1) rfl rfl (by omega) (by omega); have := kk_add2 (x := p4) (y := 1) (a := p4.toInt) (b := 1) rfl rfl (by omega) (by omega); omega))), (by show (y_19 : Int32).toInt ≤ (n0_ran : Int32).toInt + 4; first | with_reducible assumption | (have := kk_add2 (x := n0_ran) (y := 1) (a := n0_ran.toInt) (b := 1) rfl rfl (by omega) (by omega); have := kk_add2 (x := p4) (y := 1) (a := p4.toInt) (b := 1) rfl rfl (by omega) (by omega); omega)), (by first | exact kk_P_eq (kk_P_trans hp_17 hn_20_0) rfl | (unfold kt_breaks; (repeat' split) <;> first | exact kk_P_eq (kk_P_trans hp_17 hn_20_0) rfl | (exfalso; have : (0 : Int32).toInt = 0 := rfl; have : (1 : Int32).toInt = 1 := rfl; have : (2 : Int32).toInt = 2 := rfl; have : (3 : Int32).toInt = 3 := rfl; have : (4 : Int32).toInt = 4 := rfl; have : (5 : Int32).toInt = 5 := rfl; have : (6 : Int32).toInt = 6 := rfl; have : (7 : Int32).toInt = 7 := rfl; have := kk_add2 (x := n0_ran) (y := 1) (a := n0_ran.toInt) (b := 1) rfl rfl (by omega) (by omega); have := kk_add2 (x := p4) (y := 1) (a := p4.toInt) (b := 1) rfl rfl (by omega) (by omega); omega))), by rw [ht]; exact hP9, va_K.moved hW.alike hK9, hD9⟩, hS.F ht⟩) hS.2.2 dX5_call_143
  · have t_8 : 40 < p4.toInt := kk_nle c_8
    exfalso; omega
set_option maxHeartbeats 4000000 in
set_option maxRecDepth 100000 in
theorem g_X5_runLine_6 (l : Launch) (dC : Nat → ClassId) (dI : Nat → Nat → Nat) (h0 : Nat) (h1 : Nat) (h2 : Nat) (cint : ClassId) (sz : Nat) (p0 : Int32) (p2 : Int32) (p3 : Int32) (tp3 : 0 ≤ p3.toInt ∧ p3.toInt ≤ 15) (n0_size : Int32) (n0_ran : Int32) (f1 : Nat → Int32) (tn0_size : 0 ≤ n0_size.toInt ∧ n0_size.toInt ≤ 50) (tn0_ran : kk_bx (0 ≤ n0_ran.toInt ∧ n0_ran.toInt ≤ 1000)) (bf1 : ∀ j, j < 50 → 0 ≤ (f1 j).toInt ∧ (f1 j).toInt ≤ 7) (pr0 : (0 ≤ p0.toInt ∧ p0.toInt < n0_size.toInt)) : Met l yX5_runLine wsX5_runLine ({ frames := 2, cells := 0, slots := 0, locals := 42 }) (va_Pc [.ref h0, .int p0, .int 11, .int p2, .int p3] (fun U => U.heap.size = sz ∧ va_P (dC, dI) vwCl [(h0, kO5 h1 n0_size h2 n0_ran), (h1, kAi cint 50 f1)] U.heap ∧ va_K (dC, dI) vwCl [(cint, .int)] U ∧ va_D (fun _ => True) [(h0, kO5 h1 n0_size h2 n0_ran), (h1, kAi cint 50 f1)])) (va_Qi (fun (r : Int32) (_ : Unit) => r = kk_leads (f1 (p0 : Int32).toNatClampNeg) 0 p0 p2 ∧ True) (fun (_ : Unit) t => va_P (dC, dI) vwCl [(h0, kO5 h1 n0_size h2 n0_ran), (h1, kAi cint 50 f1)] t.heap ∧ va_K (dC, dI) vwCl [] t ∧ va_D (va_A [(h0, kO5 h1 n0_size h2 n0_ran), (h1, kAi cint 50 f1)] sz) [(h0, kO5 h1 n0_size h2 n0_ran), (h1, kAi cint 50 f1)]) (va_A [(h0, kO5 h1 n0_size h2 n0_ran), (h1, kAi cint 50 f1)] sz)) 0 0 (va_A [(h0, kO5 h1 n0_size h2 n0_ran), (h1, kAi cint 50 f1)] sz) := by
  refine Met.ofW (cc := cX5_runLine) (maxL := 6) (ret := (some .int)) (by decide) rfl ?_
  intro p e s m args below meth c s₁ B hml hv
  obtain ⟨rfl, hsz, hP, hK, hD0⟩ := hv
  have hx := B.exec
  have hb := B.bytes
  have hr := B.returns
  have hts := atoms_spec (ws := wsX5_runLine) B.pre
  have hown : s.vm.findClass RX5 = some m.cls := findClass_of_methodNamed B.named
  have hlocks := B.notSynchronized
  subst hsz
  have hD := hD0.self (sz := s.heap.size)
  generalize hAe : va_A [(h0, kO5 h1 n0_size h2 n0_ran), (h1, kAi cint 50 f1)] s.heap.size = A at hD ⊢
  have hA : ∀ q : Nat, s.heap.size ≤ q → A q := fun q h => by rw [← hAe]; exact Or.inr h
  have hS : va_S A s.heap s.heap [] := va_S.rf
  have hP : va_P (dC, dI) vwCl [(h0, kO5 h1 n0_size h2 n0_ran), (h1, kAi cint 50 f1)] s.heap := hP
  have hl := lv_entry ([.ref h0, .int p0, .int 11, .int p2, .int p3]) (n := 6) (Nat.le_of_ble_eq_true rfl)
  rw [lg_entry_eq]
  generalize (lg_sl ([.ref h0, .int p0, .int 11, .int p2, .int p3]) ++ List.replicate (6 - (lg_sl ([.ref h0, .int p0, .int 11, .int p2, .int p3])).length) Slot.unset).toArray = ls at hl ⊢
  have hl : lv_has ls 6 [(0, .ref h0), (1, .int p0), (2, .int 11), (3, .int p2), (4, .int p3)] := hl
  refine lv_aload_n hx hb dX5_runLine_0 rfl (lv_at hl 0 rfl) ?_
  refine lv_iload_n hx hb dX5_runLine_1 rfl (lv_at hl 1 rfl) ?_
  obtain ⟨hPc, hDc, hFc⟩ := kk_cutout (wc := [(h0, kO5 h1 n0_size h2 n0_ran), (h1, kAi cint 50 f1)]) hP hD hS hA [0, 1] (by decide) rfl
  have hKc := kk_Ks (tq := [(cint, .int)]) hK [0] rfl
  refine va_calli (va_runV (As := [.int p0]) (rest := []) ⟨hx, hb, hml, hown, hts⟩ (g_X5_kindOf_1 l dC dI h0 h1 h2 cint s.heap.size p0 n0_size n0_ran f1 tn0_size tn0_ran bf1) (cwV 1 hts gX5_runLine_X5_kindOf rfl rfl rfl ⟨rfl, kh_X5_kindOf⟩ ⟨Nat.le_of_ble_eq_true rfl, Nat.le_of_ble_eq_true rfl⟩) ⟨fun a U g mk q => by obtain ⟨q0, q1, qP, qK, qD⟩ := q; exact ⟨q0, q1, qP, va_K.moved (u := U) (U := U.calling g mk a) (Vm.Alike.refl U.vm) qK, qD⟩, va_recv hKc hPc (ci := 5) (q0 := 0) rfl rfl, fun U hU hW => ⟨rfl, by rw [hU], by rw [hU]; exact hPc, va_K.moved hW.alike hKc, hDc.weaken (fun _ _ _ _ => trivial)⟩⟩ rfl rfl hl.1 rfl (lv_room (Nat.le_of_ble_eq_true rfl)) dX5_runLine_2 ⟨Nat.le_of_ble_eq_true rfl, Nat.le_of_ble_eq_true rfl⟩) hS (fun q _ h => hFc q h) hFc (fun r_1 u t H1 locs ht hvm hw hB hz1 hk1 hS => ?_)
  obtain ⟨hP1, hK1, hD1⟩ := hB
  rw [ht] at hP1
  have hK1 := va_K.moved hvm.symm hK1
  obtain ⟨hP, hD⟩ := va_join (wr := []) (w1 := [(h0, kO5 h1 n0_size h2 n0_ran), (h1, kAi cint 50 f1)]) hP hD [0, 1] [] rfl rfl (by decide) (by decide) hk1 hFc hP1 hD1
  generalize H1 = H at hP hS ⊢
  have hP : va_P (dC, dI) vwCl [(h0, kO5 h1 n0_size h2 n0_ran), (h1, kAi cint 50 f1)] H := hP
  have hD : va_D A [(h0, kO5 h1 n0_size h2 n0_ran), (h1, kAi cint 50 f1)] := hD
  rcases hw with ⟨t_1_0, t_1_1, t_1_any⟩
  · skip
    have t_1_0 : ((0 ≤ p0.toInt ∧ p0.toInt < n0_size.toInt → r_1.toInt = (f1 (p0 : Int32).toNatClampNeg).toInt ∧ 0 ≤ (f1 (p0 : Int32).toNatClampNeg).toInt) ∧ (¬ (0 ≤ p0.toInt ∧ p0.toInt < n0_size.toInt) → r_1.toInt = -1)) := t_1_0
    have t_1_1 : (0 ≤ p0.toInt ∧ p0.toInt < n0_size.toInt → r_1 = (f1 (p0 : Int32).toNatClampNeg)) := t_1_1
    obtain rfl : r_1 = (f1 (p0 : Int32).toNatClampNeg) := t_1_1 (by omega)
    refine lv_istore hx hb dX5_runLine_5 hl (by decide) (rfl : _ = ([(5, .int (f1 (p0 : Int32).toNatClampNeg)), (0, .ref h0), (1, .int p0), (2, .int 11), (3, .int p2), (4, .int p3)] : List (Nat × Value))) (fun ls hl => ?_)
    refine lv_iload_n hx hb dX5_runLine_7 rfl (lv_at hl 3 rfl) ?_
    refine lv_lookup (tgt := 86) (off := 78) hx hb dX5_runLine_8 (by decide) (by decide) (by decide) ?_
    refine lv_iload_n hx hb dX5_runLine_86 rfl (lv_at hl 4 rfl) ?_
    refine lv_iload_n hx hb dX5_runLine_87 rfl (lv_at hl 2 rfl) ?_
    refine lv_ixor hx hb dX5_runLine_88 ?_
    obtain ⟨hP9, hD9⟩ := kk_leafout (wc := [(h0, kO5 h1 n0_size h2 n0_ran), (h1, kAi cint 50 f1)]) hP hD [0, 1] (by decide) rfl
    have hK9 := kk_Ks (tq := []) hK [] rfl
    exact W.iret (v := (p2 ^^^ p0)) hx hb hr (fun t ht hW => ⟨⟨(p2 ^^^ p0), (), rfl, ⟨(by first | rfl | (unfold kk_leads; (repeat' split) <;> first | rfl | (exfalso; have : (0 : Int32).toInt = 0 := rfl; have : (1 : Int32).toInt = 1 := rfl; have : (2 : Int32).toInt = 2 := rfl; have : (3 : Int32).toInt = 3 := rfl; have : (4 : Int32).toInt = 4 := rfl; have : (5 : Int32).toInt = 5 := rfl; have : (6 : Int32).toInt = 6 := rfl; have : (7 : Int32).toInt = 7 := rfl; omega))), trivial⟩, by rw [ht]; exact hP9, va_K.moved hW.alike hK9, hD9⟩, hS.F ht⟩) hS.2.2 dX5_runLine_89
set_option maxHeartbeats 4000000 in
set_option maxRecDepth 100000 in
theorem g_X5_call_17 (l : Launch) (dC : Nat → ClassId) (dI : Nat → Nat → Nat) (h0 : Nat) (h1 : Nat) (h2 : Nat) (cint : ClassId) (sz : Nat) (p0 : Int32) (p3 : Int32) (p4 : Int32) (tp4 : 0 ≤ p4.toInt ∧ p4.toInt ≤ 14) (n0_size : Int32) (n0_ran : Int32) (f1 : Nat → Int32) (f2 : Nat → Int32) (tn0_size : 0 ≤ n0_size.toInt ∧ n0_size.toInt ≤ 50) (tn0_ran : 0 ≤ n0_ran.toInt ∧ n0_ran.toInt ≤ 999) (bf1 : ∀ j, j < 50 → 0 ≤ (f1 j).toInt ∧ (f1 j).toInt ≤ 7) (pr0 : (0 ≤ p0.toInt ∧ p0.toInt < n0_size.toInt)) (aOWN_BODIES : Nat) : Met l yX5_call wsX5_call ({ frames := 3, cells := 0, slots := 0, locals := 67 }) (va_Pc [.ref h0, .int p0, .int 0, .int 2, .int p3, .int p4] (fun U => U.heap.size = sz ∧ va_P (dC, dI) vwCl [(h0, kO5 h1 n0_size h2 n0_ran), (h1, kAi cint 50 f1), (h2, kAi cint 24 f2)] U.heap ∧ va_K (dC, dI) vwCl [(cint, .int)] U ∧ va_D (fun _ => True) [(h0, kO5 h1 n0_size h2 n0_ran), (h1, kAi cint 50 f1), (h2, kAi cint 24 f2)] ∧ va_Z "KinkStreet$Lines" "OWN_BODIES" "[I" (.ref aOWN_BODIES) (va_A [(h0, kO5 h1 n0_size h2 n0_ran), (h1, kAi cint 50 f1), (h2, kAi cint 24 f2)] sz) U U.heap ∧ va_T .int aOWN_BODIES 32 tb_OWN_BODIES (va_A [(h0, kO5 h1 n0_size h2 n0_ran), (h1, kAi cint 50 f1), (h2, kAi cint 24 f2)] sz) U U.heap)) (va_Qi (fun (r : Int32) (_ : Unit) => r = kk_leads (f1 (p0 : Int32).toNatClampNeg) 0 p0 p3 ∧ True) (fun (_ : Unit) t => ∃ (m0_ran : Int32) (g2 : Nat → Int32), (1 ≤ m0_ran.toInt ∧ m0_ran.toInt ≤ 1000) ∧ (m0_ran.toInt ≤ n0_ran.toInt + 1) ∧ (kk_P f2 g2 n0_ran.toInt m0_ran.toInt (kt_leads (f1 (p0 : Int32).toNatClampNeg) 0)) ∧ va_P (dC, dI) vwCl [(h0, kO5 h1 n0_size h2 m0_ran), (h1, kAi cint 50 f1), (h2, kAi cint 24 g2)] t.heap ∧ va_K (dC, dI) vwCl [] t ∧ va_D (va_A [(h0, kO5 h1 n0_size h2 n0_ran), (h1, kAi cint 50 f1), (h2, kAi cint 24 f2)] sz) [(h0, kO5 h1 n0_size h2 m0_ran), (h1, kAi cint 50 f1), (h2, kAi cint 24 g2)]) (va_A [(h0, kO5 h1 n0_size h2 n0_ran), (h1, kAi cint 50 f1), (h2, kAi cint 24 f2)] sz)) 0 0 (va_A [(h0, kO5 h1 n0_size h2 n0_ran), (h1, kAi cint 50 f1), (h2, kAi cint 24 f2)] sz) := by
  refine Met.ofW (cc := cX5_call) (maxL := 8) (ret := (some .int)) (by decide) rfl ?_
  intro p e s m args below meth c s₁ B hml hv
  obtain ⟨rfl, hsz, hP, hK, hD0, hZOWN_BODIES, hTOWN_BODIES⟩ := hv
  have hx := B.exec
  have hb := B.bytes
  have hr := B.returns
  have hts := atoms_spec (ws := wsX5_call) B.pre
  have hown : s.vm.findClass RX5 = some m.cls := findClass_of_methodNamed B.named
  have hlocks := B.notSynchronized
  subst hsz
  have hD := hD0.self (sz := s.heap.size)
  generalize hAe : va_A [(h0, kO5 h1 n0_size h2 n0_ran), (h1, kAi cint 50 f1), (h2, kAi cint 24 f2)] s.heap.size = A at hD hZOWN_BODIES hTOWN_BODIES ⊢
  have hA : ∀ q : Nat, s.heap.size ≤ q → A q := fun q h => by rw [← hAe]; exact Or.inr h
  have hS : va_S A s.heap s.heap [] := va_S.rf
  have hP : va_P (dC, dI) vwCl [(h0, kO5 h1 n0_size h2 n0_ran), (h1, kAi cint 50 f1), (h2, kAi cint 24 f2)] s.heap := hP
  have hl := lv_entry ([.ref h0, .int p0, .int 0, .int 2, .int p3, .int p4]) (n := 8) (Nat.le_of_ble_eq_true rfl)
  rw [lg_entry_eq]
  generalize (lg_sl ([.ref h0, .int p0, .int 0, .int 2, .int p3, .int p4]) ++ List.replicate (8 - (lg_sl ([.ref h0, .int p0, .int 0, .int 2, .int p3, .int p4])).length) Slot.unset).toArray = ls at hl ⊢
  have hl : lv_has ls 8 [(0, .ref h0), (1, .int p0), (2, .int 0), (3, .int 2), (4, .int p3), (5, .int p4)] := hl
  refine lv_iload_n hx hb dX5_call_0 rfl (lv_at hl 2 rfl) ?_
  refine lv_istore hx hb dX5_call_1 hl (by decide) (rfl : _ = ([(6, .int 0), (0, .ref h0), (1, .int p0), (2, .int 0), (3, .int 2), (4, .int p3), (5, .int p4)] : List (Nat × Value))) (fun ls hl => ?_)
  refine lv_iconst (v := 0) hx hb dX5_call_3 kk_ic_0 ?_
  refine lv_istore hx hb dX5_call_4 hl (by decide) (rfl : _ = ([(7, .int 0), (6, .int 0), (0, .ref h0), (1, .int p0), (2, .int 0), (3, .int 2), (4, .int p3), (5, .int p4)] : List (Nat × Value))) (fun ls hl => ?_)
  refine lv_iload hx hb dX5_call_6 (lv_at hl 0 rfl) ?_
  refine lv_bipush (v := 8) hx hb dX5_call_8 kk_bi_8 ?_
  refine lv_icmp_ge (tgt := 48) hx hb dX5_call_10 (by decide) (fun c => absurd c (by decide)) (fun _ => ?_)
  refine lv_iload hx hb dX5_call_13 (lv_at hl 1 rfl) ?_
  obtain ⟨hPc, hDc, hFc⟩ := kk_cutout (wc := []) hP hD hS hA [] (by decide) rfl
  have hKc := kk_Ks (tq := []) hK [] rfl
  refine va_calli (va_runS (As := [.int 0]) (rest := []) ⟨hx, hb, hml, hown, hts⟩ (g_X5_isKind_11 l dC dI s.heap.size) (va_cwS 1 hts gX5_call_X5_isKind rfl rfl rfl kh_X5_isKind ⟨Nat.le_of_ble_eq_true rfl, Nat.le_of_ble_eq_true rfl⟩) ⟨fun a U g mk q => by obtain ⟨q0, q1, qP, qK, qD⟩ := q; exact ⟨q0, q1, qP, va_K.moved (u := U) (U := U.calling g mk a) (Vm.Alike.refl U.vm) qK, qD⟩, fun U hU hW => ⟨rfl, by rw [hU], by rw [hU]; exact hPc, va_K.moved hW.alike hKc, hDc.weaken (fun _ _ _ _ => trivial)⟩⟩ rfl rfl hl.1 rfl (lv_room (Nat.le_of_ble_eq_true rfl)) dX5_call_15 ⟨Nat.le_of_ble_eq_true rfl, Nat.le_of_ble_eq_true rfl⟩) hS (fun q _ h => hFc q h) hFc (fun r_1 u t H1 locs ht hvm hw hB hz1 hk1 hS => ?_)
  obtain ⟨hP1, hK1, hD1⟩ := hB
  rw [ht] at hP1
  have hK1 := va_K.moved hvm.symm hK1
  obtain ⟨hP, hD⟩ := va_join (wr := [(h0, kO5 h1 n0_size h2 n0_ran), (h1, kAi cint 50 f1), (h2, kAi cint 24 f2)]) (w1 := []) hP hD [] [0, 1, 2] rfl rfl (by decide) (by decide) hk1 hFc hP1 hD1
  generalize H1 = H at hP hS ⊢
  have hP : va_P (dC, dI) vwCl [(h0, kO5 h1 n0_size h2 n0_ran), (h1, kAi cint 50 f1), (h2, kAi cint 24 f2)] H := hP
  have hD : va_D A [(h0, kO5 h1 n0_size h2 n0_ran), (h1, kAi cint 50 f1), (h2, kAi cint 24 f2)] := hD
  obtain rfl := hw
  refine lv_if_eq (tgt := 48) hx hb dX5_call_18 (by decide) (fun c => absurd c (by decide)) (fun _ => ?_)
  refine va_gets hx hb hZOWN_BODIES hS hown (hts (.fieldLink RX5 43 "KinkStreet$Lines" "OWN_BODIES" "[I") (List.mem_of_getElem? (i := 1) rfl)) (fun _ h9 => h9) dX5_call_21 ?_
  refine lv_iload hx hb dX5_call_24 (lv_at hl 1 rfl) ?_
  refine lv_iconst (v := 4) hx hb dX5_call_26 kk_ic_4 ?_
  refine lv_imul hx hb dX5_call_27 ?_
  refine lv_topi (fun y_2 e_2 => ?_)
  obtain rfl : y_2 = 0 := e_2.trans (by decide)
  refine lv_iload_n hx hb dX5_call_28 rfl (lv_at hl 5 rfl) ?_
  refine lv_iadd hx hb dX5_call_29 ?_
  refine lv_topi (fun y_3 e_3 => ?_)
  obtain rfl : y_3 = 2 := e_3.trans (by decide)
  refine va_ti (v := .int 11) hx hb hTOWN_BODIES hS (by unfold vp_in; decide) rfl dX5_call_30 ?_
  refine lv_if_ne (tgt := 48) hx hb dX5_call_31 (by decide) (fun _ => ?_) (fun c => absurd c (by decide))
  refine lv_iload hx hb dX5_call_48 (lv_at hl 1 rfl) ?_
  obtain ⟨hPc, hDc, hFc⟩ := kk_cutout (wc := []) hP hD hS hA [] (by decide) rfl
  have hKc := kk_Ks (tq := []) hK [] rfl
  refine va_calli (va_runS (As := [.int 0]) (rest := []) ⟨hx, hb, hml, hown, hts⟩ (g_X5_isKind_11 l dC dI H.size) (va_cwS 1 hts gX5_call_X5_isKind rfl rfl rfl kh_X5_isKind ⟨Nat.le_of_ble_eq_true rfl, Nat.le_of_ble_eq_true rfl⟩) ⟨fun a U g mk q => by obtain ⟨q0, q1, qP, qK, qD⟩ := q; exact ⟨q0, q1, qP, va_K.moved (u := U) (U := U.calling g mk a) (Vm.Alike.refl U.vm) qK, qD⟩, fun U hU hW => ⟨rfl, by rw [hU], by rw [hU]; exact hPc, va_K.moved hW.alike hKc, hDc.weaken (fun _ _ _ _ => trivial)⟩⟩ rfl rfl hl.1 rfl (lv_room (Nat.le_of_ble_eq_true rfl)) dX5_call_50 ⟨Nat.le_of_ble_eq_true rfl, Nat.le_of_ble_eq_true rfl⟩) hS (fun q _ h => hFc q h) hFc (fun r_4 u t H1 locs ht hvm hw hB hz1 hk1 hS => ?_)
  obtain ⟨hP1, hK1, hD1⟩ := hB
  rw [ht] at hP1
  have hK1 := va_K.moved hvm.symm hK1
  obtain ⟨hP, hD⟩ := va_join (wr := [(h0, kO5 h1 n0_size h2 n0_ran), (h1, kAi cint 50 f1), (h2, kAi cint 24 f2)]) (w1 := []) hP hD [] [0, 1, 2] rfl rfl (by decide) (by decide) hk1 hFc hP1 hD1
  generalize H1 = H at hP hS ⊢
  have hP : va_P (dC, dI) vwCl [(h0, kO5 h1 n0_size h2 n0_ran), (h1, kAi cint 50 f1), (h2, kAi cint 24 f2)] H := hP
  have hD : va_D A [(h0, kO5 h1 n0_size h2 n0_ran), (h1, kAi cint 50 f1), (h2, kAi cint 24 f2)] := hD
  obtain rfl := hw
  refine lv_if_eq (tgt := 63) hx hb dX5_call_53 (by decide) (fun c => absurd c (by decide)) (fun _ => ?_)
  refine lv_iload hx hb dX5_call_56 (lv_at hl 7 rfl) ?_
  refine lv_bipush (v := 40) hx hb dX5_call_58 kk_bi_40 ?_
  refine lv_icmp_le (tgt := 65) hx hb dX5_call_60 (by decide) (fun c_5 => ?_) (fun c_5 => ?_)
  · have t_5 : p4.toInt ≤ 40 := kk_le c_5
    refine va_gets hx hb hZOWN_BODIES hS hown (hts (.fieldLink RX5 43 "KinkStreet$Lines" "OWN_BODIES" "[I") (List.mem_of_getElem? (i := 1) rfl)) (fun _ h9 => h9) dX5_call_65 ?_
    refine lv_iload hx hb dX5_call_68 (lv_at hl 1 rfl) ?_
    refine lv_iconst (v := 4) hx hb dX5_call_70 kk_ic_4 ?_
    refine lv_imul hx hb dX5_call_71 ?_
    refine lv_topi (fun y_6 e_6 => ?_)
    obtain rfl : y_6 = 0 := e_6.trans (by decide)
    refine lv_iload_n hx hb dX5_call_72 rfl (lv_at hl 5 rfl) ?_
    refine lv_iadd hx hb dX5_call_73 ?_
    refine lv_topi (fun y_7 e_7 => ?_)
    obtain rfl : y_7 = 2 := e_7.trans (by decide)
    refine va_ti (v := .int 11) hx hb hTOWN_BODIES hS (by unfold vp_in; decide) rfl dX5_call_74 ?_
    refine lv_istore hx hb dX5_call_75 hl (by decide) (rfl : _ = ([(7, .int 11), (6, .int 0), (0, .ref h0), (1, .int p0), (2, .int 0), (3, .int 2), (4, .int p3), (5, .int p4)] : List (Nat × Value))) (fun ls hl => ?_)
    refine lv_aload_n hx hb dX5_call_77 rfl (lv_at hl 2 rfl) ?_
    refine va_get (D := (dC, dI)) (ci := 5) (v := .int n0_ran) (C := RX5) (T := TX5) (N := 4) hx hb hts (fun _ h => List.mem_cons_of_mem _ (List.mem_append_right _ h)) hown hK hP 0 rfl rfl 3 (by decide) (hts (.fieldLink RX5 36 "KinkStreet$Lines" "ran" "I") (List.mem_of_getElem? (i := 3) rfl)) (fun _ h9 => h9) rfl dX5_call_78 ?_
    refine lv_bipush (v := 24) hx hb dX5_call_81 kk_bi_24 ?_
    refine lv_icmp_ge (tgt := 97) hx hb dX5_call_83 (by decide) (fun c_8 => ?_) (fun c_8 => ?_)
    · have t_8 : 24 ≤ n0_ran.toInt := kk_le c_8
      refine lv_aload_n hx hb dX5_call_97 rfl (lv_at hl 2 rfl) ?_
      refine lv_dup hx hb dX5_call_98 rfl ?_
      refine va_get (D := (dC, dI)) (ci := 5) (v := .int n0_ran) (C := RX5) (T := TX5) (N := 4) hx hb hts (fun _ h => List.mem_cons_of_mem _ (List.mem_append_right _ h)) hown hK hP 0 rfl rfl 3 (by decide) (hts (.fieldLink RX5 36 "KinkStreet$Lines" "ran" "I") (List.mem_of_getElem? (i := 3) rfl)) (fun _ h9 => h9) rfl dX5_call_99 ?_
      refine lv_iconst (v := 1) hx hb dX5_call_102 kk_ic_1 ?_
      refine lv_iadd hx hb dX5_call_103 ?_
      refine va_put (D := (dC, dI)) (ci := 5) (v := .int (n0_ran + 1)) (ty := .int) (C := RX5) (T := TX5) (N := 4) hx hb hts (fun _ h => List.mem_cons_of_mem _ (List.mem_append_right _ h)) tyX5 tyX5_ok nmX5 hown hK hP hD hS 0 rfl rfl 3 (by decide) (hts (.fieldLink RX5 36 "KinkStreet$Lines" "ran" "I") (List.mem_of_getElem? (i := 3) rfl)) (fun _ h9 => h9) rfl (by decide +kernel) rfl rfl (Nat.le_of_ble_eq_true rfl) dX5_call_104 (fun H locs hP hD hS => ?_)
      have hP : va_P (dC, dI) vwCl [(h0, kO5 h1 n0_size h2 (n0_ran + 1)), (h1, kAi cint 50 f1), (h2, kAi cint 24 f2)] H := hP
      have hD : va_D A [(h0, kO5 h1 n0_size h2 (n0_ran + 1)), (h1, kAi cint 50 f1), (h2, kAi cint 24 f2)] := hD
      have hp_9 : kk_P f2 f2 n0_ran.toInt (n0_ran + 1 : Int32).toInt [11] := kk_P_out (by have := kk_add2 (x := n0_ran) (y := 1) (a := n0_ran.toInt) (b := 1) rfl rfl (by omega) (by omega); omega) (by have := kk_add2 (x := n0_ran) (y := 1) (a := n0_ran.toInt) (b := 1) rfl rfl (by omega) (by omega); omega)
      refine lv_iload hx hb dX5_call_107 (lv_at hl 1 rfl) ?_
      refine lv_if_ne (tgt := 128) hx hb dX5_call_109 (by decide) (fun c => absurd c (by decide)) (fun _ => ?_)
      refine lv_aload_n hx hb dX5_call_112 rfl (lv_at hl 2 rfl) ?_
      refine lv_iload_n hx hb dX5_call_113 rfl (lv_at hl 3 rfl) ?_
      refine lv_iload hx hb dX5_call_114 (lv_at hl 0 rfl) ?_
      refine lv_iload hx hb dX5_call_116 (lv_at hl 6 rfl) ?_
      refine lv_iload hx hb dX5_call_118 (lv_at hl 7 rfl) ?_
      refine lv_iconst (v := 1) hx hb dX5_call_120 kk_ic_1 ?_
      refine lv_iadd hx hb dX5_call_121 ?_
      obtain ⟨hPc, hDc, hFc⟩ := kk_cutout (wc := [(h0, kO5 h1 n0_size h2 (n0_ran + 1)), (h1, kAi cint 50 f1)]) hP hD hS hA [0, 1] (by decide) rfl
      have hKc := kk_Ks (tq := [(cint, .int)]) hK [0] rfl
      refine va_calli (va_runV (As := [.int p0, .int 11, .int p3, .int (p4 + 1)]) (rest := []) ⟨hx, hb, hml, hown, hts⟩ (g_X5_runLine_6 l dC dI h0 h1 h2 cint H.size p0 p3 (p4 + 1) (by show 0 ≤ ((p4 + 1) : Int32).toInt ∧ ((p4 + 1) : Int32).toInt ≤ 15; first | with_reducible assumption | (constructor <;> (have := kk_add2 (x := n0_ran) (y := 1) (a := n0_ran.toInt) (b := 1) rfl rfl (by omega) (by omega); have := kk_add2 (x := p4) (y := 1) (a := p4.toInt) (b := 1) rfl rfl (by omega) (by omega); omega))) n0_size (n0_ran + 1) f1 tn0_size (by show 0 ≤ ((n0_ran + 1) : Int32).toInt ∧ ((n0_ran + 1) : Int32).toInt ≤ 1000; first | with_reducible assumption | (constructor <;> (have := kk_add2 (x := n0_ran) (y := 1) (a := n0_ran.toInt) (b := 1) rfl rfl (by omega) (by omega); have := kk_add2 (x := p4) (y := 1) (a := p4.toInt) (b := 1) rfl rfl (by omega) (by omega); omega))) bf1 (by show (0 ≤ (p0 : Int32).toInt ∧ (p0 : Int32).toInt < (n0_size : Int32).toInt); first | with_reducible assumption | (have := kk_add2 (x := n0_ran) (y := 1) (a := n0_ran.toInt) (b := 1) rfl rfl (by omega) (by omega); have := kk_add2 (x := p4) (y := 1) (a := p4.toInt) (b := 1) rfl rfl (by omega) (by omega); omega))) (cwV 4 hts gX5_call_X5_runLine rfl rfl rfl ⟨rfl, kh_X5_runLine⟩ ⟨Nat.le_of_ble_eq_true rfl, Nat.le_of_ble_eq_true rfl⟩) ⟨fun a U g mk q => by obtain ⟨q0, q1, qP, qK, qD⟩ := q; exact ⟨q0, q1, qP, va_K.moved (u := U) (U := U.calling g mk a) (Vm.Alike.refl U.vm) qK, qD⟩, va_recv hKc hPc (ci := 5) (q0 := 0) rfl rfl, fun U hU hW => ⟨rfl, by rw [hU], by rw [hU]; exact hPc, va_K.moved hW.alike hKc, hDc.weaken (fun _ _ _ _ => trivial)⟩⟩ rfl rfl hl.1 rfl (lv_room (Nat.le_of_ble_eq_true rfl)) dX5_call_122 ⟨Nat.le_of_ble_eq_true rfl, Nat.le_of_ble_eq_true rfl⟩) hS (fun q _ h => hFc q h) hFc (fun r_10 u t H1 locs ht hvm hw hB hz1 hk1 hS => ?_)
      obtain ⟨hP1, hK1, hD1⟩ := hB
      rw [ht] at hP1
      have hK1 := va_K.moved hvm.symm hK1
      obtain ⟨hP, hD⟩ := va_join (wr := [(h2, kAi cint 24 f2)]) (w1 := [(h0, kO5 h1 n0_size h2 (n0_ran + 1)), (h1, kAi cint 50 f1)]) hP hD [0, 1] [2] rfl rfl (by decide) (by decide) hk1 hFc hP1 hD1
      generalize H1 = H at hP hS ⊢
      have hP : va_P (dC, dI) vwCl [(h2, kAi cint 24 f2), (h0, kO5 h1 n0_size h2 (n0_ran + 1)), (h1, kAi cint 50 f1)] H := hP
      have hD : va_D A [(h2, kAi cint 24 f2), (h0, kO5 h1 n0_size h2 (n0_ran + 1)), (h1, kAi cint 50 f1)] := hD
      rcases hw with ⟨t_10_0, _⟩
      · skip
        have t_10_0 : r_10 = kk_leads (f1 (p0 : Int32).toNatClampNeg) 0 p0 p3 := t_10_0
        obtain rfl : r_10 = (kk_leads (f1 (p0 : Int32).toNatClampNeg) 0 p0 p3) := t_10_0
        refine lv_goto (tgt := 143) hx hb dX5_call_125 (by decide) ?_
        obtain ⟨hP9, hD9⟩ := kk_leafout (wc := [(h0, kO5 h1 n0_size h2 (n0_ran + 1)), (h1, kAi cint 50 f1), (h2, kAi cint 24 f2)]) hP hD [1, 2, 0] (by decide) rfl
        have hK9 := kk_Ks (tq := []) hK [] rfl
        exact W.iret (v := (kk_leads (f1 (p0 : Int32).toNatClampNeg) 0 p0 p3)) hx hb hr (fun t ht hW => ⟨⟨(kk_leads (f1 (p0 : Int32).toNatClampNeg) 0 p0 p3), (), rfl, ⟨(by first | rfl | (unfold kk_leads; (repeat' split) <;> first | rfl | (exfalso; have : (0 : Int32).toInt = 0 := rfl; have : (1 : Int32).toInt = 1 := rfl; have : (2 : Int32).toInt = 2 := rfl; have : (3 : Int32).toInt = 3 := rfl; have : (4 : Int32).toInt = 4 := rfl; have : (5 : Int32).toInt = 5 := rfl; have : (6 : Int32).toInt = 6 := rfl; have : (7 : Int32).toInt = 7 := rfl; have := kk_add2 (x := n0_ran) (y := 1) (a := n0_ran.toInt) (b := 1) rfl rfl (by omega) (by omega); have := kk_add2 (x := p4) (y := 1) (a := p4.toInt) (b := 1) rfl rfl (by omega) (by omega); omega))), trivial⟩, (n0_ran + 1), f2, (by show 1 ≤ ((n0_ran + 1) : Int32).toInt ∧ ((n0_ran + 1) : Int32).toInt ≤ 1000; first | with_reducible assumption | (constructor <;> (have := kk_add2 (x := n0_ran) (y := 1) (a := n0_ran.toInt) (b := 1) rfl rfl (by omega) (by omega); have := kk_add2 (x := p4) (y := 1) (a := p4.toInt) (b := 1) rfl rfl (by omega) (by omega); omega))), (by show ((n0_ran + 1) : Int32).toInt ≤ (n0_ran : Int32).toInt + 1; first | with_reducible assumption | (have := kk_add2 (x := n0_ran) (y := 1) (a := n0_ran.toInt) (b := 1) rfl rfl (by omega) (by omega); have := kk_add2 (x := p4) (y := 1) (a := p4.toInt) (b := 1) rfl rfl (by omega) (by omega); omega)), (by first | exact kk_P_eq hp_9 rfl | (unfold kt_leads; (repeat' split) <;> first | exact kk_P_eq hp_9 rfl | (exfalso; have : (0 : Int32).toInt = 0 := rfl; have : (1 : Int32).toInt = 1 := rfl; have : (2 : Int32).toInt = 2 := rfl; have : (3 : Int32).toInt = 3 := rfl; have : (4 : Int32).toInt = 4 := rfl; have : (5 : Int32).toInt = 5 := rfl; have : (6 : Int32).toInt = 6 := rfl; have : (7 : Int32).toInt = 7 := rfl; have := kk_add2 (x := n0_ran) (y := 1) (a := n0_ran.toInt) (b := 1) rfl rfl (by omega) (by omega); have := kk_add2 (x := p4) (y := 1) (a := p4.toInt) (b := 1) rfl rfl (by omega) (by omega); omega))), by rw [ht]; exact hP9, va_K.moved hW.alike hK9, hD9⟩, hS.F ht⟩) hS.2.2 dX5_call_143
    · have t_8 : n0_ran.toInt < 24 := kk_nle c_8
      refine lv_aload_n hx hb dX5_call_86 rfl (lv_at hl 2 rfl) ?_
      refine va_get (D := (dC, dI)) (ci := 5) (v := .ref h2) (C := RX5) (T := TX5) (N := 4) hx hb hts (fun _ h => List.mem_cons_of_mem _ (List.mem_append_right _ h)) hown hK hP 0 rfl rfl 2 (by decide) (hts (.fieldLink RX5 15 "KinkStreet$Lines" "trace" "[I") (List.mem_of_getElem? (i := 4) rfl)) (fun _ h9 => h9) rfl dX5_call_87 ?_
      refine lv_aload_n hx hb dX5_call_90 rfl (lv_at hl 2 rfl) ?_
      refine va_get (D := (dC, dI)) (ci := 5) (v := .int n0_ran) (C := RX5) (T := TX5) (N := 4) hx hb hts (fun _ h => List.mem_cons_of_mem _ (List.mem_append_right _ h)) hown hK hP 0 rfl rfl 3 (by decide) (hts (.fieldLink RX5 36 "KinkStreet$Lines" "ran" "I") (List.mem_of_getElem? (i := 3) rfl)) (fun _ h9 => h9) rfl dX5_call_91 ?_
      refine lv_iload hx hb dX5_call_94 (lv_at hl 0 rfl) ?_
      refine va_iast hx hb hK hP hD hS 2 0 rfl rfl (vp_in_iff.mpr ⟨by omega, by omega⟩) dX5_call_96 (fun H locs hP hD hS => ?_)
      have w_11 : ((upd f2 (n0_ran : Int32).toNatClampNeg 11) (n0_ran : Int32).toNatClampNeg).toInt = (11 : Int32).toInt := by rw [kk_ups]
      have hP : va_P (dC, dI) vwCl [(h0, kO5 h1 n0_size h2 n0_ran), (h1, kAi cint 50 f1), (h2, kAi cint 24 (upd f2 (n0_ran : Int32).toNatClampNeg 11))] H := hP
      have hD : va_D A [(h0, kO5 h1 n0_size h2 n0_ran), (h1, kAi cint 50 f1), (h2, kAi cint 24 (upd f2 (n0_ran : Int32).toNatClampNeg 11))] := hD
      refine lv_aload_n hx hb dX5_call_97 rfl (lv_at hl 2 rfl) ?_
      refine lv_dup hx hb dX5_call_98 rfl ?_
      refine va_get (D := (dC, dI)) (ci := 5) (v := .int n0_ran) (C := RX5) (T := TX5) (N := 4) hx hb hts (fun _ h => List.mem_cons_of_mem _ (List.mem_append_right _ h)) hown hK hP 0 rfl rfl 3 (by decide) (hts (.fieldLink RX5 36 "KinkStreet$Lines" "ran" "I") (List.mem_of_getElem? (i := 3) rfl)) (fun _ h9 => h9) rfl dX5_call_99 ?_
      refine lv_iconst (v := 1) hx hb dX5_call_102 kk_ic_1 ?_
      refine lv_iadd hx hb dX5_call_103 ?_
      refine va_put (D := (dC, dI)) (ci := 5) (v := .int (n0_ran + 1)) (ty := .int) (C := RX5) (T := TX5) (N := 4) hx hb hts (fun _ h => List.mem_cons_of_mem _ (List.mem_append_right _ h)) tyX5 tyX5_ok nmX5 hown hK hP hD hS 0 rfl rfl 3 (by decide) (hts (.fieldLink RX5 36 "KinkStreet$Lines" "ran" "I") (List.mem_of_getElem? (i := 3) rfl)) (fun _ h9 => h9) rfl (by decide +kernel) rfl rfl (Nat.le_of_ble_eq_true rfl) dX5_call_104 (fun H locs hP hD hS => ?_)
      have hP : va_P (dC, dI) vwCl [(h0, kO5 h1 n0_size h2 (n0_ran + 1)), (h1, kAi cint 50 f1), (h2, kAi cint 24 (upd f2 (n0_ran : Int32).toNatClampNeg 11))] H := hP
      have hD : va_D A [(h0, kO5 h1 n0_size h2 (n0_ran + 1)), (h1, kAi cint 50 f1), (h2, kAi cint 24 (upd f2 (n0_ran : Int32).toNatClampNeg 11))] := hD
      have hp_12 : kk_P f2 (upd f2 (n0_ran : Int32).toNatClampNeg 11) n0_ran.toInt (n0_ran + 1 : Int32).toInt [11] := kk_P_one (by have := kk_add2 (x := n0_ran) (y := 1) (a := n0_ran.toInt) (b := 1) rfl rfl (by omega) (by omega); omega) (by have := kk_add2 (x := n0_ran) (y := 1) (a := n0_ran.toInt) (b := 1) rfl rfl (by omega) (by omega); omega)
      refine lv_iload hx hb dX5_call_107 (lv_at hl 1 rfl) ?_
      refine lv_if_ne (tgt := 128) hx hb dX5_call_109 (by decide) (fun c => absurd c (by decide)) (fun _ => ?_)
      refine lv_aload_n hx hb dX5_call_112 rfl (lv_at hl 2 rfl) ?_
      refine lv_iload_n hx hb dX5_call_113 rfl (lv_at hl 3 rfl) ?_
      refine lv_iload hx hb dX5_call_114 (lv_at hl 0 rfl) ?_
      refine lv_iload hx hb dX5_call_116 (lv_at hl 6 rfl) ?_
      refine lv_iload hx hb dX5_call_118 (lv_at hl 7 rfl) ?_
      refine lv_iconst (v := 1) hx hb dX5_call_120 kk_ic_1 ?_
      refine lv_iadd hx hb dX5_call_121 ?_
      obtain ⟨hPc, hDc, hFc⟩ := kk_cutout (wc := [(h0, kO5 h1 n0_size h2 (n0_ran + 1)), (h1, kAi cint 50 f1)]) hP hD hS hA [0, 1] (by decide) rfl
      have hKc := kk_Ks (tq := [(cint, .int)]) hK [0] rfl
      refine va_calli (va_runV (As := [.int p0, .int 11, .int p3, .int (p4 + 1)]) (rest := []) ⟨hx, hb, hml, hown, hts⟩ (g_X5_runLine_6 l dC dI h0 h1 h2 cint H.size p0 p3 (p4 + 1) (by show 0 ≤ ((p4 + 1) : Int32).toInt ∧ ((p4 + 1) : Int32).toInt ≤ 15; first | with_reducible assumption | (constructor <;> (have := kk_add2 (x := n0_ran) (y := 1) (a := n0_ran.toInt) (b := 1) rfl rfl (by omega) (by omega); have := kk_add2 (x := p4) (y := 1) (a := p4.toInt) (b := 1) rfl rfl (by omega) (by omega); omega))) n0_size (n0_ran + 1) f1 tn0_size (by show 0 ≤ ((n0_ran + 1) : Int32).toInt ∧ ((n0_ran + 1) : Int32).toInt ≤ 1000; first | with_reducible assumption | (constructor <;> (have := kk_add2 (x := n0_ran) (y := 1) (a := n0_ran.toInt) (b := 1) rfl rfl (by omega) (by omega); have := kk_add2 (x := p4) (y := 1) (a := p4.toInt) (b := 1) rfl rfl (by omega) (by omega); omega))) bf1 (by show (0 ≤ (p0 : Int32).toInt ∧ (p0 : Int32).toInt < (n0_size : Int32).toInt); first | with_reducible assumption | (have := kk_add2 (x := n0_ran) (y := 1) (a := n0_ran.toInt) (b := 1) rfl rfl (by omega) (by omega); have := kk_add2 (x := p4) (y := 1) (a := p4.toInt) (b := 1) rfl rfl (by omega) (by omega); omega))) (cwV 4 hts gX5_call_X5_runLine rfl rfl rfl ⟨rfl, kh_X5_runLine⟩ ⟨Nat.le_of_ble_eq_true rfl, Nat.le_of_ble_eq_true rfl⟩) ⟨fun a U g mk q => by obtain ⟨q0, q1, qP, qK, qD⟩ := q; exact ⟨q0, q1, qP, va_K.moved (u := U) (U := U.calling g mk a) (Vm.Alike.refl U.vm) qK, qD⟩, va_recv hKc hPc (ci := 5) (q0 := 0) rfl rfl, fun U hU hW => ⟨rfl, by rw [hU], by rw [hU]; exact hPc, va_K.moved hW.alike hKc, hDc.weaken (fun _ _ _ _ => trivial)⟩⟩ rfl rfl hl.1 rfl (lv_room (Nat.le_of_ble_eq_true rfl)) dX5_call_122 ⟨Nat.le_of_ble_eq_true rfl, Nat.le_of_ble_eq_true rfl⟩) hS (fun q _ h => hFc q h) hFc (fun r_13 u t H1 locs ht hvm hw hB hz1 hk1 hS => ?_)
      obtain ⟨hP1, hK1, hD1⟩ := hB
      rw [ht] at hP1
      have hK1 := va_K.moved hvm.symm hK1
      obtain ⟨hP, hD⟩ := va_join (wr := [(h2, kAi cint 24 (upd f2 (n0_ran : Int32).toNatClampNeg 11))]) (w1 := [(h0, kO5 h1 n0_size h2 (n0_ran + 1)), (h1, kAi cint 50 f1)]) hP hD [0, 1] [2] rfl rfl (by decide) (by decide) hk1 hFc hP1 hD1
      generalize H1 = H at hP hS ⊢
      have hP : va_P (dC, dI) vwCl [(h2, kAi cint 24 (upd f2 (n0_ran : Int32).toNatClampNeg 11)), (h0, kO5 h1 n0_size h2 (n0_ran + 1)), (h1, kAi cint 50 f1)] H := hP
      have hD : va_D A [(h2, kAi cint 24 (upd f2 (n0_ran : Int32).toNatClampNeg 11)), (h0, kO5 h1 n0_size h2 (n0_ran + 1)), (h1, kAi cint 50 f1)] := hD
      rcases hw with ⟨t_13_0, _⟩
      · skip
        have t_13_0 : r_13 = kk_leads (f1 (p0 : Int32).toNatClampNeg) 0 p0 p3 := t_13_0
        obtain rfl : r_13 = (kk_leads (f1 (p0 : Int32).toNatClampNeg) 0 p0 p3) := t_13_0
        refine lv_goto (tgt := 143) hx hb dX5_call_125 (by decide) ?_
        obtain ⟨hP9, hD9⟩ := kk_leafout (wc := [(h0, kO5 h1 n0_size h2 (n0_ran + 1)), (h1, kAi cint 50 f1), (h2, kAi cint 24 (upd f2 (n0_ran : Int32).toNatClampNeg 11))]) hP hD [1, 2, 0] (by decide) rfl
        have hK9 := kk_Ks (tq := []) hK [] rfl
        exact W.iret (v := (kk_leads (f1 (p0 : Int32).toNatClampNeg) 0 p0 p3)) hx hb hr (fun t ht hW => ⟨⟨(kk_leads (f1 (p0 : Int32).toNatClampNeg) 0 p0 p3), (), rfl, ⟨(by first | rfl | (unfold kk_leads; (repeat' split) <;> first | rfl | (exfalso; have : (0 : Int32).toInt = 0 := rfl; have : (1 : Int32).toInt = 1 := rfl; have : (2 : Int32).toInt = 2 := rfl; have : (3 : Int32).toInt = 3 := rfl; have : (4 : Int32).toInt = 4 := rfl; have : (5 : Int32).toInt = 5 := rfl; have : (6 : Int32).toInt = 6 := rfl; have : (7 : Int32).toInt = 7 := rfl; have := kk_add2 (x := n0_ran) (y := 1) (a := n0_ran.toInt) (b := 1) rfl rfl (by omega) (by omega); have := kk_add2 (x := p4) (y := 1) (a := p4.toInt) (b := 1) rfl rfl (by omega) (by omega); omega))), trivial⟩, (n0_ran + 1), (upd f2 (n0_ran : Int32).toNatClampNeg 11), (by show 1 ≤ ((n0_ran + 1) : Int32).toInt ∧ ((n0_ran + 1) : Int32).toInt ≤ 1000; first | with_reducible assumption | (constructor <;> (have := kk_add2 (x := n0_ran) (y := 1) (a := n0_ran.toInt) (b := 1) rfl rfl (by omega) (by omega); have := kk_add2 (x := p4) (y := 1) (a := p4.toInt) (b := 1) rfl rfl (by omega) (by omega); omega))), (by show ((n0_ran + 1) : Int32).toInt ≤ (n0_ran : Int32).toInt + 1; first | with_reducible assumption | (have := kk_add2 (x := n0_ran) (y := 1) (a := n0_ran.toInt) (b := 1) rfl rfl (by omega) (by omega); have := kk_add2 (x := p4) (y := 1) (a := p4.toInt) (b := 1) rfl rfl (by omega) (by omega); omega)), (by first | exact kk_P_eq hp_12 rfl | (unfold kt_leads; (repeat' split) <;> first | exact kk_P_eq hp_12 rfl | (exfalso; have : (0 : Int32).toInt = 0 := rfl; have : (1 : Int32).toInt = 1 := rfl; have : (2 : Int32).toInt = 2 := rfl; have : (3 : Int32).toInt = 3 := rfl; have : (4 : Int32).toInt = 4 := rfl; have : (5 : Int32).toInt = 5 := rfl; have : (6 : Int32).toInt = 6 := rfl; have : (7 : Int32).toInt = 7 := rfl; have := kk_add2 (x := n0_ran) (y := 1) (a := n0_ran.toInt) (b := 1) rfl rfl (by omega) (by omega); have := kk_add2 (x := p4) (y := 1) (a := p4.toInt) (b := 1) rfl rfl (by omega) (by omega); omega))), by rw [ht]; exact hP9, va_K.moved hW.alike hK9, hD9⟩, hS.F ht⟩) hS.2.2 dX5_call_143
  · have t_5 : 40 < p4.toInt := kk_nle c_5
    exfalso; omega
set_option maxHeartbeats 4000000 in
set_option maxRecDepth 100000 in
theorem g_X5_runUnder_13 (l : Launch) (dC : Nat → ClassId) (dI : Nat → Nat → Nat) (h0 : Nat) (h1 : Nat) (h2 : Nat) (cint : ClassId) (sz : Nat) (p0 : Int32) (p3 : Int32) (p4 : Int32) (tp4 : 0 ≤ p4.toInt ∧ p4.toInt ≤ 14) (n0_size : Int32) (n0_ran : Int32) (f1 : Nat → Int32) (f2 : Nat → Int32) (tn0_size : 0 ≤ n0_size.toInt ∧ n0_size.toInt ≤ 50) (tn0_ran : 0 ≤ n0_ran.toInt ∧ n0_ran.toInt ≤ 999) (bf1 : ∀ j, j < 50 → 0 ≤ (f1 j).toInt ∧ (f1 j).toInt ≤ 7) (pr0 : (0 ≤ p0.toInt ∧ p0.toInt < n0_size.toInt)) (aABOVE : Nat) (aOWN_BODIES : Nat) : Met l yX5_runUnder wsX5_runUnder ({ frames := 4, cells := 0, slots := 0, locals := 94 }) (va_Pc [.ref h0, .int p0, .int 3, .int 40, .int p3, .int p4] (fun U => U.heap.size = sz ∧ va_P (dC, dI) vwCl [(h0, kO5 h1 n0_size h2 n0_ran), (h1, kAi cint 50 f1), (h2, kAi cint 24 f2)] U.heap ∧ va_K (dC, dI) vwCl [(cint, .int)] U ∧ va_D (fun _ => True) [(h0, kO5 h1 n0_size h2 n0_ran), (h1, kAi cint 50 f1), (h2, kAi cint 24 f2)] ∧ va_Z "KinkStreet$Lines" "ABOVE" "[I" (.ref aABOVE) (va_A [(h0, kO5 h1 n0_size h2 n0_ran), (h1, kAi cint 50 f1), (h2, kAi cint 24 f2)] sz) U U.heap ∧ va_T .int aABOVE 8 tb_ABOVE (va_A [(h0, kO5 h1 n0_size h2 n0_ran), (h1, kAi cint 50 f1), (h2, kAi cint 24 f2)] sz) U U.heap ∧ va_Z "KinkStreet$Lines" "OWN_BODIES" "[I" (.ref aOWN_BODIES) (va_A [(h0, kO5 h1 n0_size h2 n0_ran), (h1, kAi cint 50 f1), (h2, kAi cint 24 f2)] sz) U U.heap ∧ va_T .int aOWN_BODIES 32 tb_OWN_BODIES (va_A [(h0, kO5 h1 n0_size h2 n0_ran), (h1, kAi cint 50 f1), (h2, kAi cint 24 f2)] sz) U U.heap)) (va_Qi (fun (r : Int32) (_ : Unit) => r = kk_leads (f1 (p0 : Int32).toNatClampNeg) 3 p0 p3 ∧ True) (fun (_ : Unit) t => ∃ (m0_ran : Int32) (g2 : Nat → Int32), (1 ≤ m0_ran.toInt ∧ m0_ran.toInt ≤ 1000) ∧ (m0_ran.toInt ≤ n0_ran.toInt + 1) ∧ (kk_P f2 g2 n0_ran.toInt m0_ran.toInt ((kt_leads (f1 (p0 : Int32).toNatClampNeg) 3).tail)) ∧ va_P (dC, dI) vwCl [(h0, kO5 h1 n0_size h2 m0_ran), (h1, kAi cint 50 f1), (h2, kAi cint 24 g2)] t.heap ∧ va_K (dC, dI) vwCl [] t ∧ va_D (va_A [(h0, kO5 h1 n0_size h2 n0_ran), (h1, kAi cint 50 f1), (h2, kAi cint 24 f2)] sz) [(h0, kO5 h1 n0_size h2 m0_ran), (h1, kAi cint 50 f1), (h2, kAi cint 24 g2)]) (va_A [(h0, kO5 h1 n0_size h2 n0_ran), (h1, kAi cint 50 f1), (h2, kAi cint 24 f2)] sz)) 0 0 (va_A [(h0, kO5 h1 n0_size h2 n0_ran), (h1, kAi cint 50 f1), (h2, kAi cint 24 f2)] sz) := by
  refine Met.ofW (cc := cX5_runUnder) (maxL := 8) (ret := (some .int)) (by decide) rfl ?_
  intro p e s m args below meth c s₁ B hml hv
  obtain ⟨rfl, hsz, hP, hK, hD0, hZABOVE, hTABOVE, hZOWN_BODIES, hTOWN_BODIES⟩ := hv
  have hx := B.exec
  have hb := B.bytes
  have hr := B.returns
  have hts := atoms_spec (ws := wsX5_runUnder) B.pre
  have hown : s.vm.findClass RX5 = some m.cls := findClass_of_methodNamed B.named
  have hlocks := B.notSynchronized
  subst hsz
  have hD := hD0.self (sz := s.heap.size)
  generalize hAe : va_A [(h0, kO5 h1 n0_size h2 n0_ran), (h1, kAi cint 50 f1), (h2, kAi cint 24 f2)] s.heap.size = A at hD hZABOVE hTABOVE hZOWN_BODIES hTOWN_BODIES ⊢
  have hA : ∀ q : Nat, s.heap.size ≤ q → A q := fun q h => by rw [← hAe]; exact Or.inr h
  have hS : va_S A s.heap s.heap [] := va_S.rf
  have hP : va_P (dC, dI) vwCl [(h0, kO5 h1 n0_size h2 n0_ran), (h1, kAi cint 50 f1), (h2, kAi cint 24 f2)] s.heap := hP
  have hl := lv_entry ([.ref h0, .int p0, .int 3, .int 40, .int p3, .int p4]) (n := 8) (Nat.le_of_ble_eq_true rfl)
  rw [lg_entry_eq]
  generalize (lg_sl ([.ref h0, .int p0, .int 3, .int 40, .int p3, .int p4]) ++ List.replicate (8 - (lg_sl ([.ref h0, .int p0, .int 3, .int 40, .int p3, .int p4])).length) Slot.unset).toArray = ls at hl ⊢
  have hl : lv_has ls 8 [(0, .ref h0), (1, .int p0), (2, .int 3), (3, .int 40), (4, .int p3), (5, .int p4)] := hl
  refine lv_aload_n hx hb dX5_runUnder_0 rfl (lv_at hl 0 rfl) ?_
  refine lv_iload_n hx hb dX5_runUnder_1 rfl (lv_at hl 1 rfl) ?_
  obtain ⟨hPc, hDc, hFc⟩ := kk_cutout (wc := [(h0, kO5 h1 n0_size h2 n0_ran), (h1, kAi cint 50 f1)]) hP hD hS hA [0, 1] (by decide) rfl
  have hKc := kk_Ks (tq := [(cint, .int)]) hK [0] rfl
  refine va_calli (va_runV (As := [.int p0]) (rest := []) ⟨hx, hb, hml, hown, hts⟩ (g_X5_kindOf_1 l dC dI h0 h1 h2 cint s.heap.size p0 n0_size n0_ran f1 tn0_size (by show 0 ≤ (n0_ran : Int32).toInt ∧ (n0_ran : Int32).toInt ≤ 1000; first | with_reducible assumption | (constructor <;> (omega))) bf1) (cwV 1 hts gX5_runUnder_X5_kindOf rfl rfl rfl ⟨rfl, kh_X5_kindOf⟩ ⟨Nat.le_of_ble_eq_true rfl, Nat.le_of_ble_eq_true rfl⟩) ⟨fun a U g mk q => by obtain ⟨q0, q1, qP, qK, qD⟩ := q; exact ⟨q0, q1, qP, va_K.moved (u := U) (U := U.calling g mk a) (Vm.Alike.refl U.vm) qK, qD⟩, va_recv hKc hPc (ci := 5) (q0 := 0) rfl rfl, fun U hU hW => ⟨rfl, by rw [hU], by rw [hU]; exact hPc, va_K.moved hW.alike hKc, hDc.weaken (fun _ _ _ _ => trivial)⟩⟩ rfl rfl hl.1 rfl (lv_room (Nat.le_of_ble_eq_true rfl)) dX5_runUnder_2 ⟨Nat.le_of_ble_eq_true rfl, Nat.le_of_ble_eq_true rfl⟩) hS (fun q _ h => hFc q h) hFc (fun r_1 u t H1 locs ht hvm hw hB hz1 hk1 hS => ?_)
  obtain ⟨hP1, hK1, hD1⟩ := hB
  rw [ht] at hP1
  have hK1 := va_K.moved hvm.symm hK1
  obtain ⟨hP, hD⟩ := va_join (wr := [(h2, kAi cint 24 f2)]) (w1 := [(h0, kO5 h1 n0_size h2 n0_ran), (h1, kAi cint 50 f1)]) hP hD [0, 1] [2] rfl rfl (by decide) (by decide) hk1 hFc hP1 hD1
  generalize H1 = H at hP hS ⊢
  have hP : va_P (dC, dI) vwCl [(h2, kAi cint 24 f2), (h0, kO5 h1 n0_size h2 n0_ran), (h1, kAi cint 50 f1)] H := hP
  have hD : va_D A [(h2, kAi cint 24 f2), (h0, kO5 h1 n0_size h2 n0_ran), (h1, kAi cint 50 f1)] := hD
  rcases hw with ⟨t_1_0, t_1_1, t_1_any⟩
  · skip
    have t_1_0 : ((0 ≤ p0.toInt ∧ p0.toInt < n0_size.toInt → r_1.toInt = (f1 (p0 : Int32).toNatClampNeg).toInt ∧ 0 ≤ (f1 (p0 : Int32).toNatClampNeg).toInt) ∧ (¬ (0 ≤ p0.toInt ∧ p0.toInt < n0_size.toInt) → r_1.toInt = -1)) := t_1_0
    have t_1_1 : (0 ≤ p0.toInt ∧ p0.toInt < n0_size.toInt → r_1 = (f1 (p0 : Int32).toNatClampNeg)) := t_1_1
    obtain rfl : r_1 = (f1 (p0 : Int32).toNatClampNeg) := t_1_1 (by omega)
    refine lv_istore hx hb dX5_runUnder_5 hl (by decide) (rfl : _ = ([(6, .int (f1 (p0 : Int32).toNatClampNeg)), (0, .ref h0), (1, .int p0), (2, .int 3), (3, .int 40), (4, .int p3), (5, .int p4)] : List (Nat × Value))) (fun ls hl => ?_)
    refine lv_iload_n hx hb dX5_runUnder_7 rfl (lv_at hl 3 rfl) ?_
    obtain ⟨hPc, hDc, hFc⟩ := kk_cutout (wc := []) hP hD hS hA [] (by decide) rfl
    have hKc := kk_Ks (tq := []) hK [] rfl
    refine va_calli (va_runS (As := [.int 3]) (rest := []) ⟨hx, hb, hml, hown, hts⟩ (g_X5_isKind_14 l dC dI H.size) (va_cwS 1 hts gX5_runUnder_X5_isKind rfl rfl rfl kh_X5_isKind ⟨Nat.le_of_ble_eq_true rfl, Nat.le_of_ble_eq_true rfl⟩) ⟨fun a U g mk q => by obtain ⟨q0, q1, qP, qK, qD⟩ := q; exact ⟨q0, q1, qP, va_K.moved (u := U) (U := U.calling g mk a) (Vm.Alike.refl U.vm) qK, qD⟩, fun U hU hW => ⟨rfl, by rw [hU], by rw [hU]; exact hPc, va_K.moved hW.alike hKc, hDc.weaken (fun _ _ _ _ => trivial)⟩⟩ rfl rfl hl.1 rfl (lv_room (Nat.le_of_ble_eq_true rfl)) dX5_runUnder_8 ⟨Nat.le_of_ble_eq_true rfl, Nat.le_of_ble_eq_true rfl⟩) hS (fun q _ h => hFc q h) hFc (fun r_2 u t H1 locs ht hvm hw hB hz1 hk1 hS => ?_)
    obtain ⟨hP1, hK1, hD1⟩ := hB
    rw [ht] at hP1
    have hK1 := va_K.moved hvm.symm hK1
    obtain ⟨hP, hD⟩ := va_join (wr := [(h2, kAi cint 24 f2), (h0, kO5 h1 n0_size h2 n0_ran), (h1, kAi cint 50 f1)]) (w1 := []) hP hD [] [0, 1, 2] rfl rfl (by decide) (by decide) hk1 hFc hP1 hD1
    generalize H1 = H at hP hS ⊢
    have hP : va_P (dC, dI) vwCl [(h2, kAi cint 24 f2), (h0, kO5 h1 n0_size h2 n0_ran), (h1, kAi cint 50 f1)] H := hP
    have hD : va_D A [(h2, kAi cint 24 f2), (h0, kO5 h1 n0_size h2 n0_ran), (h1, kAi cint 50 f1)] := hD
    obtain rfl := hw
    refine lv_if_eq (tgt := 22) hx hb dX5_runUnder_11 (by decide) (fun c => absurd c (by decide)) (fun _ => ?_)
    refine va_gets hx hb hZABOVE hS hown (hts (.fieldLink RX5 22 "KinkStreet$Lines" "ABOVE" "[I") (List.mem_of_getElem? (i := 1) rfl)) (fun _ h9 => h9) dX5_runUnder_14 ?_
    refine lv_iload_n hx hb dX5_runUnder_17 rfl (lv_at hl 3 rfl) ?_
    refine va_ti (v := .int 0) hx hb hTABOVE hS (by unfold vp_in; decide) rfl dX5_runUnder_18 ?_
    refine lv_goto (tgt := 23) hx hb dX5_runUnder_19 (by decide) ?_
    refine lv_istore hx hb dX5_runUnder_23 hl (by decide) (rfl : _ = ([(7, .int 0), (6, .int (f1 (p0 : Int32).toNatClampNeg)), (0, .ref h0), (1, .int p0), (2, .int 3), (3, .int 40), (4, .int p3), (5, .int p4)] : List (Nat × Value))) (fun ls hl => ?_)
    refine lv_iload_n hx hb dX5_runUnder_25 rfl (lv_at hl 5 rfl) ?_
    refine lv_lookup (tgt := 129) (off := 103) hx hb dX5_runUnder_26 (by decide) (by decide) (by decide) ?_
    refine lv_aload_n hx hb dX5_runUnder_129 rfl (lv_at hl 2 rfl) ?_
    refine lv_iload_n hx hb dX5_runUnder_130 rfl (lv_at hl 3 rfl) ?_
    refine lv_iload hx hb dX5_runUnder_131 (lv_at hl 0 rfl) ?_
    refine lv_iconst (v := 2) hx hb dX5_runUnder_133 kk_ic_2 ?_
    refine lv_iload hx hb dX5_runUnder_134 (lv_at hl 6 rfl) ?_
    refine lv_iload hx hb dX5_runUnder_136 (lv_at hl 7 rfl) ?_
    obtain ⟨hPc, hDc, hFc⟩ := kk_cutout (wc := [(h0, kO5 h1 n0_size h2 n0_ran), (h1, kAi cint 50 f1), (h2, kAi cint 24 f2)]) hP hD hS hA [1, 2, 0] (by decide) rfl
    have hKc := kk_Ks (tq := [(cint, .int)]) hK [0] rfl
    refine va_calli (va_runV (As := [.int p0, .int 0, .int 2, .int p3, .int p4]) (rest := []) ⟨hx, hb, hml, hown, hts⟩ (g_X5_call_17 l dC dI h0 h1 h2 cint H.size p0 p3 p4 tp4 n0_size n0_ran f1 f2 tn0_size tn0_ran bf1 (by show (0 ≤ (p0 : Int32).toInt ∧ (p0 : Int32).toInt < (n0_size : Int32).toInt); first | with_reducible assumption | (omega)) aOWN_BODIES) (cwV 5 hts gX5_runUnder_X5_call rfl rfl rfl ⟨rfl, kh_X5_call⟩ ⟨Nat.le_of_ble_eq_true rfl, Nat.le_of_ble_eq_true rfl⟩) ⟨fun a U g mk q => by obtain ⟨q0, q1, qP, qK, qD, qx0, qx1⟩ := q; exact ⟨q0, q1, qP, va_K.moved (u := U) (U := U.calling g mk a) (Vm.Alike.refl U.vm) qK, qD, va_Z.moved (u := U) (U := U.calling g mk a) (Vm.Alike.refl U.vm) qx0, va_T.moved (u := U) (U := U.calling g mk a) (Vm.Alike.refl U.vm) qx1⟩, va_recv hKc hPc (ci := 5) (q0 := 0) rfl rfl, fun U hU hW => ⟨rfl, by rw [hU], by rw [hU]; exact hPc, va_K.moved hW.alike hKc, hDc.weaken (fun _ _ _ _ => trivial), by rw [hU]; exact ((hZOWN_BODIES.kept (fun a h1 h2 => hS.2.1 a h1 h2)).narrow hFc).moved hW.alike, by rw [hU]; exact ((hTOWN_BODIES.kept (fun a h1 h2 => hS.2.1 a h1 h2)).narrow hFc).moved hW.alike⟩⟩ rfl rfl hl.1 rfl (lv_room (Nat.le_of_ble_eq_true rfl)) dX5_runUnder_138 ⟨Nat.le_of_ble_eq_true rfl, Nat.le_of_ble_eq_true rfl⟩) hS (fun q _ h => hFc q h) hFc (fun r_3 u t H1 locs ht hvm hw hB hz1 hk1 hS => ?_)
    obtain ⟨y_4, f_5, by_4, v_5_0, hn_5_0, hP1, hK1, hD1⟩ := hB
    have v_5_0 : y_4.toInt ≤ n0_ran.toInt + 1 := v_5_0
    have hn_5_0 : kk_P f2 f_5 n0_ran.toInt y_4.toInt (kt_leads (f1 (p0 : Int32).toNatClampNeg) 0) := hn_5_0
    rw [ht] at hP1
    have hK1 := va_K.moved hvm.symm hK1
    obtain ⟨hP, hD⟩ := va_join (wr := []) (w1 := [(h0, kO5 h1 n0_size h2 y_4), (h1, kAi cint 50 f1), (h2, kAi cint 24 f_5)]) hP hD [1, 2, 0] [] rfl rfl (by decide) (by decide) hk1 hFc hP1 hD1
    generalize H1 = H at hP hS ⊢
    have hP : va_P (dC, dI) vwCl [(h0, kO5 h1 n0_size h2 y_4), (h1, kAi cint 50 f1), (h2, kAi cint 24 f_5)] H := hP
    have hD : va_D A [(h0, kO5 h1 n0_size h2 y_4), (h1, kAi cint 50 f1), (h2, kAi cint 24 f_5)] := hD
    rcases hw with ⟨t_3_0, _⟩
    · skip
      have t_3_0 : r_3 = kk_leads (f1 (p0 : Int32).toNatClampNeg) 0 p0 p3 := t_3_0
      obtain rfl : r_3 = (kk_leads (f1 (p0 : Int32).toNatClampNeg) 0 p0 p3) := t_3_0
      refine lv_iconst (v := 3) hx hb dX5_runUnder_141 kk_ic_3 ?_
      refine lv_imul hx hb dX5_runUnder_142 ?_
      obtain ⟨hP9, hD9⟩ := kk_leafout (wc := [(h0, kO5 h1 n0_size h2 y_4), (h1, kAi cint 50 f1), (h2, kAi cint 24 f_5)]) hP hD [0, 1, 2] (by decide) rfl
      have hK9 := kk_Ks (tq := []) hK [] rfl
      exact W.iret (v := ((kk_leads (f1 (p0 : Int32).toNatClampNeg) 0 p0 p3) * 3)) hx hb hr (fun t ht hW => ⟨⟨((kk_leads (f1 (p0 : Int32).toNatClampNeg) 0 p0 p3) * 3), (), rfl, ⟨(by first | rfl | (unfold kk_leads; (repeat' split) <;> first | rfl | (exfalso; have : (0 : Int32).toInt = 0 := rfl; have : (1 : Int32).toInt = 1 := rfl; have : (2 : Int32).toInt = 2 := rfl; have : (3 : Int32).toInt = 3 := rfl; have : (4 : Int32).toInt = 4 := rfl; have : (5 : Int32).toInt = 5 := rfl; have : (6 : Int32).toInt = 6 := rfl; have : (7 : Int32).toInt = 7 := rfl; omega))), trivial⟩, y_4, f_5, (by show 1 ≤ (y_4 : Int32).toInt ∧ (y_4 : Int32).toInt ≤ 1000; first | with_reducible assumption | (constructor <;> (omega))), (by show (y_4 : Int32).toInt ≤ (n0_ran : Int32).toInt + 1; first | with_reducible assumption | (omega)), (by first | exact kk_P_eq hn_5_0 rfl | (unfold kt_leads; (repeat' split) <;> first | exact kk_P_eq hn_5_0 rfl | (exfalso; have : (0 : Int32).toInt = 0 := rfl; have : (1 : Int32).toInt = 1 := rfl; have : (2 : Int32).toInt = 2 := rfl; have : (3 : Int32).toInt = 3 := rfl; have : (4 : Int32).toInt = 4 := rfl; have : (5 : Int32).toInt = 5 := rfl; have : (6 : Int32).toInt = 6 := rfl; have : (7 : Int32).toInt = 7 := rfl; omega))), by rw [ht]; exact hP9, va_K.moved hW.alike hK9, hD9⟩, hS.F ht⟩) hS.2.2 dX5_runUnder_143
set_option maxHeartbeats 4000000 in
set_option maxRecDepth 100000 in
theorem g_X5_call_18 (l : Launch) (dC : Nat → ClassId) (dI : Nat → Nat → Nat) (h0 : Nat) (h1 : Nat) (h2 : Nat) (cint : ClassId) (sz : Nat) (p0 : Int32) (p3 : Int32) (p4 : Int32) (tp4 : 0 ≤ p4.toInt ∧ p4.toInt ≤ 13) (n0_size : Int32) (n0_ran : Int32) (f1 : Nat → Int32) (f2 : Nat → Int32) (tn0_size : 0 ≤ n0_size.toInt ∧ n0_size.toInt ≤ 50) (tn0_ran : 0 ≤ n0_ran.toInt ∧ n0_ran.toInt ≤ 998) (bf1 : ∀ j, j < 50 → 0 ≤ (f1 j).toInt ∧ (f1 j).toInt ≤ 7) (pr0 : (0 ≤ p0.toInt ∧ p0.toInt < n0_size.toInt)) (aOWN_BODIES : Nat) (aABOVE : Nat) : Met l yX5_call wsX5_call ({ frames := 5, cells := 0, slots := 0, locals := 121 }) (va_Pc [.ref h0, .int p0, .int 3, .int 2, .int p3, .int p4] (fun U => U.heap.size = sz ∧ va_P (dC, dI) vwCl [(h0, kO5 h1 n0_size h2 n0_ran), (h1, kAi cint 50 f1), (h2, kAi cint 24 f2)] U.heap ∧ va_K (dC, dI) vwCl [(cint, .int)] U ∧ va_D (fun _ => True) [(h0, kO5 h1 n0_size h2 n0_ran), (h1, kAi cint 50 f1), (h2, kAi cint 24 f2)] ∧ va_Z "KinkStreet$Lines" "OWN_BODIES" "[I" (.ref aOWN_BODIES) (va_A [(h0, kO5 h1 n0_size h2 n0_ran), (h1, kAi cint 50 f1), (h2, kAi cint 24 f2)] sz) U U.heap ∧ va_T .int aOWN_BODIES 32 tb_OWN_BODIES (va_A [(h0, kO5 h1 n0_size h2 n0_ran), (h1, kAi cint 50 f1), (h2, kAi cint 24 f2)] sz) U U.heap ∧ va_Z "KinkStreet$Lines" "ABOVE" "[I" (.ref aABOVE) (va_A [(h0, kO5 h1 n0_size h2 n0_ran), (h1, kAi cint 50 f1), (h2, kAi cint 24 f2)] sz) U U.heap ∧ va_T .int aABOVE 8 tb_ABOVE (va_A [(h0, kO5 h1 n0_size h2 n0_ran), (h1, kAi cint 50 f1), (h2, kAi cint 24 f2)] sz) U U.heap)) (va_Qi (fun (r : Int32) (_ : Unit) => r = kk_leads (f1 (p0 : Int32).toNatClampNeg) 3 p0 p3 ∧ True) (fun (_ : Unit) t => ∃ (m0_ran : Int32) (g2 : Nat → Int32), (1 ≤ m0_ran.toInt ∧ m0_ran.toInt ≤ 1000) ∧ (m0_ran.toInt ≤ n0_ran.toInt + 2) ∧ (kk_P f2 g2 n0_ran.toInt m0_ran.toInt (kt_leads (f1 (p0 : Int32).toNatClampNeg) 3)) ∧ va_P (dC, dI) vwCl [(h0, kO5 h1 n0_size h2 m0_ran), (h1, kAi cint 50 f1), (h2, kAi cint 24 g2)] t.heap ∧ va_K (dC, dI) vwCl [] t ∧ va_D (va_A [(h0, kO5 h1 n0_size h2 n0_ran), (h1, kAi cint 50 f1), (h2, kAi cint 24 f2)] sz) [(h0, kO5 h1 n0_size h2 m0_ran), (h1, kAi cint 50 f1), (h2, kAi cint 24 g2)]) (va_A [(h0, kO5 h1 n0_size h2 n0_ran), (h1, kAi cint 50 f1), (h2, kAi cint 24 f2)] sz)) 0 0 (va_A [(h0, kO5 h1 n0_size h2 n0_ran), (h1, kAi cint 50 f1), (h2, kAi cint 24 f2)] sz) := by
  refine Met.ofW (cc := cX5_call) (maxL := 8) (ret := (some .int)) (by decide) rfl ?_
  intro p e s m args below meth c s₁ B hml hv
  obtain ⟨rfl, hsz, hP, hK, hD0, hZOWN_BODIES, hTOWN_BODIES, hZABOVE, hTABOVE⟩ := hv
  have hx := B.exec
  have hb := B.bytes
  have hr := B.returns
  have hts := atoms_spec (ws := wsX5_call) B.pre
  have hown : s.vm.findClass RX5 = some m.cls := findClass_of_methodNamed B.named
  have hlocks := B.notSynchronized
  subst hsz
  have hD := hD0.self (sz := s.heap.size)
  generalize hAe : va_A [(h0, kO5 h1 n0_size h2 n0_ran), (h1, kAi cint 50 f1), (h2, kAi cint 24 f2)] s.heap.size = A at hD hZOWN_BODIES hTOWN_BODIES hZABOVE hTABOVE ⊢
  have hA : ∀ q : Nat, s.heap.size ≤ q → A q := fun q h => by rw [← hAe]; exact Or.inr h
  have hS : va_S A s.heap s.heap [] := va_S.rf
  have hP : va_P (dC, dI) vwCl [(h0, kO5 h1 n0_size h2 n0_ran), (h1, kAi cint 50 f1), (h2, kAi cint 24 f2)] s.heap := hP
  have hl := lv_entry ([.ref h0, .int p0, .int 3, .int 2, .int p3, .int p4]) (n := 8) (Nat.le_of_ble_eq_true rfl)
  rw [lg_entry_eq]
  generalize (lg_sl ([.ref h0, .int p0, .int 3, .int 2, .int p3, .int p4]) ++ List.replicate (8 - (lg_sl ([.ref h0, .int p0, .int 3, .int 2, .int p3, .int p4])).length) Slot.unset).toArray = ls at hl ⊢
  have hl : lv_has ls 8 [(0, .ref h0), (1, .int p0), (2, .int 3), (3, .int 2), (4, .int p3), (5, .int p4)] := hl
  refine lv_iload_n hx hb dX5_call_0 rfl (lv_at hl 2 rfl) ?_
  refine lv_istore hx hb dX5_call_1 hl (by decide) (rfl : _ = ([(6, .int 3), (0, .ref h0), (1, .int p0), (2, .int 3), (3, .int 2), (4, .int p3), (5, .int p4)] : List (Nat × Value))) (fun ls hl => ?_)
  refine lv_iconst (v := 0) hx hb dX5_call_3 kk_ic_0 ?_
  refine lv_istore hx hb dX5_call_4 hl (by decide) (rfl : _ = ([(7, .int 0), (6, .int 3), (0, .ref h0), (1, .int p0), (2, .int 3), (3, .int 2), (4, .int p3), (5, .int p4)] : List (Nat × Value))) (fun ls hl => ?_)
  refine lv_iload hx hb dX5_call_6 (lv_at hl 0 rfl) ?_
  refine lv_bipush (v := 8) hx hb dX5_call_8 kk_bi_8 ?_
  refine lv_icmp_ge (tgt := 48) hx hb dX5_call_10 (by decide) (fun c => absurd c (by decide)) (fun _ => ?_)
  refine lv_iload hx hb dX5_call_13 (lv_at hl 1 rfl) ?_
  obtain ⟨hPc, hDc, hFc⟩ := kk_cutout (wc := []) hP hD hS hA [] (by decide) rfl
  have hKc := kk_Ks (tq := []) hK [] rfl
  refine va_calli (va_runS (As := [.int 3]) (rest := []) ⟨hx, hb, hml, hown, hts⟩ (g_X5_isKind_14 l dC dI s.heap.size) (va_cwS 1 hts gX5_call_X5_isKind rfl rfl rfl kh_X5_isKind ⟨Nat.le_of_ble_eq_true rfl, Nat.le_of_ble_eq_true rfl⟩) ⟨fun a U g mk q => by obtain ⟨q0, q1, qP, qK, qD⟩ := q; exact ⟨q0, q1, qP, va_K.moved (u := U) (U := U.calling g mk a) (Vm.Alike.refl U.vm) qK, qD⟩, fun U hU hW => ⟨rfl, by rw [hU], by rw [hU]; exact hPc, va_K.moved hW.alike hKc, hDc.weaken (fun _ _ _ _ => trivial)⟩⟩ rfl rfl hl.1 rfl (lv_room (Nat.le_of_ble_eq_true rfl)) dX5_call_15 ⟨Nat.le_of_ble_eq_true rfl, Nat.le_of_ble_eq_true rfl⟩) hS (fun q _ h => hFc q h) hFc (fun r_1 u t H1 locs ht hvm hw hB hz1 hk1 hS => ?_)
  obtain ⟨hP1, hK1, hD1⟩ := hB
  rw [ht] at hP1
  have hK1 := va_K.moved hvm.symm hK1
  obtain ⟨hP, hD⟩ := va_join (wr := [(h0, kO5 h1 n0_size h2 n0_ran), (h1, kAi cint 50 f1), (h2, kAi cint 24 f2)]) (w1 := []) hP hD [] [0, 1, 2] rfl rfl (by decide) (by decide) hk1 hFc hP1 hD1
  generalize H1 = H at hP hS ⊢
  have hP : va_P (dC, dI) vwCl [(h0, kO5 h1 n0_size h2 n0_ran), (h1, kAi cint 50 f1), (h2, kAi cint 24 f2)] H := hP
  have hD : va_D A [(h0, kO5 h1 n0_size h2 n0_ran), (h1, kAi cint 50 f1), (h2, kAi cint 24 f2)] := hD
  obtain rfl := hw
  refine lv_if_eq (tgt := 48) hx hb dX5_call_18 (by decide) (fun c => absurd c (by decide)) (fun _ => ?_)
  refine va_gets hx hb hZOWN_BODIES hS hown (hts (.fieldLink RX5 43 "KinkStreet$Lines" "OWN_BODIES" "[I") (List.mem_of_getElem? (i := 1) rfl)) (fun _ h9 => h9) dX5_call_21 ?_
  refine lv_iload hx hb dX5_call_24 (lv_at hl 1 rfl) ?_
  refine lv_iconst (v := 4) hx hb dX5_call_26 kk_ic_4 ?_
  refine lv_imul hx hb dX5_call_27 ?_
  refine lv_topi (fun y_2 e_2 => ?_)
  obtain rfl : y_2 = 12 := e_2.trans (by decide)
  refine lv_iload_n hx hb dX5_call_28 rfl (lv_at hl 5 rfl) ?_
  refine lv_iadd hx hb dX5_call_29 ?_
  refine lv_topi (fun y_3 e_3 => ?_)
  obtain rfl : y_3 = 14 := e_3.trans (by decide)
  refine va_ti (v := .int 40) hx hb hTOWN_BODIES hS (by unfold vp_in; decide) rfl dX5_call_30 ?_
  refine lv_if_ne (tgt := 48) hx hb dX5_call_31 (by decide) (fun _ => ?_) (fun c => absurd c (by decide))
  refine lv_iload hx hb dX5_call_48 (lv_at hl 1 rfl) ?_
  obtain ⟨hPc, hDc, hFc⟩ := kk_cutout (wc := []) hP hD hS hA [] (by decide) rfl
  have hKc := kk_Ks (tq := []) hK [] rfl
  refine va_calli (va_runS (As := [.int 3]) (rest := []) ⟨hx, hb, hml, hown, hts⟩ (g_X5_isKind_14 l dC dI H.size) (va_cwS 1 hts gX5_call_X5_isKind rfl rfl rfl kh_X5_isKind ⟨Nat.le_of_ble_eq_true rfl, Nat.le_of_ble_eq_true rfl⟩) ⟨fun a U g mk q => by obtain ⟨q0, q1, qP, qK, qD⟩ := q; exact ⟨q0, q1, qP, va_K.moved (u := U) (U := U.calling g mk a) (Vm.Alike.refl U.vm) qK, qD⟩, fun U hU hW => ⟨rfl, by rw [hU], by rw [hU]; exact hPc, va_K.moved hW.alike hKc, hDc.weaken (fun _ _ _ _ => trivial)⟩⟩ rfl rfl hl.1 rfl (lv_room (Nat.le_of_ble_eq_true rfl)) dX5_call_50 ⟨Nat.le_of_ble_eq_true rfl, Nat.le_of_ble_eq_true rfl⟩) hS (fun q _ h => hFc q h) hFc (fun r_4 u t H1 locs ht hvm hw hB hz1 hk1 hS => ?_)
  obtain ⟨hP1, hK1, hD1⟩ := hB
  rw [ht] at hP1
  have hK1 := va_K.moved hvm.symm hK1
  obtain ⟨hP, hD⟩ := va_join (wr := [(h0, kO5 h1 n0_size h2 n0_ran), (h1, kAi cint 50 f1), (h2, kAi cint 24 f2)]) (w1 := []) hP hD [] [0, 1, 2] rfl rfl (by decide) (by decide) hk1 hFc hP1 hD1
  generalize H1 = H at hP hS ⊢
  have hP : va_P (dC, dI) vwCl [(h0, kO5 h1 n0_size h2 n0_ran), (h1, kAi cint 50 f1), (h2, kAi cint 24 f2)] H := hP
  have hD : va_D A [(h0, kO5 h1 n0_size h2 n0_ran), (h1, kAi cint 50 f1), (h2, kAi cint 24 f2)] := hD
  obtain rfl := hw
  refine lv_if_eq (tgt := 63) hx hb dX5_call_53 (by decide) (fun c => absurd c (by decide)) (fun _ => ?_)
  refine lv_iload hx hb dX5_call_56 (lv_at hl 7 rfl) ?_
  refine lv_bipush (v := 40) hx hb dX5_call_58 kk_bi_40 ?_
  refine lv_icmp_le (tgt := 65) hx hb dX5_call_60 (by decide) (fun c_5 => ?_) (fun c_5 => ?_)
  · have t_5 : p4.toInt ≤ 40 := kk_le c_5
    refine va_gets hx hb hZOWN_BODIES hS hown (hts (.fieldLink RX5 43 "KinkStreet$Lines" "OWN_BODIES" "[I") (List.mem_of_getElem? (i := 1) rfl)) (fun _ h9 => h9) dX5_call_65 ?_
    refine lv_iload hx hb dX5_call_68 (lv_at hl 1 rfl) ?_
    refine lv_iconst (v := 4) hx hb dX5_call_70 kk_ic_4 ?_
    refine lv_imul hx hb dX5_call_71 ?_
    refine lv_topi (fun y_6 e_6 => ?_)
    obtain rfl : y_6 = 12 := e_6.trans (by decide)
    refine lv_iload_n hx hb dX5_call_72 rfl (lv_at hl 5 rfl) ?_
    refine lv_iadd hx hb dX5_call_73 ?_
    refine lv_topi (fun y_7 e_7 => ?_)
    obtain rfl : y_7 = 14 := e_7.trans (by decide)
    refine va_ti (v := .int 40) hx hb hTOWN_BODIES hS (by unfold vp_in; decide) rfl dX5_call_74 ?_
    refine lv_istore hx hb dX5_call_75 hl (by decide) (rfl : _ = ([(7, .int 40), (6, .int 3), (0, .ref h0), (1, .int p0), (2, .int 3), (3, .int 2), (4, .int p3), (5, .int p4)] : List (Nat × Value))) (fun ls hl => ?_)
    refine lv_aload_n hx hb dX5_call_77 rfl (lv_at hl 2 rfl) ?_
    refine va_get (D := (dC, dI)) (ci := 5) (v := .int n0_ran) (C := RX5) (T := TX5) (N := 4) hx hb hts (fun _ h => List.mem_cons_of_mem _ (List.mem_append_right _ h)) hown hK hP 0 rfl rfl 3 (by decide) (hts (.fieldLink RX5 36 "KinkStreet$Lines" "ran" "I") (List.mem_of_getElem? (i := 3) rfl)) (fun _ h9 => h9) rfl dX5_call_78 ?_
    refine lv_bipush (v := 24) hx hb dX5_call_81 kk_bi_24 ?_
    refine lv_icmp_ge (tgt := 97) hx hb dX5_call_83 (by decide) (fun c_8 => ?_) (fun c_8 => ?_)
    · have t_8 : 24 ≤ n0_ran.toInt := kk_le c_8
      refine lv_aload_n hx hb dX5_call_97 rfl (lv_at hl 2 rfl) ?_
      refine lv_dup hx hb dX5_call_98 rfl ?_
      refine va_get (D := (dC, dI)) (ci := 5) (v := .int n0_ran) (C := RX5) (T := TX5) (N := 4) hx hb hts (fun _ h => List.mem_cons_of_mem _ (List.mem_append_right _ h)) hown hK hP 0 rfl rfl 3 (by decide) (hts (.fieldLink RX5 36 "KinkStreet$Lines" "ran" "I") (List.mem_of_getElem? (i := 3) rfl)) (fun _ h9 => h9) rfl dX5_call_99 ?_
      refine lv_iconst (v := 1) hx hb dX5_call_102 kk_ic_1 ?_
      refine lv_iadd hx hb dX5_call_103 ?_
      refine va_put (D := (dC, dI)) (ci := 5) (v := .int (n0_ran + 1)) (ty := .int) (C := RX5) (T := TX5) (N := 4) hx hb hts (fun _ h => List.mem_cons_of_mem _ (List.mem_append_right _ h)) tyX5 tyX5_ok nmX5 hown hK hP hD hS 0 rfl rfl 3 (by decide) (hts (.fieldLink RX5 36 "KinkStreet$Lines" "ran" "I") (List.mem_of_getElem? (i := 3) rfl)) (fun _ h9 => h9) rfl (by decide +kernel) rfl rfl (Nat.le_of_ble_eq_true rfl) dX5_call_104 (fun H locs hP hD hS => ?_)
      have hP : va_P (dC, dI) vwCl [(h0, kO5 h1 n0_size h2 (n0_ran + 1)), (h1, kAi cint 50 f1), (h2, kAi cint 24 f2)] H := hP
      have hD : va_D A [(h0, kO5 h1 n0_size h2 (n0_ran + 1)), (h1, kAi cint 50 f1), (h2, kAi cint 24 f2)] := hD
      have hp_9 : kk_P f2 f2 n0_ran.toInt (n0_ran + 1 : Int32).toInt [40] := kk_P_out (by have := kk_add2 (x := n0_ran) (y := 1) (a := n0_ran.toInt) (b := 1) rfl rfl (by omega) (by omega); omega) (by have := kk_add2 (x := n0_ran) (y := 1) (a := n0_ran.toInt) (b := 1) rfl rfl (by omega) (by omega); omega)
      refine lv_iload hx hb dX5_call_107 (lv_at hl 1 rfl) ?_
      refine lv_if_ne (tgt := 128) hx hb dX5_call_109 (by decide) (fun _ => ?_) (fun c => absurd c (by decide))
      refine lv_aload_n hx hb dX5_call_128 rfl (lv_at hl 2 rfl) ?_
      refine lv_iload_n hx hb dX5_call_129 rfl (lv_at hl 3 rfl) ?_
      refine lv_iload hx hb dX5_call_130 (lv_at hl 1 rfl) ?_
      refine lv_iload hx hb dX5_call_132 (lv_at hl 0 rfl) ?_
      refine lv_iload hx hb dX5_call_134 (lv_at hl 6 rfl) ?_
      refine lv_iload hx hb dX5_call_136 (lv_at hl 7 rfl) ?_
      refine lv_iconst (v := 1) hx hb dX5_call_138 kk_ic_1 ?_
      refine lv_iadd hx hb dX5_call_139 ?_
      obtain ⟨hPc, hDc, hFc⟩ := kk_cutout (wc := [(h0, kO5 h1 n0_size h2 (n0_ran + 1)), (h1, kAi cint 50 f1), (h2, kAi cint 24 f2)]) hP hD hS hA [0, 1, 2] (by decide) rfl
      have hKc := kk_Ks (tq := [(cint, .int)]) hK [0] rfl
      refine va_calli (va_runV (As := [.int p0, .int 3, .int 40, .int p3, .int (p4 + 1)]) (rest := []) ⟨hx, hb, hml, hown, hts⟩ (g_X5_runUnder_13 l dC dI h0 h1 h2 cint H.size p0 p3 (p4 + 1) (by show 0 ≤ ((p4 + 1) : Int32).toInt ∧ ((p4 + 1) : Int32).toInt ≤ 14; first | with_reducible assumption | (constructor <;> (have := kk_add2 (x := n0_ran) (y := 1) (a := n0_ran.toInt) (b := 1) rfl rfl (by omega) (by omega); have := kk_add2 (x := p4) (y := 1) (a := p4.toInt) (b := 1) rfl rfl (by omega) (by omega); omega))) n0_size (n0_ran + 1) f1 f2 tn0_size (by show 0 ≤ ((n0_ran + 1) : Int32).toInt ∧ ((n0_ran + 1) : Int32).toInt ≤ 999; first | with_reducible assumption | (constructor <;> (have := kk_add2 (x := n0_ran) (y := 1) (a := n0_ran.toInt) (b := 1) rfl rfl (by omega) (by omega); have := kk_add2 (x := p4) (y := 1) (a := p4.toInt) (b := 1) rfl rfl (by omega) (by omega); omega))) bf1 (by show (0 ≤ (p0 : Int32).toInt ∧ (p0 : Int32).toInt < (n0_size : Int32).toInt); first | with_reducible assumption | (have := kk_add2 (x := n0_ran) (y := 1) (a := n0_ran.toInt) (b := 1) rfl rfl (by omega) (by omega); have := kk_add2 (x := p4) (y := 1) (a := p4.toInt) (b := 1) rfl rfl (by omega) (by omega); omega)) aABOVE aOWN_BODIES) (cwV 5 hts gX5_call_X5_runUnder rfl rfl rfl ⟨rfl, kh_X5_runUnder⟩ ⟨Nat.le_of_ble_eq_true rfl, Nat.le_of_ble_eq_true rfl⟩) ⟨fun a U g mk q => by obtain ⟨q0, q1, qP, qK, qD, qx0, qx1, qx2, qx3⟩ := q; exact ⟨q0, q1, qP, va_K.moved (u := U) (U := U.calling g mk a) (Vm.Alike.refl U.vm) qK, qD, va_Z.moved (u := U) (U := U.calling g mk a) (Vm.Alike.refl U.vm) qx0, va_T.moved (u := U) (U := U.calling g mk a) (Vm.Alike.refl U.vm) qx1, va_Z.moved (u := U) (U := U.calling g mk a) (Vm.Alike.refl U.vm) qx2, va_T.moved (u := U) (U := U.calling g mk a) (Vm.Alike.refl U.vm) qx3⟩, va_recv hKc hPc (ci := 5) (q0 := 0) rfl rfl, fun U hU hW => ⟨rfl, by rw [hU], by rw [hU]; exact hPc, va_K.moved hW.alike hKc, hDc.weaken (fun _ _ _ _ => trivial), by rw [hU]; exact ((hZABOVE.kept (fun a h1 h2 => hS.2.1 a h1 h2)).narrow hFc).moved hW.alike, by rw [hU]; exact ((hTABOVE.kept (fun a h1 h2 => hS.2.1 a h1 h2)).narrow hFc).moved hW.alike, by rw [hU]; exact ((hZOWN_BODIES.kept (fun a h1 h2 => hS.2.1 a h1 h2)).narrow hFc).moved hW.alike, by rw [hU]; exact ((hTOWN_BODIES.kept (fun a h1 h2 => hS.2.1 a h1 h2)).narrow hFc).moved hW.alike⟩⟩ rfl rfl hl.1 rfl (lv_room (Nat.le_of_ble_eq_true rfl)) dX5_call_140 ⟨Nat.le_of_ble_eq_true rfl, Nat.le_of_ble_eq_true rfl⟩) hS (fun q _ h => hFc q h) hFc (fun r_10 u t H1 locs ht hvm hw hB hz1 hk1 hS => ?_)
      obtain ⟨y_11, f_12, by_11, v_12_0, hn_12_0, hP1, hK1, hD1⟩ := hB
      have v_12_0 : y_11.toInt ≤ (n0_ran + 1).toInt + 1 := v_12_0
      have hn_12_0 : kk_P f2 f_12 (n0_ran + 1).toInt y_11.toInt ((kt_leads (f1 (p0 : Int32).toNatClampNeg) 3).tail) := hn_12_0
      rw [ht] at hP1
      have hK1 := va_K.moved hvm.symm hK1
      obtain ⟨hP, hD⟩ := va_join (wr := []) (w1 := [(h0, kO5 h1 n0_size h2 y_11), (h1, kAi cint 50 f1), (h2, kAi cint 24 f_12)]) hP hD [0, 1, 2] [] rfl rfl (by decide) (by decide) hk1 hFc hP1 hD1
      generalize H1 = H at hP hS ⊢
      have hP : va_P (dC, dI) vwCl [(h0, kO5 h1 n0_size h2 y_11), (h1, kAi cint 50 f1), (h2, kAi cint 24 f_12)] H := hP
      have hD : va_D A [(h0, kO5 h1 n0_size h2 y_11), (h1, kAi cint 50 f1), (h2, kAi cint 24 f_12)] := hD
      rcases hw with ⟨t_10_0, _⟩
      · skip
        have t_10_0 : r_10 = kk_leads (f1 (p0 : Int32).toNatClampNeg) 3 p0 p3 := t_10_0
        obtain rfl : r_10 = (kk_leads (f1 (p0 : Int32).toNatClampNeg) 3 p0 p3) := t_10_0
        obtain ⟨hP9, hD9⟩ := kk_leafout (wc := [(h0, kO5 h1 n0_size h2 y_11), (h1, kAi cint 50 f1), (h2, kAi cint 24 f_12)]) hP hD [0, 1, 2] (by decide) rfl
        have hK9 := kk_Ks (tq := []) hK [] rfl
        exact W.iret (v := (kk_leads (f1 (p0 : Int32).toNatClampNeg) 3 p0 p3)) hx hb hr (fun t ht hW => ⟨⟨(kk_leads (f1 (p0 : Int32).toNatClampNeg) 3 p0 p3), (), rfl, ⟨(by first | rfl | (unfold kk_leads; (repeat' split) <;> first | rfl | (exfalso; have : (0 : Int32).toInt = 0 := rfl; have : (1 : Int32).toInt = 1 := rfl; have : (2 : Int32).toInt = 2 := rfl; have : (3 : Int32).toInt = 3 := rfl; have : (4 : Int32).toInt = 4 := rfl; have : (5 : Int32).toInt = 5 := rfl; have : (6 : Int32).toInt = 6 := rfl; have : (7 : Int32).toInt = 7 := rfl; have := kk_add2 (x := n0_ran) (y := 1) (a := n0_ran.toInt) (b := 1) rfl rfl (by omega) (by omega); have := kk_add2 (x := p4) (y := 1) (a := p4.toInt) (b := 1) rfl rfl (by omega) (by omega); omega))), trivial⟩, y_11, f_12, (by show 1 ≤ (y_11 : Int32).toInt ∧ (y_11 : Int32).toInt ≤ 1000; first | with_reducible assumption | (constructor <;> (have := kk_add2 (x := n0_ran) (y := 1) (a := n0_ran.toInt) (b := 1) rfl rfl (by omega) (by omega); have := kk_add2 (x := p4) (y := 1) (a := p4.toInt) (b := 1) rfl rfl (by omega) (by omega); omega))), (by show (y_11 : Int32).toInt ≤ (n0_ran : Int32).toInt + 2; first | with_reducible assumption | (have := kk_add2 (x := n0_ran) (y := 1) (a := n0_ran.toInt) (b := 1) rfl rfl (by omega) (by omega); have := kk_add2 (x := p4) (y := 1) (a := p4.toInt) (b := 1) rfl rfl (by omega) (by omega); omega)), (by first | exact kk_P_eq (kk_P_trans hp_9 hn_12_0) rfl | (unfold kt_leads; (repeat' split) <;> first | exact kk_P_eq (kk_P_trans hp_9 hn_12_0) rfl | (exfalso; have : (0 : Int32).toInt = 0 := rfl; have : (1 : Int32).toInt = 1 := rfl; have : (2 : Int32).toInt = 2 := rfl; have : (3 : Int32).toInt = 3 := rfl; have : (4 : Int32).toInt = 4 := rfl; have : (5 : Int32).toInt = 5 := rfl; have : (6 : Int32).toInt = 6 := rfl; have : (7 : Int32).toInt = 7 := rfl; have := kk_add2 (x := n0_ran) (y := 1) (a := n0_ran.toInt) (b := 1) rfl rfl (by omega) (by omega); have := kk_add2 (x := p4) (y := 1) (a := p4.toInt) (b := 1) rfl rfl (by omega) (by omega); omega))), by rw [ht]; exact hP9, va_K.moved hW.alike hK9, hD9⟩, hS.F ht⟩) hS.2.2 dX5_call_143
    · have t_8 : n0_ran.toInt < 24 := kk_nle c_8
      refine lv_aload_n hx hb dX5_call_86 rfl (lv_at hl 2 rfl) ?_
      refine va_get (D := (dC, dI)) (ci := 5) (v := .ref h2) (C := RX5) (T := TX5) (N := 4) hx hb hts (fun _ h => List.mem_cons_of_mem _ (List.mem_append_right _ h)) hown hK hP 0 rfl rfl 2 (by decide) (hts (.fieldLink RX5 15 "KinkStreet$Lines" "trace" "[I") (List.mem_of_getElem? (i := 4) rfl)) (fun _ h9 => h9) rfl dX5_call_87 ?_
      refine lv_aload_n hx hb dX5_call_90 rfl (lv_at hl 2 rfl) ?_
      refine va_get (D := (dC, dI)) (ci := 5) (v := .int n0_ran) (C := RX5) (T := TX5) (N := 4) hx hb hts (fun _ h => List.mem_cons_of_mem _ (List.mem_append_right _ h)) hown hK hP 0 rfl rfl 3 (by decide) (hts (.fieldLink RX5 36 "KinkStreet$Lines" "ran" "I") (List.mem_of_getElem? (i := 3) rfl)) (fun _ h9 => h9) rfl dX5_call_91 ?_
      refine lv_iload hx hb dX5_call_94 (lv_at hl 0 rfl) ?_
      refine va_iast hx hb hK hP hD hS 2 0 rfl rfl (vp_in_iff.mpr ⟨by omega, by omega⟩) dX5_call_96 (fun H locs hP hD hS => ?_)
      have w_13 : ((upd f2 (n0_ran : Int32).toNatClampNeg 40) (n0_ran : Int32).toNatClampNeg).toInt = (40 : Int32).toInt := by rw [kk_ups]
      have hP : va_P (dC, dI) vwCl [(h0, kO5 h1 n0_size h2 n0_ran), (h1, kAi cint 50 f1), (h2, kAi cint 24 (upd f2 (n0_ran : Int32).toNatClampNeg 40))] H := hP
      have hD : va_D A [(h0, kO5 h1 n0_size h2 n0_ran), (h1, kAi cint 50 f1), (h2, kAi cint 24 (upd f2 (n0_ran : Int32).toNatClampNeg 40))] := hD
      refine lv_aload_n hx hb dX5_call_97 rfl (lv_at hl 2 rfl) ?_
      refine lv_dup hx hb dX5_call_98 rfl ?_
      refine va_get (D := (dC, dI)) (ci := 5) (v := .int n0_ran) (C := RX5) (T := TX5) (N := 4) hx hb hts (fun _ h => List.mem_cons_of_mem _ (List.mem_append_right _ h)) hown hK hP 0 rfl rfl 3 (by decide) (hts (.fieldLink RX5 36 "KinkStreet$Lines" "ran" "I") (List.mem_of_getElem? (i := 3) rfl)) (fun _ h9 => h9) rfl dX5_call_99 ?_
      refine lv_iconst (v := 1) hx hb dX5_call_102 kk_ic_1 ?_
      refine lv_iadd hx hb dX5_call_103 ?_
      refine va_put (D := (dC, dI)) (ci := 5) (v := .int (n0_ran + 1)) (ty := .int) (C := RX5) (T := TX5) (N := 4) hx hb hts (fun _ h => List.mem_cons_of_mem _ (List.mem_append_right _ h)) tyX5 tyX5_ok nmX5 hown hK hP hD hS 0 rfl rfl 3 (by decide) (hts (.fieldLink RX5 36 "KinkStreet$Lines" "ran" "I") (List.mem_of_getElem? (i := 3) rfl)) (fun _ h9 => h9) rfl (by decide +kernel) rfl rfl (Nat.le_of_ble_eq_true rfl) dX5_call_104 (fun H locs hP hD hS => ?_)
      have hP : va_P (dC, dI) vwCl [(h0, kO5 h1 n0_size h2 (n0_ran + 1)), (h1, kAi cint 50 f1), (h2, kAi cint 24 (upd f2 (n0_ran : Int32).toNatClampNeg 40))] H := hP
      have hD : va_D A [(h0, kO5 h1 n0_size h2 (n0_ran + 1)), (h1, kAi cint 50 f1), (h2, kAi cint 24 (upd f2 (n0_ran : Int32).toNatClampNeg 40))] := hD
      have hp_14 : kk_P f2 (upd f2 (n0_ran : Int32).toNatClampNeg 40) n0_ran.toInt (n0_ran + 1 : Int32).toInt [40] := kk_P_one (by have := kk_add2 (x := n0_ran) (y := 1) (a := n0_ran.toInt) (b := 1) rfl rfl (by omega) (by omega); omega) (by have := kk_add2 (x := n0_ran) (y := 1) (a := n0_ran.toInt) (b := 1) rfl rfl (by omega) (by omega); omega)
      refine lv_iload hx hb dX5_call_107 (lv_at hl 1 rfl) ?_
      refine lv_if_ne (tgt := 128) hx hb dX5_call_109 (by decide) (fun _ => ?_) (fun c => absurd c (by decide))
      refine lv_aload_n hx hb dX5_call_128 rfl (lv_at hl 2 rfl) ?_
      refine lv_iload_n hx hb dX5_call_129 rfl (lv_at hl 3 rfl) ?_
      refine lv_iload hx hb dX5_call_130 (lv_at hl 1 rfl) ?_
      refine lv_iload hx hb dX5_call_132 (lv_at hl 0 rfl) ?_
      refine lv_iload hx hb dX5_call_134 (lv_at hl 6 rfl) ?_
      refine lv_iload hx hb dX5_call_136 (lv_at hl 7 rfl) ?_
      refine lv_iconst (v := 1) hx hb dX5_call_138 kk_ic_1 ?_
      refine lv_iadd hx hb dX5_call_139 ?_
      obtain ⟨hPc, hDc, hFc⟩ := kk_cutout (wc := [(h0, kO5 h1 n0_size h2 (n0_ran + 1)), (h1, kAi cint 50 f1), (h2, kAi cint 24 (upd f2 (n0_ran : Int32).toNatClampNeg 40))]) hP hD hS hA [0, 1, 2] (by decide) rfl
      have hKc := kk_Ks (tq := [(cint, .int)]) hK [0] rfl
      refine va_calli (va_runV (As := [.int p0, .int 3, .int 40, .int p3, .int (p4 + 1)]) (rest := []) ⟨hx, hb, hml, hown, hts⟩ (g_X5_runUnder_13 l dC dI h0 h1 h2 cint H.size p0 p3 (p4 + 1) (by show 0 ≤ ((p4 + 1) : Int32).toInt ∧ ((p4 + 1) : Int32).toInt ≤ 14; first | with_reducible assumption | (constructor <;> (have := kk_add2 (x := n0_ran) (y := 1) (a := n0_ran.toInt) (b := 1) rfl rfl (by omega) (by omega); have := kk_add2 (x := p4) (y := 1) (a := p4.toInt) (b := 1) rfl rfl (by omega) (by omega); omega))) n0_size (n0_ran + 1) f1 (upd f2 (n0_ran : Int32).toNatClampNeg 40) tn0_size (by show 0 ≤ ((n0_ran + 1) : Int32).toInt ∧ ((n0_ran + 1) : Int32).toInt ≤ 999; first | with_reducible assumption | (constructor <;> (have := kk_add2 (x := n0_ran) (y := 1) (a := n0_ran.toInt) (b := 1) rfl rfl (by omega) (by omega); have := kk_add2 (x := p4) (y := 1) (a := p4.toInt) (b := 1) rfl rfl (by omega) (by omega); omega))) bf1 (by show (0 ≤ (p0 : Int32).toInt ∧ (p0 : Int32).toInt < (n0_size : Int32).toInt); first | with_reducible assumption | (have := kk_add2 (x := n0_ran) (y := 1) (a := n0_ran.toInt) (b := 1) rfl rfl (by omega) (by omega); have := kk_add2 (x := p4) (y := 1) (a := p4.toInt) (b := 1) rfl rfl (by omega) (by omega); omega)) aABOVE aOWN_BODIES) (cwV 5 hts gX5_call_X5_runUnder rfl rfl rfl ⟨rfl, kh_X5_runUnder⟩ ⟨Nat.le_of_ble_eq_true rfl, Nat.le_of_ble_eq_true rfl⟩) ⟨fun a U g mk q => by obtain ⟨q0, q1, qP, qK, qD, qx0, qx1, qx2, qx3⟩ := q; exact ⟨q0, q1, qP, va_K.moved (u := U) (U := U.calling g mk a) (Vm.Alike.refl U.vm) qK, qD, va_Z.moved (u := U) (U := U.calling g mk a) (Vm.Alike.refl U.vm) qx0, va_T.moved (u := U) (U := U.calling g mk a) (Vm.Alike.refl U.vm) qx1, va_Z.moved (u := U) (U := U.calling g mk a) (Vm.Alike.refl U.vm) qx2, va_T.moved (u := U) (U := U.calling g mk a) (Vm.Alike.refl U.vm) qx3⟩, va_recv hKc hPc (ci := 5) (q0 := 0) rfl rfl, fun U hU hW => ⟨rfl, by rw [hU], by rw [hU]; exact hPc, va_K.moved hW.alike hKc, hDc.weaken (fun _ _ _ _ => trivial), by rw [hU]; exact ((hZABOVE.kept (fun a h1 h2 => hS.2.1 a h1 h2)).narrow hFc).moved hW.alike, by rw [hU]; exact ((hTABOVE.kept (fun a h1 h2 => hS.2.1 a h1 h2)).narrow hFc).moved hW.alike, by rw [hU]; exact ((hZOWN_BODIES.kept (fun a h1 h2 => hS.2.1 a h1 h2)).narrow hFc).moved hW.alike, by rw [hU]; exact ((hTOWN_BODIES.kept (fun a h1 h2 => hS.2.1 a h1 h2)).narrow hFc).moved hW.alike⟩⟩ rfl rfl hl.1 rfl (lv_room (Nat.le_of_ble_eq_true rfl)) dX5_call_140 ⟨Nat.le_of_ble_eq_true rfl, Nat.le_of_ble_eq_true rfl⟩) hS (fun q _ h => hFc q h) hFc (fun r_15 u t H1 locs ht hvm hw hB hz1 hk1 hS => ?_)
      obtain ⟨y_16, f_17, by_16, v_17_0, hn_17_0, hP1, hK1, hD1⟩ := hB
      have v_17_0 : y_16.toInt ≤ (n0_ran + 1).toInt + 1 := v_17_0
      have hn_17_0 : kk_P (upd f2 (n0_ran : Int32).toNatClampNeg 40) f_17 (n0_ran + 1).toInt y_16.toInt ((kt_leads (f1 (p0 : Int32).toNatClampNeg) 3).tail) := hn_17_0
      rw [ht] at hP1
      have hK1 := va_K.moved hvm.symm hK1
      obtain ⟨hP, hD⟩ := va_join (wr := []) (w1 := [(h0, kO5 h1 n0_size h2 y_16), (h1, kAi cint 50 f1), (h2, kAi cint 24 f_17)]) hP hD [0, 1, 2] [] rfl rfl (by decide) (by decide) hk1 hFc hP1 hD1
      generalize H1 = H at hP hS ⊢
      have hP : va_P (dC, dI) vwCl [(h0, kO5 h1 n0_size h2 y_16), (h1, kAi cint 50 f1), (h2, kAi cint 24 f_17)] H := hP
      have hD : va_D A [(h0, kO5 h1 n0_size h2 y_16), (h1, kAi cint 50 f1), (h2, kAi cint 24 f_17)] := hD
      rcases hw with ⟨t_15_0, _⟩
      · skip
        have t_15_0 : r_15 = kk_leads (f1 (p0 : Int32).toNatClampNeg) 3 p0 p3 := t_15_0
        obtain rfl : r_15 = (kk_leads (f1 (p0 : Int32).toNatClampNeg) 3 p0 p3) := t_15_0
        obtain ⟨hP9, hD9⟩ := kk_leafout (wc := [(h0, kO5 h1 n0_size h2 y_16), (h1, kAi cint 50 f1), (h2, kAi cint 24 f_17)]) hP hD [0, 1, 2] (by decide) rfl
        have hK9 := kk_Ks (tq := []) hK [] rfl
        exact W.iret (v := (kk_leads (f1 (p0 : Int32).toNatClampNeg) 3 p0 p3)) hx hb hr (fun t ht hW => ⟨⟨(kk_leads (f1 (p0 : Int32).toNatClampNeg) 3 p0 p3), (), rfl, ⟨(by first | rfl | (unfold kk_leads; (repeat' split) <;> first | rfl | (exfalso; have : (0 : Int32).toInt = 0 := rfl; have : (1 : Int32).toInt = 1 := rfl; have : (2 : Int32).toInt = 2 := rfl; have : (3 : Int32).toInt = 3 := rfl; have : (4 : Int32).toInt = 4 := rfl; have : (5 : Int32).toInt = 5 := rfl; have : (6 : Int32).toInt = 6 := rfl; have : (7 : Int32).toInt = 7 := rfl; have := kk_add2 (x := n0_ran) (y := 1) (a := n0_ran.toInt) (b := 1) rfl rfl (by omega) (by omega); have := kk_add2 (x := p4) (y := 1) (a := p4.toInt) (b := 1) rfl rfl (by omega) (by omega); omega))), trivial⟩, y_16, f_17, (by show 1 ≤ (y_16 : Int32).toInt ∧ (y_16 : Int32).toInt ≤ 1000; first | with_reducible assumption | (constructor <;> (have := kk_add2 (x := n0_ran) (y := 1) (a := n0_ran.toInt) (b := 1) rfl rfl (by omega) (by omega); have := kk_add2 (x := p4) (y := 1) (a := p4.toInt) (b := 1) rfl rfl (by omega) (by omega); omega))), (by show (y_16 : Int32).toInt ≤ (n0_ran : Int32).toInt + 2; first | with_reducible assumption | (have := kk_add2 (x := n0_ran) (y := 1) (a := n0_ran.toInt) (b := 1) rfl rfl (by omega) (by omega); have := kk_add2 (x := p4) (y := 1) (a := p4.toInt) (b := 1) rfl rfl (by omega) (by omega); omega)), (by first | exact kk_P_eq (kk_P_trans hp_14 hn_17_0) rfl | (unfold kt_leads; (repeat' split) <;> first | exact kk_P_eq (kk_P_trans hp_14 hn_17_0) rfl | (exfalso; have : (0 : Int32).toInt = 0 := rfl; have : (1 : Int32).toInt = 1 := rfl; have : (2 : Int32).toInt = 2 := rfl; have : (3 : Int32).toInt = 3 := rfl; have : (4 : Int32).toInt = 4 := rfl; have : (5 : Int32).toInt = 5 := rfl; have : (6 : Int32).toInt = 6 := rfl; have : (7 : Int32).toInt = 7 := rfl; have := kk_add2 (x := n0_ran) (y := 1) (a := n0_ran.toInt) (b := 1) rfl rfl (by omega) (by omega); have := kk_add2 (x := p4) (y := 1) (a := p4.toInt) (b := 1) rfl rfl (by omega) (by omega); omega))), by rw [ht]; exact hP9, va_K.moved hW.alike hK9, hD9⟩, hS.F ht⟩) hS.2.2 dX5_call_143
  · have t_5 : 40 < p4.toInt := kk_nle c_5
    exfalso; omega
