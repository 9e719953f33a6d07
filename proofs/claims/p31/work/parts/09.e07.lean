set_option maxHeartbeats 4000000 in
set_option maxRecDepth 100000 in
theorem g_X5_runLine_7 (l : Launch) (dC : Nat → ClassId) (dI : Nat → Nat → Nat) (h0 : Nat) (h1 : Nat) (h2 : Nat) (cint : ClassId) (sz : Nat) (p0 : Int32) (p2 : Int32) (p3 : Int32) (tp3 : 0 ≤ p3.toInt ∧ p3.toInt ≤ 3) (n0_size : Int32) (n0_ran : Int32) (f1 : Nat → Int32) (f2 : Nat → Int32) (tn0_size : 0 ≤ n0_size.toInt ∧ n0_size.toInt ≤ 50) (tn0_ran : 0 ≤ n0_ran.toInt ∧ n0_ran.toInt ≤ 983) (bf1 : ∀ j, j < 50 → 0 ≤ (f1 j).toInt ∧ (f1 j).toInt ≤ 7) (pr0 : (0 ≤ p0.toInt ∧ p0.toInt < n0_size.toInt)) (aOWN_BODIES : Nat) (aABOVE : Nat) : Met l yX5_runLine wsX5_runLine ({ frames := 12, cells := 0, slots := 0, locals := 310 }) (va_Pc [.ref h0, .int p0, .int 2, .int p2, .int p3] (fun U => U.heap.size = sz ∧ va_P (dC, dI) vwCl [(h0, kO5 h1 n0_size h2 n0_ran), (h1, kAi cint 50 f1), (h2, kAi cint 24 f2)] U.heap ∧ va_K (dC, dI) vwCl [(cint, .int)] U ∧ va_D (fun _ => True) [(h0, kO5 h1 n0_size h2 n0_ran), (h1, kAi cint 50 f1), (h2, kAi cint 24 f2)] ∧ va_Z "KinkStreet$Lines" "OWN_BODIES" "[I" (.ref aOWN_BODIES) (va_A [(h0, kO5 h1 n0_size h2 n0_ran), (h1, kAi cint 50 f1), (h2, kAi cint 24 f2)] sz) U U.heap ∧ va_T .int aOWN_BODIES 32 tb_OWN_BODIES (va_A [(h0, kO5 h1 n0_size h2 n0_ran), (h1, kAi cint 50 f1), (h2, kAi cint 24 f2)] sz) U U.heap ∧ va_Z "KinkStreet$Lines" "ABOVE" "[I" (.ref aABOVE) (va_A [(h0, kO5 h1 n0_size h2 n0_ran), (h1, kAi cint 50 f1), (h2, kAi cint 24 f2)] sz) U U.heap ∧ va_T .int aABOVE 8 tb_ABOVE (va_A [(h0, kO5 h1 n0_size h2 n0_ran), (h1, kAi cint 50 f1), (h2, kAi cint 24 f2)] sz) U U.heap)) (va_Qi (fun (r : Int32) (_ : Unit) => r = kk_tells (f1 (p0 : Int32).toNatClampNeg) 0 p0 p2 ∧ True) (fun (_ : Unit) t => ∃ (m0_ran : Int32) (g2 : Nat → Int32), (1 ≤ m0_ran.toInt ∧ m0_ran.toInt ≤ 1000) ∧ (m0_ran.toInt ≤ n0_ran.toInt + 17) ∧ (kk_P f2 g2 n0_ran.toInt m0_ran.toInt ((kt_tells (f1 (p0 : Int32).toNatClampNeg) 0).tail)) ∧ va_P (dC, dI) vwCl [(h0, kO5 h1 n0_size h2 m0_ran), (h1, kAi cint 50 f1), (h2, kAi cint 24 g2)] t.heap ∧ va_K (dC, dI) vwCl [] t ∧ va_D (va_A [(h0, kO5 h1 n0_size h2 n0_ran), (h1, kAi cint 50 f1), (h2, kAi cint 24 f2)] sz) [(h0, kO5 h1 n0_size h2 m0_ran), (h1, kAi cint 50 f1), (h2, kAi cint 24 g2)]) (va_A [(h0, kO5 h1 n0_size h2 n0_ran), (h1, kAi cint 50 f1), (h2, kAi cint 24 f2)] sz)) 0 0 (va_A [(h0, kO5 h1 n0_size h2 n0_ran), (h1, kAi cint 50 f1), (h2, kAi cint 24 f2)] sz) := by
  refine Met.ofW (cc := cX5_runLine) (maxL := 6) (ret := (some .int)) (by decide) rfl ?_
  intro p e s m args below meth c s₁ B hml hv
  obtain ⟨rfl, hsz, hP, hK, hD0, hZOWN_BODIES, hTOWN_BODIES, hZABOVE, hTABOVE⟩ := hv
  have hx := B.exec
  have hb := B.bytes
  have hr := B.returns
  have hts := atoms_spec (ws := wsX5_runLine) B.pre
  have hown : s.vm.findClass RX5 = some m.cls := findClass_of_methodNamed B.named
  have hlocks := B.notSynchronized
  subst hsz
  have hD := hD0.self (sz := s.heap.size)
  generalize hAe : va_A [(h0, kO5 h1 n0_size h2 n0_ran), (h1, kAi cint 50 f1), (h2, kAi cint 24 f2)] s.heap.size = A at hD hZOWN_BODIES hTOWN_BODIES hZABOVE hTABOVE ⊢
  have hA : ∀ q : Nat, s.heap.size ≤ q → A q := fun q h => by rw [← hAe]; exact Or.inr h
  have hS : va_S A s.heap s.heap [] := va_S.rf
  have hP : va_P (dC, dI) vwCl [(h0, kO5 h1 n0_size h2 n0_ran), (h1, kAi cint 50 f1), (h2, kAi cint 24 f2)] s.heap := hP
  have hl := lv_entry ([.ref h0, .int p0, .int 2, .int p2, .int p3]) (n := 6) (Nat.le_of_ble_eq_true rfl)
  rw [lg_entry_eq]
  generalize (lg_sl ([.ref h0, .int p0, .int 2, .int p2, .int p3]) ++ List.replicate (6 - (lg_sl ([.ref h0, .int p0, .int 2, .int p2, .int p3])).length) Slot.unset).toArray = ls at hl ⊢
  have hl : lv_has ls 6 [(0, .ref h0), (1, .int p0), (2, .int 2), (3, .int p2), (4, .int p3)] := hl
  refine lv_aload_n hx hb dX5_runLine_0 rfl (lv_at hl 0 rfl) ?_
  refine lv_iload_n hx hb dX5_runLine_1 rfl (lv_at hl 1 rfl) ?_
  obtain ⟨hPc, hDc, hFc⟩ := kk_cutout (wc := [(h0, kO5 h1 n0_size h2 n0_ran), (h1, kAi cint 50 f1)]) hP hD hS hA [0, 1] (by decide) rfl
  have hKc := kk_Ks (tq := [(cint, .int)]) hK [0] rfl
  refine va_calli (va_runV (As := [.int p0]) (rest := []) ⟨hx, hb, hml, hown, hts⟩ (g_X5_kindOf_1 l dC dI h0 h1 h2 cint s.heap.size p0 n0_size n0_ran f1 tn0_size (by show 0 ≤ (n0_ran : Int32).toInt ∧ (n0_ran : Int32).toInt ≤ 1000; first | with_reducible assumption | (constructor <;> (omega))) bf1) (cwV 1 hts gX5_runLine_X5_kindOf rfl rfl rfl ⟨rfl, kh_X5_kindOf⟩ ⟨Nat.le_of_ble_eq_true rfl, Nat.le_of_ble_eq_true rfl⟩) ⟨fun a U g mk q => by obtain ⟨q0, q1, qP, qK, qD⟩ := q; exact ⟨q0, q1, qP, va_K.moved (u := U) (U := U.calling g mk a) (Vm.Alike.refl U.vm) qK, qD⟩, va_recv hKc hPc (ci := 5) (q0 := 0) rfl rfl, fun U hU hW => ⟨rfl, by rw [hU], by rw [hU]; exact hPc, va_K.moved hW.alike hKc, hDc.weaken (fun _ _ _ _ => trivial)⟩⟩ rfl rfl hl.1 rfl (lv_room (Nat.le_of_ble_eq_true rfl)) dX5_runLine_2 ⟨Nat.le_of_ble_eq_true rfl, Nat.le_of_ble_eq_true rfl⟩) hS (fun q _ h => hFc q h) hFc (fun r_1 u t H1 locs ht hvm hw hB hz1 hk1 hS => ?_)
  obtain ⟨hP1, hK1, hD1⟩ := hB
  rw [ht] at hP1
  have hK1 := va_K.moved hvm.symm hK1
  obtain ⟨hP, hD⟩ := va_join (wr := [(h2, kAi cint 24 f2)]) (w1 := [(h0, kO5 h1 n0_size h2 n0_ran), (h1, kAi cint 50 f1)]) hP hD [0, 1] [2] rfl rfl (by decide) (by decide) hk1 hFc hP1 hD1
  generalize H1 = H at hP hS ⊢
  have hP : va_P (dC, dI) vwCl [(h2, kAi cint 24 f2), (h0, kO5 h1 n0_size h2 n0_ran), (h1, kAi cint 50 f1)] H := hP
  have hD : va_D A [(h2, kAi cint 24 f2), (h0, kO5 h1 n0_size h2 n0_ran), (h1, kAi cint 50 f1)] := hD
  rcases hw with ⟨t_1_0, t_1_1, t_1_any⟩
  · skip
    have t_1_0 : ((0 ≤ p0.toInt ∧ p0.toInt < n0_size.toInt → r_1.toInt = (f1 (p0 : Int32).toNatClampNeg).toInt ∧ 0 ≤ (f1 (p0 : Int32).toNatClampNeg).toInt) ∧ (¬ (0 ≤ p0.toInt ∧ p0.toInt < n0_size.toInt) → r_1.toInt = -1)) := t_1_0
    have t_1_1 : (0 ≤ p0.toInt ∧ p0.toInt < n0_size.toInt → r_1 = (f1 (p0 : Int32).toNatClampNeg)) := t_1_1
    obtain rfl : r_1 = (f1 (p0 : Int32).toNatClampNeg) := t_1_1 (by omega)
    refine lv_istore hx hb dX5_runLine_5 hl (by decide) (rfl : _ = ([(5, .int (f1 (p0 : Int32).toNatClampNeg)), (0, .ref h0), (1, .int p0), (2, .int 2), (3, .int p2), (4, .int p3)] : List (Nat × Value))) (fun ls hl => ?_)
    refine lv_iload_n hx hb dX5_runLine_7 rfl (lv_at hl 3 rfl) ?_
    refine lv_lookup (tgt := 48) (off := 40) hx hb dX5_runLine_8 (by decide) (by decide) (by decide) ?_
    refine lv_aload_n hx hb dX5_runLine_48 rfl (lv_at hl 1 rfl) ?_
    refine lv_iload_n hx hb dX5_runLine_49 rfl (lv_at hl 2 rfl) ?_
    refine lv_iload hx hb dX5_runLine_50 (lv_at hl 0 rfl) ?_
    refine lv_iconst (v := 1) hx hb dX5_runLine_52 kk_ic_1 ?_
    refine lv_iload_n hx hb dX5_runLine_53 rfl (lv_at hl 4 rfl) ?_
    refine lv_iload hx hb dX5_runLine_54 (lv_at hl 5 rfl) ?_
    obtain ⟨hPc, hDc, hFc⟩ := kk_cutout (wc := [(h0, kO5 h1 n0_size h2 n0_ran), (h1, kAi cint 50 f1), (h2, kAi cint 24 f2)]) hP hD hS hA [1, 2, 0] (by decide) rfl
    have hKc := kk_Ks (tq := [(cint, .int)]) hK [0] rfl
    refine va_calli (va_runV (As := [.int p0, .int (f1 (p0 : Int32).toNatClampNeg), .int 1, .int p2, .int p3]) (rest := []) ⟨hx, hb, hml, hown, hts⟩ (g_X5_call_21 l dC dI h0 h1 h2 cint H.size p0 (f1 (p0 : Int32).toNatClampNeg) p2 p3 (by show 0 ≤ ((f1 (p0 : Int32).toNatClampNeg) : Int32).toInt ∧ ((f1 (p0 : Int32).toNatClampNeg) : Int32).toInt ≤ 7; first | with_reducible assumption | (constructor <;> (omega))) (by show 0 ≤ (p3 : Int32).toInt ∧ (p3 : Int32).toInt ≤ 6; first | with_reducible assumption | (constructor <;> (omega))) n0_size n0_ran f1 f2 tn0_size (by show 0 ≤ (n0_ran : Int32).toInt ∧ (n0_ran : Int32).toInt ≤ 989; first | with_reducible assumption | (constructor <;> (omega))) bf1 (by show (0 ≤ (p0 : Int32).toInt ∧ (p0 : Int32).toInt < (n0_size : Int32).toInt); first | with_reducible assumption | (omega)) aOWN_BODIES aABOVE) (cwV 5 hts gX5_runLine_X5_call rfl rfl rfl ⟨rfl, kh_X5_call⟩ ⟨Nat.le_of_ble_eq_true rfl, Nat.le_of_ble_eq_true rfl⟩) ⟨fun a U g mk q => by obtain ⟨q0, q1, qP, qK, qD, qx0, qx1, qx2, qx3⟩ := q; exact ⟨q0, q1, qP, va_K.moved (u := U) (U := U.calling g mk a) (Vm.Alike.refl U.vm) qK, qD, va_Z.moved (u := U) (U := U.calling g mk a) (Vm.Alike.refl U.vm) qx0, va_T.moved (u := U) (U := U.calling g mk a) (Vm.Alike.refl U.vm) qx1, va_Z.moved (u := U) (U := U.calling g mk a) (Vm.Alike.refl U.vm) qx2, va_T.moved (u := U) (U := U.calling g mk a) (Vm.Alike.refl U.vm) qx3⟩, va_recv hKc hPc (ci := 5) (q0 := 0) rfl rfl, fun U hU hW => ⟨rfl, by rw [hU], by rw [hU]; exact hPc, va_K.moved hW.alike hKc, hDc.weaken (fun _ _ _ _ => trivial), by rw [hU]; exact ((hZOWN_BODIES.kept (fun a h1 h2 => hS.2.1 a h1 h2)).narrow hFc).moved hW.alike, by rw [hU]; exact ((hTOWN_BODIES.kept (fun a h1 h2 => hS.2.1 a h1 h2)).narrow hFc).moved hW.alike, by rw [hU]; exact ((hZABOVE.kept (fun a h1 h2 => hS.2.1 a h1 h2)).narrow hFc).moved hW.alike, by rw [hU]; exact ((hTABOVE.kept (fun a h1 h2 => hS.2.1 a h1 h2)).narrow hFc).moved hW.alike⟩⟩ rfl rfl hl.1 rfl (lv_room (Nat.le_of_ble_eq_true rfl)) dX5_runLine_56 ⟨Nat.le_of_ble_eq_true rfl, Nat.le_of_ble_eq_true rfl⟩) hS (fun q _ h => hFc q h) hFc (fun r_2 u t H1 locs ht hvm hw hB hz1 hk1 hS => ?_)
    obtain ⟨y_3, f_4, by_3, v_4_0, hn_4_0, hP1, hK1, hD1⟩ := hB
    have v_4_0 : y_3.toInt ≤ n0_ran.toInt + 11 := v_4_0
    have hn_4_0 : kk_P f2 f_4 n0_ran.toInt y_3.toInt (kt_breaks (f1 (p0 : Int32).toNatClampNeg) (f1 (p0 : Int32).toNatClampNeg)) := hn_4_0
    rw [ht] at hP1
    have hK1 := va_K.moved hvm.symm hK1
    obtain ⟨hP, hD⟩ := va_join (wr := []) (w1 := [(h0, kO5 h1 n0_size h2 y_3), (h1, kAi cint 50 f1), (h2, kAi cint 24 f_4)]) hP hD [1, 2, 0] [] rfl rfl (by decide) (by decide) hk1 hFc hP1 hD1
    generalize H1 = H at hP hS ⊢
    have hP : va_P (dC, dI) vwCl [(h0, kO5 h1 n0_size h2 y_3), (h1, kAi cint 50 f1), (h2, kAi cint 24 f_4)] H := hP
    have hD : va_D A [(h0, kO5 h1 n0_size h2 y_3), (h1, kAi cint 50 f1), (h2, kAi cint 24 f_4)] := hD
    rcases hw with ⟨t_2_0, _⟩
    · skip
      have t_2_0 : r_2 = kk_breaks (f1 (p0 : Int32).toNatClampNeg) (f1 (p0 : Int32).toNatClampNeg) p0 p2 := t_2_0
      obtain rfl : r_2 = (kk_breaks (f1 (p0 : Int32).toNatClampNeg) (f1 (p0 : Int32).toNatClampNeg) p0 p2) := t_2_0
      refine lv_aload_n hx hb dX5_runLine_59 rfl (lv_at hl 1 rfl) ?_
      refine lv_iload_n hx hb dX5_runLine_60 rfl (lv_at hl 2 rfl) ?_
      refine lv_iload hx hb dX5_runLine_61 (lv_at hl 0 rfl) ?_
      refine lv_iconst (v := 2) hx hb dX5_runLine_63 kk_ic_2 ?_
      refine lv_iconst (v := 1) hx hb dX5_runLine_64 kk_ic_1 ?_
      refine lv_iload hx hb dX5_runLine_65 (lv_at hl 5 rfl) ?_
      obtain ⟨hPc, hDc, hFc⟩ := kk_cutout (wc := [(h0, kO5 h1 n0_size h2 y_3), (h1, kAi cint 50 f1), (h2, kAi cint 24 f_4)]) hP hD hS hA [0, 1, 2] (by decide) rfl
      have hKc := kk_Ks (tq := [(cint, .int)]) hK [0] rfl
      refine va_calli (va_runV (As := [.int p0, .int (f1 (p0 : Int32).toNatClampNeg), .int 2, .int 1, .int p3]) (rest := [.int (kk_breaks (f1 (p0 : Int32).toNatClampNeg) (f1 (p0 : Int32).toNatClampNeg) p0 p2)]) ⟨hx, hb, hml, hown, hts⟩ (g_X5_call_20 l dC dI h0 h1 h2 cint H.size p0 (f1 (p0 : Int32).toNatClampNeg) 1 p3 (by show 0 ≤ ((f1 (p0 : Int32).toNatClampNeg) : Int32).toInt ∧ ((f1 (p0 : Int32).toNatClampNeg) : Int32).toInt ≤ 7; first | with_reducible assumption | (constructor <;> (omega))) (by show 0 ≤ (p3 : Int32).toInt ∧ (p3 : Int32).toInt ≤ 12; first | with_reducible assumption | (constructor <;> (omega))) n0_size y_3 f1 f_4 tn0_size (by show 0 ≤ (y_3 : Int32).toInt ∧ (y_3 : Int32).toInt ≤ 994; first | with_reducible assumption | (constructor <;> (omega))) bf1 (by show (0 ≤ (p0 : Int32).toInt ∧ (p0 : Int32).toInt < (n0_size : Int32).toInt); first | with_reducible assumption | (omega)) aOWN_BODIES aABOVE) (cwV 5 hts gX5_runLine_X5_call rfl rfl rfl ⟨rfl, kh_X5_call⟩ ⟨Nat.le_of_ble_eq_true rfl, Nat.le_of_ble_eq_true rfl⟩) ⟨fun a U g mk q => by obtain ⟨q0, q1, qP, qK, qD, qx0, qx1, qx2, qx3⟩ := q; exact ⟨q0, q1, qP, va_K.moved (u := U) (U := U.calling g mk a) (Vm.Alike.refl U.vm) qK, qD, va_Z.moved (u := U) (U := U.calling g mk a) (Vm.Alike.refl U.vm) qx0, va_T.moved (u := U) (U := U.calling g mk a) (Vm.Alike.refl U.vm) qx1, va_Z.moved (u := U) (U := U.calling g mk a) (Vm.Alike.refl U.vm) qx2, va_T.moved (u := U) (U := U.calling g mk a) (Vm.Alike.refl U.vm) qx3⟩, va_recv hKc hPc (ci := 5) (q0 := 0) rfl rfl, fun U hU hW => ⟨rfl, by rw [hU], by rw [hU]; exact hPc, va_K.moved hW.alike hKc, hDc.weaken (fun _ _ _ _ => trivial), by rw [hU]; exact ((hZOWN_BODIES.kept (fun a h1 h2 => hS.2.1 a h1 h2)).narrow hFc).moved hW.alike, by rw [hU]; exact ((hTOWN_BODIES.kept (fun a h1 h2 => hS.2.1 a h1 h2)).narrow hFc).moved hW.alike, by rw [hU]; exact ((hZABOVE.kept (fun a h1 h2 => hS.2.1 a h1 h2)).narrow hFc).moved hW.alike, by rw [hU]; exact ((hTABOVE.kept (fun a h1 h2 => hS.2.1 a h1 h2)).narrow hFc).moved hW.alike⟩⟩ rfl rfl hl.1 rfl (lv_room (Nat.le_of_ble_eq_true rfl)) dX5_runLine_67 ⟨Nat.le_of_ble_eq_true rfl, Nat.le_of_ble_eq_true rfl⟩) hS (fun q _ h => hFc q h) hFc (fun r_5 u t H1 locs ht hvm hw hB hz1 hk1 hS => ?_)
      obtain ⟨y_6, f_7, by_6, v_7_0, hn_7_0, hP1, hK1, hD1⟩ := hB
      have v_7_0 : y_6.toInt ≤ y_3.toInt + 6 := v_7_0
      have hn_7_0 : kk_P f_4 f_7 y_3.toInt y_6.toInt (kt_leads (f1 (p0 : Int32).toNatClampNeg) (f1 (p0 : Int32).toNatClampNeg)) := hn_7_0
      rw [ht] at hP1
      have hK1 := va_K.moved hvm.symm hK1
      obtain ⟨hP, hD⟩ := va_join (wr := []) (w1 := [(h0, kO5 h1 n0_size h2 y_6), (h1, kAi cint 50 f1), (h2, kAi cint 24 f_7)]) hP hD [0, 1, 2] [] rfl rfl (by decide) (by decide) hk1 hFc hP1 hD1
      generalize H1 = H at hP hS ⊢
      have hP : va_P (dC, dI) vwCl [(h0, kO5 h1 n0_size h2 y_6), (h1, kAi cint 50 f1), (h2, kAi cint 24 f_7)] H := hP
      have hD : va_D A [(h0, kO5 h1 n0_size h2 y_6), (h1, kAi cint 50 f1), (h2, kAi cint 24 f_7)] := hD
      rcases hw with ⟨t_5_0, _⟩
      · skip
        have t_5_0 : r_5 = kk_leads (f1 (p0 : Int32).toNatClampNeg) (f1 (p0 : Int32).toNatClampNeg) p0 1 := t_5_0
        obtain rfl : r_5 = (kk_leads (f1 (p0 : Int32).toNatClampNeg) (f1 (p0 : Int32).toNatClampNeg) p0 1) := t_5_0
        refine lv_isub hx hb dX5_runLine_70 ?_
        obtain ⟨hP9, hD9⟩ := kk_leafout (wc := [(h0, kO5 h1 n0_size h2 y_6), (h1, kAi cint 50 f1), (h2, kAi cint 24 f_7)]) hP hD [0, 1, 2] (by decide) rfl
        have hK9 := kk_Ks (tq := []) hK [] rfl
        exact W.iret (v := ((kk_breaks (f1 (p0 : Int32).toNatClampNeg) (f1 (p0 : Int32).toNatClampNeg) p0 p2) - (kk_leads (f1 (p0 : Int32).toNatClampNeg) (f1 (p0 : Int32).toNatClampNeg) p0 1))) hx hb hr (fun t ht hW => ⟨⟨((kk_breaks (f1 (p0 : Int32).toNatClampNeg) (f1 (p0 : Int32).toNatClampNeg) p0 p2) - (kk_leads (f1 (p0 : Int32).toNatClampNeg) (f1 (p0 : Int32).toNatClampNeg) p0 1)), (), rfl, ⟨(by first | rfl | (unfold kk_tells; (repeat' split) <;> first | rfl | (exfalso; have : (0 : Int32).toInt = 0 := rfl; have : (1 : Int32).toInt = 1 := rfl; have : (2 : Int32).toInt = 2 := rfl; have : (3 : Int32).toInt = 3 := rfl; have : (4 : Int32).toInt = 4 := rfl; have : (5 : Int32).toInt = 5 := rfl; have : (6 : Int32).toInt = 6 := rfl; have : (7 : Int32).toInt = 7 := rfl; omega))), trivial⟩, y_6, f_7, (by show 1 ≤ (y_6 : Int32).toInt ∧ (y_6 : Int32).toInt ≤ 1000; first | with_reducible assumption | (constructor <;> (omega))), (by show (y_6 : Int32).toInt ≤ (n0_ran : Int32).toInt + 17; first | with_reducible assumption | (omega)), (by first | exact kk_P_eq (kk_P_trans hn_4_0 hn_7_0) rfl | (unfold kt_tells; (repeat' split) <;> first | exact kk_P_eq (kk_P_trans hn_4_0 hn_7_0) rfl | (exfalso; have : (0 : Int32).toInt = 0 := rfl; have : (1 : Int32).toInt = 1 := rfl; have : (2 : Int32).toInt = 2 := rfl; have : (3 : Int32).toInt = 3 := rfl; have : (4 : Int32).toInt = 4 := rfl; have : (5 : Int32).toInt = 5 := rfl; have : (6 : Int32).toInt = 6 := rfl; have : (7 : Int32).toInt = 7 := rfl; omega))), by rw [ht]; exact hP9, va_K.moved hW.alike hK9, hD9⟩, hS.F ht⟩) hS.2.2 dX5_runLine_71
set_option maxHeartbeats 4000000 in
set_option maxRecDepth 100000 in
theorem g_X5_call_22 (l : Launch) (dC : Nat → ClassId) (dI : Nat → Nat → Nat) (h0 : Nat) (h1 : Nat) (h2 : Nat) (cint : ClassId) (sz : Nat) (p0 : Int32) (p3 : Int32) (p4 : Int32) (tp4 : 0 ≤ p4.toInt ∧ p4.toInt ≤ 1) (n0_size : Int32) (n0_ran : Int32) (f1 : Nat → Int32) (f2 : Nat → Int32) (tn0_size : 0 ≤ n0_size.toInt ∧ n0_size.toInt ≤ 50) (tn0_ran : 0 ≤ n0_ran.toInt ∧ n0_ran.toInt ≤ 982) (bf1 : ∀ j, j < 50 → 0 ≤ (f1 j).toInt ∧ (f1 j).toInt ≤ 7) (pr0 : (0 ≤ p0.toInt ∧ p0.toInt < n0_size.toInt)) (aOWN_BODIES : Nat) (aABOVE : Nat) : Met l yX5_call wsX5_call ({ frames := 13, cells := 0, slots := 0, locals := 335 }) (va_Pc [.ref h0, .int p0, .int 3, .int 3, .int p3, .int p4] (fun U => U.heap.size = sz ∧ va_P (dC, dI) vwCl [(h0, kO5 h1 n0_size h2 n0_ran), (h1, kAi cint 50 f1), (h2, kAi cint 24 f2)] U.heap ∧ va_K (dC, dI) vwCl [(cint, .int)] U ∧ va_D (fun _ => True) [(h0, kO5 h1 n0_size h2 n0_ran), (h1, kAi cint 50 f1), (h2, kAi cint 24 f2)] ∧ va_Z "KinkStreet$Lines" "OWN_BODIES" "[I" (.ref aOWN_BODIES) (va_A [(h0, kO5 h1 n0_size h2 n0_ran), (h1, kAi cint 50 f1), (h2, kAi cint 24 f2)] sz) U U.heap ∧ va_T .int aOWN_BODIES 32 tb_OWN_BODIES (va_A [(h0, kO5 h1 n0_size h2 n0_ran), (h1, kAi cint 50 f1), (h2, kAi cint 24 f2)] sz) U U.heap ∧ va_Z "KinkStreet$Lines" "ABOVE" "[I" (.ref aABOVE) (va_A [(h0, kO5 h1 n0_size h2 n0_ran), (h1, kAi cint 50 f1), (h2, kAi cint 24 f2)] sz) U U.heap ∧ va_T .int aABOVE 8 tb_ABOVE (va_A [(h0, kO5 h1 n0_size h2 n0_ran), (h1, kAi cint 50 f1), (h2, kAi cint 24 f2)] sz) U U.heap)) (va_Qi (fun (r : Int32) (_ : Unit) => r = kk_tells (f1 (p0 : Int32).toNatClampNeg) 3 p0 p3 ∧ True) (fun (_ : Unit) t => ∃ (m0_ran : Int32) (g2 : Nat → Int32), (1 ≤ m0_ran.toInt ∧ m0_ran.toInt ≤ 1000) ∧ (m0_ran.toInt ≤ n0_ran.toInt + 18) ∧ (kk_P f2 g2 n0_ran.toInt m0_ran.toInt (kt_tells (f1 (p0 : Int32).toNatClampNeg) 3)) ∧ va_P (dC, dI) vwCl [(h0, kO5 h1 n0_size h2 m0_ran), (h1, kAi cint 50 f1), (h2, kAi cint 24 g2)] t.heap ∧ va_K (dC, dI) vwCl [] t ∧ va_D (va_A [(h0, kO5 h1 n0_size h2 n0_ran), (h1, kAi cint 50 f1), (h2, kAi cint 24 f2)] sz) [(h0, kO5 h1 n0_size h2 m0_ran), (h1, kAi cint 50 f1), (h2, kAi cint 24 g2)]) (va_A [(h0, kO5 h1 n0_size h2 n0_ran), (h1, kAi cint 50 f1), (h2, kAi cint 24 f2)] sz)) 0 0 (va_A [(h0, kO5 h1 n0_size h2 n0_ran), (h1, kAi cint 50 f1), (h2, kAi cint 24 f2)] sz) := by
  refine Met.ofW (cc := cX5_call) (maxL := 8) (ret := (some .int)) (by decide) rfl ?_
  intro p e s m args below meth c s₁ B hml hv
  obtain ⟨rfl, hsz, hP, hK, hD0, hZOWN_BODIES, hTOWN_BODIES, hZABOVE, hTABOVE⟩ := hv
  have hx := B.exec
  have hb := B.bytes
  have hr := B.returns
  have hts := atoms_spec (ws := wsX5_call) B.pre
  have hown : s.vm.findClass RX5 = some m.cls := findClass_of_methodNamed B.named
  have hlocks := B.notSynchronized
  subst hsz
  have hD := hD0.self (sz := s.heap.size)
  generalize hAe : va_A [(h0, kO5 h1 n0_size h2 n0_ran), (h1, kAi cint 50 f1), (h2, kAi cint 24 f2)] s.heap.size = A at hD hZOWN_BODIES hTOWN_BODIES hZABOVE hTABOVE ⊢
  have hA : ∀ q : Nat, s.heap.size ≤ q → A q := fun q h => by rw [← hAe]; exact Or.inr h
  have hS : va_S A s.heap s.heap [] := va_S.rf
  have hP : va_P (dC, dI) vwCl [(h0, kO5 h1 n0_size h2 n0_ran), (h1, kAi cint 50 f1), (h2, kAi cint 24 f2)] s.heap := hP
  have hl := lv_entry ([.ref h0, .int p0, .int 3, .int 3, .int p3, .int p4]) (n := 8) (Nat.le_of_ble_eq_true rfl)
  rw [lg_entry_eq]
  generalize (lg_sl ([.ref h0, .int p0, .int 3, .int 3, .int p3, .int p4]) ++ List.replicate (8 - (lg_sl ([.ref h0, .int p0, .int 3, .int 3, .int p3, .int p4])).length) Slot.unset).toArray = ls at hl ⊢
  have hl : lv_has ls 8 [(0, .ref h0), (1, .int p0), (2, .int 3), (3, .int 3), (4, .int p3), (5, .int p4)] := hl
  refine lv_iload_n hx hb dX5_call_0 rfl (lv_at hl 2 rfl) ?_
  refine lv_istore hx hb dX5_call_1 hl (by decide) (rfl : _ = ([(6, .int 3), (0, .ref h0), (1, .int p0), (2, .int 3), (3, .int 3), (4, .int p3), (5, .int p4)] : List (Nat × Value))) (fun ls hl => ?_)
  refine lv_iconst (v := 0) hx hb dX5_call_3 kk_ic_0 ?_
  refine lv_istore hx hb dX5_call_4 hl (by decide) (rfl : _ = ([(7, .int 0), (6, .int 3), (0, .ref h0), (1, .int p0), (2, .int 3), (3, .int 3), (4, .int p3), (5, .int p4)] : List (Nat × Value))) (fun ls hl => ?_)
  refine lv_iload hx hb dX5_call_6 (lv_at hl 0 rfl) ?_
  refine lv_bipush (v := 8) hx hb dX5_call_8 kk_bi_8 ?_
  refine lv_icmp_ge (tgt := 48) hx hb dX5_call_10 (by decide) (fun c => absurd c (by decide)) (fun _ => ?_)
  refine lv_iload hx hb dX5_call_13 (lv_at hl 1 rfl) ?_
  obtain ⟨hPc, hDc, hFc⟩ := kk_cutout (wc := []) hP hD hS hA [] (by decide) rfl
  have hKc := kk_Ks (tq := []) hK [] rfl
  refine va_calli (va_runS (As := [.int 3]) (rest := []) ⟨hx, hb, hml, hown, hts⟩ (g_X5_isKind_14 l dC dI s.heap.size) (va_cwS 1 hts gX5_call_X5_isKind rfl rfl rfl kh_X5_isKind ⟨Nat.le_of_ble_eq_true rfl, Nat.le_of_ble_eq_true rfl⟩) ⟨fun a U g mk q => by obtain ⟨q0, q1, qP, qK, qD⟩ := q; exact ⟨q0, q1, qP, va_K.moved (u := U) (U := U.calling g mk a) (Vm.Alike.refl U.vm) qK, qD⟩, fun U hU hW => ⟨rfl, by rw [hU], by rw [hU]; exact hPc, va_K.moved hW.alike hKc, hDc.weaken (fun _ _ _ _ => trivial)⟩⟩ rfl rfl hl.1 rfl (lv_room (Nat.le_of_ble_eq_true rfl)) dX5_call_15 ⟨Nat.le_of_ble_eq_true rfl, Nat.le_of_ble_eq_true rfl⟩) hS (fun q _ h => hFc q h) hFc (fun r_1 u t H1 locs ht hvm hw hB hz1 hk1 hS => ?_)
  obtain ⟨hP1, hK1, hD1⟩ := hB
  rw [ht] at hP1
  have hK1 := va_K.moved hvm.symm hK1
  obtain ⟨hP, hD⟩ := va_join (wr := [(h0, kO5 h1 n0_size h2 n0_ran), (h1, kAi cint 50 f1), (h2, kAi cint 24 f2)]) (w1 := []) hP hD [] [0, 1, 2] rfl rfl (by decide) (by decide) hk1 hFc hP1 hD1
  generalize H1 = H at hP hS ⊢
  have hP : va_P (dC, dI) vwCl [(h0, kO5 h1 n0_size h2 n0_ran), (h1, kAi cint 50 f1), (h2, kAi cint 24 f2)] H := hP
  have hD : va_D A [(h0, kO5 h1 n0_size h2 n0_ran), (h1, kAi cint 50 f1), (h2, kAi cint 24 f2)] := hD
  obtain rfl := hw
  refine lv_if_eq (tgt := 48) hx hb dX5_call_18 (by decide) (fun c => absurd c (by decide)) (fun _ => ?_)
  refine va_gets hx hb hZOWN_BODIES hS hown (hts (.fieldLink RX5 43 "KinkStreet$Lines" "OWN_BODIES" "[I") (List.mem_of_getElem? (i := 1) rfl)) (fun _ h9 => h9) dX5_call_21 ?_
  refine lv_iload hx hb dX5_call_24 (lv_at hl 1 rfl) ?_
  refine lv_iconst (v := 4) hx hb dX5_call_26 kk_ic_4 ?_
  refine lv_imul hx hb dX5_call_27 ?_
  refine lv_topi (fun y_2 e_2 => ?_)
  obtain rfl : y_2 = 12 := e_2.trans (by decide)
  refine lv_iload_n hx hb dX5_call_28 rfl (lv_at hl 5 rfl) ?_
  refine lv_iadd hx hb dX5_call_29 ?_
  refine lv_topi (fun y_3 e_3 => ?_)
  obtain rfl : y_3 = 15 := e_3.trans (by decide)
  refine va_ti (v := .int 0) hx hb hTOWN_BODIES hS (by unfold vp_in; decide) rfl dX5_call_30 ?_
  refine lv_if_ne (tgt := 48) hx hb dX5_call_31 (by decide) (fun c => absurd c (by decide)) (fun _ => ?_)
  refine va_gets hx hb hZABOVE hS hown (hts (.fieldLink RX5 22 "KinkStreet$Lines" "ABOVE" "[I") (List.mem_of_getElem? (i := 2) rfl)) (fun _ h9 => h9) dX5_call_34 ?_
  refine lv_iload hx hb dX5_call_37 (lv_at hl 1 rfl) ?_
  refine va_ti (v := .int 0) hx hb hTABOVE hS (by unfold vp_in; decide) rfl dX5_call_39 ?_
  refine lv_istore hx hb dX5_call_40 hl (by decide) (rfl : _ = ([(6, .int 0), (7, .int 0), (0, .ref h0), (1, .int p0), (2, .int 3), (3, .int 3), (4, .int p3), (5, .int p4)] : List (Nat × Value))) (fun ls hl => ?_)
  refine lv_iinc (v := 1) hx hb dX5_call_42 hl (k := 1) rfl (by first | rfl | decide) (by decide) (rfl : _ = ([(7, .int 1), (6, .int 0), (0, .ref h0), (1, .int p0), (2, .int 3), (3, .int 3), (4, .int p3), (5, .int p4)] : List (Nat × Value))) (fun ls hl => ?_)
  refine lv_goto (tgt := 6) hx hb dX5_call_45 (by decide) ?_
  refine lv_iload hx hb dX5_call_6 (lv_at hl 0 rfl) ?_
  refine lv_bipush (v := 8) hx hb dX5_call_8 kk_bi_8 ?_
  refine lv_icmp_ge (tgt := 48) hx hb dX5_call_10 (by decide) (fun c => absurd c (by decide)) (fun _ => ?_)
  refine lv_iload hx hb dX5_call_13 (lv_at hl 1 rfl) ?_
  obtain ⟨hPc, hDc, hFc⟩ := kk_cutout (wc := []) hP hD hS hA [] (by decide) rfl
  have hKc := kk_Ks (tq := []) hK [] rfl
  refine va_calli (va_runS (As := [.int 0]) (rest := []) ⟨hx, hb, hml, hown, hts⟩ (g_X5_isKind_11 l dC dI H.size) (va_cwS 1 hts gX5_call_X5_isKind rfl rfl rfl kh_X5_isKind ⟨Nat.le_of_ble_eq_true rfl, Nat.le_of_ble_eq_true rfl⟩) ⟨fun a U g mk q => by obtain ⟨q0, q1, qP, qK, qD⟩ := q; exact ⟨q0, q1, qP, va_K.moved (u := U) (U := U.calling g mk a) (Vm.Alike.refl U.vm) qK, qD⟩, fun U hU hW => ⟨rfl, by rw [hU], by rw [hU]; exact hPc, va_K.moved hW.alike hKc, hDc.weaken (fun _ _ _ _ => trivial)⟩⟩ rfl rfl hl.1 rfl (lv_room (Nat.le_of_ble_eq_true rfl)) dX5_call_15 ⟨Nat.le_of_ble_eq_true rfl, Nat.le_of_ble_eq_true rfl⟩) hS (fun q _ h => hFc q h) hFc (fun r_4 u t H1 locs ht hvm hw hB hz1 hk1 hS => ?_)
  obtain ⟨hP1, hK1, hD1⟩ := hB
  rw [ht] at hP1
  have hK1 := va_K.moved hvm.symm hK1
  obtain ⟨hP, hD⟩ := va_join (wr := [(h0, kO5 h1 n0_size h2 n0_ran), (h1, kAi cint 50 f1), (h2, kAi cint 24 f2)]) (w1 := []) hP hD [] [0, 1, 2] rfl rfl (by decide) (by decide) hk1 hFc hP1 hD1
  generalize H1 = H at hP hS ⊢
  have hP : va_P (dC, dI) vwCl [(h0, kO5 h1 n0_size h2 n0_ran), (h1, kAi cint 50 f1), (h2, kAi cint 24 f2)] H := hP
  have hD : va_D A [(h0, kO5 h1 n0_size h2 n0_ran), (h1, kAi cint 50 f1), (h2, kAi cint 24 f2)] := hD
  obtain rfl := hw
  refine lv_if_eq (tgt := 48) hx hb dX5_call_18 (by decide) (fun c => absurd c (by decide)) (fun _ => ?_)
  refine va_gets hx hb hZOWN_BODIES hS hown (hts (.fieldLink RX5 43 "KinkStreet$Lines" "OWN_BODIES" "[I") (List.mem_of_getElem? (i := 1) rfl)) (fun _ h9 => h9) dX5_call_21 ?_
  refine lv_iload hx hb dX5_call_24 (lv_at hl 1 rfl) ?_
  refine lv_iconst (v := 4) hx hb dX5_call_26 kk_ic_4 ?_
  refine lv_imul hx hb dX5_call_27 ?_
  refine lv_topi (fun y_5 e_5 => ?_)
  obtain rfl : y_5 = 0 := e_5.trans (by decide)
  refine lv_iload_n hx hb dX5_call_28 rfl (lv_at hl 5 rfl) ?_
  refine lv_iadd hx hb dX5_call_29 ?_
  refine lv_topi (fun y_6 e_6 => ?_)
  obtain rfl : y_6 = 3 := e_6.trans (by decide)
  refine va_ti (v := .int 2) hx hb hTOWN_BODIES hS (by unfold vp_in; decide) rfl dX5_call_30 ?_
  refine lv_if_ne (tgt := 48) hx hb dX5_call_31 (by decide) (fun _ => ?_) (fun c => absurd c (by decide))
  refine lv_iload hx hb dX5_call_48 (lv_at hl 1 rfl) ?_
  obtain ⟨hPc, hDc, hFc⟩ := kk_cutout (wc := []) hP hD hS hA [] (by decide) rfl
  have hKc := kk_Ks (tq := []) hK [] rfl
  refine va_calli (va_runS (As := [.int 0]) (rest := []) ⟨hx, hb, hml, hown, hts⟩ (g_X5_isKind_11 l dC dI H.size) (va_cwS 1 hts gX5_call_X5_isKind rfl rfl rfl kh_X5_isKind ⟨Nat.le_of_ble_eq_true rfl, Nat.le_of_ble_eq_true rfl⟩) ⟨fun a U g mk q => by obtain ⟨q0, q1, qP, qK, qD⟩ := q; exact ⟨q0, q1, qP, va_K.moved (u := U) (U := U.calling g mk a) (Vm.Alike.refl U.vm) qK, qD⟩, fun U hU hW => ⟨rfl, by rw [hU], by rw [hU]; exact hPc, va_K.moved hW.alike hKc, hDc.weaken (fun _ _ _ _ => trivial)⟩⟩ rfl rfl hl.1 rfl (lv_room (Nat.le_of_ble_eq_true rfl)) dX5_call_50 ⟨Nat.le_of_ble_eq_true rfl, Nat.le_of_ble_eq_true rfl⟩) hS (fun q _ h => hFc q h) hFc (fun r_7 u t H1 locs ht hvm hw hB hz1 hk1 hS => ?_)
  obtain ⟨hP1, hK1, hD1⟩ := hB
  rw [ht] at hP1
  have hK1 := va_K.moved hvm.symm hK1
  obtain ⟨hP, hD⟩ := va_join (wr := [(h0, kO5 h1 n0_size h2 n0_ran), (h1, kAi cint 50 f1), (h2, kAi cint 24 f2)]) (w1 := []) hP hD [] [0, 1, 2] rfl rfl (by decide) (by decide) hk1 hFc hP1 hD1
  generalize H1 = H at hP hS ⊢
  have hP : va_P (dC, dI) vwCl [(h0, kO5 h1 n0_size h2 n0_ran), (h1, kAi cint 50 f1), (h2, kAi cint 24 f2)] H := hP
  have hD : va_D A [(h0, kO5 h1 n0_size h2 n0_ran), (h1, kAi cint 50 f1), (h2, kAi cint 24 f2)] := hD
  obtain rfl := hw
  refine lv_if_eq (tgt := 63) hx hb dX5_call_53 (by decide) (fun c => absurd c (by decide)) (fun _ => ?_)
  refine lv_iload hx hb dX5_call_56 (lv_at hl 7 rfl) ?_
  refine lv_bipush (v := 40) hx hb dX5_call_58 kk_bi_40 ?_
  refine lv_icmp_le (tgt := 65) hx hb dX5_call_60 (by decide) (fun c_8 => ?_) (fun c_8 => ?_)
  · have t_8 : p4.toInt ≤ 40 := kk_le c_8
    refine va_gets hx hb hZOWN_BODIES hS hown (hts (.fieldLink RX5 43 "KinkStreet$Lines" "OWN_BODIES" "[I") (List.mem_of_getElem? (i := 1) rfl)) (fun _ h9 => h9) dX5_call_65 ?_
    refine lv_iload hx hb dX5_call_68 (lv_at hl 1 rfl) ?_
    refine lv_iconst (v := 4) hx hb dX5_call_70 kk_ic_4 ?_
    refine lv_imul hx hb dX5_call_71 ?_
    refine lv_topi (fun y_9 e_9 => ?_)
    obtain rfl : y_9 = 0 := e_9.trans (by decide)
    refine lv_iload_n hx hb dX5_call_72 rfl (lv_at hl 5 rfl) ?_
    refine lv_iadd hx hb dX5_call_73 ?_
    refine lv_topi (fun y_10 e_10 => ?_)
    obtain rfl : y_10 = 3 := e_10.trans (by decide)
    refine va_ti (v := .int 2) hx hb hTOWN_BODIES hS (by unfold vp_in; decide) rfl dX5_call_74 ?_
    refine lv_istore hx hb dX5_call_75 hl (by decide) (rfl : _ = ([(7, .int 2), (6, .int 0), (0, .ref h0), (1, .int p0), (2, .int 3), (3, .int 3), (4, .int p3), (5, .int p4)] : List (Nat × Value))) (fun ls hl => ?_)
    refine lv_aload_n hx hb dX5_call_77 rfl (lv_at hl 2 rfl) ?_
    refine va_get (D := (dC, dI)) (ci := 5) (v := .int n0_ran) (C := RX5) (T := TX5) (N := 4) hx hb hts (fun _ h => List.mem_cons_of_mem _ (List.mem_append_right _ h)) hown hK hP 0 rfl rfl 3 (by decide) (hts (.fieldLink RX5 36 "KinkStreet$Lines" "ran" "I") (List.mem_of_getElem? (i := 3) rfl)) (fun _ h9 => h9) rfl dX5_call_78 ?_
    refine lv_bipush (v := 24) hx hb dX5_call_81 kk_bi_24 ?_
    refine lv_icmp_ge (tgt := 97) hx hb dX5_call_83 (by decide) (fun c_11 => ?_) (fun c_11 => ?_)
    · have t_11 : 24 ≤ n0_ran.toInt := kk_le c_11
      refine lv_aload_n hx hb dX5_call_97 rfl (lv_at hl 2 rfl) ?_
      refine lv_dup hx hb dX5_call_98 rfl ?_
      refine va_get (D := (dC, dI)) (ci := 5) (v := .int n0_ran) (C := RX5) (T := TX5) (N := 4) hx hb hts (fun _ h => List.mem_cons_of_mem _ (List.mem_append_right _ h)) hown hK hP 0 rfl rfl 3 (by decide) (hts (.fieldLink RX5 36 "KinkStreet$Lines" "ran" "I") (List.mem_of_getElem? (i := 3) rfl)) (fun _ h9 => h9) rfl dX5_call_99 ?_
      refine lv_iconst (v := 1) hx hb dX5_call_102 kk_ic_1 ?_
      refine lv_iadd hx hb dX5_call_103 ?_
      refine va_put (D := (dC, dI)) (ci := 5) (v := .int (n0_ran + 1)) (ty := .int) (C := RX5) (T := TX5) (N := 4) hx hb hts (fun _ h => List.mem_cons_of_mem _ (List.mem_append_right _ h)) tyX5 tyX5_ok nmX5 hown hK hP hD hS 0 rfl rfl 3 (by decide) (hts (.fieldLink RX5 36 "KinkStreet$Lines" "ran" "I") (List.mem_of_getElem? (i := 3) rfl)) (fun _ h9 => h9) rfl (by decide +kernel) rfl rfl (Nat.le_of_ble_eq_true rfl) dX5_call_104 (fun H locs hP hD hS => ?_)
      have hP : va_P (dC, dI) vwCl [(h0, kO5 h1 n0_size h2 (n0_ran + 1)), (h1, kAi cint 50 f1), (h2, kAi cint 24 f2)] H := hP
      have hD : va_D A [(h0, kO5 h1 n0_size h2 (n0_ran + 1)), (h1, kAi cint 50 f1), (h2, kAi cint 24 f2)] := hD
      have hp_12 : kk_P f2 f2 n0_ran.toInt (n0_ran + 1 : Int32).toInt [2] := kk_P_out (by have := kk_add2 (x := n0_ran) (y := 1) (a := n0_ran.toInt) (b := 1) rfl rfl (by omega) (by omega); omega) (by have := kk_add2 (x := n0_ran) (y := 1) (a := n0_ran.toInt) (b := 1) rfl rfl (by omega) (by omega); omega)
      refine lv_iload hx hb dX5_call_107 (lv_at hl 1 rfl) ?_
      refine lv_if_ne (tgt := 128) hx hb dX5_call_109 (by decide) (fun c => absurd c (by decide)) (fun _ => ?_)
      refine lv_aload_n hx hb dX5_call_112 rfl (lv_at hl 2 rfl) ?_
      refine lv_iload_n hx hb dX5_call_113 rfl (lv_at hl 3 rfl) ?_
      refine lv_iload hx hb dX5_call_114 (lv_at hl 0 rfl) ?_
      refine lv_iload hx hb dX5_call_116 (lv_at hl 6 rfl) ?_
      refine lv_iload hx hb dX5_call_118 (lv_at hl 7 rfl) ?_
      refine lv_iconst (v := 1) hx hb dX5_call_120 kk_ic_1 ?_
      refine lv_iadd hx hb dX5_call_121 ?_
      obtain ⟨hPc, hDc, hFc⟩ := kk_cutout (wc := [(h0, kO5 h1 n0_size h2 (n0_ran + 1)), (h1, kAi cint 50 f1), (h2, kAi cint 24 f2)]) hP hD hS hA [0, 1, 2] (by decide) rfl
      have hKc := kk_Ks (tq := [(cint, .int)]) hK [0] rfl
      refine va_calli (va_runV (As := [.int p0, .int 2, .int p3, .int (p4 + 1)]) (rest := []) ⟨hx, hb, hml, hown, hts⟩ (g_X5_runLine_7 l dC dI h0 h1 h2 cint H.size p0 p3 (p4 + 1) (by show 0 ≤ ((p4 + 1) : Int32).toInt ∧ ((p4 + 1) : Int32).toInt ≤ 3; first | with_reducible assumption | (constructor <;> (have := kk_add2 (x := n0_ran) (y := 1) (a := n0_ran.toInt) (b := 1) rfl rfl (by omega) (by omega); have := kk_add2 (x := p4) (y := 1) (a := p4.toInt) (b := 1) rfl rfl (by omega) (by omega); omega))) n0_size (n0_ran + 1) f1 f2 tn0_size (by show 0 ≤ ((n0_ran + 1) : Int32).toInt ∧ ((n0_ran + 1) : Int32).toInt ≤ 983; first | with_reducible assumption | (constructor <;> (have := kk_add2 (x := n0_ran) (y := 1) (a := n0_ran.toInt) (b := 1) rfl rfl (by omega) (by omega); have := kk_add2 (x := p4) (y := 1) (a := p4.toInt) (b := 1) rfl rfl (by omega) (by omega); omega))) bf1 (by show (0 ≤ (p0 : Int32).toInt ∧ (p0 : Int32).toInt < (n0_size : Int32).toInt); first | with_reducible assumption | (have := kk_add2 (x := n0_ran) (y := 1) (a := n0_ran.toInt) (b := 1) rfl rfl (by omega) (by omega); have := kk_add2 (x := p4) (y := 1) (a := p4.toInt) (b := 1) rfl rfl (by omega) (by omega); omega)) aOWN_BODIES aABOVE) (cwV 4 hts gX5_call_X5_runLine rfl rfl rfl ⟨rfl, kh_X5_runLine⟩ ⟨Nat.le_of_ble_eq_true rfl, Nat.le_of_ble_eq_true rfl⟩) ⟨fun a U g mk q => by obtain ⟨q0, q1, qP, qK, qD, qx0, qx1, qx2, qx3⟩ := q; exact ⟨q0, q1, qP, va_K.moved (u := U) (U := U.calling g mk a) (Vm.Alike.refl U.vm) qK, qD, va_Z.moved (u := U) (U := U.calling g mk a) (Vm.Alike.refl U.vm) qx0, va_T.moved (u := U) (U := U.calling g mk a) (Vm.Alike.refl U.vm) qx1, va_Z.moved (u := U) (U := U.calling g mk a) (Vm.Alike.refl U.vm) qx2, va_T.moved (u := U) (U := U.calling g mk a) (Vm.Alike.refl U.vm) qx3⟩, va_recv hKc hPc (ci := 5) (q0 := 0) rfl rfl, fun U hU hW => ⟨rfl, by rw [hU], by rw [hU]; exact hPc, va_K.moved hW.alike hKc, hDc.weaken (fun _ _ _ _ => trivial), by rw [hU]; exact ((hZOWN_BODIES.kept (fun a h1 h2 => hS.2.1 a h1 h2)).narrow hFc).moved hW.alike, by rw [hU]; exact ((hTOWN_BODIES.kept (fun a h1 h2 => hS.2.1 a h1 h2)).narrow hFc).moved hW.alike, by rw [hU]; exact ((hZABOVE.kept (fun a h1 h2 => hS.2.1 a h1 h2)).narrow hFc).moved hW.alike, by rw [hU]; exact ((hTABOVE.kept (fun a h1 h2 => hS.2.1 a h1 h2)).narrow hFc).moved hW.alike⟩⟩ rfl rfl hl.1 rfl (lv_room (Nat.le_of_ble_eq_true rfl)) dX5_call_122 ⟨Nat.le_of_ble_eq_true rfl, Nat.le_of_ble_eq_true rfl⟩) hS (fun q _ h => hFc q h) hFc (fun r_13 u t H1 locs ht hvm hw hB hz1 hk1 hS => ?_)
      obtain ⟨y_14, f_15, by_14, v_15_0, hn_15_0, hP1, hK1, hD1⟩ := hB
      have v_15_0 : y_14.toInt ≤ (n0_ran + 1).toInt + 17 := v_15_0
      have hn_15_0 : kk_P f2 f_15 (n0_ran + 1).toInt y_14.toInt ((kt_tells (f1 (p0 : Int32).toNatClampNeg) 0).tail) := hn_15_0
      rw [ht] at hP1
      have hK1 := va_K.moved hvm.symm hK1
      obtain ⟨hP, hD⟩ := va_join (wr := []) (w1 := [(h0, kO5 h1 n0_size h2 y_14), (h1, kAi cint 50 f1), (h2, kAi cint 24 f_15)]) hP hD [0, 1, 2] [] rfl rfl (by decide) (by decide) hk1 hFc hP1 hD1
      generalize H1 = H at hP hS ⊢
      have hP : va_P (dC, dI) vwCl [(h0, kO5 h1 n0_size h2 y_14), (h1, kAi cint 50 f1), (h2, kAi cint 24 f_15)] H := hP
      have hD : va_D A [(h0, kO5 h1 n0_size h2 y_14), (h1, kAi cint 50 f1), (h2, kAi cint 24 f_15)] := hD
      rcases hw with ⟨t_13_0, _⟩
      · skip
        have t_13_0 : r_13 = kk_tells (f1 (p0 : Int32).toNatClampNeg) 0 p0 p3 := t_13_0
        obtain rfl : r_13 = (kk_tells (f1 (p0 : Int32).toNatClampNeg) 0 p0 p3) := t_13_0
        refine lv_goto (tgt := 143) hx hb dX5_call_125 (by decide) ?_
        obtain ⟨hP9, hD9⟩ := kk_leafout (wc := [(h0, kO5 h1 n0_size h2 y_14), (h1, kAi cint 50 f1), (h2, kAi cint 24 f_15)]) hP hD [0, 1, 2] (by decide) rfl
        have hK9 := kk_Ks (tq := []) hK [] rfl
        exact W.iret (v := (kk_tells (f1 (p0 : Int32).toNatClampNeg) 0 p0 p3)) hx hb hr (fun t ht hW => ⟨⟨(kk_tells (f1 (p0 : Int32).toNatClampNeg) 0 p0 p3), (), rfl, ⟨(by first | rfl | (unfold kk_tells; (repeat' split) <;> first | rfl | (exfalso; have : (0 : Int32).toInt = 0 := rfl; have : (1 : Int32).toInt = 1 := rfl; have : (2 : Int32).toInt = 2 := rfl; have : (3 : Int32).toInt = 3 := rfl; have : (4 : Int32).toInt = 4 := rfl; have : (5 : Int32).toInt = 5 := rfl; have : (6 : Int32).toInt = 6 := rfl; have : (7 : Int32).toInt = 7 := rfl; have := kk_add2 (x := n0_ran) (y := 1) (a := n0_ran.toInt) (b := 1) rfl rfl (by omega) (by omega); have := kk_add2 (x := p4) (y := 1) (a := p4.toInt) (b := 1) rfl rfl (by omega) (by omega); omega))), trivial⟩, y_14, f_15, (by show 1 ≤ (y_14 : Int32).toInt ∧ (y_14 : Int32).toInt ≤ 1000; first | with_reducible assumption | (constructor <;> (have := kk_add2 (x := n0_ran) (y := 1) (a := n0_ran.toInt) (b := 1) rfl rfl (by omega) (by omega); have := kk_add2 (x := p4) (y := 1) (a := p4.toInt) (b := 1) rfl rfl (by omega) (by omega); omega))), (by show (y_14 : Int32).toInt ≤ (n0_ran : Int32).toInt + 18; first | with_reducible assumption | (have := kk_add2 (x := n0_ran) (y := 1) (a := n0_ran.toInt) (b := 1) rfl rfl (by omega) (by omega); have := kk_add2 (x := p4) (y := 1) (a := p4.toInt) (b := 1) rfl rfl (by omega) (by omega); omega)), (by first | exact kk_P_eq (kk_P_trans hp_12 hn_15_0) rfl | (unfold kt_tells; (repeat' split) <;> first | exact kk_P_eq (kk_P_trans hp_12 hn_15_0) rfl | (exfalso; have : (0 : Int32).toInt = 0 := rfl; have : (1 : Int32).toInt = 1 := rfl; have : (2 : Int32).toInt = 2 := rfl; have : (3 : Int32).toInt = 3 := rfl; have : (4 : Int32).toInt = 4 := rfl; have : (5 : Int32).toInt = 5 := rfl; have : (6 : Int32).toInt = 6 := rfl; have : (7 : Int32).toInt = 7 := rfl; have := kk_add2 (x := n0_ran) (y := 1) (a := n0_ran.toInt) (b := 1) rfl rfl (by omega) (by omega); have := kk_add2 (x := p4) (y := 1) (a := p4.toInt) (b := 1) rfl rfl (by omega) (by omega); omega))), by rw [ht]; exact hP9, va_K.moved hW.alike hK9, hD9⟩, hS.F ht⟩) hS.2.2 dX5_call_143
    · have t_11 : n0_ran.toInt < 24 := kk_nle c_11
      refine lv_aload_n hx hb dX5_call_86 rfl (lv_at hl 2 rfl) ?_
      refine va_get (D := (dC, dI)) (ci := 5) (v := .ref h2) (C := RX5) (T := TX5) (N := 4) hx hb hts (fun _ h => List.mem_cons_of_mem _ (List.mem_append_right _ h)) hown hK hP 0 rfl rfl 2 (by decide) (hts (.fieldLink RX5 15 "KinkStreet$Lines" "trace" "[I") (List.mem_of_getElem? (i := 4) rfl)) (fun _ h9 => h9) rfl dX5_call_87 ?_
      refine lv_aload_n hx hb dX5_call_90 rfl (lv_at hl 2 rfl) ?_
      refine va_get (D := (dC, dI)) (ci := 5) (v := .int n0_ran) (C := RX5) (T := TX5) (N := 4) hx hb hts (fun _ h => List.mem_cons_of_mem _ (List.mem_append_right _ h)) hown hK hP 0 rfl rfl 3 (by decide) (hts (.fieldLink RX5 36 "KinkStreet$Lines" "ran" "I") (List.mem_of_getElem? (i := 3) rfl)) (fun _ h9 => h9) rfl dX5_call_91 ?_
      refine lv_iload hx hb dX5_call_94 (lv_at hl 0 rfl) ?_
      refine va_iast hx hb hK hP hD hS 2 0 rfl rfl (vp_in_iff.mpr ⟨by omega, by omega⟩) dX5_call_96 (fun H locs hP hD hS => ?_)
      have w_16 : ((upd f2 (n0_ran : Int32).toNatClampNeg 2) (n0_ran : Int32).toNatClampNeg).toInt = (2 : Int32).toInt := by rw [kk_ups]
      have hP : va_P (dC, dI) vwCl [(h0, kO5 h1 n0_size h2 n0_ran), (h1, kAi cint 50 f1), (h2, kAi cint 24 (upd f2 (n0_ran : Int32).toNatClampNeg 2))] H := hP
      have hD : va_D A [(h0, kO5 h1 n0_size h2 n0_ran), (h1, kAi cint 50 f1), (h2, kAi cint 24 (upd f2 (n0_ran : Int32).toNatClampNeg 2))] := hD
      refine lv_aload_n hx hb dX5_call_97 rfl (lv_at hl 2 rfl) ?_
      refine lv_dup hx hb dX5_call_98 rfl ?_
      refine va_get (D := (dC, dI)) (ci := 5) (v := .int n0_ran) (C := RX5) (T := TX5) (N := 4) hx hb hts (fun _ h => List.mem_cons_of_mem _ (List.mem_append_right _ h)) hown hK hP 0 rfl rfl 3 (by decide) (hts (.fieldLink RX5 36 "KinkStreet$Lines" "ran" "I") (List.mem_of_getElem? (i := 3) rfl)) (fun _ h9 => h9) rfl dX5_call_99 ?_
      refine lv_iconst (v := 1) hx hb dX5_call_102 kk_ic_1 ?_
      refine lv_iadd hx hb dX5_call_103 ?_
      refine va_put (D := (dC, dI)) (ci := 5) (v := .int (n0_ran + 1)) (ty := .int) (C := RX5) (T := TX5) (N := 4) hx hb hts (fun _ h => List.mem_cons_of_mem _ (List.mem_append_right _ h)) tyX5 tyX5_ok nmX5 hown hK hP hD hS 0 rfl rfl 3 (by decide) (hts (.fieldLink RX5 36 "KinkStreet$Lines" "ran" "I") (List.mem_of_getElem? (i := 3) rfl)) (fun _ h9 => h9) rfl (by decide +kernel) rfl rfl (Nat.le_of_ble_eq_true rfl) dX5_call_104 (fun H locs hP hD hS => ?_)
      have hP : va_P (dC, dI) vwCl [(h0, kO5 h1 n0_size h2 (n0_ran + 1)), (h1, kAi cint 50 f1), (h2, kAi cint 24 (upd f2 (n0_ran : Int32).toNatClampNeg 2))] H := hP
      have hD : va_D A [(h0, kO5 h1 n0_size h2 (n0_ran + 1)), (h1, kAi cint 50 f1), (h2, kAi cint 24 (upd f2 (n0_ran : Int32).toNatClampNeg 2))] := hD
      have hp_17 : kk_P f2 (upd f2 (n0_ran : Int32).toNatClampNeg 2) n0_ran.toInt (n0_ran + 1 : Int32).toInt [2] := kk_P_one (by have := kk_add2 (x := n0_ran) (y := 1) (a := n0_ran.toInt) (b := 1) rfl rfl (by omega) (by omega); omega) (by have := kk_add2 (x := n0_ran) (y := 1) (a := n0_ran.toInt) (b := 1) rfl rfl (by omega) (by omega); omega)
      refine lv_iload hx hb dX5_call_107 (lv_at hl 1 rfl) ?_
      refine lv_if_ne (tgt := 128) hx hb dX5_call_109 (by decide) (fun c => absurd c (by decide)) (fun _ => ?_)
      refine lv_aload_n hx hb dX5_call_112 rfl (lv_at hl 2 rfl) ?_
      refine lv_iload_n hx hb dX5_call_113 rfl (lv_at hl 3 rfl) ?_
      refine lv_iload hx hb dX5_call_114 (lv_at hl 0 rfl) ?_
      refine lv_iload hx hb dX5_call_116 (lv_at hl 6 rfl) ?_
      refine lv_iload hx hb dX5_call_118 (lv_at hl 7 rfl) ?_
      refine lv_iconst (v := 1) hx hb dX5_call_120 kk_ic_1 ?_
      refine lv_iadd hx hb dX5_call_121 ?_
      obtain ⟨hPc, hDc, hFc⟩ := kk_cutout (wc := [(h0, kO5 h1 n0_size h2 (n0_ran + 1)), (h1, kAi cint 50 f1), (h2, kAi cint 24 (upd f2 (n0_ran : Int32).toNatClampNeg 2))]) hP hD hS hA [0, 1, 2] (by decide) rfl
      have hKc := kk_Ks (tq := [(cint, .int)]) hK [0] rfl
      refine va_calli (va_runV (As := [.int p0, .int 2, .int p3, .int (p4 + 1)]) (rest := []) ⟨hx, hb, hml, hown, hts⟩ (g_X5_runLine_7 l dC dI h0 h1 h2 cint H.size p0 p3 (p4 + 1) (by show 0 ≤ ((p4 + 1) : Int32).toInt ∧ ((p4 + 1) : Int32).toInt ≤ 3; first | with_reducible assumption | (constructor <;> (have := kk_add2 (x := n0_ran) (y := 1) (a := n0_ran.toInt) (b := 1) rfl rfl (by omega) (by omega); have := kk_add2 (x := p4) (y := 1) (a := p4.toInt) (b := 1) rfl rfl (by omega) (by omega); omega))) n0_size (n0_ran + 1) f1 (upd f2 (n0_ran : Int32).toNatClampNeg 2) tn0_size (by show 0 ≤ ((n0_ran + 1) : Int32).toInt ∧ ((n0_ran + 1) : Int32).toInt ≤ 983; first | with_reducible assumption | (constructor <;> (have := kk_add2 (x := n0_ran) (y := 1) (a := n0_ran.toInt) (b := 1) rfl rfl (by omega) (by omega); have := kk_add2 (x := p4) (y := 1) (a := p4.toInt) (b := 1) rfl rfl (by omega) (by omega); omega))) bf1 (by show (0 ≤ (p0 : Int32).toInt ∧ (p0 : Int32).toInt < (n0_size : Int32).toInt); first | with_reducible assumption | (have := kk_add2 (x := n0_ran) (y := 1) (a := n0_ran.toInt) (b := 1) rfl rfl (by omega) (by omega); have := kk_add2 (x := p4) (y := 1) (a := p4.toInt) (b := 1) rfl rfl (by omega) (by omega); omega)) aOWN_BODIES aABOVE) (cwV 4 hts gX5_call_X5_runLine rfl rfl rfl ⟨rfl, kh_X5_runLine⟩ ⟨Nat.le_of_ble_eq_true rfl, Nat.le_of_ble_eq_true rfl⟩) ⟨fun a U g mk q => by obtain ⟨q0, q1, qP, qK, qD, qx0, qx1, qx2, qx3⟩ := q; exact ⟨q0, q1, qP, va_K.moved (u := U) (U := U.calling g mk a) (Vm.Alike.refl U.vm) qK, qD, va_Z.moved (u := U) (U := U.calling g mk a) (Vm.Alike.refl U.vm) qx0, va_T.moved (u := U) (U := U.calling g mk a) (Vm.Alike.refl U.vm) qx1, va_Z.moved (u := U) (U := U.calling g mk a) (Vm.Alike.refl U.vm) qx2, va_T.moved (u := U) (U := U.calling g mk a) (Vm.Alike.refl U.vm) qx3⟩, va_recv hKc hPc (ci := 5) (q0 := 0) rfl rfl, fun U hU hW => ⟨rfl, by rw [hU], by rw [hU]; exact hPc, va_K.moved hW.alike hKc, hDc.weaken (fun _ _ _ _ => trivial), by rw [hU]; exact ((hZOWN_BODIES.kept (fun a h1 h2 => hS.2.1 a h1 h2)).narrow hFc).moved hW.alike, by rw [hU]; exact ((hTOWN_BODIES.kept (fun a h1 h2 => hS.2.1 a h1 h2)).narrow hFc).moved hW.alike, by rw [hU]; exact ((hZABOVE.kept (fun a h1 h2 => hS.2.1 a h1 h2)).narrow hFc).moved hW.alike, by rw [hU]; exact ((hTABOVE.kept (fun a h1 h2 => hS.2.1 a h1 h2)).narrow hFc).moved hW.alike⟩⟩ rfl rfl hl.1 rfl (lv_room (Nat.le_of_ble_eq_true rfl)) dX5_call_122 ⟨Nat.le_of_ble_eq_true rfl, Nat.le_of_ble_eq_true rfl⟩) hS (fun q _ h => hFc q h) hFc (fun r_18 u t H1 locs ht hvm hw hB hz1 hk1 hS => ?_)
      obtain ⟨y_19, f_20, by_19, v_20_0, hn_20_0, hP1, hK1, hD1⟩ := hB
      have v_20_0 : y_19.toInt ≤ (n0_ran + 1).toInt + 17 := v_20_0
      have hn_20_0 : kk_P (upd f2 (n0_ran : Int32).toNatClampNeg 2) f_20 (n0_ran + 1).toInt y_19.toInt ((kt_tells (f1 (p0 : Int32).toNatClampNeg) 0).tail) := hn_20_0
      rw [ht] at hP1
      have hK1 := va_K.moved hvm.symm hK1
      obtain ⟨hP, hD⟩ := va_join (wr := []) (w1 := [(h0, kO5 h1 n0_size h2 y_19), (h1, kAi cint 50 f1), (h2, kAi cint 24 f_20)]) hP hD [0, 1, 2] [] rfl rfl (by decide) (by decide) hk1 hFc hP1 hD1
      generalize H1 = H at hP hS ⊢
      have hP : va_P (dC, dI) vwCl [(h0, kO5 h1 n0_size h2 y_19), (h1, kAi cint 50 f1), (h2, kAi cint 24 f_20)] H := hP
      have hD : va_D A [(h0, kO5 h1 n0_size h2 y_19), (h1, kAi cint 50 f1), (h2, kAi cint 24 f_20)] := hD
      rcases hw with ⟨t_18_0, _⟩
      · skip
        have t_18_0 : r_18 = kk_tells (f1 (p0 : Int32).toNatClampNeg) 0 p0 p3 := t_18_0
        obtain rfl : r_18 = (kk_tells (f1 (p0 : Int32).toNatClampNeg) 0 p0 p3) := t_18_0
        refine lv_goto (tgt := 143) hx hb dX5_call_125 (by decide) ?_
        obtain ⟨hP9, hD9⟩ := kk_leafout (wc := [(h0, kO5 h1 n0_size h2 y_19), (h1, kAi cint 50 f1), (h2, kAi cint 24 f_20)]) hP hD [0, 1, 2] (by decide) rfl
        have hK9 := kk_Ks (tq := []) hK [] rfl
        exact W.iret (v := (kk_tells (f1 (p0 : Int32).toNatClampNeg) 0 p0 p3)) hx hb hr (fun t ht hW => ⟨⟨(kk_tells (f1 (p0 : Int32).toNatClampNeg) 0 p0 p3), (), rfl, ⟨(by first | rfl | (unfold kk_tells; (repeat' split) <;> first | rfl | (exfalso; have : (0 : Int32).toInt = 0 := rfl; have : (1 : Int32).toInt = 1 := rfl; have : (2 : Int32).toInt = 2 := rfl; have : (3 : Int32).toInt = 3 := rfl; have : (4 : Int32).toInt = 4 := rfl; have : (5 : Int32).toInt = 5 := rfl; have : (6 : Int32).toInt = 6 := rfl; have : (7 : Int32).toInt = 7 := rfl; have := kk_add2 (x := n0_ran) (y := 1) (a := n0_ran.toInt) (b := 1) rfl rfl (by omega) (by omega); have := kk_add2 (x := p4) (y := 1) (a := p4.toInt) (b := 1) rfl rfl (by omega) (by omega); omega))), trivial⟩, y_19, f_20, (by show 1 ≤ (y_19 : Int32).toInt ∧ (y_19 : Int32).toInt ≤ 1000; first | with_reducible assumption | (constructor <;> (have := kk_add2 (x := n0_ran) (y := 1) (a := n0_ran.toInt) (b := 1) rfl rfl (by omega) (by omega); have := kk_add2 (x := p4) (y := 1) (a := p4.toInt) (b := 1) rfl rfl (by omega) (by omega); omega))), (by show (y_19 : Int32).toInt ≤ (n0_ran : Int32).toInt + 18; first | with_reducible assumption | (have := kk_add2 (x := n0_ran) (y := 1) (a := n0_ran.toInt) (b := 1) rfl rfl (by omega) (by omega); have := kk_add2 (x := p4) (y := 1) (a := p4.toInt) (b := 1) rfl rfl (by omega) (by omega); omega)), (by first | exact kk_P_eq (kk_P_trans hp_17 hn_20_0) rfl | (unfold kt_tells; (repeat' split) <;> first | exact kk_P_eq (kk_P_trans hp_17 hn_20_0) rfl | (exfalso; have : (0 : Int32).toInt = 0 := rfl; have : (1 : Int32).toInt = 1 := rfl; have : (2 : Int32).toInt = 2 := rfl; have : (3 : Int32).toInt = 3 := rfl; have : (4 : Int32).toInt = 4 := rfl; have : (5 : Int32).toInt = 5 := rfl; have : (6 : Int32).toInt = 6 := rfl; have : (7 : Int32).toInt = 7 := rfl; have := kk_add2 (x := n0_ran) (y := 1) (a := n0_ran.toInt) (b := 1) rfl rfl (by omega) (by omega); have := kk_add2 (x := p4) (y := 1) (a := p4.toInt) (b := 1) rfl rfl (by omega) (by omega); omega))), by rw [ht]; exact hP9, va_K.moved hW.alike hK9, hD9⟩, hS.F ht⟩) hS.2.2 dX5_call_143
  · have t_8 : 40 < p4.toInt := kk_nle c_8
    exfalso; omega
set_option maxHeartbeats 4000000 in
set_option maxRecDepth 100000 in
theorem g_X5_runUnder_17 (l : Launch) (dC : Nat → ClassId) (dI : Nat → Nat → Nat) (h0 : Nat) (h1 : Nat) (h2 : Nat) (cint : ClassId) (sz : Nat) (p0 : Int32) (p3 : Int32) (p4 : Int32) (tp4 : 0 ≤ p4.toInt ∧ p4.toInt ≤ 1) (n0_size : Int32) (n0_ran : Int32) (f1 : Nat → Int32) (f2 : Nat → Int32) (tn0_size : 0 ≤ n0_size.toInt ∧ n0_size.toInt ≤ 50) (tn0_ran : 0 ≤ n0_ran.toInt ∧ n0_ran.toInt ≤ 982) (bf1 : ∀ j, j < 50 → 0 ≤ (f1 j).toInt ∧ (f1 j).toInt ≤ 7) (pr0 : (0 ≤ p0.toInt ∧ p0.toInt < n0_size.toInt)) (aABOVE : Nat) (aOWN_BODIES : Nat) : Met l yX5_runUnder wsX5_runUnder ({ frames := 14, cells := 0, slots := 0, locals := 362 }) (va_Pc [.ref h0, .int p0, .int 4, .int 51, .int p3, .int p4] (fun U => U.heap.size = sz ∧ va_P (dC, dI) vwCl [(h0, kO5 h1 n0_size h2 n0_ran), (h1, kAi cint 50 f1), (h2, kAi cint 24 f2)] U.heap ∧ va_K (dC, dI) vwCl [(cint, .int)] U ∧ va_D (fun _ => True) [(h0, kO5 h1 n0_size h2 n0_ran), (h1, kAi cint 50 f1), (h2, kAi cint 24 f2)] ∧ va_Z "KinkStreet$Lines" "ABOVE" "[I" (.ref aABOVE) (va_A [(h0, kO5 h1 n0_size h2 n0_ran), (h1, kAi cint 50 f1), (h2, kAi cint 24 f2)] sz) U U.heap ∧ va_T .int aABOVE 8 tb_ABOVE (va_A [(h0, kO5 h1 n0_size h2 n0_ran), (h1, kAi cint 50 f1), (h2, kAi cint 24 f2)] sz) U U.heap ∧ va_Z "KinkStreet$Lines" "OWN_BODIES" "[I" (.ref aOWN_BODIES) (va_A [(h0, kO5 h1 n0_size h2 n0_ran), (h1, kAi cint 50 f1), (h2, kAi cint 24 f2)] sz) U U.heap ∧ va_T .int aOWN_BODIES 32 tb_OWN_BODIES (va_A [(h0, kO5 h1 n0_size h2 n0_ran), (h1, kAi cint 50 f1), (h2, kAi cint 24 f2)] sz) U U.heap)) (va_Qi (fun (r : Int32) (_ : Unit) => r = kk_tells (f1 (p0 : Int32).toNatClampNeg) 4 p0 p3 ∧ True) (fun (_ : Unit) t => ∃ (m0_ran : Int32) (g2 : Nat → Int32), (1 ≤ m0_ran.toInt ∧ m0_ran.toInt ≤ 1000) ∧ (m0_ran.toInt ≤ n0_ran.toInt + 18) ∧ (kk_P f2 g2 n0_ran.toInt m0_ran.toInt ((kt_tells (f1 (p0 : Int32).toNatClampNeg) 4).tail)) ∧ va_P (dC, dI) vwCl [(h0, kO5 h1 n0_size h2 m0_ran), (h1, kAi cint 50 f1), (h2, kAi cint 24 g2)] t.heap ∧ va_K (dC, dI) vwCl [] t ∧ va_D (va_A [(h0, kO5 h1 n0_size h2 n0_ran), (h1, kAi cint 50 f1), (h2, kAi cint 24 f2)] sz) [(h0, kO5 h1 n0_size h2 m0_ran), (h1, kAi cint 50 f1), (h2, kAi cint 24 g2)]) (va_A [(h0, kO5 h1 n0_size h2 n0_ran), (h1, kAi cint 50 f1), (h2, kAi cint 24 f2)] sz)) 0 0 (va_A [(h0, kO5 h1 n0_size h2 n0_ran), (h1, kAi cint 50 f1), (h2, kAi cint 24 f2)] sz) := by
  refine Met.ofW (cc := cX5_runUnder) (maxL := 8) (ret := (some .int)) (by decide) rfl ?_
  intro p e s m args below meth c s₁ B hml hv
  obtain ⟨rfl, hsz, hP, hK, hD0, hZABOVE, hTABOVE, hZOWN_BODIES, hTOWN_BODIES⟩ := hv
  have hx := B.exec
  have hb := B.bytes
  have hr := B.returns
  have hts := atoms_spec (ws := wsX5_runUnder) B.pre
  have hown : s.vm.findClass RX5 = some m.cls := findClass_of_methodNamed B.named
  have hlocks := B.notSynchronized
  subst hsz
  have hD := hD0.self (sz := s.heap.size)
  generalize hAe : va_A [(h0, kO5 h1 n0_size h2 n0_ran), (h1, kAi cint 50 f1), (h2, kAi cint 24 f2)] s.heap.size = A at hD hZABOVE hTABOVE hZOWN_BODIES hTOWN_BODIES ⊢
  have hA : ∀ q : Nat, s.heap.size ≤ q → A q := fun q h => by rw [← hAe]; exact Or.inr h
  have hS : va_S A s.heap s.heap [] := va_S.rf
  have hP : va_P (dC, dI) vwCl [(h0, kO5 h1 n0_size h2 n0_ran), (h1, kAi cint 50 f1), (h2, kAi cint 24 f2)] s.heap := hP
  have hl := lv_entry ([.ref h0, .int p0, .int 4, .int 51, .int p3, .int p4]) (n := 8) (Nat.le_of_ble_eq_true rfl)
  rw [lg_entry_eq]
  generalize (lg_sl ([.ref h0, .int p0, .int 4, .int 51, .int p3, .int p4]) ++ List.replicate (8 - (lg_sl ([.ref h0, .int p0, .int 4, .int 51, .int p3, .int p4])).length) Slot.unset).toArray = ls at hl ⊢
  have hl : lv_has ls 8 [(0, .ref h0), (1, .int p0), (2, .int 4), (3, .int 51), (4, .int p3), (5, .int p4)] := hl
  refine lv_aload_n hx hb dX5_runUnder_0 rfl (lv_at hl 0 rfl) ?_
  refine lv_iload_n hx hb dX5_runUnder_1 rfl (lv_at hl 1 rfl) ?_
  obtain ⟨hPc, hDc, hFc⟩ := kk_cutout (wc := [(h0, kO5 h1 n0_size h2 n0_ran), (h1, kAi cint 50 f1)]) hP hD hS hA [0, 1] (by decide) rfl
  have hKc := kk_Ks (tq := [(cint, .int)]) hK [0] rfl
  refine va_calli (va_runV (As := [.int p0]) (rest := []) ⟨hx, hb, hml, hown, hts⟩ (g_X5_kindOf_1 l dC dI h0 h1 h2 cint s.heap.size p0 n0_size n0_ran f1 tn0_size (by show 0 ≤ (n0_ran : Int32).toInt ∧ (n0_ran : Int32).toInt ≤ 1000; first | with_reducible assumption | (constructor <;> (omega))) bf1) (cwV 1 hts gX5_runUnder_X5_kindOf rfl rfl rfl ⟨rfl, kh_X5_kindOf⟩ ⟨Nat.le_of_ble_eq_true rfl, Nat.le_of_ble_eq_true rfl⟩) ⟨fun a U g mk q => by obtain ⟨q0, q1, qP, qK, qD⟩ := q; exact ⟨q0, q1, qP, va_K.moved (u := U) (U := U.calling g mk a) (Vm.Alike.refl U.vm) qK, qD⟩, va_recv hKc hPc (ci := 5) (q0 := 0) rfl rfl, fun U hU hW => ⟨rfl, by rw [hU], by rw [hU]; exact hPc, va_K.moved hW.alike hKc, hDc.weaken (fun _ _ _ _ => trivial)⟩⟩ rfl rfl hl.1 rfl (lv_room (Nat.le_of_ble_eq_true rfl)) dX5_runUnder_2 ⟨Nat.le_of_ble_eq_true rfl, Nat.le_of_ble_eq_true rfl⟩) hS (fun q _ h => hFc q h) hFc (fun r_1 u t H1 locs ht hvm hw hB hz1 hk1 hS => ?_)
  obtain ⟨hP1, hK1, hD1⟩ := hB
  rw [ht] at hP1
  have hK1 := va_K.moved hvm.symm hK1
  obtain ⟨hP, hD⟩ := va_join (wr := [(h2, kAi cint 24 f2)]) (w1 := [(h0, kO5 h1 n0_size h2 n0_ran), (h1, kAi cint 50 f1)]) hP hD [0, 1] [2] rfl rfl (by decide) (by decide) hk1 hFc hP1 hD1
  generalize H1 = H at hP hS ⊢
  have hP : va_P (dC, dI) vwCl [(h2, kAi cint 24 f2), (h0, kO5 h1 n0_size h2 n0_ran), (h1, kAi cint 50 f1)] H := hP
  have hD : va_D A [(h2, kAi cint 24 f2), (h0, kO5 h1 n0_size h2 n0_ran), (h1, kAi cint 50 f1)] := hD
  rcases hw with ⟨t_1_0, t_1_1, t_1_any⟩
  · skip
    have t_1_0 : ((0 ≤ p0.toInt ∧ p0.toInt < n0_size.toInt → r_1.toInt = (f1 (p0 : Int32).toNatClampNeg).toInt ∧ 0 ≤ (f1 (p0 : Int32).toNatClampNeg).toInt) ∧ (¬ (0 ≤ p0.toInt ∧ p0.toInt < n0_size.toInt) → r_1.toInt = -1)) := t_1_0
    have t_1_1 : (0 ≤ p0.toInt ∧ p0.toInt < n0_size.toInt → r_1 = (f1 (p0 : Int32).toNatClampNeg)) := t_1_1
    obtain rfl : r_1 = (f1 (p0 : Int32).toNatClampNeg) := t_1_1 (by omega)
    refine lv_istore hx hb dX5_runUnder_5 hl (by decide) (rfl : _ = ([(6, .int (f1 (p0 : Int32).toNatClampNeg)), (0, .ref h0), (1, .int p0), (2, .int 4), (3, .int 51), (4, .int p3), (5, .int p4)] : List (Nat × Value))) (fun ls hl => ?_)
    refine lv_iload_n hx hb dX5_runUnder_7 rfl (lv_at hl 3 rfl) ?_
    obtain ⟨hPc, hDc, hFc⟩ := kk_cutout (wc := []) hP hD hS hA [] (by decide) rfl
    have hKc := kk_Ks (tq := []) hK [] rfl
    refine va_calli (va_runS (As := [.int 4]) (rest := []) ⟨hx, hb, hml, hown, hts⟩ (g_X5_isKind_15 l dC dI H.size) (va_cwS 1 hts gX5_runUnder_X5_isKind rfl rfl rfl kh_X5_isKind ⟨Nat.le_of_ble_eq_true rfl, Nat.le_of_ble_eq_true rfl⟩) ⟨fun a U g mk q => by obtain ⟨q0, q1, qP, qK, qD⟩ := q; exact ⟨q0, q1, qP, va_K.moved (u := U) (U := U.calling g mk a) (Vm.Alike.refl U.vm) qK, qD⟩, fun U hU hW => ⟨rfl, by rw [hU], by rw [hU]; exact hPc, va_K.moved hW.alike hKc, hDc.weaken (fun _ _ _ _ => trivial)⟩⟩ rfl rfl hl.1 rfl (lv_room (Nat.le_of_ble_eq_true rfl)) dX5_runUnder_8 ⟨Nat.le_of_ble_eq_true rfl, Nat.le_of_ble_eq_true rfl⟩) hS (fun q _ h => hFc q h) hFc (fun r_2 u t H1 locs ht hvm hw hB hz1 hk1 hS => ?_)
    obtain ⟨hP1, hK1, hD1⟩ := hB
    rw [ht] at hP1
    have hK1 := va_K.moved hvm.symm hK1
    obtain ⟨hP, hD⟩ := va_join (wr := [(h2, kAi cint 24 f2), (h0, kO5 h1 n0_size h2 n0_ran), (h1, kAi cint 50 f1)]) (w1 := []) hP hD [] [0, 1, 2] rfl rfl (by decide) (by decide) hk1 hFc hP1 hD1
    generalize H1 = H at hP hS ⊢
    have hP : va_P (dC, dI) vwCl [(h2, kAi cint 24 f2), (h0, kO5 h1 n0_size h2 n0_ran), (h1, kAi cint 50 f1)] H := hP
    have hD : va_D A [(h2, kAi cint 24 f2), (h0, kO5 h1 n0_size h2 n0_ran), (h1, kAi cint 50 f1)] := hD
    obtain rfl := hw
    refine lv_if_eq (tgt := 22) hx hb dX5_runUnder_11 (by decide) (fun c => absurd c (by decide)) (fun _ => ?_)
    refine va_gets hx hb hZABOVE hS hown (hts (.fieldLink RX5 22 "KinkStreet$Lines" "ABOVE" "[I") (List.mem_of_getElem? (i := 1) rfl)) (fun _ h9 => h9) dX5_runUnder_14 ?_
    refine lv_iload_n hx hb dX5_runUnder_17 rfl (lv_at hl 3 rfl) ?_
    refine va_ti (v := .int 3) hx hb hTABOVE hS (by unfold vp_in; decide) rfl dX5_runUnder_18 ?_
    refine lv_goto (tgt := 23) hx hb dX5_runUnder_19 (by decide) ?_
    refine lv_istore hx hb dX5_runUnder_23 hl (by decide) (rfl : _ = ([(7, .int 3), (6, .int (f1 (p0 : Int32).toNatClampNeg)), (0, .ref h0), (1, .int p0), (2, .int 4), (3, .int 51), (4, .int p3), (5, .int p4)] : List (Nat × Value))) (fun ls hl => ?_)
    refine lv_iload_n hx hb dX5_runUnder_25 rfl (lv_at hl 5 rfl) ?_
    refine lv_lookup (tgt := 169) (off := 143) hx hb dX5_runUnder_26 (by decide) (by decide) (by decide) ?_
    refine lv_aload_n hx hb dX5_runUnder_169 rfl (lv_at hl 2 rfl) ?_
    refine lv_iload_n hx hb dX5_runUnder_170 rfl (lv_at hl 3 rfl) ?_
    refine lv_iload hx hb dX5_runUnder_171 (lv_at hl 0 rfl) ?_
    refine lv_iconst (v := 3) hx hb dX5_runUnder_173 kk_ic_3 ?_
    refine lv_iload hx hb dX5_runUnder_174 (lv_at hl 6 rfl) ?_
    refine lv_iload hx hb dX5_runUnder_176 (lv_at hl 7 rfl) ?_
    obtain ⟨hPc, hDc, hFc⟩ := kk_cutout (wc := [(h0, kO5 h1 n0_size h2 n0_ran), (h1, kAi cint 50 f1), (h2, kAi cint 24 f2)]) hP hD hS hA [1, 2, 0] (by decide) rfl
    have hKc := kk_Ks (tq := [(cint, .int)]) hK [0] rfl
    refine va_calli (va_runV (As := [.int p0, .int 3, .int 3, .int p3, .int p4]) (rest := []) ⟨hx, hb, hml, hown, hts⟩ (g_X5_call_22 l dC dI h0 h1 h2 cint H.size p0 p3 p4 tp4 n0_size n0_ran f1 f2 tn0_size tn0_ran bf1 (by show (0 ≤ (p0 : Int32).toInt ∧ (p0 : Int32).toInt < (n0_size : Int32).toInt); first | with_reducible assumption | (omega)) aOWN_BODIES aABOVE) (cwV 5 hts gX5_runUnder_X5_call rfl rfl rfl ⟨rfl, kh_X5_call⟩ ⟨Nat.le_of_ble_eq_true rfl, Nat.le_of_ble_eq_true rfl⟩) ⟨fun a U g mk q => by obtain ⟨q0, q1, qP, qK, qD, qx0, qx1, qx2, qx3⟩ := q; exact ⟨q0, q1, qP, va_K.moved (u := U) (U := U.calling g mk a) (Vm.Alike.refl U.vm) qK, qD, va_Z.moved (u := U) (U := U.calling g mk a) (Vm.Alike.refl U.vm) qx0, va_T.moved (u := U) (U := U.calling g mk a) (Vm.Alike.refl U.vm) qx1, va_Z.moved (u := U) (U := U.calling g mk a) (Vm.Alike.refl U.vm) qx2, va_T.moved (u := U) (U := U.calling g mk a) (Vm.Alike.refl U.vm) qx3⟩, va_recv hKc hPc (ci := 5) (q0 := 0) rfl rfl, fun U hU hW => ⟨rfl, by rw [hU], by rw [hU]; exact hPc, va_K.moved hW.alike hKc, hDc.weaken (fun _ _ _ _ => trivial), by rw [hU]; exact ((hZOWN_BODIES.kept (fun a h1 h2 => hS.2.1 a h1 h2)).narrow hFc).moved hW.alike, by rw [hU]; exact ((hTOWN_BODIES.kept (fun a h1 h2 => hS.2.1 a h1 h2)).narrow hFc).moved hW.alike, by rw [hU]; exact ((hZABOVE.kept (fun a h1 h2 => hS.2.1 a h1 h2)).narrow hFc).moved hW.alike, by rw [hU]; exact ((hTABOVE.kept (fun a h1 h2 => hS.2.1 a h1 h2)).narrow hFc).moved hW.alike⟩⟩ rfl rfl hl.1 rfl (lv_room (Nat.le_of_ble_eq_true rfl)) dX5_runUnder_178 ⟨Nat.le_of_ble_eq_true rfl, Nat.le_of_ble_eq_true rfl⟩) hS (fun q _ h => hFc q h) hFc (fun r_3 u t H1 locs ht hvm hw hB hz1 hk1 hS => ?_)
    obtain ⟨y_4, f_5, by_4, v_5_0, hn_5_0, hP1, hK1, hD1⟩ := hB
    have v_5_0 : y_4.toInt ≤ n0_ran.toInt + 18 := v_5_0
    have hn_5_0 : kk_P f2 f_5 n0_ran.toInt y_4.toInt (kt_tells (f1 (p0 : Int32).toNatClampNeg) 3) := hn_5_0
    rw [ht] at hP1
    have hK1 := va_K.moved hvm.symm hK1
    obtain ⟨hP, hD⟩ := va_join (wr := []) (w1 := [(h0, kO5 h1 n0_size h2 y_4), (h1, kAi cint 50 f1), (h2, kAi cint 24 f_5)]) hP hD [1, 2, 0] [] rfl rfl (by decide) (by decide) hk1 hFc hP1 hD1
    generalize H1 = H at hP hS ⊢
    have hP : va_P (dC, dI) vwCl [(h0, kO5 h1 n0_size h2 y_4), (h1, kAi cint 50 f1), (h2, kAi cint 24 f_5)] H := hP
    have hD : va_D A [(h0, kO5 h1 n0_size h2 y_4), (h1, kAi cint 50 f1), (h2, kAi cint 24 f_5)] := hD
    rcases hw with ⟨t_3_0, _⟩
    · skip
      have t_3_0 : r_3 = kk_tells (f1 (p0 : Int32).toNatClampNeg) 3 p0 p3 := t_3_0
      obtain rfl : r_3 = (kk_tells (f1 (p0 : Int32).toNatClampNeg) 3 p0 p3) := t_3_0
      refine lv_iconst (v := 5) hx hb dX5_runUnder_181 kk_ic_5 ?_
      refine lv_ixor hx hb dX5_runUnder_182 ?_
      obtain ⟨hP9, hD9⟩ := kk_leafout (wc := [(h0, kO5 h1 n0_size h2 y_4), (h1, kAi cint 50 f1), (h2, kAi cint 24 f_5)]) hP hD [0, 1, 2] (by decide) rfl
      have hK9 := kk_Ks (tq := []) hK [] rfl
      exact W.iret (v := ((kk_tells (f1 (p0 : Int32).toNatClampNeg) 3 p0 p3) ^^^ 5)) hx hb hr (fun t ht hW => ⟨⟨((kk_tells (f1 (p0 : Int32).toNatClampNeg) 3 p0 p3) ^^^ 5), (), rfl, ⟨(by first | rfl | (unfold kk_tells; (repeat' split) <;> first | rfl | (exfalso; have : (0 : Int32).toInt = 0 := rfl; have : (1 : Int32).toInt = 1 := rfl; have : (2 : Int32).toInt = 2 := rfl; have : (3 : Int32).toInt = 3 := rfl; have : (4 : Int32).toInt = 4 := rfl; have : (5 : Int32).toInt = 5 := rfl; have : (6 : Int32).toInt = 6 := rfl; have : (7 : Int32).toInt = 7 := rfl; omega))), trivial⟩, y_4, f_5, (by show 1 ≤ (y_4 : Int32).toInt ∧ (y_4 : Int32).toInt ≤ 1000; first | with_reducible assumption | (constructor <;> (omega))), (by show (y_4 : Int32).toInt ≤ (n0_ran : Int32).toInt + 18; first | with_reducible assumption | (omega)), (by first | exact kk_P_eq hn_5_0 rfl | (unfold kt_tells; (repeat' split) <;> first | exact kk_P_eq hn_5_0 rfl | (exfalso; have : (0 : Int32).toInt = 0 := rfl; have : (1 : Int32).toInt = 1 := rfl; have : (2 : Int32).toInt = 2 := rfl; have : (3 : Int32).toInt = 3 := rfl; have : (4 : Int32).toInt = 4 := rfl; have : (5 : Int32).toInt = 5 := rfl; have : (6 : Int32).toInt = 6 := rfl; have : (7 : Int32).toInt = 7 := rfl; omega))), by rw [ht]; exact hP9, va_K.moved hW.alike hK9, hD9⟩, hS.F ht⟩) hS.2.2 dX5_runUnder_183
set_option maxHeartbeats 4000000 in
set_option maxRecDepth 100000 in
theorem g_X5_call_23 (l : Launch) (dC : Nat → ClassId) (dI : Nat → Nat → Nat) (h0 : Nat) (h1 : Nat) (h2 : Nat) (cint : ClassId) (sz : Nat) (p0 : Int32) (p1 : Int32) (p3 : Int32) (p4 : Int32) (tp1 : 0 ≤ p1.toInt ∧ p1.toInt ≤ 7) (tp4 : 0 ≤ p4.toInt ∧ p4.toInt ≤ 0) (n0_size : Int32) (n0_ran : Int32) (f1 : Nat → Int32) (f2 : Nat → Int32) (tn0_size : 0 ≤ n0_size.toInt ∧ n0_size.toInt ≤ 50) (tn0_ran : 0 ≤ n0_ran.toInt ∧ n0_ran.toInt ≤ 981) (bf1 : ∀ j, j < 50 → 0 ≤ (f1 j).toInt ∧ (f1 j).toInt ≤ 7) (pr0 : (0 ≤ p0.toInt ∧ p0.toInt < n0_size.toInt)) (aOWN_BODIES : Nat) (aABOVE : Nat) : Met l yX5_call wsX5_call ({ frames := 15, cells := 0, slots := 0, locals := 389 }) (va_Pc [.ref h0, .int p0, .int p1, .int 3, .int p3, .int p4] (fun U => U.heap.size = sz ∧ va_P (dC, dI) vwCl [(h0, kO5 h1 n0_size h2 n0_ran), (h1, kAi cint 50 f1), (h2, kAi cint 24 f2)] U.heap ∧ va_K (dC, dI) vwCl [(cint, .int)] U ∧ va_D (fun _ => True) [(h0, kO5 h1 n0_size h2 n0_ran), (h1, kAi cint 50 f1), (h2, kAi cint 24 f2)] ∧ va_Z "KinkStreet$Lines" "OWN_BODIES" "[I" (.ref aOWN_BODIES) (va_A [(h0, kO5 h1 n0_size h2 n0_ran), (h1, kAi cint 50 f1), (h2, kAi cint 24 f2)] sz) U U.heap ∧ va_T .int aOWN_BODIES 32 tb_OWN_BODIES (va_A [(h0, kO5 h1 n0_size h2 n0_ran), (h1, kAi cint 50 f1), (h2, kAi cint 24 f2)] sz) U U.heap ∧ va_Z "KinkStreet$Lines" "ABOVE" "[I" (.ref aABOVE) (va_A [(h0, kO5 h1 n0_size h2 n0_ran), (h1, kAi cint 50 f1), (h2, kAi cint 24 f2)] sz) U U.heap ∧ va_T .int aABOVE 8 tb_ABOVE (va_A [(h0, kO5 h1 n0_size h2 n0_ran), (h1, kAi cint 50 f1), (h2, kAi cint 24 f2)] sz) U U.heap)) (va_Qi (fun (r : Int32) (_ : Unit) => r = kk_tells (f1 (p0 : Int32).toNatClampNeg) p1 p0 p3 ∧ True) (fun (_ : Unit) t => ∃ (m0_ran : Int32) (g2 : Nat → Int32), (1 ≤ m0_ran.toInt ∧ m0_ran.toInt ≤ 1000) ∧ (m0_ran.toInt ≤ n0_ran.toInt + 19) ∧ (kk_P f2 g2 n0_ran.toInt m0_ran.toInt (kt_tells (f1 (p0 : Int32).toNatClampNeg) p1)) ∧ va_P (dC, dI) vwCl [(h0, kO5 h1 n0_size h2 m0_ran), (h1, kAi cint 50 f1), (h2, kAi cint 24 g2)] t.heap ∧ va_K (dC, dI) vwCl [] t ∧ va_D (va_A [(h0, kO5 h1 n0_size h2 n0_ran), (h1, kAi cint 50 f1), (h2, kAi cint 24 f2)] sz) [(h0, kO5 h1 n0_size h2 m0_ran), (h1, kAi cint 50 f1), (h2, kAi cint 24 g2)]) (va_A [(h0, kO5 h1 n0_size h2 n0_ran), (h1, kAi cint 50 f1), (h2, kAi cint 24 f2)] sz)) 0 0 (va_A [(h0, kO5 h1 n0_size h2 n0_ran), (h1, kAi cint 50 f1), (h2, kAi cint 24 f2)] sz) := by
  refine Met.ofW (cc := cX5_call) (maxL := 8) (ret := (some .int)) (by decide) rfl ?_
  intro p e s m args below meth c s₁ B hml hv
  obtain ⟨rfl, hsz, hP, hK, hD0, hZOWN_BODIES, hTOWN_BODIES, hZABOVE, hTABOVE⟩ := hv
  have hx := B.exec
  have hb := B.bytes
  have hr := B.returns
  have hts := atoms_spec (ws := wsX5_call) B.pre
  have hown : s.vm.findClass RX5 = some m.cls := findClass_of_methodNamed B.named
  have hlocks := B.notSynchronized
  subst hsz
  have hD := hD0.self (sz := s.heap.size)
  generalize hAe : va_A [(h0, kO5 h1 n0_size h2 n0_ran), (h1, kAi cint 50 f1), (h2, kAi cint 24 f2)] s.heap.size = A at hD hZOWN_BODIES hTOWN_BODIES hZABOVE hTABOVE ⊢
  have hA : ∀ q : Nat, s.heap.size ≤ q → A q := fun q h => by rw [← hAe]; exact Or.inr h
  have hS : va_S A s.heap s.heap [] := va_S.rf
  have hP : va_P (dC, dI) vwCl [(h0, kO5 h1 n0_size h2 n0_ran), (h1, kAi cint 50 f1), (h2, kAi cint 24 f2)] s.heap := hP
  have hl := lv_entry ([.ref h0, .int p0, .int p1, .int 3, .int p3, .int p4]) (n := 8) (Nat.le_of_ble_eq_true rfl)
  rw [lg_entry_eq]
  generalize (lg_sl ([.ref h0, .int p0, .int p1, .int 3, .int p3, .int p4]) ++ List.replicate (8 - (lg_sl ([.ref h0, .int p0, .int p1, .int 3, .int p3, .int p4])).length) Slot.unset).toArray = ls at hl ⊢
  have hl : lv_has ls 8 [(0, .ref h0), (1, .int p0), (2, .int p1), (3, .int 3), (4, .int p3), (5, .int p4)] := hl
  rcases (show p1 = 0 ∨ p1 = 1 ∨ p1 = 2 ∨ p1 = 3 ∨ p1 = 4 ∨ p1 = 5 ∨ p1 = 6 ∨ p1 = 7 from by simp only [← Int32.toInt_inj]; simp; omega) with e_1 | e_1 | e_1 | e_1 | e_1 | e_1 | e_1 | e_1
  · have t_1 : p1.toInt = 0 := by rw [e_1]; rfl
    subst e_1
    refine lv_iload_n hx hb dX5_call_0 rfl (lv_at hl 2 rfl) ?_
    refine lv_istore hx hb dX5_call_1 hl (by decide) (rfl : _ = ([(6, .int 0), (0, .ref h0), (1, .int p0), (2, .int 0), (3, .int 3), (4, .int p3), (5, .int p4)] : List (Nat × Value))) (fun ls hl => ?_)
    refine lv_iconst (v := 0) hx hb dX5_call_3 kk_ic_0 ?_
    refine lv_istore hx hb dX5_call_4 hl (by decide) (rfl : _ = ([(7, .int 0), (6, .int 0), (0, .ref h0), (1, .int p0), (2, .int 0), (3, .int 3), (4, .int p3), (5, .int p4)] : List (Nat × Value))) (fun ls hl => ?_)
    refine lv_iload hx hb dX5_call_6 (lv_at hl 0 rfl) ?_
    refine lv_bipush (v := 8) hx hb dX5_call_8 kk_bi_8 ?_
    refine lv_icmp_ge (tgt := 48) hx hb dX5_call_10 (by decide) (fun c => absurd c (by decide)) (fun _ => ?_)
    refine lv_iload hx hb dX5_call_13 (lv_at hl 1 rfl) ?_
    obtain ⟨hPc, hDc, hFc⟩ := kk_cutout (wc := []) hP hD hS hA [] (by decide) rfl
    have hKc := kk_Ks (tq := []) hK [] rfl
    refine va_calli (va_runS (As := [.int 0]) (rest := []) ⟨hx, hb, hml, hown, hts⟩ (g_X5_isKind_11 l dC dI s.heap.size) (va_cwS 1 hts gX5_call_X5_isKind rfl rfl rfl kh_X5_isKind ⟨Nat.le_of_ble_eq_true rfl, Nat.le_of_ble_eq_true rfl⟩) ⟨fun a U g mk q => by obtain ⟨q0, q1, qP, qK, qD⟩ := q; exact ⟨q0, q1, qP, va_K.moved (u := U) (U := U.calling g mk a) (Vm.Alike.refl U.vm) qK, qD⟩, fun U hU hW => ⟨rfl, by rw [hU], by rw [hU]; exact hPc, va_K.moved hW.alike hKc, hDc.weaken (fun _ _ _ _ => trivial)⟩⟩ rfl rfl hl.1 rfl (lv_room (Nat.le_of_ble_eq_true rfl)) dX5_call_15 ⟨Nat.le_of_ble_eq_true rfl, Nat.le_of_ble_eq_true rfl⟩) hS (fun q _ h => hFc q h) hFc (fun r_2 u t H1 locs ht hvm hw hB hz1 hk1 hS => ?_)
    obtain ⟨hP1, hK1, hD1⟩ := hB
    rw [ht] at hP1
    have hK1 := va_K.moved hvm.symm hK1
    obtain ⟨hP, hD⟩ := va_join (wr := [(h0, kO5 h1 n0_size h2 n0_ran), (h1, kAi cint 50 f1), (h2, kAi cint 24 f2)]) (w1 := []) hP hD [] [0, 1, 2] rfl rfl (by decide) (by decide) hk1 hFc hP1 hD1
    generalize H1 = H at hP hS ⊢
    have hP : va_P (dC, dI) vwCl [(h0, kO5 h1 n0_size h2 n0_ran), (h1, kAi cint 50 f1), (h2, kAi cint 24 f2)] H := hP
    have hD : va_D A [(h0, kO5 h1 n0_size h2 n0_ran), (h1, kAi cint 50 f1), (h2, kAi cint 24 f2)] := hD
    obtain rfl := hw
    refine lv_if_eq (tgt := 48) hx hb dX5_call_18 (by decide) (fun c => absurd c (by decide)) (fun _ => ?_)
    refine va_gets hx hb hZOWN_BODIES hS hown (hts (.fieldLink RX5 43 "KinkStreet$Lines" "OWN_BODIES" "[I") (List.mem_of_getElem? (i := 1) rfl)) (fun _ h9 => h9) dX5_call_21 ?_
    refine lv_iload hx hb dX5_call_24 (lv_at hl 1 rfl) ?_
    refine lv_iconst (v := 4) hx hb dX5_call_26 kk_ic_4 ?_
    refine lv_imul hx hb dX5_call_27 ?_
    refine lv_topi (fun y_3 e_3 => ?_)
    obtain rfl : y_3 = 0 := e_3.trans (by decide)
    refine lv_iload_n hx hb dX5_call_28 rfl (lv_at hl 5 rfl) ?_
    refine lv_iadd hx hb dX5_call_29 ?_
    refine lv_topi (fun y_4 e_4 => ?_)
    obtain rfl : y_4 = 3 := e_4.trans (by decide)
    refine va_ti (v := .int 2) hx hb hTOWN_BODIES hS (by unfold vp_in; decide) rfl dX5_call_30 ?_
    refine lv_if_ne (tgt := 48) hx hb dX5_call_31 (by decide) (fun _ => ?_) (fun c => absurd c (by decide))
    refine lv_iload hx hb dX5_call_48 (lv_at hl 1 rfl) ?_
    obtain ⟨hPc, hDc, hFc⟩ := kk_cutout (wc := []) hP hD hS hA [] (by decide) rfl
    have hKc := kk_Ks (tq := []) hK [] rfl
    refine va_calli (va_runS (As := [.int 0]) (rest := []) ⟨hx, hb, hml, hown, hts⟩ (g_X5_isKind_11 l dC dI H.size) (va_cwS 1 hts gX5_call_X5_isKind rfl rfl rfl kh_X5_isKind ⟨Nat.le_of_ble_eq_true rfl, Nat.le_of_ble_eq_true rfl⟩) ⟨fun a U g mk q => by obtain ⟨q0, q1, qP, qK, qD⟩ := q; exact ⟨q0, q1, qP, va_K.moved (u := U) (U := U.calling g mk a) (Vm.Alike.refl U.vm) qK, qD⟩, fun U hU hW => ⟨rfl, by rw [hU], by rw [hU]; exact hPc, va_K.moved hW.alike hKc, hDc.weaken (fun _ _ _ _ => trivial)⟩⟩ rfl rfl hl.1 rfl (lv_room (Nat.le_of_ble_eq_true rfl)) dX5_call_50 ⟨Nat.le_of_ble_eq_true rfl, Nat.le_of_ble_eq_true rfl⟩) hS (fun q _ h => hFc q h) hFc (fun r_5 u t H1 locs ht hvm hw hB hz1 hk1 hS => ?_)
    obtain ⟨hP1, hK1, hD1⟩ := hB
    rw [ht] at hP1
    have hK1 := va_K.moved hvm.symm hK1
    obtain ⟨hP, hD⟩ := va_join (wr := [(h0, kO5 h1 n0_size h2 n0_ran), (h1, kAi cint 50 f1), (h2, kAi cint 24 f2)]) (w1 := []) hP hD [] [0, 1, 2] rfl rfl (by decide) (by decide) hk1 hFc hP1 hD1
    generalize H1 = H at hP hS ⊢
    have hP : va_P (dC, dI) vwCl [(h0, kO5 h1 n0_size h2 n0_ran), (h1, kAi cint 50 f1), (h2, kAi cint 24 f2)] H := hP
    have hD : va_D A [(h0, kO5 h1 n0_size h2 n0_ran), (h1, kAi cint 50 f1), (h2, kAi cint 24 f2)] := hD
    obtain rfl := hw
    refine lv_if_eq (tgt := 63) hx hb dX5_call_53 (by decide) (fun c => absurd c (by decide)) (fun _ => ?_)
    refine lv_iload hx hb dX5_call_56 (lv_at hl 7 rfl) ?_
    refine lv_bipush (v := 40) hx hb dX5_call_58 kk_bi_40 ?_
    refine lv_icmp_le (tgt := 65) hx hb dX5_call_60 (by decide) (fun c_6 => ?_) (fun c_6 => ?_)
    · have t_6 : p4.toInt ≤ 40 := kk_le c_6
      refine va_gets hx hb hZOWN_BODIES hS hown (hts (.fieldLink RX5 43 "KinkStreet$Lines" "OWN_BODIES" "[I") (List.mem_of_getElem? (i := 1) rfl)) (fun _ h9 => h9) dX5_call_65 ?_
      refine lv_iload hx hb dX5_call_68 (lv_at hl 1 rfl) ?_
      refine lv_iconst (v := 4) hx hb dX5_call_70 kk_ic_4 ?_
      refine lv_imul hx hb dX5_call_71 ?_
      refine lv_topi (fun y_7 e_7 => ?_)
      obtain rfl : y_7 = 0 := e_7.trans (by decide)
      refine lv_iload_n hx hb dX5_call_72 rfl (lv_at hl 5 rfl) ?_
      refine lv_iadd hx hb dX5_call_73 ?_
      refine lv_topi (fun y_8 e_8 => ?_)
      obtain rfl : y_8 = 3 := e_8.trans (by decide)
      refine va_ti (v := .int 2) hx hb hTOWN_BODIES hS (by unfold vp_in; decide) rfl dX5_call_74 ?_
      refine lv_istore hx hb dX5_call_75 hl (by decide) (rfl : _ = ([(7, .int 2), (6, .int 0), (0, .ref h0), (1, .int p0), (2, .int 0), (3, .int 3), (4, .int p3), (5, .int p4)] : List (Nat × Value))) (fun ls hl => ?_)
      refine lv_aload_n hx hb dX5_call_77 rfl (lv_at hl 2 rfl) ?_
      refine va_get (D := (dC, dI)) (ci := 5) (v := .int n0_ran) (C := RX5) (T := TX5) (N := 4) hx hb hts (fun _ h => List.mem_cons_of_mem _ (List.mem_append_right _ h)) hown hK hP 0 rfl rfl 3 (by decide) (hts (.fieldLink RX5 36 "KinkStreet$Lines" "ran" "I") (List.mem_of_getElem? (i := 3) rfl)) (fun _ h9 => h9) rfl dX5_call_78 ?_
      refine lv_bipush (v := 24) hx hb dX5_call_81 kk_bi_24 ?_
      refine lv_icmp_ge (tgt := 97) hx hb dX5_call_83 (by decide) (fun c_9 => ?_) (fun c_9 => ?_)
      · have t_9 : 24 ≤ n0_ran.toInt := kk_le c_9
        refine lv_aload_n hx hb dX5_call_97 rfl (lv_at hl 2 rfl) ?_
        refine lv_dup hx hb dX5_call_98 rfl ?_
        refine va_get (D := (dC, dI)) (ci := 5) (v := .int n0_ran) (C := RX5) (T := TX5) (N := 4) hx hb hts (fun _ h => List.mem_cons_of_mem _ (List.mem_append_right _ h)) hown hK hP 0 rfl rfl 3 (by decide) (hts (.fieldLink RX5 36 "KinkStreet$Lines" "ran" "I") (List.mem_of_getElem? (i := 3) rfl)) (fun _ h9 => h9) rfl dX5_call_99 ?_
        refine lv_iconst (v := 1) hx hb dX5_call_102 kk_ic_1 ?_
        refine lv_iadd hx hb dX5_call_103 ?_
        refine va_put (D := (dC, dI)) (ci := 5) (v := .int (n0_ran + 1)) (ty := .int) (C := RX5) (T := TX5) (N := 4) hx hb hts (fun _ h => List.mem_cons_of_mem _ (List.mem_append_right _ h)) tyX5 tyX5_ok nmX5 hown hK hP hD hS 0 rfl rfl 3 (by decide) (hts (.fieldLink RX5 36 "KinkStreet$Lines" "ran" "I") (List.mem_of_getElem? (i := 3) rfl)) (fun _ h9 => h9) rfl (by decide +kernel) rfl rfl (Nat.le_of_ble_eq_true rfl) dX5_call_104 (fun H locs hP hD hS => ?_)
        have hP : va_P (dC, dI) vwCl [(h0, kO5 h1 n0_size h2 (n0_ran + 1)), (h1, kAi cint 50 f1), (h2, kAi cint 24 f2)] H := hP
        have hD : va_D A [(h0, kO5 h1 n0_size h2 (n0_ran + 1)), (h1, kAi cint 50 f1), (h2, kAi cint 24 f2)] := hD
        have hp_10 : kk_P f2 f2 n0_ran.toInt (n0_ran + 1 : Int32).toInt [2] := kk_P_out (by have := kk_add2 (x := n0_ran) (y := 1) (a := n0_ran.toInt) (b := 1) rfl rfl (by omega) (by omega); omega) (by have := kk_add2 (x := n0_ran) (y := 1) (a := n0_ran.toInt) (b := 1) rfl rfl (by omega) (by omega); omega)
        refine lv_iload hx hb dX5_call_107 (lv_at hl 1 rfl) ?_
        refine lv_if_ne (tgt := 128) hx hb dX5_call_109 (by decide) (fun c => absurd c (by decide)) (fun _ => ?_)
        refine lv_aload_n hx hb dX5_call_112 rfl (lv_at hl 2 rfl) ?_
        refine lv_iload_n hx hb dX5_call_113 rfl (lv_at hl 3 rfl) ?_
        refine lv_iload hx hb dX5_call_114 (lv_at hl 0 rfl) ?_
        refine lv_iload hx hb dX5_call_116 (lv_at hl 6 rfl) ?_
        refine lv_iload hx hb dX5_call_118 (lv_at hl 7 rfl) ?_
        refine lv_iconst (v := 1) hx hb dX5_call_120 kk_ic_1 ?_
        refine lv_iadd hx hb dX5_call_121 ?_
        obtain ⟨hPc, hDc, hFc⟩ := kk_cutout (wc := [(h0, kO5 h1 n0_size h2 (n0_ran + 1)), (h1, kAi cint 50 f1), (h2, kAi cint 24 f2)]) hP hD hS hA [0, 1, 2] (by decide) rfl
        have hKc := kk_Ks (tq := [(cint, .int)]) hK [0] rfl
        refine va_calli (va_runV (As := [.int p0, .int 2, .int p3, .int (p4 + 1)]) (rest := []) ⟨hx, hb, hml, hown, hts⟩ (g_X5_runLine_7 l dC dI h0 h1 h2 cint H.size p0 p3 (p4 + 1) (by show 0 ≤ ((p4 + 1) : Int32).toInt ∧ ((p4 + 1) : Int32).toInt ≤ 3; first | with_reducible assumption | (constructor <;> (have := kk_add2 (x := n0_ran) (y := 1) (a := n0_ran.toInt) (b := 1) rfl rfl (by omega) (by omega); have := kk_add2 (x := p4) (y := 1) (a := p4.toInt) (b := 1) rfl rfl (by omega) (by omega); omega))) n0_size (n0_ran + 1) f1 f2 tn0_size (by show 0 ≤ ((n0_ran + 1) : Int32).toInt ∧ ((n0_ran + 1) : Int32).toInt ≤ 983; first | with_reducible assumption | (constructor <;> (have := kk_add2 (x := n0_ran) (y := 1) (a := n0_ran.toInt) (b := 1) rfl rfl (by omega) (by omega); have := kk_add2 (x := p4) (y := 1) (a := p4.toInt) (b := 1) rfl rfl (by omega) (by omega); omega))) bf1 (by show (0 ≤ (p0 : Int32).toInt ∧ (p0 : Int32).toInt < (n0_size : Int32).toInt); first | with_reducible assumption | (have := kk_add2 (x := n0_ran) (y := 1) (a := n0_ran.toInt) (b := 1) rfl rfl (by omega) (by omega); have := kk_add2 (x := p4) (y := 1) (a := p4.toInt) (b := 1) rfl rfl (by omega) (by omega); omega)) aOWN_BODIES aABOVE) (cwV 4 hts gX5_call_X5_runLine rfl rfl rfl ⟨rfl, kh_X5_runLine⟩ ⟨Nat.le_of_ble_eq_true rfl, Nat.le_of_ble_eq_true rfl⟩) ⟨fun a U g mk q => by obtain ⟨q0, q1, qP, qK, qD, qx0, qx1, qx2, qx3⟩ := q; exact ⟨q0, q1, qP, va_K.moved (u := U) (U := U.calling g mk a) (Vm.Alike.refl U.vm) qK, qD, va_Z.moved (u := U) (U := U.calling g mk a) (Vm.Alike.refl U.vm) qx0, va_T.moved (u := U) (U := U.calling g mk a) (Vm.Alike.refl U.vm) qx1, va_Z.moved (u := U) (U := U.calling g mk a) (Vm.Alike.refl U.vm) qx2, va_T.moved (u := U) (U := U.calling g mk a) (Vm.Alike.refl U.vm) qx3⟩, va_recv hKc hPc (ci := 5) (q0 := 0) rfl rfl, fun U hU hW => ⟨rfl, by rw [hU], by rw [hU]; exact hPc, va_K.moved hW.alike hKc, hDc.weaken (fun _ _ _ _ => trivial), by rw [hU]; exact ((hZOWN_BODIES.kept (fun a h1 h2 => hS.2.1 a h1 h2)).narrow hFc).moved hW.alike, by rw [hU]; exact ((hTOWN_BODIES.kept (fun a h1 h2 => hS.2.1 a h1 h2)).narrow hFc).moved hW.alike, by rw [hU]; exact ((hZABOVE.kept (fun a h1 h2 => hS.2.1 a h1 h2)).narrow hFc).moved hW.alike, by rw [hU]; exact ((hTABOVE.kept (fun a h1 h2 => hS.2.1 a h1 h2)).narrow hFc).moved hW.alike⟩⟩ rfl rfl hl.1 rfl (lv_room (Nat.le_of_ble_eq_true rfl)) dX5_call_122 ⟨Nat.le_of_ble_eq_true rfl, Nat.le_of_ble_eq_true rfl⟩) hS (fun q _ h => hFc q h) hFc (fun r_11 u t H1 locs ht hvm hw hB hz1 hk1 hS => ?_)
        obtain ⟨y_12, f_13, by_12, v_13_0, hn_13_0, hP1, hK1, hD1⟩ := hB
        have v_13_0 : y_12.toInt ≤ (n0_ran + 1).toInt + 17 := v_13_0
        have hn_13_0 : kk_P f2 f_13 (n0_ran + 1).toInt y_12.toInt ((kt_tells (f1 (p0 : Int32).toNatClampNeg) 0).tail) := hn_13_0
        rw [ht] at hP1
        have hK1 := va_K.moved hvm.symm hK1
        obtain ⟨hP, hD⟩ := va_join (wr := []) (w1 := [(h0, kO5 h1 n0_size h2 y_12), (h1, kAi cint 50 f1), (h2, kAi cint 24 f_13)]) hP hD [0, 1, 2] [] rfl rfl (by decide) (by decide) hk1 hFc hP1 hD1
        generalize H1 = H at hP hS ⊢
        have hP : va_P (dC, dI) vwCl [(h0, kO5 h1 n0_size h2 y_12), (h1, kAi cint 50 f1), (h2, kAi cint 24 f_13)] H := hP
        have hD : va_D A [(h0, kO5 h1 n0_size h2 y_12), (h1, kAi cint 50 f1), (h2, kAi cint 24 f_13)] := hD
        rcases hw with ⟨t_11_0, _⟩
        · skip
          have t_11_0 : r_11 = kk_tells (f1 (p0 : Int32).toNatClampNeg) 0 p0 p3 := t_11_0
          obtain rfl : r_11 = (kk_tells (f1 (p0 : Int32).toNatClampNeg) 0 p0 p3) := t_11_0
          refine lv_goto (tgt := 143) hx hb dX5_call_125 (by decide) ?_
          obtain ⟨hP9, hD9⟩ := kk_leafout (wc := [(h0, kO5 h1 n0_size h2 y_12), (h1, kAi cint 50 f1), (h2, kAi cint 24 f_13)]) hP hD [0, 1, 2] (by decide) rfl
          have hK9 := kk_Ks (tq := []) hK [] rfl
          exact W.iret (v := (kk_tells (f1 (p0 : Int32).toNatClampNeg) 0 p0 p3)) hx hb hr (fun t ht hW => ⟨⟨(kk_tells (f1 (p0 : Int32).toNatClampNeg) 0 p0 p3), (), rfl, ⟨(by first | rfl | (unfold kk_tells; (repeat' split) <;> first | rfl | (exfalso; have : (0 : Int32).toInt = 0 := rfl; have : (1 : Int32).toInt = 1 := rfl; have : (2 : Int32).toInt = 2 := rfl; have : (3 : Int32).toInt = 3 := rfl; have : (4 : Int32).toInt = 4 := rfl; have : (5 : Int32).toInt = 5 := rfl; have : (6 : Int32).toInt = 6 := rfl; have : (7 : Int32).toInt = 7 := rfl; have := kk_add2 (x := n0_ran) (y := 1) (a := n0_ran.toInt) (b := 1) rfl rfl (by omega) (by omega); have := kk_add2 (x := p4) (y := 1) (a := p4.toInt) (b := 1) rfl rfl (by omega) (by omega); omega))), trivial⟩, y_12, f_13, (by show 1 ≤ (y_12 : Int32).toInt ∧ (y_12 : Int32).toInt ≤ 1000; first | with_reducible assumption | (constructor <;> (have := kk_add2 (x := n0_ran) (y := 1) (a := n0_ran.toInt) (b := 1) rfl rfl (by omega) (by omega); have := kk_add2 (x := p4) (y := 1) (a := p4.toInt) (b := 1) rfl rfl (by omega) (by omega); omega))), (by show (y_12 : Int32).toInt ≤ (n0_ran : Int32).toInt + 19; first | with_reducible assumption | (have := kk_add2 (x := n0_ran) (y := 1) (a := n0_ran.toInt) (b := 1) rfl rfl (by omega) (by omega); have := kk_add2 (x := p4) (y := 1) (a := p4.toInt) (b := 1) rfl rfl (by omega) (by omega); omega)), (by first | exact kk_P_eq (kk_P_trans hp_10 hn_13_0) rfl | (unfold kt_tells; (repeat' split) <;> first | exact kk_P_eq (kk_P_trans hp_10 hn_13_0) rfl | (exfalso; have : (0 : Int32).toInt = 0 := rfl; have : (1 : Int32).toInt = 1 := rfl; have : (2 : Int32).toInt = 2 := rfl; have : (3 : Int32).toInt = 3 := rfl; have : (4 : Int32).toInt = 4 := rfl; have : (5 : Int32).toInt = 5 := rfl; have : (6 : Int32).toInt = 6 := rfl; have : (7 : Int32).toInt = 7 := rfl; have := kk_add2 (x := n0_ran) (y := 1) (a := n0_ran.toInt) (b := 1) rfl rfl (by omega) (by omega); have := kk_add2 (x := p4) (y := 1) (a := p4.toInt) (b := 1) rfl rfl (by omega) (by omega); omega))), by rw [ht]; exact hP9, va_K.moved hW.alike hK9, hD9⟩, hS.F ht⟩) hS.2.2 dX5_call_143
      · have t_9 : n0_ran.toInt < 24 := kk_nle c_9
        refine lv_aload_n hx hb dX5_call_86 rfl (lv_at hl 2 rfl) ?_
        refine va_get (D := (dC, dI)) (ci := 5) (v := .ref h2) (C := RX5) (T := TX5) (N := 4) hx hb hts (fun _ h => List.mem_cons_of_mem _ (List.mem_append_right _ h)) hown hK hP 0 rfl rfl 2 (by decide) (hts (.fieldLink RX5 15 "KinkStreet$Lines" "trace" "[I") (List.mem_of_getElem? (i := 4) rfl)) (fun _ h9 => h9) rfl dX5_call_87 ?_
        refine lv_aload_n hx hb dX5_call_90 rfl (lv_at hl 2 rfl) ?_
        refine va_get (D := (dC, dI)) (ci := 5) (v := .int n0_ran) (C := RX5) (T := TX5) (N := 4) hx hb hts (fun _ h => List.mem_cons_of_mem _ (List.mem_append_right _ h)) hown hK hP 0 rfl rfl 3 (by decide) (hts (.fieldLink RX5 36 "KinkStreet$Lines" "ran" "I") (List.mem_of_getElem? (i := 3) rfl)) (fun _ h9 => h9) rfl dX5_call_91 ?_
        refine lv_iload hx hb dX5_call_94 (lv_at hl 0 rfl) ?_
        refine va_iast hx hb hK hP hD hS 2 0 rfl rfl (vp_in_iff.mpr ⟨by omega, by omega⟩) dX5_call_96 (fun H locs hP hD hS => ?_)
        have w_14 : ((upd f2 (n0_ran : Int32).toNatClampNeg 2) (n0_ran : Int32).toNatClampNeg).toInt = (2 : Int32).toInt := by rw [kk_ups]
        have hP : va_P (dC, dI) vwCl [(h0, kO5 h1 n0_size h2 n0_ran), (h1, kAi cint 50 f1), (h2, kAi cint 24 (upd f2 (n0_ran : Int32).toNatClampNeg 2))] H := hP
        have hD : va_D A [(h0, kO5 h1 n0_size h2 n0_ran), (h1, kAi cint 50 f1), (h2, kAi cint 24 (upd f2 (n0_ran : Int32).toNatClampNeg 2))] := hD
        refine lv_aload_n hx hb dX5_call_97 rfl (lv_at hl 2 rfl) ?_
        refine lv_dup hx hb dX5_call_98 rfl ?_
        refine va_get (D := (dC, dI)) (ci := 5) (v := .int n0_ran) (C := RX5) (T := TX5) (N := 4) hx hb hts (fun _ h => List.mem_cons_of_mem _ (List.mem_append_right _ h)) hown hK hP 0 rfl rfl 3 (by decide) (hts (.fieldLink RX5 36 "KinkStreet$Lines" "ran" "I") (List.mem_of_getElem? (i := 3) rfl)) (fun _ h9 => h9) rfl dX5_call_99 ?_
        refine lv_iconst (v := 1) hx hb dX5_call_102 kk_ic_1 ?_
        refine lv_iadd hx hb dX5_call_103 ?_
        refine va_put (D := (dC, dI)) (ci := 5) (v := .int (n0_ran + 1)) (ty := .int) (C := RX5) (T := TX5) (N := 4) hx hb hts (fun _ h => List.mem_cons_of_mem _ (List.mem_append_right _ h)) tyX5 tyX5_ok nmX5 hown hK hP hD hS 0 rfl rfl 3 (by decide) (hts (.fieldLink RX5 36 "KinkStreet$Lines" "ran" "I") (List.mem_of_getElem? (i := 3) rfl)) (fun _ h9 => h9) rfl (by decide +kernel) rfl rfl (Nat.le_of_ble_eq_true rfl) dX5_call_104 (fun H locs hP hD hS => ?_)
        have hP : va_P (dC, dI) vwCl [(h0, kO5 h1 n0_size h2 (n0_ran + 1)), (h1, kAi cint 50 f1), (h2, kAi cint 24 (upd f2 (n0_ran : Int32).toNatClampNeg 2))] H := hP
        have hD : va_D A [(h0, kO5 h1 n0_size h2 (n0_ran + 1)), (h1, kAi cint 50 f1), (h2, kAi cint 24 (upd f2 (n0_ran : Int32).toNatClampNeg 2))] := hD
        have hp_15 : kk_P f2 (upd f2 (n0_ran : Int32).toNatClampNeg 2) n0_ran.toInt (n0_ran + 1 : Int32).toInt [2] := kk_P_one (by have := kk_add2 (x := n0_ran) (y := 1) (a := n0_ran.toInt) (b := 1) rfl rfl (by omega) (by omega); omega) (by have := kk_add2 (x := n0_ran) (y := 1) (a := n0_ran.toInt) (b := 1) rfl rfl (by omega) (by omega); omega)
        refine lv_iload hx hb dX5_call_107 (lv_at hl 1 rfl) ?_
        refine lv_if_ne (tgt := 128) hx hb dX5_call_109 (by decide) (fun c => absurd c (by decide)) (fun _ => ?_)
        refine lv_aload_n hx hb dX5_call_112 rfl (lv_at hl 2 rfl) ?_
        refine lv_iload_n hx hb dX5_call_113 rfl (lv_at hl 3 rfl) ?_
        refine lv_iload hx hb dX5_call_114 (lv_at hl 0 rfl) ?_
        refine lv_iload hx hb dX5_call_116 (lv_at hl 6 rfl) ?_
        refine lv_iload hx hb dX5_call_118 (lv_at hl 7 rfl) ?_
        refine lv_iconst (v := 1) hx hb dX5_call_120 kk_ic_1 ?_
        refine lv_iadd hx hb dX5_call_121 ?_
        obtain ⟨hPc, hDc, hFc⟩ := kk_cutout (wc := [(h0, kO5 h1 n0_size h2 (n0_ran + 1)), (h1, kAi cint 50 f1), (h2, kAi cint 24 (upd f2 (n0_ran : Int32).toNatClampNeg 2))]) hP hD hS hA [0, 1, 2] (by decide) rfl
        have hKc := kk_Ks (tq := [(cint, .int)]) hK [0] rfl
        refine va_calli (va_runV (As := [.int p0, .int 2, .int p3, .int (p4 + 1)]) (rest := []) ⟨hx, hb, hml, hown, hts⟩ (g_X5_runLine_7 l dC dI h0 h1 h2 cint H.size p0 p3 (p4 + 1) (by show 0 ≤ ((p4 + 1) : Int32).toInt ∧ ((p4 + 1) : Int32).toInt ≤ 3; first | with_reducible assumption | (constructor <;> (have := kk_add2 (x := n0_ran) (y := 1) (a := n0_ran.toInt) (b := 1) rfl rfl (by omega) (by omega); have := kk_add2 (x := p4) (y := 1) (a := p4.toInt) (b := 1) rfl rfl (by omega) (by omega); omega))) n0_size (n0_ran + 1) f1 (upd f2 (n0_ran : Int32).toNatClampNeg 2) tn0_size (by show 0 ≤ ((n0_ran + 1) : Int32).toInt ∧ ((n0_ran + 1) : Int32).toInt ≤ 983; first | with_reducible assumption | (constructor <;> (have := kk_add2 (x := n0_ran) (y := 1) (a := n0_ran.toInt) (b := 1) rfl rfl (by omega) (by omega); have := kk_add2 (x := p4) (y := 1) (a := p4.toInt) (b := 1) rfl rfl (by omega) (by omega); omega))) bf1 (by show (0 ≤ (p0 : Int32).toInt ∧ (p0 : Int32).toInt < (n0_size : Int32).toInt); first | with_reducible assumption | (have := kk_add2 (x := n0_ran) (y := 1) (a := n0_ran.toInt) (b := 1) rfl rfl (by omega) (by omega); have := kk_add2 (x := p4) (y := 1) (a := p4.toInt) (b := 1) rfl rfl (by omega) (by omega); omega)) aOWN_BODIES aABOVE) (cwV 4 hts gX5_call_X5_runLine rfl rfl rfl ⟨rfl, kh_X5_runLine⟩ ⟨Nat.le_of_ble_eq_true rfl, Nat.le_of_ble_eq_true rfl⟩) ⟨fun a U g mk q => by obtain ⟨q0, q1, qP, qK, qD, qx0, qx1, qx2, qx3⟩ := q; exact ⟨q0, q1, qP, va_K.moved (u := U) (U := U.calling g mk a) (Vm.Alike.refl U.vm) qK, qD, va_Z.moved (u := U) (U := U.calling g mk a) (Vm.Alike.refl U.vm) qx0, va_T.moved (u := U) (U := U.calling g mk a) (Vm.Alike.refl U.vm) qx1, va_Z.moved (u := U) (U := U.calling g mk a) (Vm.Alike.refl U.vm) qx2, va_T.moved (u := U) (U := U.calling g mk a) (Vm.Alike.refl U.vm) qx3⟩, va_recv hKc hPc (ci := 5) (q0 := 0) rfl rfl, fun U hU hW => ⟨rfl, by rw [hU], by rw [hU]; exact hPc, va_K.moved hW.alike hKc, hDc.weaken (fun _ _ _ _ => trivial), by rw [hU]; exact ((hZOWN_BODIES.kept (fun a h1 h2 => hS.2.1 a h1 h2)).narrow hFc).moved hW.alike, by rw [hU]; exact ((hTOWN_BODIES.kept (fun a h1 h2 => hS.2.1 a h1 h2)).narrow hFc).moved hW.alike, by rw [hU]; exact ((hZABOVE.kept (fun a h1 h2 => hS.2.1 a h1 h2)).narrow hFc).moved hW.alike, by rw [hU]; exact ((hTABOVE.kept (fun a h1 h2 => hS.2.1 a h1 h2)).narrow hFc).moved hW.alike⟩⟩ rfl rfl hl.1 rfl (lv_room (Nat.le_of_ble_eq_true rfl)) dX5_call_122 ⟨Nat.le_of_ble_eq_true rfl, Nat.le_of_ble_eq_true rfl⟩) hS (fun q _ h => hFc q h) hFc (fun r_16 u t H1 locs ht hvm hw hB hz1 hk1 hS => ?_)
        obtain ⟨y_17, f_18, by_17, v_18_0, hn_18_0, hP1, hK1, hD1⟩ := hB
        have v_18_0 : y_17.toInt ≤ (n0_ran + 1).toInt + 17 := v_18_0
        have hn_18_0 : kk_P (upd f2 (n0_ran : Int32).toNatClampNeg 2) f_18 (n0_ran + 1).toInt y_17.toInt ((kt_tells (f1 (p0 : Int32).toNatClampNeg) 0).tail) := hn_18_0
        rw [ht] at hP1
        have hK1 := va_K.moved hvm.symm hK1
        obtain ⟨hP, hD⟩ := va_join (wr := []) (w1 := [(h0, kO5 h1 n0_size h2 y_17), (h1, kAi cint 50 f1), (h2, kAi cint 24 f_18)]) hP hD [0, 1, 2] [] rfl rfl (by decide) (by decide) hk1 hFc hP1 hD1
        generalize H1 = H at hP hS ⊢
        have hP : va_P (dC, dI) vwCl [(h0, kO5 h1 n0_size h2 y_17), (h1, kAi cint 50 f1), (h2, kAi cint 24 f_18)] H := hP
        have hD : va_D A [(h0, kO5 h1 n0_size h2 y_17), (h1, kAi cint 50 f1), (h2, kAi cint 24 f_18)] := hD
        rcases hw with ⟨t_16_0, _⟩
        · skip
          have t_16_0 : r_16 = kk_tells (f1 (p0 : Int32).toNatClampNeg) 0 p0 p3 := t_16_0
          obtain rfl : r_16 = (kk_tells (f1 (p0 : Int32).toNatClampNeg) 0 p0 p3) := t_16_0
          refine lv_goto (tgt := 143) hx hb dX5_call_125 (by decide) ?_
          obtain ⟨hP9, hD9⟩ := kk_leafout (wc := [(h0, kO5 h1 n0_size h2 y_17), (h1, kAi cint 50 f1), (h2, kAi cint 24 f_18)]) hP hD [0, 1, 2] (by decide) rfl
          have hK9 := kk_Ks (tq := []) hK [] rfl
          exact W.iret (v := (kk_tells (f1 (p0 : Int32).toNatClampNeg) 0 p0 p3)) hx hb hr (fun t ht hW => ⟨⟨(kk_tells (f1 (p0 : Int32).toNatClampNeg) 0 p0 p3), (), rfl, ⟨(by first | rfl | (unfold kk_tells; (repeat' split) <;> first | rfl | (exfalso; have : (0 : Int32).toInt = 0 := rfl; have : (1 : Int32).toInt = 1 := rfl; have : (2 : Int32).toInt = 2 := rfl; have : (3 : Int32).toInt = 3 := rfl; have : (4 : Int32).toInt = 4 := rfl; have : (5 : Int32).toInt = 5 := rfl; have : (6 : Int32).toInt = 6 := rfl; have : (7 : Int32).toInt = 7 := rfl; have := kk_add2 (x := n0_ran) (y := 1) (a := n0_ran.toInt) (b := 1) rfl rfl (by omega) (by omega); have := kk_add2 (x := p4) (y := 1) (a := p4.toInt) (b := 1) rfl rfl (by omega) (by omega); omega))), trivial⟩, y_17, f_18, (by show 1 ≤ (y_17 : Int32).toInt ∧ (y_17 : Int32).toInt ≤ 1000; first | with_reducible assumption | (constructor <;> (have := kk_add2 (x := n0_ran) (y := 1) (a := n0_ran.toInt) (b := 1) rfl rfl (by omega) (by omega); have := kk_add2 (x := p4) (y := 1) (a := p4.toInt) (b := 1) rfl rfl (by omega) (by omega); omega))), (by show (y_17 : Int32).toInt ≤ (n0_ran : Int32).toInt + 19; first | with_reducible assumption | (have := kk_add2 (x := n0_ran) (y := 1) (a := n0_ran.toInt) (b := 1) rfl rfl (by omega) (by omega); have := kk_add2 (x := p4) (y := 1) (a := p4.toInt) (b := 1) rfl rfl (by omega) (by omega); omega)), (by first | exact kk_P_eq (kk_P_trans hp_15 hn_18_0) rfl | (unfold kt_tells; (repeat' split) <;> first | exact kk_P_eq (kk_P_trans hp_15 hn_18_0) rfl | (exfalso; have : (0 : Int32).toInt = 0 := rfl; have : (1 : Int32).toInt = 1 := rfl; have : (2 : Int32).toInt = 2 := rfl; have : (3 : Int32).toInt = 3 := rfl; have : (4 : Int32).toInt = 4 := rfl; have : (5 : Int32).toInt = 5 := rfl; have : (6 : Int32).toInt = 6 := rfl; have : (7 : Int32).toInt = 7 := rfl; have := kk_add2 (x := n0_ran) (y := 1) (a := n0_ran.toInt) (b := 1) rfl rfl (by omega) (by omega); have := kk_add2 (x := p4) (y := 1) (a := p4.toInt) (b := 1) rfl rfl (by omega) (by omega); omega))), by rw [ht]; exact hP9, va_K.moved hW.alike hK9, hD9⟩, hS.F ht⟩) hS.2.2 dX5_call_143
    · have t_6 : 40 < p4.toInt := kk_nle c_6
      exfalso; omega
  · have t_1 : p1.toInt = 1 := by rw [e_1]; rfl
    subst e_1
    refine lv_iload_n hx hb dX5_call_0 rfl (lv_at hl 2 rfl) ?_
    refine lv_istore hx hb dX5_call_1 hl (by decide) (rfl : _ = ([(6, .int 1), (0, .ref h0), (1, .int p0), (2, .int 1), (3, .int 3), (4, .int p3), (5, .int p4)] : List (Nat × Value))) (fun ls hl => ?_)
    refine lv_iconst (v := 0) hx hb dX5_call_3 kk_ic_0 ?_
    refine lv_istore hx hb dX5_call_4 hl (by decide) (rfl : _ = ([(7, .int 0), (6, .int 1), (0, .ref h0), (1, .int p0), (2, .int 1), (3, .int 3), (4, .int p3), (5, .int p4)] : List (Nat × Value))) (fun ls hl => ?_)
    refine lv_iload hx hb dX5_call_6 (lv_at hl 0 rfl) ?_
    refine lv_bipush (v := 8) hx hb dX5_call_8 kk_bi_8 ?_
    refine lv_icmp_ge (tgt := 48) hx hb dX5_call_10 (by decide) (fun c => absurd c (by decide)) (fun _ => ?_)
    refine lv_iload hx hb dX5_call_13 (lv_at hl 1 rfl) ?_
    obtain ⟨hPc, hDc, hFc⟩ := kk_cutout (wc := []) hP hD hS hA [] (by decide) rfl
    have hKc := kk_Ks (tq := []) hK [] rfl
    refine va_calli (va_runS (As := [.int 1]) (rest := []) ⟨hx, hb, hml, hown, hts⟩ (g_X5_isKind_12 l dC dI s.heap.size) (va_cwS 1 hts gX5_call_X5_isKind rfl rfl rfl kh_X5_isKind ⟨Nat.le_of_ble_eq_true rfl, Nat.le_of_ble_eq_true rfl⟩) ⟨fun a U g mk q => by obtain ⟨q0, q1, qP, qK, qD⟩ := q; exact ⟨q0, q1, qP, va_K.moved (u := U) (U := U.calling g mk a) (Vm.Alike.refl U.vm) qK, qD⟩, fun U hU hW => ⟨rfl, by rw [hU], by rw [hU]; exact hPc, va_K.moved hW.alike hKc, hDc.weaken (fun _ _ _ _ => trivial)⟩⟩ rfl rfl hl.1 rfl (lv_room (Nat.le_of_ble_eq_true rfl)) dX5_call_15 ⟨Nat.le_of_ble_eq_true rfl, Nat.le_of_ble_eq_true rfl⟩) hS (fun q _ h => hFc q h) hFc (fun r_19 u t H1 locs ht hvm hw hB hz1 hk1 hS => ?_)
    obtain ⟨hP1, hK1, hD1⟩ := hB
    rw [ht] at hP1
    have hK1 := va_K.moved hvm.symm hK1
    obtain ⟨hP, hD⟩ := va_join (wr := [(h0, kO5 h1 n0_size h2 n0_ran), (h1, kAi cint 50 f1), (h2, kAi cint 24 f2)]) (w1 := []) hP hD [] [0, 1, 2] rfl rfl (by decide) (by decide) hk1 hFc hP1 hD1
    generalize H1 = H at hP hS ⊢
    have hP : va_P (dC, dI) vwCl [(h0, kO5 h1 n0_size h2 n0_ran), (h1, kAi cint 50 f1), (h2, kAi cint 24 f2)] H := hP
    have hD : va_D A [(h0, kO5 h1 n0_size h2 n0_ran), (h1, kAi cint 50 f1), (h2, kAi cint 24 f2)] := hD
    obtain rfl := hw
    refine lv_if_eq (tgt := 48) hx hb dX5_call_18 (by decide) (fun c => absurd c (by decide)) (fun _ => ?_)
    refine va_gets hx hb hZOWN_BODIES hS hown (hts (.fieldLink RX5 43 "KinkStreet$Lines" "OWN_BODIES" "[I") (List.mem_of_getElem? (i := 1) rfl)) (fun _ h9 => h9) dX5_call_21 ?_
    refine lv_iload hx hb dX5_call_24 (lv_at hl 1 rfl) ?_
    refine lv_iconst (v := 4) hx hb dX5_call_26 kk_ic_4 ?_
    refine lv_imul hx hb dX5_call_27 ?_
    refine lv_topi (fun y_20 e_20 => ?_)
    obtain rfl : y_20 = 4 := e_20.trans (by decide)
    refine lv_iload_n hx hb dX5_call_28 rfl (lv_at hl 5 rfl) ?_
    refine lv_iadd hx hb dX5_call_29 ?_
    refine lv_topi (fun y_21 e_21 => ?_)
    obtain rfl : y_21 = 7 := e_21.trans (by decide)
    refine va_ti (v := .int 0) hx hb hTOWN_BODIES hS (by unfold vp_in; decide) rfl dX5_call_30 ?_
    refine lv_if_ne (tgt := 48) hx hb dX5_call_31 (by decide) (fun c => absurd c (by decide)) (fun _ => ?_)
    refine va_gets hx hb hZABOVE hS hown (hts (.fieldLink RX5 22 "KinkStreet$Lines" "ABOVE" "[I") (List.mem_of_getElem? (i := 2) rfl)) (fun _ h9 => h9) dX5_call_34 ?_
    refine lv_iload hx hb dX5_call_37 (lv_at hl 1 rfl) ?_
    refine va_ti (v := .int 0) hx hb hTABOVE hS (by unfold vp_in; decide) rfl dX5_call_39 ?_
    refine lv_istore hx hb dX5_call_40 hl (by decide) (rfl : _ = ([(6, .int 0), (7, .int 0), (0, .ref h0), (1, .int p0), (2, .int 1), (3, .int 3), (4, .int p3), (5, .int p4)] : List (Nat × Value))) (fun ls hl => ?_)
    refine lv_iinc (v := 1) hx hb dX5_call_42 hl (k := 1) rfl (by first | rfl | decide) (by decide) (rfl : _ = ([(7, .int 1), (6, .int 0), (0, .ref h0), (1, .int p0), (2, .int 1), (3, .int 3), (4, .int p3), (5, .int p4)] : List (Nat × Value))) (fun ls hl => ?_)
    refine lv_goto (tgt := 6) hx hb dX5_call_45 (by decide) ?_
    refine lv_iload hx hb dX5_call_6 (lv_at hl 0 rfl) ?_
    refine lv_bipush (v := 8) hx hb dX5_call_8 kk_bi_8 ?_
    refine lv_icmp_ge (tgt := 48) hx hb dX5_call_10 (by decide) (fun c => absurd c (by decide)) (fun _ => ?_)
    refine lv_iload hx hb dX5_call_13 (lv_at hl 1 rfl) ?_
    obtain ⟨hPc, hDc, hFc⟩ := kk_cutout (wc := []) hP hD hS hA [] (by decide) rfl
    have hKc := kk_Ks (tq := []) hK [] rfl
    refine va_calli (va_runS (As := [.int 0]) (rest := []) ⟨hx, hb, hml, hown, hts⟩ (g_X5_isKind_11 l dC dI H.size) (va_cwS 1 hts gX5_call_X5_isKind rfl rfl rfl kh_X5_isKind ⟨Nat.le_of_ble_eq_true rfl, Nat.le_of_ble_eq_true rfl⟩) ⟨fun a U g mk q => by obtain ⟨q0, q1, qP, qK, qD⟩ := q; exact ⟨q0, q1, qP, va_K.moved (u := U) (U := U.calling g mk a) (Vm.Alike.refl U.vm) qK, qD⟩, fun U hU hW => ⟨rfl, by rw [hU], by rw [hU]; exact hPc, va_K.moved hW.alike hKc, hDc.weaken (fun _ _ _ _ => trivial)⟩⟩ rfl rfl hl.1 rfl (lv_room (Nat.le_of_ble_eq_true rfl)) dX5_call_15 ⟨Nat.le_of_ble_eq_true rfl, Nat.le_of_ble_eq_true rfl⟩) hS (fun q _ h => hFc q h) hFc (fun r_22 u t H1 locs ht hvm hw hB hz1 hk1 hS => ?_)
    obtain ⟨hP1, hK1, hD1⟩ := hB
    rw [ht] at hP1
    have hK1 := va_K.moved hvm.symm hK1
    obtain ⟨hP, hD⟩ := va_join (wr := [(h0, kO5 h1 n0_size h2 n0_ran), (h1, kAi cint 50 f1), (h2, kAi cint 24 f2)]) (w1 := []) hP hD [] [0, 1, 2] rfl rfl (by decide) (by decide) hk1 hFc hP1 hD1
    generalize H1 = H at hP hS ⊢
    have hP : va_P (dC, dI) vwCl [(h0, kO5 h1 n0_size h2 n0_ran), (h1, kAi cint 50 f1), (h2, kAi cint 24 f2)] H := hP
    have hD : va_D A [(h0, kO5 h1 n0_size h2 n0_ran), (h1, kAi cint 50 f1), (h2, kAi cint 24 f2)] := hD
    obtain rfl := hw
    refine lv_if_eq (tgt := 48) hx hb dX5_call_18 (by decide) (fun c => absurd c (by decide)) (fun _ => ?_)
    refine va_gets hx hb hZOWN_BODIES hS hown (hts (.fieldLink RX5 43 "KinkStreet$Lines" "OWN_BODIES" "[I") (List.mem_of_getElem? (i := 1) rfl)) (fun _ h9 => h9) dX5_call_21 ?_
    refine lv_iload hx hb dX5_call_24 (lv_at hl 1 rfl) ?_
    refine lv_iconst (v := 4) hx hb dX5_call_26 kk_ic_4 ?_
    refine lv_imul hx hb dX5_call_27 ?_
    refine lv_topi (fun y_23 e_23 => ?_)
    obtain rfl : y_23 = 0 := e_23.trans (by decide)
    refine lv_iload_n hx hb dX5_call_28 rfl (lv_at hl 5 rfl) ?_
    refine lv_iadd hx hb dX5_call_29 ?_
    refine lv_topi (fun y_24 e_24 => ?_)
    obtain rfl : y_24 = 3 := e_24.trans (by decide)
    refine va_ti (v := .int 2) hx hb hTOWN_BODIES hS (by unfold vp_in; decide) rfl dX5_call_30 ?_
    refine lv_if_ne (tgt := 48) hx hb dX5_call_31 (by decide) (fun _ => ?_) (fun c => absurd c (by decide))
    refine lv_iload hx hb dX5_call_48 (lv_at hl 1 rfl) ?_
    obtain ⟨hPc, hDc, hFc⟩ := kk_cutout (wc := []) hP hD hS hA [] (by decide) rfl
    have hKc := kk_Ks (tq := []) hK [] rfl
    refine va_calli (va_runS (As := [.int 0]) (rest := []) ⟨hx, hb, hml, hown, hts⟩ (g_X5_isKind_11 l dC dI H.size) (va_cwS 1 hts gX5_call_X5_isKind rfl rfl rfl kh_X5_isKind ⟨Nat.le_of_ble_eq_true rfl, Nat.le_of_ble_eq_true rfl⟩) ⟨fun a U g mk q => by obtain ⟨q0, q1, qP, qK, qD⟩ := q; exact ⟨q0, q1, qP, va_K.moved (u := U) (U := U.calling g mk a) (Vm.Alike.refl U.vm) qK, qD⟩, fun U hU hW => ⟨rfl, by rw [hU], by rw [hU]; exact hPc, va_K.moved hW.alike hKc, hDc.weaken (fun _ _ _ _ => trivial)⟩⟩ rfl rfl hl.1 rfl (lv_room (Nat.le_of_ble_eq_true rfl)) dX5_call_50 ⟨Nat.le_of_ble_eq_true rfl, Nat.le_of_ble_eq_true rfl⟩) hS (fun q _ h => hFc q h) hFc (fun r_25 u t H1 locs ht hvm hw hB hz1 hk1 hS => ?_)
    obtain ⟨hP1, hK1, hD1⟩ := hB
    rw [ht] at hP1
    have hK1 := va_K.moved hvm.symm hK1
    obtain ⟨hP, hD⟩ := va_join (wr := [(h0, kO5 h1 n0_size h2 n0_ran), (h1, kAi cint 50 f1), (h2, kAi cint 24 f2)]) (w1 := []) hP hD [] [0, 1, 2] rfl rfl (by decide) (by decide) hk1 hFc hP1 hD1
    generalize H1 = H at hP hS ⊢
    have hP : va_P (dC, dI) vwCl [(h0, kO5 h1 n0_size h2 n0_ran), (h1, kAi cint 50 f1), (h2, kAi cint 24 f2)] H := hP
    have hD : va_D A [(h0, kO5 h1 n0_size h2 n0_ran), (h1, kAi cint 50 f1), (h2, kAi cint 24 f2)] := hD
    obtain rfl := hw
    refine lv_if_eq (tgt := 63) hx hb dX5_call_53 (by decide) (fun c => absurd c (by decide)) (fun _ => ?_)
    refine lv_iload hx hb dX5_call_56 (lv_at hl 7 rfl) ?_
    refine lv_bipush (v := 40) hx hb dX5_call_58 kk_bi_40 ?_
    refine lv_icmp_le (tgt := 65) hx hb dX5_call_60 (by decide) (fun c_26 => ?_) (fun c_26 => ?_)
    · have t_26 : p4.toInt ≤ 40 := kk_le c_26
      refine va_gets hx hb hZOWN_BODIES hS hown (hts (.fieldLink RX5 43 "KinkStreet$Lines" "OWN_BODIES" "[I") (List.mem_of_getElem? (i := 1) rfl)) (fun _ h9 => h9) dX5_call_65 ?_
      refine lv_iload hx hb dX5_call_68 (lv_at hl 1 rfl) ?_
      refine lv_iconst (v := 4) hx hb dX5_call_70 kk_ic_4 ?_
      refine lv_imul hx hb dX5_call_71 ?_
      refine lv_topi (fun y_27 e_27 => ?_)
      obtain rfl : y_27 = 0 := e_27.trans (by decide)
      refine lv_iload_n hx hb dX5_call_72 rfl (lv_at hl 5 rfl) ?_
      refine lv_iadd hx hb dX5_call_73 ?_
      refine lv_topi (fun y_28 e_28 => ?_)
      obtain rfl : y_28 = 3 := e_28.trans (by decide)
      refine va_ti (v := .int 2) hx hb hTOWN_BODIES hS (by unfold vp_in; decide) rfl dX5_call_74 ?_
      refine lv_istore hx hb dX5_call_75 hl (by decide) (rfl : _ = ([(7, .int 2), (6, .int 0), (0, .ref h0), (1, .int p0), (2, .int 1), (3, .int 3), (4, .int p3), (5, .int p4)] : List (Nat × Value))) (fun ls hl => ?_)
      refine lv_aload_n hx hb dX5_call_77 rfl (lv_at hl 2 rfl) ?_
      refine va_get (D := (dC, dI)) (ci := 5) (v := .int n0_ran) (C := RX5) (T := TX5) (N := 4) hx hb hts (fun _ h => List.mem_cons_of_mem _ (List.mem_append_right _ h)) hown hK hP 0 rfl rfl 3 (by decide) (hts (.fieldLink RX5 36 "KinkStreet$Lines" "ran" "I") (List.mem_of_getElem? (i := 3) rfl)) (fun _ h9 => h9) rfl dX5_call_78 ?_
      refine lv_bipush (v := 24) hx hb dX5_call_81 kk_bi_24 ?_
      refine lv_icmp_ge (tgt := 97) hx hb dX5_call_83 (by decide) (fun c_29 => ?_) (fun c_29 => ?_)
      · have t_29 : 24 ≤ n0_ran.toInt := kk_le c_29
        refine lv_aload_n hx hb dX5_call_97 rfl (lv_at hl 2 rfl) ?_
        refine lv_dup hx hb dX5_call_98 rfl ?_
        refine va_get (D := (dC, dI)) (ci := 5) (v := .int n0_ran) (C := RX5) (T := TX5) (N := 4) hx hb hts (fun _ h => List.mem_cons_of_mem _ (List.mem_append_right _ h)) hown hK hP 0 rfl rfl 3 (by decide) (hts (.fieldLink RX5 36 "KinkStreet$Lines" "ran" "I") (List.mem_of_getElem? (i := 3) rfl)) (fun _ h9 => h9) rfl dX5_call_99 ?_
        refine lv_iconst (v := 1) hx hb dX5_call_102 kk_ic_1 ?_
        refine lv_iadd hx hb dX5_call_103 ?_
        refine va_put (D := (dC, dI)) (ci := 5) (v := .int (n0_ran + 1)) (ty := .int) (C := RX5) (T := TX5) (N := 4) hx hb hts (fun _ h => List.mem_cons_of_mem _ (List.mem_append_right _ h)) tyX5 tyX5_ok nmX5 hown hK hP hD hS 0 rfl rfl 3 (by decide) (hts (.fieldLink RX5 36 "KinkStreet$Lines" "ran" "I") (List.mem_of_getElem? (i := 3) rfl)) (fun _ h9 => h9) rfl (by decide +kernel) rfl rfl (Nat.le_of_ble_eq_true rfl) dX5_call_104 (fun H locs hP hD hS => ?_)
        have hP : va_P (dC, dI) vwCl [(h0, kO5 h1 n0_size h2 (n0_ran + 1)), (h1, kAi cint 50 f1), (h2, kAi cint 24 f2)] H := hP
        have hD : va_D A [(h0, kO5 h1 n0_size h2 (n0_ran + 1)), (h1, kAi cint 50 f1), (h2, kAi cint 24 f2)] := hD
        have hp_30 : kk_P f2 f2 n0_ran.toInt (n0_ran + 1 : Int32).toInt [2] := kk_P_out (by have := kk_add2 (x := n0_ran) (y := 1) (a := n0_ran.toInt) (b := 1) rfl rfl (by omega) (by omega); omega) (by have := kk_add2 (x := n0_ran) (y := 1) (a := n0_ran.toInt) (b := 1) rfl rfl (by omega) (by omega); omega)
        refine lv_iload hx hb dX5_call_107 (lv_at hl 1 rfl) ?_
        refine lv_if_ne (tgt := 128) hx hb dX5_call_109 (by decide) (fun c => absurd c (by decide)) (fun _ => ?_)
        refine lv_aload_n hx hb dX5_call_112 rfl (lv_at hl 2 rfl) ?_
        refine lv_iload_n hx hb dX5_call_113 rfl (lv_at hl 3 rfl) ?_
        refine lv_iload hx hb dX5_call_114 (lv_at hl 0 rfl) ?_
        refine lv_iload hx hb dX5_call_116 (lv_at hl 6 rfl) ?_
        refine lv_iload hx hb dX5_call_118 (lv_at hl 7 rfl) ?_
        refine lv_iconst (v := 1) hx hb dX5_call_120 kk_ic_1 ?_
        refine lv_iadd hx hb dX5_call_121 ?_
        obtain ⟨hPc, hDc, hFc⟩ := kk_cutout (wc := [(h0, kO5 h1 n0_size h2 (n0_ran + 1)), (h1, kAi cint 50 f1), (h2, kAi cint 24 f2)]) hP hD hS hA [0, 1, 2] (by decide) rfl
        have hKc := kk_Ks (tq := [(cint, .int)]) hK [0] rfl
        refine va_calli (va_runV (As := [.int p0, .int 2, .int p3, .int (p4 + 1)]) (rest := []) ⟨hx, hb, hml, hown, hts⟩ (g_X5_runLine_7 l dC dI h0 h1 h2 cint H.size p0 p3 (p4 + 1) (by show 0 ≤ ((p4 + 1) : Int32).toInt ∧ ((p4 + 1) : Int32).toInt ≤ 3; first | with_reducible assumption | (constructor <;> (have := kk_add2 (x := n0_ran) (y := 1) (a := n0_ran.toInt) (b := 1) rfl rfl (by omega) (by omega); have := kk_add2 (x := p4) (y := 1) (a := p4.toInt) (b := 1) rfl rfl (by omega) (by omega); omega))) n0_size (n0_ran + 1) f1 f2 tn0_size (by show 0 ≤ ((n0_ran + 1) : Int32).toInt ∧ ((n0_ran + 1) : Int32).toInt ≤ 983; first | with_reducible assumption | (constructor <;> (have := kk_add2 (x := n0_ran) (y := 1) (a := n0_ran.toInt) (b := 1) rfl rfl (by omega) (by omega); have := kk_add2 (x := p4) (y := 1) (a := p4.toInt) (b := 1) rfl rfl (by omega) (by omega); omega))) bf1 (by show (0 ≤ (p0 : Int32).toInt ∧ (p0 : Int32).toInt < (n0_size : Int32).toInt); first | with_reducible assumption | (have := kk_add2 (x := n0_ran) (y := 1) (a := n0_ran.toInt) (b := 1) rfl rfl (by omega) (by omega); have := kk_add2 (x := p4) (y := 1) (a := p4.toInt) (b := 1) rfl rfl (by omega) (by omega); omega)) aOWN_BODIES aABOVE) (cwV 4 hts gX5_call_X5_runLine rfl rfl rfl ⟨rfl, kh_X5_runLine⟩ ⟨Nat.le_of_ble_eq_true rfl, Nat.le_of_ble_eq_true rfl⟩) ⟨fun a U g mk q => by obtain ⟨q0, q1, qP, qK, qD, qx0, qx1, qx2, qx3⟩ := q; exact ⟨q0, q1, qP, va_K.moved (u := U) (U := U.calling g mk a) (Vm.Alike.refl U.vm) qK, qD, va_Z.moved (u := U) (U := U.calling g mk a) (Vm.Alike.refl U.vm) qx0, va_T.moved (u := U) (U := U.calling g mk a) (Vm.Alike.refl U.vm) qx1, va_Z.moved (u := U) (U := U.calling g mk a) (Vm.Alike.refl U.vm) qx2, va_T.moved (u := U) (U := U.calling g mk a) (Vm.Alike.refl U.vm) qx3⟩, va_recv hKc hPc (ci := 5) (q0 := 0) rfl rfl, fun U hU hW => ⟨rfl, by rw [hU], by rw [hU]; exact hPc, va_K.moved hW.alike hKc, hDc.weaken (fun _ _ _ _ => trivial), by rw [hU]; exact ((hZOWN_BODIES.kept (fun a h1 h2 => hS.2.1 a h1 h2)).narrow hFc).moved hW.alike, by rw [hU]; exact ((hTOWN_BODIES.kept (fun a h1 h2 => hS.2.1 a h1 h2)).narrow hFc).moved hW.alike, by rw [hU]; exact ((hZABOVE.kept (fun a h1 h2 => hS.2.1 a h1 h2)).narrow hFc).moved hW.alike, by rw [hU]; exact ((hTABOVE.kept (fun a h1 h2 => hS.2.1 a h1 h2)).narrow hFc).moved hW.alike⟩⟩ rfl rfl hl.1 rfl (lv_room (Nat.le_of_ble_eq_true rfl)) dX5_call_122 ⟨Nat.le_of_ble_eq_true rfl, Nat.le_of_ble_eq_true rfl⟩) hS (fun q _ h => hFc q h) hFc (fun r_31 u t H1 locs ht hvm hw hB hz1 hk1 hS => ?_)
        obtain ⟨y_32, f_33, by_32, v_33_0, hn_33_0, hP1, hK1, hD1⟩ := hB
        have v_33_0 : y_32.toInt ≤ (n0_ran + 1).toInt + 17 := v_33_0
        have hn_33_0 : kk_P f2 f_33 (n0_ran + 1).toInt y_32.toInt ((kt_tells (f1 (p0 : Int32).toNatClampNeg) 0).tail) := hn_33_0
        rw [ht] at hP1
        have hK1 := va_K.moved hvm.symm hK1
        obtain ⟨hP, hD⟩ := va_join (wr := []) (w1 := [(h0, kO5 h1 n0_size h2 y_32), (h1, kAi cint 50 f1), (h2, kAi cint 24 f_33)]) hP hD [0, 1, 2] [] rfl rfl (by decide) (by decide) hk1 hFc hP1 hD1
        generalize H1 = H at hP hS ⊢
        have hP : va_P (dC, dI) vwCl [(h0, kO5 h1 n0_size h2 y_32), (h1, kAi cint 50 f1), (h2, kAi cint 24 f_33)] H := hP
        have hD : va_D A [(h0, kO5 h1 n0_size h2 y_32), (h1, kAi cint 50 f1), (h2, kAi cint 24 f_33)] := hD
        rcases hw with ⟨t_31_0, _⟩
        · skip
          have t_31_0 : r_31 = kk_tells (f1 (p0 : Int32).toNatClampNeg) 0 p0 p3 := t_31_0
          obtain rfl : r_31 = (kk_tells (f1 (p0 : Int32).toNatClampNeg) 0 p0 p3) := t_31_0
          refine lv_goto (tgt := 143) hx hb dX5_call_125 (by decide) ?_
          obtain ⟨hP9, hD9⟩ := kk_leafout (wc := [(h0, kO5 h1 n0_size h2 y_32), (h1, kAi cint 50 f1), (h2, kAi cint 24 f_33)]) hP hD [0, 1, 2] (by decide) rfl
          have hK9 := kk_Ks (tq := []) hK [] rfl
          exact W.iret (v := (kk_tells (f1 (p0 : Int32).toNatClampNeg) 0 p0 p3)) hx hb hr (fun t ht hW => ⟨⟨(kk_tells (f1 (p0 : Int32).toNatClampNeg) 0 p0 p3), (), rfl, ⟨(by first | rfl | (unfold kk_tells; (repeat' split) <;> first | rfl | (exfalso; have : (0 : Int32).toInt = 0 := rfl; have : (1 : Int32).toInt = 1 := rfl; have : (2 : Int32).toInt = 2 := rfl; have : (3 : Int32).toInt = 3 := rfl; have : (4 : Int32).toInt = 4 := rfl; have : (5 : Int32).toInt = 5 := rfl; have : (6 : Int32).toInt = 6 := rfl; have : (7 : Int32).toInt = 7 := rfl; have := kk_add2 (x := n0_ran) (y := 1) (a := n0_ran.toInt) (b := 1) rfl rfl (by omega) (by omega); have := kk_add2 (x := p4) (y := 1) (a := p4.toInt) (b := 1) rfl rfl (by omega) (by omega); omega))), trivial⟩, y_32, f_33, (by show 1 ≤ (y_32 : Int32).toInt ∧ (y_32 : Int32).toInt ≤ 1000; first | with_reducible assumption | (constructor <;> (have := kk_add2 (x := n0_ran) (y := 1) (a := n0_ran.toInt) (b := 1) rfl rfl (by omega) (by omega); have := kk_add2 (x := p4) (y := 1) (a := p4.toInt) (b := 1) rfl rfl (by omega) (by omega); omega))), (by show (y_32 : Int32).toInt ≤ (n0_ran : Int32).toInt + 19; first | with_reducible assumption | (have := kk_add2 (x := n0_ran) (y := 1) (a := n0_ran.toInt) (b := 1) rfl rfl (by omega) (by omega); have := kk_add2 (x := p4) (y := 1) (a := p4.toInt) (b := 1) rfl rfl (by omega) (by omega); omega)), (by first | exact kk_P_eq (kk_P_trans hp_30 hn_33_0) rfl | (unfold kt_tells; (repeat' split) <;> first | exact kk_P_eq (kk_P_trans hp_30 hn_33_0) rfl | (exfalso; have : (0 : Int32).toInt = 0 := rfl; have : (1 : Int32).toInt = 1 := rfl; have : (2 : Int32).toInt = 2 := rfl; have : (3 : Int32).toInt = 3 := rfl; have : (4 : Int32).toInt = 4 := rfl; have : (5 : Int32).toInt = 5 := rfl; have : (6 : Int32).toInt = 6 := rfl; have : (7 : Int32).toInt = 7 := rfl; have := kk_add2 (x := n0_ran) (y := 1) (a := n0_ran.toInt) (b := 1) rfl rfl (by omega) (by omega); have := kk_add2 (x := p4) (y := 1) (a := p4.toInt) (b := 1) rfl rfl (by omega) (by omega); omega))), by rw [ht]; exact hP9, va_K.moved hW.alike hK9, hD9⟩, hS.F ht⟩) hS.2.2 dX5_call_143
      · have t_29 : n0_ran.toInt < 24 := kk_nle c_29
        refine lv_aload_n hx hb dX5_call_86 rfl (lv_at hl 2 rfl) ?_
        refine va_get (D := (dC, dI)) (ci := 5) (v := .ref h2) (C := RX5) (T := TX5) (N := 4) hx hb hts (fun _ h => List.mem_cons_of_mem _ (List.mem_append_right _ h)) hown hK hP 0 rfl rfl 2 (by decide) (hts (.fieldLink RX5 15 "KinkStreet$Lines" "trace" "[I") (List.mem_of_getElem? (i := 4) rfl)) (fun _ h9 => h9) rfl dX5_call_87 ?_
        refine lv_aload_n hx hb dX5_call_90 rfl (lv_at hl 2 rfl) ?_
        refine va_get (D := (dC, dI)) (ci := 5) (v := .int n0_ran) (C := RX5) (T := TX5) (N := 4) hx hb hts (fun _ h => List.mem_cons_of_mem _ (List.mem_append_right _ h)) hown hK hP 0 rfl rfl 3 (by decide) (hts (.fieldLink RX5 36 "KinkStreet$Lines" "ran" "I") (List.mem_of_getElem? (i := 3) rfl)) (fun _ h9 => h9) rfl dX5_call_91 ?_
        refine lv_iload hx hb dX5_call_94 (lv_at hl 0 rfl) ?_
        refine va_iast hx hb hK hP hD hS 2 0 rfl rfl (vp_in_iff.mpr ⟨by omega, by omega⟩) dX5_call_96 (fun H locs hP hD hS => ?_)
        have w_34 : ((upd f2 (n0_ran : Int32).toNatClampNeg 2) (n0_ran : Int32).toNatClampNeg).toInt = (2 : Int32).toInt := by rw [kk_ups]
        have hP : va_P (dC, dI) vwCl [(h0, kO5 h1 n0_size h2 n0_ran), (h1, kAi cint 50 f1), (h2, kAi cint 24 (upd f2 (n0_ran : Int32).toNatClampNeg 2))] H := hP
        have hD : va_D A [(h0, kO5 h1 n0_size h2 n0_ran), (h1, kAi cint 50 f1), (h2, kAi cint 24 (upd f2 (n0_ran : Int32).toNatClampNeg 2))] := hD
        refine lv_aload_n hx hb dX5_call_97 rfl (lv_at hl 2 rfl) ?_
        refine lv_dup hx hb dX5_call_98 rfl ?_
        refine va_get (D := (dC, dI)) (ci := 5) (v := .int n0_ran) (C := RX5) (T := TX5) (N := 4) hx hb hts (fun _ h => List.mem_cons_of_mem _ (List.mem_append_right _ h)) hown hK hP 0 rfl rfl 3 (by decide) (hts (.fieldLink RX5 36 "KinkStreet$Lines" "ran" "I") (List.mem_of_getElem? (i := 3) rfl)) (fun _ h9 => h9) rfl dX5_call_99 ?_
        refine lv_iconst (v := 1) hx hb dX5_call_102 kk_ic_1 ?_
        refine lv_iadd hx hb dX5_call_103 ?_
        refine va_put (D := (dC, dI)) (ci := 5) (v := .int (n0_ran + 1)) (ty := .int) (C := RX5) (T := TX5) (N := 4) hx hb hts (fun _ h => List.mem_cons_of_mem _ (List.mem_append_right _ h)) tyX5 tyX5_ok nmX5 hown hK hP hD hS 0 rfl rfl 3 (by decide) (hts (.fieldLink RX5 36 "KinkStreet$Lines" "ran" "I") (List.mem_of_getElem? (i := 3) rfl)) (fun _ h9 => h9) rfl (by decide +kernel) rfl rfl (Nat.le_of_ble_eq_true rfl) dX5_call_104 (fun H locs hP hD hS => ?_)
        have hP : va_P (dC, dI) vwCl [(h0, kO5 h1 n0_size h2 (n0_ran + 1)), (h1, kAi cint 50 f1), (h2, kAi cint 24 (upd f2 (n0_ran : Int32).toNatClampNeg 2))] H := hP
        have hD : va_D A [(h0, kO5 h1 n0_size h2 (n0_ran + 1)), (h1, kAi cint 50 f1), (h2, kAi cint 24 (upd f2 (n0_ran : Int32).toNatClampNeg 2))] := hD
        have hp_35 : kk_P f2 (upd f2 (n0_ran : Int32).toNatClampNeg 2) n0_ran.toInt (n0_ran + 1 : Int32).toInt [2] := kk_P_one (by have := kk_add2 (x := n0_ran) (y := 1) (a := n0_ran.toInt) (b := 1) rfl rfl (by omega) (by omega); omega) (by have := kk_add2 (x := n0_ran) (y := 1) (a := n0_ran.toInt) (b := 1) rfl rfl (by omega) (by omega); omega)
        refine lv_iload hx hb dX5_call_107 (lv_at hl 1 rfl) ?_
        refine lv_if_ne (tgt := 128) hx hb dX5_call_109 (by decide) (fun c => absurd c (by decide)) (fun _ => ?_)
        refine lv_aload_n hx hb dX5_call_112 rfl (lv_at hl 2 rfl) ?_
        refine lv_iload_n hx hb dX5_call_113 rfl (lv_at hl 3 rfl) ?_
        refine lv_iload hx hb dX5_call_114 (lv_at hl 0 rfl) ?_
        refine lv_iload hx hb dX5_call_116 (lv_at hl 6 rfl) ?_
        refine lv_iload hx hb dX5_call_118 (lv_at hl 7 rfl) ?_
        refine lv_iconst (v := 1) hx hb dX5_call_120 kk_ic_1 ?_
        refine lv_iadd hx hb dX5_call_121 ?_
        obtain ⟨hPc, hDc, hFc⟩ := kk_cutout (wc := [(h0, kO5 h1 n0_size h2 (n0_ran + 1)), (h1, kAi cint 50 f1), (h2, kAi cint 24 (upd f2 (n0_ran : Int32).toNatClampNeg 2))]) hP hD hS hA [0, 1, 2] (by decide) rfl
        have hKc := kk_Ks (tq := [(cint, .int)]) hK [0] rfl
        refine va_calli (va_runV (As := [.int p0, .int 2, .int p3, .int (p4 + 1)]) (rest := []) ⟨hx, hb, hml, hown, hts⟩ (g_X5_runLine_7 l dC dI h0 h1 h2 cint H.size p0 p3 (p4 + 1) (by show 0 ≤ ((p4 + 1) : Int32).toInt ∧ ((p4 + 1) : Int32).toInt ≤ 3; first | with_reducible assumption | (constructor <;> (have := kk_add2 (x := n0_ran) (y := 1) (a := n0_ran.toInt) (b := 1) rfl rfl (by omega) (by omega); have := kk_add2 (x := p4) (y := 1) (a := p4.toInt) (b := 1) rfl rfl (by omega) (by omega); omega))) n0_size (n0_ran + 1) f1 (upd f2 (n0_ran : Int32).toNatClampNeg 2) tn0_size (by show 0 ≤ ((n0_ran + 1) : Int32).toInt ∧ ((n0_ran + 1) : Int32).toInt ≤ 983; first | with_reducible assumption | (constructor <;> (have := kk_add2 (x := n0_ran) (y := 1) (a := n0_ran.toInt) (b := 1) rfl rfl (by omega) (by omega); have := kk_add2 (x := p4) (y := 1) (a := p4.toInt) (b := 1) rfl rfl (by omega) (by omega); omega))) bf1 (by show (0 ≤ (p0 : Int32).toInt ∧ (p0 : Int32).toInt < (n0_size : Int32).toInt); first | with_reducible assumption | (have := kk_add2 (x := n0_ran) (y := 1) (a := n0_ran.toInt) (b := 1) rfl rfl (by omega) (by omega); have := kk_add2 (x := p4) (y := 1) (a := p4.toInt) (b := 1) rfl rfl (by omega) (by omega); omega)) aOWN_BODIES aABOVE) (cwV 4 hts gX5_call_X5_runLine rfl rfl rfl ⟨rfl, kh_X5_runLine⟩ ⟨Nat.le_of_ble_eq_true rfl, Nat.le_of_ble_eq_true rfl⟩) ⟨fun a U g mk q => by obtain ⟨q0, q1, qP, qK, qD, qx0, qx1, qx2, qx3⟩ := q; exact ⟨q0, q1, qP, va_K.moved (u := U) (U := U.calling g mk a) (Vm.Alike.refl U.vm) qK, qD, va_Z.moved (u := U) (U := U.calling g mk a) (Vm.Alike.refl U.vm) qx0, va_T.moved (u := U) (U := U.calling g mk a) (Vm.Alike.refl U.vm) qx1, va_Z.moved (u := U) (U := U.calling g mk a) (Vm.Alike.refl U.vm) qx2, va_T.moved (u := U) (U := U.calling g mk a) (Vm.Alike.refl U.vm) qx3⟩, va_recv hKc hPc (ci := 5) (q0 := 0) rfl rfl, fun U hU hW => ⟨rfl, by rw [hU], by rw [hU]; exact hPc, va_K.moved hW.alike hKc, hDc.weaken (fun _ _ _ _ => trivial), by rw [hU]; exact ((hZOWN_BODIES.kept (fun a h1 h2 => hS.2.1 a h1 h2)).narrow hFc).moved hW.alike, by rw [hU]; exact ((hTOWN_BODIES.kept (fun a h1 h2 => hS.2.1 a h1 h2)).narrow hFc).moved hW.alike, by rw [hU]; exact ((hZABOVE.kept (fun a h1 h2 => hS.2.1 a h1 h2)).narrow hFc).moved hW.alike, by rw [hU]; exact ((hTABOVE.kept (fun a h1 h2 => hS.2.1 a h1 h2)).narrow hFc).moved hW.alike⟩⟩ rfl rfl hl.1 rfl (lv_room (Nat.le_of_ble_eq_true rfl)) dX5_call_122 ⟨Nat.le_of_ble_eq_true rfl, Nat.le_of_ble_eq_true rfl⟩) hS (fun q _ h => hFc q h) hFc (fun r_36 u t H1 locs ht hvm hw hB hz1 hk1 hS => ?_)
        obtain ⟨y_37, f_38, by_37, v_38_0, hn_38_0, hP1, hK1, hD1⟩ := hB
        have v_38_0 : y_37.toInt ≤ (n0_ran + 1).toInt + 17 := v_38_0
        have hn_38_0 : kk_P (upd f2 (n0_ran : Int32).toNatClampNeg 2) f_38 (n0_ran + 1).toInt y_37.toInt ((kt_tells (f1 (p0 : Int32).toNatClampNeg) 0).tail) := hn_38_0
        rw [ht] at hP1
        have hK1 := va_K.moved hvm.symm hK1
        obtain ⟨hP, hD⟩ := va_join (wr := []) (w1 := [(h0, kO5 h1 n0_size h2 y_37), (h1, kAi cint 50 f1), (h2, kAi cint 24 f_38)]) hP hD [0, 1, 2] [] rfl rfl (by decide) (by decide) hk1 hFc hP1 hD1
        generalize H1 = H at hP hS ⊢
        have hP : va_P (dC, dI) vwCl [(h0, kO5 h1 n0_size h2 y_37), (h1, kAi cint 50 f1), (h2, kAi cint 24 f_38)] H := hP
        have hD : va_D A [(h0, kO5 h1 n0_size h2 y_37), (h1, kAi cint 50 f1), (h2, kAi cint 24 f_38)] := hD
        rcases hw with ⟨t_36_0, _⟩
        · skip
          have t_36_0 : r_36 = kk_tells (f1 (p0 : Int32).toNatClampNeg) 0 p0 p3 := t_36_0
          obtain rfl : r_36 = (kk_tells (f1 (p0 : Int32).toNatClampNeg) 0 p0 p3) := t_36_0
          refine lv_goto (tgt := 143) hx hb dX5_call_125 (by decide) ?_
          obtain ⟨hP9, hD9⟩ := kk_leafout (wc := [(h0, kO5 h1 n0_size h2 y_37), (h1, kAi cint 50 f1), (h2, kAi cint 24 f_38)]) hP hD [0, 1, 2] (by decide) rfl
          have hK9 := kk_Ks (tq := []) hK [] rfl
          exact W.iret (v := (kk_tells (f1 (p0 : Int32).toNatClampNeg) 0 p0 p3)) hx hb hr (fun t ht hW => ⟨⟨(kk_tells (f1 (p0 : Int32).toNatClampNeg) 0 p0 p3), (), rfl, ⟨(by first | rfl | (unfold kk_tells; (repeat' split) <;> first | rfl | (exfalso; have : (0 : Int32).toInt = 0 := rfl; have : (1 : Int32).toInt = 1 := rfl; have : (2 : Int32).toInt = 2 := rfl; have : (3 : Int32).toInt = 3 := rfl; have : (4 : Int32).toInt = 4 := rfl; have : (5 : Int32).toInt = 5 := rfl; have : (6 : Int32).toInt = 6 := rfl; have : (7 : Int32).toInt = 7 := rfl; have := kk_add2 (x := n0_ran) (y := 1) (a := n0_ran.toInt) (b := 1) rfl rfl (by omega) (by omega); have := kk_add2 (x := p4) (y := 1) (a := p4.toInt) (b := 1) rfl rfl (by omega) (by omega); omega))), trivial⟩, y_37, f_38, (by show 1 ≤ (y_37 : Int32).toInt ∧ (y_37 : Int32).toInt ≤ 1000; first | with_reducible assumption | (constructor <;> (have := kk_add2 (x := n0_ran) (y := 1) (a := n0_ran.toInt) (b := 1) rfl rfl (by omega) (by omega); have := kk_add2 (x := p4) (y := 1) (a := p4.toInt) (b := 1) rfl rfl (by omega) (by omega); omega))), (by show (y_37 : Int32).toInt ≤ (n0_ran : Int32).toInt + 19; first | with_reducible assumption | (have := kk_add2 (x := n0_ran) (y := 1) (a := n0_ran.toInt) (b := 1) rfl rfl (by omega) (by omega); have := kk_add2 (x := p4) (y := 1) (a := p4.toInt) (b := 1) rfl rfl (by omega) (by omega); omega)), (by first | exact kk_P_eq (kk_P_trans hp_35 hn_38_0) rfl | (unfold kt_tells; (repeat' split) <;> first | exact kk_P_eq (kk_P_trans hp_35 hn_38_0) rfl | (exfalso; have : (0 : Int32).toInt = 0 := rfl; have : (1 : Int32).toInt = 1 := rfl; have : (2 : Int32).toInt = 2 := rfl; have : (3 : Int32).toInt = 3 := rfl; have : (4 : Int32).toInt = 4 := rfl; have : (5 : Int32).toInt = 5 := rfl; have : (6 : Int32).toInt = 6 := rfl; have : (7 : Int32).toInt = 7 := rfl; have := kk_add2 (x := n0_ran) (y := 1) (a := n0_ran.toInt) (b := 1) rfl rfl (by omega) (by omega); have := kk_add2 (x := p4) (y := 1) (a := p4.toInt) (b := 1) rfl rfl (by omega) (by omega); omega))), by rw [ht]; exact hP9, va_K.moved hW.alike hK9, hD9⟩, hS.F ht⟩) hS.2.2 dX5_call_143
    · have t_26 : 40 < p4.toInt := kk_nle c_26
      exfalso; omega
  · have t_1 : p1.toInt = 2 := by rw [e_1]; rfl
    subst e_1
    refine lv_iload_n hx hb dX5_call_0 rfl (lv_at hl 2 rfl) ?_
    refine lv_istore hx hb dX5_call_1 hl (by decide) (rfl : _ = ([(6, .int 2), (0, .ref h0), (1, .int p0), (2, .int 2), (3, .int 3), (4, .int p3), (5, .int p4)] : List (Nat × Value))) (fun ls hl => ?_)
    refine lv_iconst (v := 0) hx hb dX5_call_3 kk_ic_0 ?_
    refine lv_istore hx hb dX5_call_4 hl (by decide) (rfl : _ = ([(7, .int 0), (6, .int 2), (0, .ref h0), (1, .int p0), (2, .int 2), (3, .int 3), (4, .int p3), (5, .int p4)] : List (Nat × Value))) (fun ls hl => ?_)
    refine lv_iload hx hb dX5_call_6 (lv_at hl 0 rfl) ?_
    refine lv_bipush (v := 8) hx hb dX5_call_8 kk_bi_8 ?_
    refine lv_icmp_ge (tgt := 48) hx hb dX5_call_10 (by decide) (fun c => absurd c (by decide)) (fun _ => ?_)
    refine lv_iload hx hb dX5_call_13 (lv_at hl 1 rfl) ?_
    obtain ⟨hPc, hDc, hFc⟩ := kk_cutout (wc := []) hP hD hS hA [] (by decide) rfl
    have hKc := kk_Ks (tq := []) hK [] rfl
    refine va_calli (va_runS (As := [.int 2]) (rest := []) ⟨hx, hb, hml, hown, hts⟩ (g_X5_isKind_13 l dC dI s.heap.size) (va_cwS 1 hts gX5_call_X5_isKind rfl rfl rfl kh_X5_isKind ⟨Nat.le_of_ble_eq_true rfl, Nat.le_of_ble_eq_true rfl⟩) ⟨fun a U g mk q => by obtain ⟨q0, q1, qP, qK, qD⟩ := q; exact ⟨q0, q1, qP, va_K.moved (u := U) (U := U.calling g mk a) (Vm.Alike.refl U.vm) qK, qD⟩, fun U hU hW => ⟨rfl, by rw [hU], by rw [hU]; exact hPc, va_K.moved hW.alike hKc, hDc.weaken (fun _ _ _ _ => trivial)⟩⟩ rfl rfl hl.1 rfl (lv_room (Nat.le_of_ble_eq_true rfl)) dX5_call_15 ⟨Nat.le_of_ble_eq_true rfl, Nat.le_of_ble_eq_true rfl⟩) hS (fun q _ h => hFc q h) hFc (fun r_39 u t H1 locs ht hvm hw hB hz1 hk1 hS => ?_)
    obtain ⟨hP1, hK1, hD1⟩ := hB
    rw [ht] at hP1
    have hK1 := va_K.moved hvm.symm hK1
    obtain ⟨hP, hD⟩ := va_join (wr := [(h0, kO5 h1 n0_size h2 n0_ran), (h1, kAi cint 50 f1), (h2, kAi cint 24 f2)]) (w1 := []) hP hD [] [0, 1, 2] rfl rfl (by decide) (by decide) hk1 hFc hP1 hD1
    generalize H1 = H at hP hS ⊢
    have hP : va_P (dC, dI) vwCl [(h0, kO5 h1 n0_size h2 n0_ran), (h1, kAi cint 50 f1), (h2, kAi cint 24 f2)] H := hP
    have hD : va_D A [(h0, kO5 h1 n0_size h2 n0_ran), (h1, kAi cint 50 f1), (h2, kAi cint 24 f2)] := hD
    obtain rfl := hw
    refine lv_if_eq (tgt := 48) hx hb dX5_call_18 (by decide) (fun c => absurd c (by decide)) (fun _ => ?_)
    refine va_gets hx hb hZOWN_BODIES hS hown (hts (.fieldLink RX5 43 "KinkStreet$Lines" "OWN_BODIES" "[I") (List.mem_of_getElem? (i := 1) rfl)) (fun _ h9 => h9) dX5_call_21 ?_
    refine lv_iload hx hb dX5_call_24 (lv_at hl 1 rfl) ?_
    refine lv_iconst (v := 4) hx hb dX5_call_26 kk_ic_4 ?_
    refine lv_imul hx hb dX5_call_27 ?_
    refine lv_topi (fun y_40 e_40 => ?_)
    obtain rfl : y_40 = 8 := e_40.trans (by decide)
    refine lv_iload_n hx hb dX5_call_28 rfl (lv_at hl 5 rfl) ?_
    refine lv_iadd hx hb dX5_call_29 ?_
    refine lv_topi (fun y_41 e_41 => ?_)
    obtain rfl : y_41 = 11 := e_41.trans (by decide)
    refine va_ti (v := .int 0) hx hb hTOWN_BODIES hS (by unfold vp_in; decide) rfl dX5_call_30 ?_
    refine lv_if_ne (tgt := 48) hx hb dX5_call_31 (by decide) (fun c => absurd c (by decide)) (fun _ => ?_)
    refine va_gets hx hb hZABOVE hS hown (hts (.fieldLink RX5 22 "KinkStreet$Lines" "ABOVE" "[I") (List.mem_of_getElem? (i := 2) rfl)) (fun _ h9 => h9) dX5_call_34 ?_
    refine lv_iload hx hb dX5_call_37 (lv_at hl 1 rfl) ?_
    refine va_ti (v := .int 0) hx hb hTABOVE hS (by unfold vp_in; decide) rfl dX5_call_39 ?_
    refine lv_istore hx hb dX5_call_40 hl (by decide) (rfl : _ = ([(6, .int 0), (7, .int 0), (0, .ref h0), (1, .int p0), (2, .int 2), (3, .int 3), (4, .int p3), (5, .int p4)] : List (Nat × Value))) (fun ls hl => ?_)
    refine lv_iinc (v := 1) hx hb dX5_call_42 hl (k := 1) rfl (by first | rfl | decide) (by decide) (rfl : _ = ([(7, .int 1), (6, .int 0), (0, .ref h0), (1, .int p0), (2, .int 2), (3, .int 3), (4, .int p3), (5, .int p4)] : List (Nat × Value))) (fun ls hl => ?_)
    refine lv_goto (tgt := 6) hx hb dX5_call_45 (by decide) ?_
    refine lv_iload hx hb dX5_call_6 (lv_at hl 0 rfl) ?_
    refine lv_bipush (v := 8) hx hb dX5_call_8 kk_bi_8 ?_
    refine lv_icmp_ge (tgt := 48) hx hb dX5_call_10 (by decide) (fun c => absurd c (by decide)) (fun _ => ?_)
    refine lv_iload hx hb dX5_call_13 (lv_at hl 1 rfl) ?_
    obtain ⟨hPc, hDc, hFc⟩ := kk_cutout (wc := []) hP hD hS hA [] (by decide) rfl
    have hKc := kk_Ks (tq := []) hK [] rfl
    refine va_calli (va_runS (As := [.int 0]) (rest := []) ⟨hx, hb, hml, hown, hts⟩ (g_X5_isKind_11 l dC dI H.size) (va_cwS 1 hts gX5_call_X5_isKind rfl rfl rfl kh_X5_isKind ⟨Nat.le_of_ble_eq_true rfl, Nat.le_of_ble_eq_true rfl⟩) ⟨fun a U g mk q => by obtain ⟨q0, q1, qP, qK, qD⟩ := q; exact ⟨q0, q1, qP, va_K.moved (u := U) (U := U.calling g mk a) (Vm.Alike.refl U.vm) qK, qD⟩, fun U hU hW => ⟨rfl, by rw [hU], by rw [hU]; exact hPc, va_K.moved hW.alike hKc, hDc.weaken (fun _ _ _ _ => trivial)⟩⟩ rfl rfl hl.1 rfl (lv_room (Nat.le_of_ble_eq_true rfl)) dX5_call_15 ⟨Nat.le_of_ble_eq_true rfl, Nat.le_of_ble_eq_true rfl⟩) hS (fun q _ h => hFc q h) hFc (fun r_42 u t H1 locs ht hvm hw hB hz1 hk1 hS => ?_)
    obtain ⟨hP1, hK1, hD1⟩ := hB
    rw [ht] at hP1
    have hK1 := va_K.moved hvm.symm hK1
    obtain ⟨hP, hD⟩ := va_join (wr := [(h0, kO5 h1 n0_size h2 n0_ran), (h1, kAi cint 50 f1), (h2, kAi cint 24 f2)]) (w1 := []) hP hD [] [0, 1, 2] rfl rfl (by decide) (by decide) hk1 hFc hP1 hD1
    generalize H1 = H at hP hS ⊢
    have hP : va_P (dC, dI) vwCl [(h0, kO5 h1 n0_size h2 n0_ran), (h1, kAi cint 50 f1), (h2, kAi cint 24 f2)] H := hP
    have hD : va_D A [(h0, kO5 h1 n0_size h2 n0_ran), (h1, kAi cint 50 f1), (h2, kAi cint 24 f2)] := hD
    obtain rfl := hw
    refine lv_if_eq (tgt := 48) hx hb dX5_call_18 (by decide) (fun c => absurd c (by decide)) (fun _ => ?_)
    refine va_gets hx hb hZOWN_BODIES hS hown (hts (.fieldLink RX5 43 "KinkStreet$Lines" "OWN_BODIES" "[I") (List.mem_of_getElem? (i := 1) rfl)) (fun _ h9 => h9) dX5_call_21 ?_
    refine lv_iload hx hb dX5_call_24 (lv_at hl 1 rfl) ?_
    refine lv_iconst (v := 4) hx hb dX5_call_26 kk_ic_4 ?_
    refine lv_imul hx hb dX5_call_27 ?_
    refine lv_topi (fun y_43 e_43 => ?_)
    obtain rfl : y_43 = 0 := e_43.trans (by decide)
    refine lv_iload_n hx hb dX5_call_28 rfl (lv_at hl 5 rfl) ?_
    refine lv_iadd hx hb dX5_call_29 ?_
    refine lv_topi (fun y_44 e_44 => ?_)
    obtain rfl : y_44 = 3 := e_44.trans (by decide)
    refine va_ti (v := .int 2) hx hb hTOWN_BODIES hS (by unfold vp_in; decide) rfl dX5_call_30 ?_
    refine lv_if_ne (tgt := 48) hx hb dX5_call_31 (by decide) (fun _ => ?_) (fun c => absurd c (by decide))
    refine lv_iload hx hb dX5_call_48 (lv_at hl 1 rfl) ?_
    obtain ⟨hPc, hDc, hFc⟩ := kk_cutout (wc := []) hP hD hS hA [] (by decide) rfl
    have hKc := kk_Ks (tq := []) hK [] rfl
    refine va_calli (va_runS (As := [.int 0]) (rest := []) ⟨hx, hb, hml, hown, hts⟩ (g_X5_isKind_11 l dC dI H.size) (va_cwS 1 hts gX5_call_X5_isKind rfl rfl rfl kh_X5_isKind ⟨Nat.le_of_ble_eq_true rfl, Nat.le_of_ble_eq_true rfl⟩) ⟨fun a U g mk q => by obtain ⟨q0, q1, qP, qK, qD⟩ := q; exact ⟨q0, q1, qP, va_K.moved (u := U) (U := U.calling g mk a) (Vm.Alike.refl U.vm) qK, qD⟩, fun U hU hW => ⟨rfl, by rw [hU], by rw [hU]; exact hPc, va_K.moved hW.alike hKc, hDc.weaken (fun _ _ _ _ => trivial)⟩⟩ rfl rfl hl.1 rfl (lv_room (Nat.le_of_ble_eq_true rfl)) dX5_call_50 ⟨Nat.le_of_ble_eq_true rfl, Nat.le_of_ble_eq_true rfl⟩) hS (fun q _ h => hFc q h) hFc (fun r_45 u t H1 locs ht hvm hw hB hz1 hk1 hS => ?_)
    obtain ⟨hP1, hK1, hD1⟩ := hB
    rw [ht] at hP1
    have hK1 := va_K.moved hvm.symm hK1
    obtain ⟨hP, hD⟩ := va_join (wr := [(h0, kO5 h1 n0_size h2 n0_ran), (h1, kAi cint 50 f1), (h2, kAi cint 24 f2)]) (w1 := []) hP hD [] [0, 1, 2] rfl rfl (by decide) (by decide) hk1 hFc hP1 hD1
    generalize H1 = H at hP hS ⊢
    have hP : va_P (dC, dI) vwCl [(h0, kO5 h1 n0_size h2 n0_ran), (h1, kAi cint 50 f1), (h2, kAi cint 24 f2)] H := hP
    have hD : va_D A [(h0, kO5 h1 n0_size h2 n0_ran), (h1, kAi cint 50 f1), (h2, kAi cint 24 f2)] := hD
    obtain rfl := hw
    refine lv_if_eq (tgt := 63) hx hb dX5_call_53 (by decide) (fun c => absurd c (by decide)) (fun _ => ?_)
    refine lv_iload hx hb dX5_call_56 (lv_at hl 7 rfl) ?_
    refine lv_bipush (v := 40) hx hb dX5_call_58 kk_bi_40 ?_
    refine lv_icmp_le (tgt := 65) hx hb dX5_call_60 (by decide) (fun c_46 => ?_) (fun c_46 => ?_)
    · have t_46 : p4.toInt ≤ 40 := kk_le c_46
      refine va_gets hx hb hZOWN_BODIES hS hown (hts (.fieldLink RX5 43 "KinkStreet$Lines" "OWN_BODIES" "[I") (List.mem_of_getElem? (i := 1) rfl)) (fun _ h9 => h9) dX5_call_65 ?_
      refine lv_iload hx hb dX5_call_68 (lv_at hl 1 rfl) ?_
      refine lv_iconst (v := 4) hx hb dX5_call_70 kk_ic_4 ?_
      refine lv_imul hx hb dX5_call_71 ?_
      refine lv_topi (fun y_47 e_47 => ?_)
      obtain rfl : y_47 = 0 := e_47.trans (by decide)
      refine lv_iload_n hx hb dX5_call_72 rfl (lv_at hl 5 rfl) ?_
      refine lv_iadd hx hb dX5_call_73 ?_
      refine lv_topi (fun y_48 e_48 => ?_)
      obtain rfl : y_48 = 3 := e_48.trans (by decide)
      refine va_ti (v := .int 2) hx hb hTOWN_BODIES hS (by unfold vp_in; decide) rfl dX5_call_74 ?_
      refine lv_istore hx hb dX5_call_75 hl (by decide) (rfl : _ = ([(7, .int 2), (6, .int 0), (0, .ref h0), (1, .int p0), (2, .int 2), (3, .int 3), (4, .int p3), (5, .int p4)] : List (Nat × Value))) (fun ls hl => ?_)
      refine lv_aload_n hx hb dX5_call_77 rfl (lv_at hl 2 rfl) ?_
      refine va_get (D := (dC, dI)) (ci := 5) (v := .int n0_ran) (C := RX5) (T := TX5) (N := 4) hx hb hts (fun _ h => List.mem_cons_of_mem _ (List.mem_append_right _ h)) hown hK hP 0 rfl rfl 3 (by decide) (hts (.fieldLink RX5 36 "KinkStreet$Lines" "ran" "I") (List.mem_of_getElem? (i := 3) rfl)) (fun _ h9 => h9) rfl dX5_call_78 ?_
      refine lv_bipush (v := 24) hx hb dX5_call_81 kk_bi_24 ?_
      refine lv_icmp_ge (tgt := 97) hx hb dX5_call_83 (by decide) (fun c_49 => ?_) (fun c_49 => ?_)
      · have t_49 : 24 ≤ n0_ran.toInt := kk_le c_49
        refine lv_aload_n hx hb dX5_call_97 rfl (lv_at hl 2 rfl) ?_
        refine lv_dup hx hb dX5_call_98 rfl ?_
        refine va_get (D := (dC, dI)) (ci := 5) (v := .int n0_ran) (C := RX5) (T := TX5) (N := 4) hx hb hts (fun _ h => List.mem_cons_of_mem _ (List.mem_append_right _ h)) hown hK hP 0 rfl rfl 3 (by decide) (hts (.fieldLink RX5 36 "KinkStreet$Lines" "ran" "I") (List.mem_of_getElem? (i := 3) rfl)) (fun _ h9 => h9) rfl dX5_call_99 ?_
        refine lv_iconst (v := 1) hx hb dX5_call_102 kk_ic_1 ?_
        refine lv_iadd hx hb dX5_call_103 ?_
        refine va_put (D := (dC, dI)) (ci := 5) (v := .int (n0_ran + 1)) (ty := .int) (C := RX5) (T := TX5) (N := 4) hx hb hts (fun _ h => List.mem_cons_of_mem _ (List.mem_append_right _ h)) tyX5 tyX5_ok nmX5 hown hK hP hD hS 0 rfl rfl 3 (by decide) (hts (.fieldLink RX5 36 "KinkStreet$Lines" "ran" "I") (List.mem_of_getElem? (i := 3) rfl)) (fun _ h9 => h9) rfl (by decide +kernel) rfl rfl (Nat.le_of_ble_eq_true rfl) dX5_call_104 (fun H locs hP hD hS => ?_)
        have hP : va_P (dC, dI) vwCl [(h0, kO5 h1 n0_size h2 (n0_ran + 1)), (h1, kAi cint 50 f1), (h2, kAi cint 24 f2)] H := hP
        have hD : va_D A [(h0, kO5 h1 n0_size h2 (n0_ran + 1)), (h1, kAi cint 50 f1), (h2, kAi cint 24 f2)] := hD
        have hp_50 : kk_P f2 f2 n0_ran.toInt (n0_ran + 1 : Int32).toInt [2] := kk_P_out (by have := kk_add2 (x := n0_ran) (y := 1) (a := n0_ran.toInt) (b := 1) rfl rfl (by omega) (by omega); omega) (by have := kk_add2 (x := n0_ran) (y := 1) (a := n0_ran.toInt) (b := 1) rfl rfl (by omega) (by omega); omega)
        refine lv_iload hx hb dX5_call_107 (lv_at hl 1 rfl) ?_
        refine lv_if_ne (tgt := 128) hx hb dX5_call_109 (by decide) (fun c => absurd c (by decide)) (fun _ => ?_)
        refine lv_aload_n hx hb dX5_call_112 rfl (lv_at hl 2 rfl) ?_
        refine lv_iload_n hx hb dX5_call_113 rfl (lv_at hl 3 rfl) ?_
        refine lv_iload hx hb dX5_call_114 (lv_at hl 0 rfl) ?_
        refine lv_iload hx hb dX5_call_116 (lv_at hl 6 rfl) ?_
        refine lv_iload hx hb dX5_call_118 (lv_at hl 7 rfl) ?_
        refine lv_iconst (v := 1) hx hb dX5_call_120 kk_ic_1 ?_
        refine lv_iadd hx hb dX5_call_121 ?_
        obtain ⟨hPc, hDc, hFc⟩ := kk_cutout (wc := [(h0, kO5 h1 n0_size h2 (n0_ran + 1)), (h1, kAi cint 50 f1), (h2, kAi cint 24 f2)]) hP hD hS hA [0, 1, 2] (by decide) rfl
        have hKc := kk_Ks (tq := [(cint, .int)]) hK [0] rfl
        refine va_calli (va_runV (As := [.int p0, .int 2, .int p3, .int (p4 + 1)]) (rest := []) ⟨hx, hb, hml, hown, hts⟩ (g_X5_runLine_7 l dC dI h0 h1 h2 cint H.size p0 p3 (p4 + 1) (by show 0 ≤ ((p4 + 1) : Int32).toInt ∧ ((p4 + 1) : Int32).toInt ≤ 3; first | with_reducible assumption | (constructor <;> (have := kk_add2 (x := n0_ran) (y := 1) (a := n0_ran.toInt) (b := 1) rfl rfl (by omega) (by omega); have := kk_add2 (x := p4) (y := 1) (a := p4.toInt) (b := 1) rfl rfl (by omega) (by omega); omega))) n0_size (n0_ran + 1) f1 f2 tn0_size (by show 0 ≤ ((n0_ran + 1) : Int32).toInt ∧ ((n0_ran + 1) : Int32).toInt ≤ 983; first | with_reducible assumption | (constructor <;> (have := kk_add2 (x := n0_ran) (y := 1) (a := n0_ran.toInt) (b := 1) rfl rfl (by omega) (by omega); have := kk_add2 (x := p4) (y := 1) (a := p4.toInt) (b := 1) rfl rfl (by omega) (by omega); omega))) bf1 (by show (0 ≤ (p0 : Int32).toInt ∧ (p0 : Int32).toInt < (n0_size : Int32).toInt); first | with_reducible assumption | (have := kk_add2 (x := n0_ran) (y := 1) (a := n0_ran.toInt) (b := 1) rfl rfl (by omega) (by omega); have := kk_add2 (x := p4) (y := 1) (a := p4.toInt) (b := 1) rfl rfl (by omega) (by omega); omega)) aOWN_BODIES aABOVE) (cwV 4 hts gX5_call_X5_runLine rfl rfl rfl ⟨rfl, kh_X5_runLine⟩ ⟨Nat.le_of_ble_eq_true rfl, Nat.le_of_ble_eq_true rfl⟩) ⟨fun a U g mk q => by obtain ⟨q0, q1, qP, qK, qD, qx0, qx1, qx2, qx3⟩ := q; exact ⟨q0, q1, qP, va_K.moved (u := U) (U := U.calling g mk a) (Vm.Alike.refl U.vm) qK, qD, va_Z.moved (u := U) (U := U.calling g mk a) (Vm.Alike.refl U.vm) qx0, va_T.moved (u := U) (U := U.calling g mk a) (Vm.Alike.refl U.vm) qx1, va_Z.moved (u := U) (U := U.calling g mk a) (Vm.Alike.refl U.vm) qx2, va_T.moved (u := U) (U := U.calling g mk a) (Vm.Alike.refl U.vm) qx3⟩, va_recv hKc hPc (ci := 5) (q0 := 0) rfl rfl, fun U hU hW => ⟨rfl, by rw [hU], by rw [hU]; exact hPc, va_K.moved hW.alike hKc, hDc.weaken (fun _ _ _ _ => trivial), by rw [hU]; exact ((hZOWN_BODIES.kept (fun a h1 h2 => hS.2.1 a h1 h2)).narrow hFc).moved hW.alike, by rw [hU]; exact ((hTOWN_BODIES.kept (fun a h1 h2 => hS.2.1 a h1 h2)).narrow hFc).moved hW.alike, by rw [hU]; exact ((hZABOVE.kept (fun a h1 h2 => hS.2.1 a h1 h2)).narrow hFc).moved hW.alike, by rw [hU]; exact ((hTABOVE.kept (fun a h1 h2 => hS.2.1 a h1 h2)).narrow hFc).moved hW.alike⟩⟩ rfl rfl hl.1 rfl (lv_room (Nat.le_of_ble_eq_true rfl)) dX5_call_122 ⟨Nat.le_of_ble_eq_true rfl, Nat.le_of_ble_eq_true rfl⟩) hS (fun q _ h => hFc q h) hFc (fun r_51 u t H1 locs ht hvm hw hB hz1 hk1 hS => ?_)
        obtain ⟨y_52, f_53, by_52, v_53_0, hn_53_0, hP1, hK1, hD1⟩ := hB
        have v_53_0 : y_52.toInt ≤ (n0_ran + 1).toInt + 17 := v_53_0
        have hn_53_0 : kk_P f2 f_53 (n0_ran + 1).toInt y_52.toInt ((kt_tells (f1 (p0 : Int32).toNatClampNeg) 0).tail) := hn_53_0
        rw [ht] at hP1
        have hK1 := va_K.moved hvm.symm hK1
        obtain ⟨hP, hD⟩ := va_join (wr := []) (w1 := [(h0, kO5 h1 n0_size h2 y_52), (h1, kAi cint 50 f1), (h2, kAi cint 24 f_53)]) hP hD [0, 1, 2] [] rfl rfl (by decide) (by decide) hk1 hFc hP1 hD1
        generalize H1 = H at hP hS ⊢
        have hP : va_P (dC, dI) vwCl [(h0, kO5 h1 n0_size h2 y_52), (h1, kAi cint 50 f1), (h2, kAi cint 24 f_53)] H := hP
        have hD : va_D A [(h0, kO5 h1 n0_size h2 y_52), (h1, kAi cint 50 f1), (h2, kAi cint 24 f_53)] := hD
        rcases hw with ⟨t_51_0, _⟩
        · skip
          have t_51_0 : r_51 = kk_tells (f1 (p0 : Int32).toNatClampNeg) 0 p0 p3 := t_51_0
          obtain rfl : r_51 = (kk_tells (f1 (p0 : Int32).toNatClampNeg) 0 p0 p3) := t_51_0
          refine lv_goto (tgt := 143) hx hb dX5_call_125 (by decide) ?_
          obtain ⟨hP9, hD9⟩ := kk_leafout (wc := [(h0, kO5 h1 n0_size h2 y_52), (h1, kAi cint 50 f1), (h2, kAi cint 24 f_53)]) hP hD [0, 1, 2] (by decide) rfl
          have hK9 := kk_Ks (tq := []) hK [] rfl
          exact W.iret (v := (kk_tells (f1 (p0 : Int32).toNatClampNeg) 0 p0 p3)) hx hb hr (fun t ht hW => ⟨⟨(kk_tells (f1 (p0 : Int32).toNatClampNeg) 0 p0 p3), (), rfl, ⟨(by first | rfl | (unfold kk_tells; (repeat' split) <;> first | rfl | (exfalso; have : (0 : Int32).toInt = 0 := rfl; have : (1 : Int32).toInt = 1 := rfl; have : (2 : Int32).toInt = 2 := rfl; have : (3 : Int32).toInt = 3 := rfl; have : (4 : Int32).toInt = 4 := rfl; have : (5 : Int32).toInt = 5 := rfl; have : (6 : Int32).toInt = 6 := rfl; have : (7 : Int32).toInt = 7 := rfl; have := kk_add2 (x := n0_ran) (y := 1) (a := n0_ran.toInt) (b := 1) rfl rfl (by omega) (by omega); have := kk_add2 (x := p4) (y := 1) (a := p4.toInt) (b := 1) rfl rfl (by omega) (by omega); omega))), trivial⟩, y_52, f_53, (by show 1 ≤ (y_52 : Int32).toInt ∧ (y_52 : Int32).toInt ≤ 1000; first | with_reducible assumption | (constructor <;> (have := kk_add2 (x := n0_ran) (y := 1) (a := n0_ran.toInt) (b := 1) rfl rfl (by omega) (by omega); have := kk_add2 (x := p4) (y := 1) (a := p4.toInt) (b := 1) rfl rfl (by omega) (by omega); omega))), (by show (y_52 : Int32).toInt ≤ (n0_ran : Int32).toInt + 19; first | with_reducible assumption | (have := kk_add2 (x := n0_ran) (y := 1) (a := n0_ran.toInt) (b := 1) rfl rfl (by omega) (by omega); have := kk_add2 (x := p4) (y := 1) (a := p4.toInt) (b := 1) rfl rfl (by omega) (by omega); omega)), (by first | exact kk_P_eq (kk_P_trans hp_50 hn_53_0) rfl | (unfold kt_tells; (repeat' split) <;> first | exact kk_P_eq (kk_P_trans hp_50 hn_53_0) rfl | (exfalso; have : (0 : Int32).toInt = 0 := rfl; have : (1 : Int32).toInt = 1 := rfl; have : (2 : Int32).toInt = 2 := rfl; have : (3 : Int32).toInt = 3 := rfl; have : (4 : Int32).toInt = 4 := rfl; have : (5 : Int32).toInt = 5 := rfl; have : (6 : Int32).toInt = 6 := rfl; have : (7 : Int32).toInt = 7 := rfl; have := kk_add2 (x := n0_ran) (y := 1) (a := n0_ran.toInt) (b := 1) rfl rfl (by omega) (by omega); have := kk_add2 (x := p4) (y := 1) (a := p4.toInt) (b := 1) rfl rfl (by omega) (by omega); omega))), by rw [ht]; exact hP9, va_K.moved hW.alike hK9, hD9⟩, hS.F ht⟩) hS.2.2 dX5_call_143
      · have t_49 : n0_ran.toInt < 24 := kk_nle c_49
        refine lv_aload_n hx hb dX5_call_86 rfl (lv_at hl 2 rfl) ?_
        refine va_get (D := (dC, dI)) (ci := 5) (v := .ref h2) (C := RX5) (T := TX5) (N := 4) hx hb hts (fun _ h => List.mem_cons_of_mem _ (List.mem_append_right _ h)) hown hK hP 0 rfl rfl 2 (by decide) (hts (.fieldLink RX5 15 "KinkStreet$Lines" "trace" "[I") (List.mem_of_getElem? (i := 4) rfl)) (fun _ h9 => h9) rfl dX5_call_87 ?_
        refine lv_aload_n hx hb dX5_call_90 rfl (lv_at hl 2 rfl) ?_
        refine va_get (D := (dC, dI)) (ci := 5) (v := .int n0_ran) (C := RX5) (T := TX5) (N := 4) hx hb hts (fun _ h => List.mem_cons_of_mem _ (List.mem_append_right _ h)) hown hK hP 0 rfl rfl 3 (by decide) (hts (.fieldLink RX5 36 "KinkStreet$Lines" "ran" "I") (List.mem_of_getElem? (i := 3) rfl)) (fun _ h9 => h9) rfl dX5_call_91 ?_
        refine lv_iload hx hb dX5_call_94 (lv_at hl 0 rfl) ?_
        refine va_iast hx hb hK hP hD hS 2 0 rfl rfl (vp_in_iff.mpr ⟨by omega, by omega⟩) dX5_call_96 (fun H locs hP hD hS => ?_)
        have w_54 : ((upd f2 (n0_ran : Int32).toNatClampNeg 2) (n0_ran : Int32).toNatClampNeg).toInt = (2 : Int32).toInt := by rw [kk_ups]
        have hP : va_P (dC, dI) vwCl [(h0, kO5 h1 n0_size h2 n0_ran), (h1, kAi cint 50 f1), (h2, kAi cint 24 (upd f2 (n0_ran : Int32).toNatClampNeg 2))] H := hP
        have hD : va_D A [(h0, kO5 h1 n0_size h2 n0_ran), (h1, kAi cint 50 f1), (h2, kAi cint 24 (upd f2 (n0_ran : Int32).toNatClampNeg 2))] := hD
        refine lv_aload_n hx hb dX5_call_97 rfl (lv_at hl 2 rfl) ?_
        refine lv_dup hx hb dX5_call_98 rfl ?_
        refine va_get (D := (dC, dI)) (ci := 5) (v := .int n0_ran) (C := RX5) (T := TX5) (N := 4) hx hb hts (fun _ h => List.mem_cons_of_mem _ (List.mem_append_right _ h)) hown hK hP 0 rfl rfl 3 (by decide) (hts (.fieldLink RX5 36 "KinkStreet$Lines" "ran" "I") (List.mem_of_getElem? (i := 3) rfl)) (fun _ h9 => h9) rfl dX5_call_99 ?_
        refine lv_iconst (v := 1) hx hb dX5_call_102 kk_ic_1 ?_
        refine lv_iadd hx hb dX5_call_103 ?_
        refine va_put (D := (dC, dI)) (ci := 5) (v := .int (n0_ran + 1)) (ty := .int) (C := RX5) (T := TX5) (N := 4) hx hb hts (fun _ h => List.mem_cons_of_mem _ (List.mem_append_right _ h)) tyX5 tyX5_ok nmX5 hown hK hP hD hS 0 rfl rfl 3 (by decide) (hts (.fieldLink RX5 36 "KinkStreet$Lines" "ran" "I") (List.mem_of_getElem? (i := 3) rfl)) (fun _ h9 => h9) rfl (by decide +kernel) rfl rfl (Nat.le_of_ble_eq_true rfl) dX5_call_104 (fun H locs hP hD hS => ?_)
        have hP : va_P (dC, dI) vwCl [(h0, kO5 h1 n0_size h2 (n0_ran + 1)), (h1, kAi cint 50 f1), (h2, kAi cint 24 (upd f2 (n0_ran : Int32).toNatClampNeg 2))] H := hP
        have hD : va_D A [(h0, kO5 h1 n0_size h2 (n0_ran + 1)), (h1, kAi cint 50 f1), (h2, kAi cint 24 (upd f2 (n0_ran : Int32).toNatClampNeg 2))] := hD
        have hp_55 : kk_P f2 (upd f2 (n0_ran : Int32).toNatClampNeg 2) n0_ran.toInt (n0_ran + 1 : Int32).toInt [2] := kk_P_one (by have := kk_add2 (x := n0_ran) (y := 1) (a := n0_ran.toInt) (b := 1) rfl rfl (by omega) (by omega); omega) (by have := kk_add2 (x := n0_ran) (y := 1) (a := n0_ran.toInt) (b := 1) rfl rfl (by omega) (by omega); omega)
        refine lv_iload hx hb dX5_call_107 (lv_at hl 1 rfl) ?_
        refine lv_if_ne (tgt := 128) hx hb dX5_call_109 (by decide) (fun c => absurd c (by decide)) (fun _ => ?_)
        refine lv_aload_n hx hb dX5_call_112 rfl (lv_at hl 2 rfl) ?_
        refine lv_iload_n hx hb dX5_call_113 rfl (lv_at hl 3 rfl) ?_
        refine lv_iload hx hb dX5_call_114 (lv_at hl 0 rfl) ?_
        refine lv_iload hx hb dX5_call_116 (lv_at hl 6 rfl) ?_
        refine lv_iload hx hb dX5_call_118 (lv_at hl 7 rfl) ?_
        refine lv_iconst (v := 1) hx hb dX5_call_120 kk_ic_1 ?_
        refine lv_iadd hx hb dX5_call_121 ?_
        obtain ⟨hPc, hDc, hFc⟩ := kk_cutout (wc := [(h0, kO5 h1 n0_size h2 (n0_ran + 1)), (h1, kAi cint 50 f1), (h2, kAi cint 24 (upd f2 (n0_ran : Int32).toNatClampNeg 2))]) hP hD hS hA [0, 1, 2] (by decide) rfl
        have hKc := kk_Ks (tq := [(cint, .int)]) hK [0] rfl
        refine va_calli (va_runV (As := [.int p0, .int 2, .int p3, .int (p4 + 1)]) (rest := []) ⟨hx, hb, hml, hown, hts⟩ (g_X5_runLine_7 l dC dI h0 h1 h2 cint H.size p0 p3 (p4 + 1) (by show 0 ≤ ((p4 + 1) : Int32).toInt ∧ ((p4 + 1) : Int32).toInt ≤ 3; first | with_reducible assumption | (constructor <;> (have := kk_add2 (x := n0_ran) (y := 1) (a := n0_ran.toInt) (b := 1) rfl rfl (by omega) (by omega); have := kk_add2 (x := p4) (y := 1) (a := p4.toInt) (b := 1) rfl rfl (by omega) (by omega); omega))) n0_size (n0_ran + 1) f1 (upd f2 (n0_ran : Int32).toNatClampNeg 2) tn0_size (by show 0 ≤ ((n0_ran + 1) : Int32).toInt ∧ ((n0_ran + 1) : Int32).toInt ≤ 983; first | with_reducible assumption | (constructor <;> (have := kk_add2 (x := n0_ran) (y := 1) (a := n0_ran.toInt) (b := 1) rfl rfl (by omega) (by omega); have := kk_add2 (x := p4) (y := 1) (a := p4.toInt) (b := 1) rfl rfl (by omega) (by omega); omega))) bf1 (by show (0 ≤ (p0 : Int32).toInt ∧ (p0 : Int32).toInt < (n0_size : Int32).toInt); first | with_reducible assumption | (have := kk_add2 (x := n0_ran) (y := 1) (a := n0_ran.toInt) (b := 1) rfl rfl (by omega) (by omega); have := kk_add2 (x := p4) (y := 1) (a := p4.toInt) (b := 1) rfl rfl (by omega) (by omega); omega)) aOWN_BODIES aABOVE) (cwV 4 hts gX5_call_X5_runLine rfl rfl rfl ⟨rfl, kh_X5_runLine⟩ ⟨Nat.le_of_ble_eq_true rfl, Nat.le_of_ble_eq_true rfl⟩) ⟨fun a U g mk q => by obtain ⟨q0, q1, qP, qK, qD, qx0, qx1, qx2, qx3⟩ := q; exact ⟨q0, q1, qP, va_K.moved (u := U) (U := U.calling g mk a) (Vm.Alike.refl U.vm) qK, qD, va_Z.moved (u := U) (U := U.calling g mk a) (Vm.Alike.refl U.vm) qx0, va_T.moved (u := U) (U := U.calling g mk a) (Vm.Alike.refl U.vm) qx1, va_Z.moved (u := U) (U := U.calling g mk a) (Vm.Alike.refl U.vm) qx2, va_T.moved (u := U) (U := U.calling g mk a) (Vm.Alike.refl U.vm) qx3⟩, va_recv hKc hPc (ci := 5) (q0 := 0) rfl rfl, fun U hU hW => ⟨rfl, by rw [hU], by rw [hU]; exact hPc, va_K.moved hW.alike hKc, hDc.weaken (fun _ _ _ _ => trivial), by rw [hU]; exact ((hZOWN_BODIES.kept (fun a h1 h2 => hS.2.1 a h1 h2)).narrow hFc).moved hW.alike, by rw [hU]; exact ((hTOWN_BODIES.kept (fun a h1 h2 => hS.2.1 a h1 h2)).narrow hFc).moved hW.alike, by rw [hU]; exact ((hZABOVE.kept (fun a h1 h2 => hS.2.1 a h1 h2)).narrow hFc).moved hW.alike, by rw [hU]; exact ((hTABOVE.kept (fun a h1 h2 => hS.2.1 a h1 h2)).narrow hFc).moved hW.alike⟩⟩ rfl rfl hl.1 rfl (lv_room (Nat.le_of_ble_eq_true rfl)) dX5_call_122 ⟨Nat.le_of_ble_eq_true rfl, Nat.le_of_ble_eq_true rfl⟩) hS (fun q _ h => hFc q h) hFc (fun r_56 u t H1 locs ht hvm hw hB hz1 hk1 hS => ?_)
        obtain ⟨y_57, f_58, by_57, v_58_0, hn_58_0, hP1, hK1, hD1⟩ := hB
        have v_58_0 : y_57.toInt ≤ (n0_ran + 1).toInt + 17 := v_58_0
        have hn_58_0 : kk_P (upd f2 (n0_ran : Int32).toNatClampNeg 2) f_58 (n0_ran + 1).toInt y_57.toInt ((kt_tells (f1 (p0 : Int32).toNatClampNeg) 0).tail) := hn_58_0
        rw [ht] at hP1
        have hK1 := va_K.moved hvm.symm hK1
        obtain ⟨hP, hD⟩ := va_join (wr := []) (w1 := [(h0, kO5 h1 n0_size h2 y_57), (h1, kAi cint 50 f1), (h2, kAi cint 24 f_58)]) hP hD [0, 1, 2] [] rfl rfl (by decide) (by decide) hk1 hFc hP1 hD1
        generalize H1 = H at hP hS ⊢
        have hP : va_P (dC, dI) vwCl [(h0, kO5 h1 n0_size h2 y_57), (h1, kAi cint 50 f1), (h2, kAi cint 24 f_58)] H := hP
        have hD : va_D A [(h0, kO5 h1 n0_size h2 y_57), (h1, kAi cint 50 f1), (h2, kAi cint 24 f_58)] := hD
        rcases hw with ⟨t_56_0, _⟩
        · skip
          have t_56_0 : r_56 = kk_tells (f1 (p0 : Int32).toNatClampNeg) 0 p0 p3 := t_56_0
          obtain rfl : r_56 = (kk_tells (f1 (p0 : Int32).toNatClampNeg) 0 p0 p3) := t_56_0
          refine lv_goto (tgt := 143) hx hb dX5_call_125 (by decide) ?_
          obtain ⟨hP9, hD9⟩ := kk_leafout (wc := [(h0, kO5 h1 n0_size h2 y_57), (h1, kAi cint 50 f1), (h2, kAi cint 24 f_58)]) hP hD [0, 1, 2] (by decide) rfl
          have hK9 := kk_Ks (tq := []) hK [] rfl
          exact W.iret (v := (kk_tells (f1 (p0 : Int32).toNatClampNeg) 0 p0 p3)) hx hb hr (fun t ht hW => ⟨⟨(kk_tells (f1 (p0 : Int32).toNatClampNeg) 0 p0 p3), (), rfl, ⟨(by first | rfl | (unfold kk_tells; (repeat' split) <;> first | rfl | (exfalso; have : (0 : Int32).toInt = 0 := rfl; have : (1 : Int32).toInt = 1 := rfl; have : (2 : Int32).toInt = 2 := rfl; have : (3 : Int32).toInt = 3 := rfl; have : (4 : Int32).toInt = 4 := rfl; have : (5 : Int32).toInt = 5 := rfl; have : (6 : Int32).toInt = 6 := rfl; have : (7 : Int32).toInt = 7 := rfl; have := kk_add2 (x := n0_ran) (y := 1) (a := n0_ran.toInt) (b := 1) rfl rfl (by omega) (by omega); have := kk_add2 (x := p4) (y := 1) (a := p4.toInt) (b := 1) rfl rfl (by omega) (by omega); omega))), trivial⟩, y_57, f_58, (by show 1 ≤ (y_57 : Int32).toInt ∧ (y_57 : Int32).toInt ≤ 1000; first | with_reducible assumption | (constructor <;> (have := kk_add2 (x := n0_ran) (y := 1) (a := n0_ran.toInt) (b := 1) rfl rfl (by omega) (by omega); have := kk_add2 (x := p4) (y := 1) (a := p4.toInt) (b := 1) rfl rfl (by omega) (by omega); omega))), (by show (y_57 : Int32).toInt ≤ (n0_ran : Int32).toInt + 19; first | with_reducible assumption | (have := kk_add2 (x := n0_ran) (y := 1) (a := n0_ran.toInt) (b := 1) rfl rfl (by omega) (by omega); have := kk_add2 (x := p4) (y := 1) (a := p4.toInt) (b := 1) rfl rfl (by omega) (by omega); omega)), (by first | exact kk_P_eq (kk_P_trans hp_55 hn_58_0) rfl | (unfold kt_tells; (repeat' split) <;> first | exact kk_P_eq (kk_P_trans hp_55 hn_58_0) rfl | (exfalso; have : (0 : Int32).toInt = 0 := rfl; have : (1 : Int32).toInt = 1 := rfl; have : (2 : Int32).toInt = 2 := rfl; have : (3 : Int32).toInt = 3 := rfl; have : (4 : Int32).toInt = 4 := rfl; have : (5 : Int32).toInt = 5 := rfl; have : (6 : Int32).toInt = 6 := rfl; have : (7 : Int32).toInt = 7 := rfl; have := kk_add2 (x := n0_ran) (y := 1) (a := n0_ran.toInt) (b := 1) rfl rfl (by omega) (by omega); have := kk_add2 (x := p4) (y := 1) (a := p4.toInt) (b := 1) rfl rfl (by omega) (by omega); omega))), by rw [ht]; exact hP9, va_K.moved hW.alike hK9, hD9⟩, hS.F ht⟩) hS.2.2 dX5_call_143
    · have t_46 : 40 < p4.toInt := kk_nle c_46
      exfalso; omega
  · have t_1 : p1.toInt = 3 := by rw [e_1]; rfl
    subst e_1
    refine lv_iload_n hx hb dX5_call_0 rfl (lv_at hl 2 rfl) ?_
    refine lv_istore hx hb dX5_call_1 hl (by decide) (rfl : _ = ([(6, .int 3), (0, .ref h0), (1, .int p0), (2, .int 3), (3, .int 3), (4, .int p3), (5, .int p4)] : List (Nat × Value))) (fun ls hl => ?_)
    refine lv_iconst (v := 0) hx hb dX5_call_3 kk_ic_0 ?_
    refine lv_istore hx hb dX5_call_4 hl (by decide) (rfl : _ = ([(7, .int 0), (6, .int 3), (0, .ref h0), (1, .int p0), (2, .int 3), (3, .int 3), (4, .int p3), (5, .int p4)] : List (Nat × Value))) (fun ls hl => ?_)
    refine lv_iload hx hb dX5_call_6 (lv_at hl 0 rfl) ?_
    refine lv_bipush (v := 8) hx hb dX5_call_8 kk_bi_8 ?_
    refine lv_icmp_ge (tgt := 48) hx hb dX5_call_10 (by decide) (fun c => absurd c (by decide)) (fun _ => ?_)
    refine lv_iload hx hb dX5_call_13 (lv_at hl 1 rfl) ?_
    obtain ⟨hPc, hDc, hFc⟩ := kk_cutout (wc := []) hP hD hS hA [] (by decide) rfl
    have hKc := kk_Ks (tq := []) hK [] rfl
    refine va_calli (va_runS (As := [.int 3]) (rest := []) ⟨hx, hb, hml, hown, hts⟩ (g_X5_isKind_14 l dC dI s.heap.size) (va_cwS 1 hts gX5_call_X5_isKind rfl rfl rfl kh_X5_isKind ⟨Nat.le_of_ble_eq_true rfl, Nat.le_of_ble_eq_true rfl⟩) ⟨fun a U g mk q => by obtain ⟨q0, q1, qP, qK, qD⟩ := q; exact ⟨q0, q1, qP, va_K.moved (u := U) (U := U.calling g mk a) (Vm.Alike.refl U.vm) qK, qD⟩, fun U hU hW => ⟨rfl, by rw [hU], by rw [hU]; exact hPc, va_K.moved hW.alike hKc, hDc.weaken (fun _ _ _ _ => trivial)⟩⟩ rfl rfl hl.1 rfl (lv_room (Nat.le_of_ble_eq_true rfl)) dX5_call_15 ⟨Nat.le_of_ble_eq_true rfl, Nat.le_of_ble_eq_true rfl⟩) hS (fun q _ h => hFc q h) hFc (fun r_59 u t H1 locs ht hvm hw hB hz1 hk1 hS => ?_)
    obtain ⟨hP1, hK1, hD1⟩ := hB
    rw [ht] at hP1
    have hK1 := va_K.moved hvm.symm hK1
    obtain ⟨hP, hD⟩ := va_join (wr := [(h0, kO5 h1 n0_size h2 n0_ran), (h1, kAi cint 50 f1), (h2, kAi cint 24 f2)]) (w1 := []) hP hD [] [0, 1, 2] rfl rfl (by decide) (by decide) hk1 hFc hP1 hD1
    generalize H1 = H at hP hS ⊢
    have hP : va_P (dC, dI) vwCl [(h0, kO5 h1 n0_size h2 n0_ran), (h1, kAi cint 50 f1), (h2, kAi cint 24 f2)] H := hP
    have hD : va_D A [(h0, kO5 h1 n0_size h2 n0_ran), (h1, kAi cint 50 f1), (h2, kAi cint 24 f2)] := hD
    obtain rfl := hw
    refine lv_if_eq (tgt := 48) hx hb dX5_call_18 (by decide) (fun c => absurd c (by decide)) (fun _ => ?_)
    refine va_gets hx hb hZOWN_BODIES hS hown (hts (.fieldLink RX5 43 "KinkStreet$Lines" "OWN_BODIES" "[I") (List.mem_of_getElem? (i := 1) rfl)) (fun _ h9 => h9) dX5_call_21 ?_
    refine lv_iload hx hb dX5_call_24 (lv_at hl 1 rfl) ?_
    refine lv_iconst (v := 4) hx hb dX5_call_26 kk_ic_4 ?_
    refine lv_imul hx hb dX5_call_27 ?_
    refine lv_topi (fun y_60 e_60 => ?_)
    obtain rfl : y_60 = 12 := e_60.trans (by decide)
    refine lv_iload_n hx hb dX5_call_28 rfl (lv_at hl 5 rfl) ?_
    refine lv_iadd hx hb dX5_call_29 ?_
    refine lv_topi (fun y_61 e_61 => ?_)
    obtain rfl : y_61 = 15 := e_61.trans (by decide)
    refine va_ti (v := .int 0) hx hb hTOWN_BODIES hS (by unfold vp_in; decide) rfl dX5_call_30 ?_
    refine lv_if_ne (tgt := 48) hx hb dX5_call_31 (by decide) (fun c => absurd c (by decide)) (fun _ => ?_)
    refine va_gets hx hb hZABOVE hS hown (hts (.fieldLink RX5 22 "KinkStreet$Lines" "ABOVE" "[I") (List.mem_of_getElem? (i := 2) rfl)) (fun _ h9 => h9) dX5_call_34 ?_
    refine lv_iload hx hb dX5_call_37 (lv_at hl 1 rfl) ?_
    refine va_ti (v := .int 0) hx hb hTABOVE hS (by unfold vp_in; decide) rfl dX5_call_39 ?_
    refine lv_istore hx hb dX5_call_40 hl (by decide) (rfl : _ = ([(6, .int 0), (7, .int 0), (0, .ref h0), (1, .int p0), (2, .int 3), (3, .int 3), (4, .int p3), (5, .int p4)] : List (Nat × Value))) (fun ls hl => ?_)
    refine lv_iinc (v := 1) hx hb dX5_call_42 hl (k := 1) rfl (by first | rfl | decide) (by decide) (rfl : _ = ([(7, .int 1), (6, .int 0), (0, .ref h0), (1, .int p0), (2, .int 3), (3, .int 3), (4, .int p3), (5, .int p4)] : List (Nat × Value))) (fun ls hl => ?_)
    refine lv_goto (tgt := 6) hx hb dX5_call_45 (by decide) ?_
    refine lv_iload hx hb dX5_call_6 (lv_at hl 0 rfl) ?_
    refine lv_bipush (v := 8) hx hb dX5_call_8 kk_bi_8 ?_
    refine lv_icmp_ge (tgt := 48) hx hb dX5_call_10 (by decide) (fun c => absurd c (by decide)) (fun _ => ?_)
    refine lv_iload hx hb dX5_call_13 (lv_at hl 1 rfl) ?_
    obtain ⟨hPc, hDc, hFc⟩ := kk_cutout (wc := []) hP hD hS hA [] (by decide) rfl
    have hKc := kk_Ks (tq := []) hK [] rfl
    refine va_calli (va_runS (As := [.int 0]) (rest := []) ⟨hx, hb, hml, hown, hts⟩ (g_X5_isKind_11 l dC dI H.size) (va_cwS 1 hts gX5_call_X5_isKind rfl rfl rfl kh_X5_isKind ⟨Nat.le_of_ble_eq_true rfl, Nat.le_of_ble_eq_true rfl⟩) ⟨fun a U g mk q => by obtain ⟨q0, q1, qP, qK, qD⟩ := q; exact ⟨q0, q1, qP, va_K.moved (u := U) (U := U.calling g mk a) (Vm.Alike.refl U.vm) qK, qD⟩, fun U hU hW => ⟨rfl, by rw [hU], by rw [hU]; exact hPc, va_K.moved hW.alike hKc, hDc.weaken (fun _ _ _ _ => trivial)⟩⟩ rfl rfl hl.1 rfl (lv_room (Nat.le_of_ble_eq_true rfl)) dX5_call_15 ⟨Nat.le_of_ble_eq_true rfl, Nat.le_of_ble_eq_true rfl⟩) hS (fun q _ h => hFc q h) hFc (fun r_62 u t H1 locs ht hvm hw hB hz1 hk1 hS => ?_)
    obtain ⟨hP1, hK1, hD1⟩ := hB
    rw [ht] at hP1
    have hK1 := va_K.moved hvm.symm hK1
    obtain ⟨hP, hD⟩ := va_join (wr := [(h0, kO5 h1 n0_size h2 n0_ran), (h1, kAi cint 50 f1), (h2, kAi cint 24 f2)]) (w1 := []) hP hD [] [0, 1, 2] rfl rfl (by decide) (by decide) hk1 hFc hP1 hD1
    generalize H1 = H at hP hS ⊢
    have hP : va_P (dC, dI) vwCl [(h0, kO5 h1 n0_size h2 n0_ran), (h1, kAi cint 50 f1), (h2, kAi cint 24 f2)] H := hP
    have hD : va_D A [(h0, kO5 h1 n0_size h2 n0_ran), (h1, kAi cint 50 f1), (h2, kAi cint 24 f2)] := hD
    obtain rfl := hw
    refine lv_if_eq (tgt := 48) hx hb dX5_call_18 (by decide) (fun c => absurd c (by decide)) (fun _ => ?_)
    refine va_gets hx hb hZOWN_BODIES hS hown (hts (.fieldLink RX5 43 "KinkStreet$Lines" "OWN_BODIES" "[I") (List.mem_of_getElem? (i := 1) rfl)) (fun _ h9 => h9) dX5_call_21 ?_
    refine lv_iload hx hb dX5_call_24 (lv_at hl 1 rfl) ?_
    refine lv_iconst (v := 4) hx hb dX5_call_26 kk_ic_4 ?_
    refine lv_imul hx hb dX5_call_27 ?_
    refine lv_topi (fun y_63 e_63 => ?_)
    obtain rfl : y_63 = 0 := e_63.trans (by decide)
    refine lv_iload_n hx hb dX5_call_28 rfl (lv_at hl 5 rfl) ?_
    refine lv_iadd hx hb dX5_call_29 ?_
    refine lv_topi (fun y_64 e_64 => ?_)
    obtain rfl : y_64 = 3 := e_64.trans (by decide)
    refine va_ti (v := .int 2) hx hb hTOWN_BODIES hS (by unfold vp_in; decide) rfl dX5_call_30 ?_
    refine lv_if_ne (tgt := 48) hx hb dX5_call_31 (by decide) (fun _ => ?_) (fun c => absurd c (by decide))
    refine lv_iload hx hb dX5_call_48 (lv_at hl 1 rfl) ?_
    obtain ⟨hPc, hDc, hFc⟩ := kk_cutout (wc := []) hP hD hS hA [] (by decide) rfl
    have hKc := kk_Ks (tq := []) hK [] rfl
    refine va_calli (va_runS (As := [.int 0]) (rest := []) ⟨hx, hb, hml, hown, hts⟩ (g_X5_isKind_11 l dC dI H.size) (va_cwS 1 hts gX5_call_X5_isKind rfl rfl rfl kh_X5_isKind ⟨Nat.le_of_ble_eq_true rfl, Nat.le_of_ble_eq_true rfl⟩) ⟨fun a U g mk q => by obtain ⟨q0, q1, qP, qK, qD⟩ := q; exact ⟨q0, q1, qP, va_K.moved (u := U) (U := U.calling g mk a) (Vm.Alike.refl U.vm) qK, qD⟩, fun U hU hW => ⟨rfl, by rw [hU], by rw [hU]; exact hPc, va_K.moved hW.alike hKc, hDc.weaken (fun _ _ _ _ => trivial)⟩⟩ rfl rfl hl.1 rfl (lv_room (Nat.le_of_ble_eq_true rfl)) dX5_call_50 ⟨Nat.le_of_ble_eq_true rfl, Nat.le_of_ble_eq_true rfl⟩) hS (fun q _ h => hFc q h) hFc (fun r_65 u t H1 locs ht hvm hw hB hz1 hk1 hS => ?_)
    obtain ⟨hP1, hK1, hD1⟩ := hB
    rw [ht] at hP1
    have hK1 := va_K.moved hvm.symm hK1
    obtain ⟨hP, hD⟩ := va_join (wr := [(h0, kO5 h1 n0_size h2 n0_ran), (h1, kAi cint 50 f1), (h2, kAi cint 24 f2)]) (w1 := []) hP hD [] [0, 1, 2] rfl rfl (by decide) (by decide) hk1 hFc hP1 hD1
    generalize H1 = H at hP hS ⊢
    have hP : va_P (dC, dI) vwCl [(h0, kO5 h1 n0_size h2 n0_ran), (h1, kAi cint 50 f1), (h2, kAi cint 24 f2)] H := hP
    have hD : va_D A [(h0, kO5 h1 n0_size h2 n0_ran), (h1, kAi cint 50 f1), (h2, kAi cint 24 f2)] := hD
    obtain rfl := hw
    refine lv_if_eq (tgt := 63) hx hb dX5_call_53 (by decide) (fun c => absurd c (by decide)) (fun _ => ?_)
    refine lv_iload hx hb dX5_call_56 (lv_at hl 7 rfl) ?_
    refine lv_bipush (v := 40) hx hb dX5_call_58 kk_bi_40 ?_
    refine lv_icmp_le (tgt := 65) hx hb dX5_call_60 (by decide) (fun c_66 => ?_) (fun c_66 => ?_)
    · have t_66 : p4.toInt ≤ 40 := kk_le c_66
      refine va_gets hx hb hZOWN_BODIES hS hown (hts (.fieldLink RX5 43 "KinkStreet$Lines" "OWN_BODIES" "[I") (List.mem_of_getElem? (i := 1) rfl)) (fun _ h9 => h9) dX5_call_65 ?_
      refine lv_iload hx hb dX5_call_68 (lv_at hl 1 rfl) ?_
      refine lv_iconst (v := 4) hx hb dX5_call_70 kk_ic_4 ?_
      refine lv_imul hx hb dX5_call_71 ?_
      refine lv_topi (fun y_67 e_67 => ?_)
      obtain rfl : y_67 = 0 := e_67.trans (by decide)
      refine lv_iload_n hx hb dX5_call_72 rfl (lv_at hl 5 rfl) ?_
      refine lv_iadd hx hb dX5_call_73 ?_
      refine lv_topi (fun y_68 e_68 => ?_)
      obtain rfl : y_68 = 3 := e_68.trans (by decide)
      refine va_ti (v := .int 2) hx hb hTOWN_BODIES hS (by unfold vp_in; decide) rfl dX5_call_74 ?_
      refine lv_istore hx hb dX5_call_75 hl (by decide) (rfl : _ = ([(7, .int 2), (6, .int 0), (0, .ref h0), (1, .int p0), (2, .int 3), (3, .int 3), (4, .int p3), (5, .int p4)] : List (Nat × Value))) (fun ls hl => ?_)
      refine lv_aload_n hx hb dX5_call_77 rfl (lv_at hl 2 rfl) ?_
      refine va_get (D := (dC, dI)) (ci := 5) (v := .int n0_ran) (C := RX5) (T := TX5) (N := 4) hx hb hts (fun _ h => List.mem_cons_of_mem _ (List.mem_append_right _ h)) hown hK hP 0 rfl rfl 3 (by decide) (hts (.fieldLink RX5 36 "KinkStreet$Lines" "ran" "I") (List.mem_of_getElem? (i := 3) rfl)) (fun _ h9 => h9) rfl dX5_call_78 ?_
      refine lv_bipush (v := 24) hx hb dX5_call_81 kk_bi_24 ?_
      refine lv_icmp_ge (tgt := 97) hx hb dX5_call_83 (by decide) (fun c_69 => ?_) (fun c_69 => ?_)
      · have t_69 : 24 ≤ n0_ran.toInt := kk_le c_69
        refine lv_aload_n hx hb dX5_call_97 rfl (lv_at hl 2 rfl) ?_
        refine lv_dup hx hb dX5_call_98 rfl ?_
        refine va_get (D := (dC, dI)) (ci := 5) (v := .int n0_ran) (C := RX5) (T := TX5) (N := 4) hx hb hts (fun _ h => List.mem_cons_of_mem _ (List.mem_append_right _ h)) hown hK hP 0 rfl rfl 3 (by decide) (hts (.fieldLink RX5 36 "KinkStreet$Lines" "ran" "I") (List.mem_of_getElem? (i := 3) rfl)) (fun _ h9 => h9) rfl dX5_call_99 ?_
        refine lv_iconst (v := 1) hx hb dX5_call_102 kk_ic_1 ?_
        refine lv_iadd hx hb dX5_call_103 ?_
        refine va_put (D := (dC, dI)) (ci := 5) (v := .int (n0_ran + 1)) (ty := .int) (C := RX5) (T := TX5) (N := 4) hx hb hts (fun _ h => List.mem_cons_of_mem _ (List.mem_append_right _ h)) tyX5 tyX5_ok nmX5 hown hK hP hD hS 0 rfl rfl 3 (by decide) (hts (.fieldLink RX5 36 "KinkStreet$Lines" "ran" "I") (List.mem_of_getElem? (i := 3) rfl)) (fun _ h9 => h9) rfl (by decide +kernel) rfl rfl (Nat.le_of_ble_eq_true rfl) dX5_call_104 (fun H locs hP hD hS => ?_)
        have hP : va_P (dC, dI) vwCl [(h0, kO5 h1 n0_size h2 (n0_ran + 1)), (h1, kAi cint 50 f1), (h2, kAi cint 24 f2)] H := hP
        have hD : va_D A [(h0, kO5 h1 n0_size h2 (n0_ran + 1)), (h1, kAi cint 50 f1), (h2, kAi cint 24 f2)] := hD
        have hp_70 : kk_P f2 f2 n0_ran.toInt (n0_ran + 1 : Int32).toInt [2] := kk_P_out (by have := kk_add2 (x := n0_ran) (y := 1) (a := n0_ran.toInt) (b := 1) rfl rfl (by omega) (by omega); omega) (by have := kk_add2 (x := n0_ran) (y := 1) (a := n0_ran.toInt) (b := 1) rfl rfl (by omega) (by omega); omega)
        refine lv_iload hx hb dX5_call_107 (lv_at hl 1 rfl) ?_
        refine lv_if_ne (tgt := 128) hx hb dX5_call_109 (by decide) (fun c => absurd c (by decide)) (fun _ => ?_)
        refine lv_aload_n hx hb dX5_call_112 rfl (lv_at hl 2 rfl) ?_
        refine lv_iload_n hx hb dX5_call_113 rfl (lv_at hl 3 rfl) ?_
        refine lv_iload hx hb dX5_call_114 (lv_at hl 0 rfl) ?_
        refine lv_iload hx hb dX5_call_116 (lv_at hl 6 rfl) ?_
        refine lv_iload hx hb dX5_call_118 (lv_at hl 7 rfl) ?_
        refine lv_iconst (v := 1) hx hb dX5_call_120 kk_ic_1 ?_
        refine lv_iadd hx hb dX5_call_121 ?_
        obtain ⟨hPc, hDc, hFc⟩ := kk_cutout (wc := [(h0, kO5 h1 n0_size h2 (n0_ran + 1)), (h1, kAi cint 50 f1), (h2, kAi cint 24 f2)]) hP hD hS hA [0, 1, 2] (by decide) rfl
        have hKc := kk_Ks (tq := [(cint, .int)]) hK [0] rfl
        refine va_calli (va_runV (As := [.int p0, .int 2, .int p3, .int (p4 + 1)]) (rest := []) ⟨hx, hb, hml, hown, hts⟩ (g_X5_runLine_7 l dC dI h0 h1 h2 cint H.size p0 p3 (p4 + 1) (by show 0 ≤ ((p4 + 1) : Int32).toInt ∧ ((p4 + 1) : Int32).toInt ≤ 3; first | with_reducible assumption | (constructor <;> (have := kk_add2 (x := n0_ran) (y := 1) (a := n0_ran.toInt) (b := 1) rfl rfl (by omega) (by omega); have := kk_add2 (x := p4) (y := 1) (a := p4.toInt) (b := 1) rfl rfl (by omega) (by omega); omega))) n0_size (n0_ran + 1) f1 f2 tn0_size (by show 0 ≤ ((n0_ran + 1) : Int32).toInt ∧ ((n0_ran + 1) : Int32).toInt ≤ 983; first | with_reducible assumption | (constructor <;> (have := kk_add2 (x := n0_ran) (y := 1) (a := n0_ran.toInt) (b := 1) rfl rfl (by omega) (by omega); have := kk_add2 (x := p4) (y := 1) (a := p4.toInt) (b := 1) rfl rfl (by omega) (by omega); omega))) bf1 (by show (0 ≤ (p0 : Int32).toInt ∧ (p0 : Int32).toInt < (n0_size : Int32).toInt); first | with_reducible assumption | (have := kk_add2 (x := n0_ran) (y := 1) (a := n0_ran.toInt) (b := 1) rfl rfl (by omega) (by omega); have := kk_add2 (x := p4) (y := 1) (a := p4.toInt) (b := 1) rfl rfl (by omega) (by omega); omega)) aOWN_BODIES aABOVE) (cwV 4 hts gX5_call_X5_runLine rfl rfl rfl ⟨rfl, kh_X5_runLine⟩ ⟨Nat.le_of_ble_eq_true rfl, Nat.le_of_ble_eq_true rfl⟩) ⟨fun a U g mk q => by obtain ⟨q0, q1, qP, qK, qD, qx0, qx1, qx2, qx3⟩ := q; exact ⟨q0, q1, qP, va_K.moved (u := U) (U := U.calling g mk a) (Vm.Alike.refl U.vm) qK, qD, va_Z.moved (u := U) (U := U.calling g mk a) (Vm.Alike.refl U.vm) qx0, va_T.moved (u := U) (U := U.calling g mk a) (Vm.Alike.refl U.vm) qx1, va_Z.moved (u := U) (U := U.calling g mk a) (Vm.Alike.refl U.vm) qx2, va_T.moved (u := U) (U := U.calling g mk a) (Vm.Alike.refl U.vm) qx3⟩, va_recv hKc hPc (ci := 5) (q0 := 0) rfl rfl, fun U hU hW => ⟨rfl, by rw [hU], by rw [hU]; exact hPc, va_K.moved hW.alike hKc, hDc.weaken (fun _ _ _ _ => trivial), by rw [hU]; exact ((hZOWN_BODIES.kept (fun a h1 h2 => hS.2.1 a h1 h2)).narrow hFc).moved hW.alike, by rw [hU]; exact ((hTOWN_BODIES.kept (fun a h1 h2 => hS.2.1 a h1 h2)).narrow hFc).moved hW.alike, by rw [hU]; exact ((hZABOVE.kept (fun a h1 h2 => hS.2.1 a h1 h2)).narrow hFc).moved hW.alike, by rw [hU]; exact ((hTABOVE.kept (fun a h1 h2 => hS.2.1 a h1 h2)).narrow hFc).moved hW.alike⟩⟩ rfl rfl hl.1 rfl (lv_room (Nat.le_of_ble_eq_true rfl)) dX5_call_122 ⟨Nat.le_of_ble_eq_true rfl, Nat.le_of_ble_eq_true rfl⟩) hS (fun q _ h => hFc q h) hFc (fun r_71 u t H1 locs ht hvm hw hB hz1 hk1 hS => ?_)
        obtain ⟨y_72, f_73, by_72, v_73_0, hn_73_0, hP1, hK1, hD1⟩ := hB
        have v_73_0 : y_72.toInt ≤ (n0_ran + 1).toInt + 17 := v_73_0
        have hn_73_0 : kk_P f2 f_73 (n0_ran + 1).toInt y_72.toInt ((kt_tells (f1 (p0 : Int32).toNatClampNeg) 0).tail) := hn_73_0
        rw [ht] at hP1
        have hK1 := va_K.moved hvm.symm hK1
        obtain ⟨hP, hD⟩ := va_join (wr := []) (w1 := [(h0, kO5 h1 n0_size h2 y_72), (h1, kAi cint 50 f1), (h2, kAi cint 24 f_73)]) hP hD [0, 1, 2] [] rfl rfl (by decide) (by decide) hk1 hFc hP1 hD1
        generalize H1 = H at hP hS ⊢
        have hP : va_P (dC, dI) vwCl [(h0, kO5 h1 n0_size h2 y_72), (h1, kAi cint 50 f1), (h2, kAi cint 24 f_73)] H := hP
        have hD : va_D A [(h0, kO5 h1 n0_size h2 y_72), (h1, kAi cint 50 f1), (h2, kAi cint 24 f_73)] := hD
        rcases hw with ⟨t_71_0, _⟩
        · skip
          have t_71_0 : r_71 = kk_tells (f1 (p0 : Int32).toNatClampNeg) 0 p0 p3 := t_71_0
          obtain rfl : r_71 = (kk_tells (f1 (p0 : Int32).toNatClampNeg) 0 p0 p3) := t_71_0
          refine lv_goto (tgt := 143) hx hb dX5_call_125 (by decide) ?_
          obtain ⟨hP9, hD9⟩ := kk_leafout (wc := [(h0, kO5 h1 n0_size h2 y_72), (h1, kAi cint 50 f1), (h2, kAi cint 24 f_73)]) hP hD [0, 1, 2] (by decide) rfl
          have hK9 := kk_Ks (tq := []) hK [] rfl
          exact W.iret (v := (kk_tells (f1 (p0 : Int32).toNatClampNeg) 0 p0 p3)) hx hb hr (fun t ht hW => ⟨⟨(kk_tells (f1 (p0 : Int32).toNatClampNeg) 0 p0 p3), (), rfl, ⟨(by first | rfl | (unfold kk_tells; (repeat' split) <;> first | rfl | (exfalso; have : (0 : Int32).toInt = 0 := rfl; have : (1 : Int32).toInt = 1 := rfl; have : (2 : Int32).toInt = 2 := rfl; have : (3 : Int32).toInt = 3 := rfl; have : (4 : Int32).toInt = 4 := rfl; have : (5 : Int32).toInt = 5 := rfl; have : (6 : Int32).toInt = 6 := rfl; have : (7 : Int32).toInt = 7 := rfl; have := kk_add2 (x := n0_ran) (y := 1) (a := n0_ran.toInt) (b := 1) rfl rfl (by omega) (by omega); have := kk_add2 (x := p4) (y := 1) (a := p4.toInt) (b := 1) rfl rfl (by omega) (by omega); omega))), trivial⟩, y_72, f_73, (by show 1 ≤ (y_72 : Int32).toInt ∧ (y_72 : Int32).toInt ≤ 1000; first | with_reducible assumption | (constructor <;> (have := kk_add2 (x := n0_ran) (y := 1) (a := n0_ran.toInt) (b := 1) rfl rfl (by omega) (by omega); have := kk_add2 (x := p4) (y := 1) (a := p4.toInt) (b := 1) rfl rfl (by omega) (by omega); omega))), (by show (y_72 : Int32).toInt ≤ (n0_ran : Int32).toInt + 19; first | with_reducible assumption | (have := kk_add2 (x := n0_ran) (y := 1) (a := n0_ran.toInt) (b := 1) rfl rfl (by omega) (by omega); have := kk_add2 (x := p4) (y := 1) (a := p4.toInt) (b := 1) rfl rfl (by omega) (by omega); omega)), (by first | exact kk_P_eq (kk_P_trans hp_70 hn_73_0) rfl | (unfold kt_tells; (repeat' split) <;> first | exact kk_P_eq (kk_P_trans hp_70 hn_73_0) rfl | (exfalso; have : (0 : Int32).toInt = 0 := rfl; have : (1 : Int32).toInt = 1 := rfl; have : (2 : Int32).toInt = 2 := rfl; have : (3 : Int32).toInt = 3 := rfl; have : (4 : Int32).toInt = 4 := rfl; have : (5 : Int32).toInt = 5 := rfl; have : (6 : Int32).toInt = 6 := rfl; have : (7 : Int32).toInt = 7 := rfl; have := kk_add2 (x := n0_ran) (y := 1) (a := n0_ran.toInt) (b := 1) rfl rfl (by omega) (by omega); have := kk_add2 (x := p4) (y := 1) (a := p4.toInt) (b := 1) rfl rfl (by omega) (by omega); omega))), by rw [ht]; exact hP9, va_K.moved hW.alike hK9, hD9⟩, hS.F ht⟩) hS.2.2 dX5_call_143
      · have t_69 : n0_ran.toInt < 24 := kk_nle c_69
        refine lv_aload_n hx hb dX5_call_86 rfl (lv_at hl 2 rfl) ?_
        refine va_get (D := (dC, dI)) (ci := 5) (v := .ref h2) (C := RX5) (T := TX5) (N := 4) hx hb hts (fun _ h => List.mem_cons_of_mem _ (List.mem_append_right _ h)) hown hK hP 0 rfl rfl 2 (by decide) (hts (.fieldLink RX5 15 "KinkStreet$Lines" "trace" "[I") (List.mem_of_getElem? (i := 4) rfl)) (fun _ h9 => h9) rfl dX5_call_87 ?_
        refine lv_aload_n hx hb dX5_call_90 rfl (lv_at hl 2 rfl) ?_
        refine va_get (D := (dC, dI)) (ci := 5) (v := .int n0_ran) (C := RX5) (T := TX5) (N := 4) hx hb hts (fun _ h => List.mem_cons_of_mem _ (List.mem_append_right _ h)) hown hK hP 0 rfl rfl 3 (by decide) (hts (.fieldLink RX5 36 "KinkStreet$Lines" "ran" "I") (List.mem_of_getElem? (i := 3) rfl)) (fun _ h9 => h9) rfl dX5_call_91 ?_
        refine lv_iload hx hb dX5_call_94 (lv_at hl 0 rfl) ?_
        refine va_iast hx hb hK hP hD hS 2 0 rfl rfl (vp_in_iff.mpr ⟨by omega, by omega⟩) dX5_call_96 (fun H locs hP hD hS => ?_)
        have w_74 : ((upd f2 (n0_ran : Int32).toNatClampNeg 2) (n0_ran : Int32).toNatClampNeg).toInt = (2 : Int32).toInt := by rw [kk_ups]
        have hP : va_P (dC, dI) vwCl [(h0, kO5 h1 n0_size h2 n0_ran), (h1, kAi cint 50 f1), (h2, kAi cint 24 (upd f2 (n0_ran : Int32).toNatClampNeg 2))] H := hP
        have hD : va_D A [(h0, kO5 h1 n0_size h2 n0_ran), (h1, kAi cint 50 f1), (h2, kAi cint 24 (upd f2 (n0_ran : Int32).toNatClampNeg 2))] := hD
        refine lv_aload_n hx hb dX5_call_97 rfl (lv_at hl 2 rfl) ?_
        refine lv_dup hx hb dX5_call_98 rfl ?_
        refine va_get (D := (dC, dI)) (ci := 5) (v := .int n0_ran) (C := RX5) (T := TX5) (N := 4) hx hb hts (fun _ h => List.mem_cons_of_mem _ (List.mem_append_right _ h)) hown hK hP 0 rfl rfl 3 (by decide) (hts (.fieldLink RX5 36 "KinkStreet$Lines" "ran" "I") (List.mem_of_getElem? (i := 3) rfl)) (fun _ h9 => h9) rfl dX5_call_99 ?_
        refine lv_iconst (v := 1) hx hb dX5_call_102 kk_ic_1 ?_
        refine lv_iadd hx hb dX5_call_103 ?_
        refine va_put (D := (dC, dI)) (ci := 5) (v := .int (n0_ran + 1)) (ty := .int) (C := RX5) (T := TX5) (N := 4) hx hb hts (fun _ h => List.mem_cons_of_mem _ (List.mem_append_right _ h)) tyX5 tyX5_ok nmX5 hown hK hP hD hS 0 rfl rfl 3 (by decide) (hts (.fieldLink RX5 36 "KinkStreet$Lines" "ran" "I") (List.mem_of_getElem? (i := 3) rfl)) (fun _ h9 => h9) rfl (by decide +kernel) rfl rfl (Nat.le_of_ble_eq_true rfl) dX5_call_104 (fun H locs hP hD hS => ?_)
        have hP : va_P (dC, dI) vwCl [(h0, kO5 h1 n0_size h2 (n0_ran + 1)), (h1, kAi cint 50 f1), (h2, kAi cint 24 (upd f2 (n0_ran : Int32).toNatClampNeg 2))] H := hP
        have hD : va_D A [(h0, kO5 h1 n0_size h2 (n0_ran + 1)), (h1, kAi cint 50 f1), (h2, kAi cint 24 (upd f2 (n0_ran : Int32).toNatClampNeg 2))] := hD
        have hp_75 : kk_P f2 (upd f2 (n0_ran : Int32).toNatClampNeg 2) n0_ran.toInt (n0_ran + 1 : Int32).toInt [2] := kk_P_one (by have := kk_add2 (x := n0_ran) (y := 1) (a := n0_ran.toInt) (b := 1) rfl rfl (by omega) (by omega); omega) (by have := kk_add2 (x := n0_ran) (y := 1) (a := n0_ran.toInt) (b := 1) rfl rfl (by omega) (by omega); omega)
        refine lv_iload hx hb dX5_call_107 (lv_at hl 1 rfl) ?_
        refine lv_if_ne (tgt := 128) hx hb dX5_call_109 (by decide) (fun c => absurd c (by decide)) (fun _ => ?_)
        refine lv_aload_n hx hb dX5_call_112 rfl (lv_at hl 2 rfl) ?_
        refine lv_iload_n hx hb dX5_call_113 rfl (lv_at hl 3 rfl) ?_
        refine lv_iload hx hb dX5_call_114 (lv_at hl 0 rfl) ?_
        refine lv_iload hx hb dX5_call_116 (lv_at hl 6 rfl) ?_
        refine lv_iload hx hb dX5_call_118 (lv_at hl 7 rfl) ?_
        refine lv_iconst (v := 1) hx hb dX5_call_120 kk_ic_1 ?_
        refine lv_iadd hx hb dX5_call_121 ?_
        obtain ⟨hPc, hDc, hFc⟩ := kk_cutout (wc := [(h0, kO5 h1 n0_size h2 (n0_ran + 1)), (h1, kAi cint 50 f1), (h2, kAi cint 24 (upd f2 (n0_ran : Int32).toNatClampNeg 2))]) hP hD hS hA [0, 1, 2] (by decide) rfl
        have hKc := kk_Ks (tq := [(cint, .int)]) hK [0] rfl
        refine va_calli (va_runV (As := [.int p0, .int 2, .int p3, .int (p4 + 1)]) (rest := []) ⟨hx, hb, hml, hown, hts⟩ (g_X5_runLine_7 l dC dI h0 h1 h2 cint H.size p0 p3 (p4 + 1) (by show 0 ≤ ((p4 + 1) : Int32).toInt ∧ ((p4 + 1) : Int32).toInt ≤ 3; first | with_reducible assumption | (constructor <;> (have := kk_add2 (x := n0_ran) (y := 1) (a := n0_ran.toInt) (b := 1) rfl rfl (by omega) (by omega); have := kk_add2 (x := p4) (y := 1) (a := p4.toInt) (b := 1) rfl rfl (by omega) (by omega); omega))) n0_size (n0_ran + 1) f1 (upd f2 (n0_ran : Int32).toNatClampNeg 2) tn0_size (by show 0 ≤ ((n0_ran + 1) : Int32).toInt ∧ ((n0_ran + 1) : Int32).toInt ≤ 983; first | with_reducible assumption | (constructor <;> (have := kk_add2 (x := n0_ran) (y := 1) (a := n0_ran.toInt) (b := 1) rfl rfl (by omega) (by omega); have := kk_add2 (x := p4) (y := 1) (a := p4.toInt) (b := 1) rfl rfl (by omega) (by omega); omega))) bf1 (by show (0 ≤ (p0 : Int32).toInt ∧ (p0 : Int32).toInt < (n0_size : Int32).toInt); first | with_reducible assumption | (have := kk_add2 (x := n0_ran) (y := 1) (a := n0_ran.toInt) (b := 1) rfl rfl (by omega) (by omega); have := kk_add2 (x := p4) (y := 1) (a := p4.toInt) (b := 1) rfl rfl (by omega) (by omega); omega)) aOWN_BODIES aABOVE) (cwV 4 hts gX5_call_X5_runLine rfl rfl rfl ⟨rfl, kh_X5_runLine⟩ ⟨Nat.le_of_ble_eq_true rfl, Nat.le_of_ble_eq_true rfl⟩) ⟨fun a U g mk q => by obtain ⟨q0, q1, qP, qK, qD, qx0, qx1, qx2, qx3⟩ := q; exact ⟨q0, q1, qP, va_K.moved (u := U) (U := U.calling g mk a) (Vm.Alike.refl U.vm) qK, qD, va_Z.moved (u := U) (U := U.calling g mk a) (Vm.Alike.refl U.vm) qx0, va_T.moved (u := U) (U := U.calling g mk a) (Vm.Alike.refl U.vm) qx1, va_Z.moved (u := U) (U := U.calling g mk a) (Vm.Alike.refl U.vm) qx2, va_T.moved (u := U) (U := U.calling g mk a) (Vm.Alike.refl U.vm) qx3⟩, va_recv hKc hPc (ci := 5) (q0 := 0) rfl rfl, fun U hU hW => ⟨rfl, by rw [hU], by rw [hU]; exact hPc, va_K.moved hW.alike hKc, hDc.weaken (fun _ _ _ _ => trivial), by rw [hU]; exact ((hZOWN_BODIES.kept (fun a h1 h2 => hS.2.1 a h1 h2)).narrow hFc).moved hW.alike, by rw [hU]; exact ((hTOWN_BODIES.kept (fun a h1 h2 => hS.2.1 a h1 h2)).narrow hFc).moved hW.alike, by rw [hU]; exact ((hZABOVE.kept (fun a h1 h2 => hS.2.1 a h1 h2)).narrow hFc).moved hW.alike, by rw [hU]; exact ((hTABOVE.kept (fun a h1 h2 => hS.2.1 a h1 h2)).narrow hFc).moved hW.alike⟩⟩ rfl rfl hl.1 rfl (lv_room (Nat.le_of_ble_eq_true rfl)) dX5_call_122 ⟨Nat.le_of_ble_eq_true rfl, Nat.le_of_ble_eq_true rfl⟩) hS (fun q _ h => hFc q h) hFc (fun r_76 u t H1 locs ht hvm hw hB hz1 hk1 hS => ?_)
        obtain ⟨y_77, f_78, by_77, v_78_0, hn_78_0, hP1, hK1, hD1⟩ := hB
        have v_78_0 : y_77.toInt ≤ (n0_ran + 1).toInt + 17 := v_78_0
        have hn_78_0 : kk_P (upd f2 (n0_ran : Int32).toNatClampNeg 2) f_78 (n0_ran + 1).toInt y_77.toInt ((kt_tells (f1 (p0 : Int32).toNatClampNeg) 0).tail) := hn_78_0
        rw [ht] at hP1
        have hK1 := va_K.moved hvm.symm hK1
        obtain ⟨hP, hD⟩ := va_join (wr := []) (w1 := [(h0, kO5 h1 n0_size h2 y_77), (h1, kAi cint 50 f1), (h2, kAi cint 24 f_78)]) hP hD [0, 1, 2] [] rfl rfl (by decide) (by decide) hk1 hFc hP1 hD1
        generalize H1 = H at hP hS ⊢
        have hP : va_P (dC, dI) vwCl [(h0, kO5 h1 n0_size h2 y_77), (h1, kAi cint 50 f1), (h2, kAi cint 24 f_78)] H := hP
        have hD : va_D A [(h0, kO5 h1 n0_size h2 y_77), (h1, kAi cint 50 f1), (h2, kAi cint 24 f_78)] := hD
        rcases hw with ⟨t_76_0, _⟩
        · skip
          have t_76_0 : r_76 = kk_tells (f1 (p0 : Int32).toNatClampNeg) 0 p0 p3 := t_76_0
          obtain rfl : r_76 = (kk_tells (f1 (p0 : Int32).toNatClampNeg) 0 p0 p3) := t_76_0
          refine lv_goto (tgt := 143) hx hb dX5_call_125 (by decide) ?_
          obtain ⟨hP9, hD9⟩ := kk_leafout (wc := [(h0, kO5 h1 n0_size h2 y_77), (h1, kAi cint 50 f1), (h2, kAi cint 24 f_78)]) hP hD [0, 1, 2] (by decide) rfl
          have hK9 := kk_Ks (tq := []) hK [] rfl
          exact W.iret (v := (kk_tells (f1 (p0 : Int32).toNatClampNeg) 0 p0 p3)) hx hb hr (fun t ht hW => ⟨⟨(kk_tells (f1 (p0 : Int32).toNatClampNeg) 0 p0 p3), (), rfl, ⟨(by first | rfl | (unfold kk_tells; (repeat' split) <;> first | rfl | (exfalso; have : (0 : Int32).toInt = 0 := rfl; have : (1 : Int32).toInt = 1 := rfl; have : (2 : Int32).toInt = 2 := rfl; have : (3 : Int32).toInt = 3 := rfl; have : (4 : Int32).toInt = 4 := rfl; have : (5 : Int32).toInt = 5 := rfl; have : (6 : Int32).toInt = 6 := rfl; have : (7 : Int32).toInt = 7 := rfl; have := kk_add2 (x := n0_ran) (y := 1) (a := n0_ran.toInt) (b := 1) rfl rfl (by omega) (by omega); have := kk_add2 (x := p4) (y := 1) (a := p4.toInt) (b := 1) rfl rfl (by omega) (by omega); omega))), trivial⟩, y_77, f_78, (by show 1 ≤ (y_77 : Int32).toInt ∧ (y_77 : Int32).toInt ≤ 1000; first | with_reducible assumption | (constructor <;> (have := kk_add2 (x := n0_ran) (y := 1) (a := n0_ran.toInt) (b := 1) rfl rfl (by omega) (by omega); have := kk_add2 (x := p4) (y := 1) (a := p4.toInt) (b := 1) rfl rfl (by omega) (by omega); omega))), (by show (y_77 : Int32).toInt ≤ (n0_ran : Int32).toInt + 19; first | with_reducible assumption | (have := kk_add2 (x := n0_ran) (y := 1) (a := n0_ran.toInt) (b := 1) rfl rfl (by omega) (by omega); have := kk_add2 (x := p4) (y := 1) (a := p4.toInt) (b := 1) rfl rfl (by omega) (by omega); omega)), (by first | exact kk_P_eq (kk_P_trans hp_75 hn_78_0) rfl | (unfold kt_tells; (repeat' split) <;> first | exact kk_P_eq (kk_P_trans hp_75 hn_78_0) rfl | (exfalso; have : (0 : Int32).toInt = 0 := rfl; have : (1 : Int32).toInt = 1 := rfl; have : (2 : Int32).toInt = 2 := rfl; have : (3 : Int32).toInt = 3 := rfl; have : (4 : Int32).toInt = 4 := rfl; have : (5 : Int32).toInt = 5 := rfl; have : (6 : Int32).toInt = 6 := rfl; have : (7 : Int32).toInt = 7 := rfl; have := kk_add2 (x := n0_ran) (y := 1) (a := n0_ran.toInt) (b := 1) rfl rfl (by omega) (by omega); have := kk_add2 (x := p4) (y := 1) (a := p4.toInt) (b := 1) rfl rfl (by omega) (by omega); omega))), by rw [ht]; exact hP9, va_K.moved hW.alike hK9, hD9⟩, hS.F ht⟩) hS.2.2 dX5_call_143
    · have t_66 : 40 < p4.toInt := kk_nle c_66
      exfalso; omega
  · have t_1 : p1.toInt = 4 := by rw [e_1]; rfl
    subst e_1
    refine lv_iload_n hx hb dX5_call_0 rfl (lv_at hl 2 rfl) ?_
    refine lv_istore hx hb dX5_call_1 hl (by decide) (rfl : _ = ([(6, .int 4), (0, .ref h0), (1, .int p0), (2, .int 4), (3, .int 3), (4, .int p3), (5, .int p4)] : List (Nat × Value))) (fun ls hl => ?_)
    refine lv_iconst (v := 0) hx hb dX5_call_3 kk_ic_0 ?_
    refine lv_istore hx hb dX5_call_4 hl (by decide) (rfl : _ = ([(7, .int 0), (6, .int 4), (0, .ref h0), (1, .int p0), (2, .int 4), (3, .int 3), (4, .int p3), (5, .int p4)] : List (Nat × Value))) (fun ls hl => ?_)
    refine lv_iload hx hb dX5_call_6 (lv_at hl 0 rfl) ?_
    refine lv_bipush (v := 8) hx hb dX5_call_8 kk_bi_8 ?_
    refine lv_icmp_ge (tgt := 48) hx hb dX5_call_10 (by decide) (fun c => absurd c (by decide)) (fun _ => ?_)
    refine lv_iload hx hb dX5_call_13 (lv_at hl 1 rfl) ?_
    obtain ⟨hPc, hDc, hFc⟩ := kk_cutout (wc := []) hP hD hS hA [] (by decide) rfl
    have hKc := kk_Ks (tq := []) hK [] rfl
    refine va_calli (va_runS (As := [.int 4]) (rest := []) ⟨hx, hb, hml, hown, hts⟩ (g_X5_isKind_15 l dC dI s.heap.size) (va_cwS 1 hts gX5_call_X5_isKind rfl rfl rfl kh_X5_isKind ⟨Nat.le_of_ble_eq_true rfl, Nat.le_of_ble_eq_true rfl⟩) ⟨fun a U g mk q => by obtain ⟨q0, q1, qP, qK, qD⟩ := q; exact ⟨q0, q1, qP, va_K.moved (u := U) (U := U.calling g mk a) (Vm.Alike.refl U.vm) qK, qD⟩, fun U hU hW => ⟨rfl, by rw [hU], by rw [hU]; exact hPc, va_K.moved hW.alike hKc, hDc.weaken (fun _ _ _ _ => trivial)⟩⟩ rfl rfl hl.1 rfl (lv_room (Nat.le_of_ble_eq_true rfl)) dX5_call_15 ⟨Nat.le_of_ble_eq_true rfl, Nat.le_of_ble_eq_true rfl⟩) hS (fun q _ h => hFc q h) hFc (fun r_79 u t H1 locs ht hvm hw hB hz1 hk1 hS => ?_)
    obtain ⟨hP1, hK1, hD1⟩ := hB
    rw [ht] at hP1
    have hK1 := va_K.moved hvm.symm hK1
    obtain ⟨hP, hD⟩ := va_join (wr := [(h0, kO5 h1 n0_size h2 n0_ran), (h1, kAi cint 50 f1), (h2, kAi cint 24 f2)]) (w1 := []) hP hD [] [0, 1, 2] rfl rfl (by decide) (by decide) hk1 hFc hP1 hD1
    generalize H1 = H at hP hS ⊢
    have hP : va_P (dC, dI) vwCl [(h0, kO5 h1 n0_size h2 n0_ran), (h1, kAi cint 50 f1), (h2, kAi cint 24 f2)] H := hP
    have hD : va_D A [(h0, kO5 h1 n0_size h2 n0_ran), (h1, kAi cint 50 f1), (h2, kAi cint 24 f2)] := hD
    obtain rfl := hw
    refine lv_if_eq (tgt := 48) hx hb dX5_call_18 (by decide) (fun c => absurd c (by decide)) (fun _ => ?_)
    refine va_gets hx hb hZOWN_BODIES hS hown (hts (.fieldLink RX5 43 "KinkStreet$Lines" "OWN_BODIES" "[I") (List.mem_of_getElem? (i := 1) rfl)) (fun _ h9 => h9) dX5_call_21 ?_
    refine lv_iload hx hb dX5_call_24 (lv_at hl 1 rfl) ?_
    refine lv_iconst (v := 4) hx hb dX5_call_26 kk_ic_4 ?_
    refine lv_imul hx hb dX5_call_27 ?_
    refine lv_topi (fun y_80 e_80 => ?_)
    obtain rfl : y_80 = 16 := e_80.trans (by decide)
    refine lv_iload_n hx hb dX5_call_28 rfl (lv_at hl 5 rfl) ?_
    refine lv_iadd hx hb dX5_call_29 ?_
    refine lv_topi (fun y_81 e_81 => ?_)
    obtain rfl : y_81 = 19 := e_81.trans (by decide)
    refine va_ti (v := .int 51) hx hb hTOWN_BODIES hS (by unfold vp_in; decide) rfl dX5_call_30 ?_
    refine lv_if_ne (tgt := 48) hx hb dX5_call_31 (by decide) (fun _ => ?_) (fun c => absurd c (by decide))
    refine lv_iload hx hb dX5_call_48 (lv_at hl 1 rfl) ?_
    obtain ⟨hPc, hDc, hFc⟩ := kk_cutout (wc := []) hP hD hS hA [] (by decide) rfl
    have hKc := kk_Ks (tq := []) hK [] rfl
    refine va_calli (va_runS (As := [.int 4]) (rest := []) ⟨hx, hb, hml, hown, hts⟩ (g_X5_isKind_15 l dC dI H.size) (va_cwS 1 hts gX5_call_X5_isKind rfl rfl rfl kh_X5_isKind ⟨Nat.le_of_ble_eq_true rfl, Nat.le_of_ble_eq_true rfl⟩) ⟨fun a U g mk q => by obtain ⟨q0, q1, qP, qK, qD⟩ := q; exact ⟨q0, q1, qP, va_K.moved (u := U) (U := U.calling g mk a) (Vm.Alike.refl U.vm) qK, qD⟩, fun U hU hW => ⟨rfl, by rw [hU], by rw [hU]; exact hPc, va_K.moved hW.alike hKc, hDc.weaken (fun _ _ _ _ => trivial)⟩⟩ rfl rfl hl.1 rfl (lv_room (Nat.le_of_ble_eq_true rfl)) dX5_call_50 ⟨Nat.le_of_ble_eq_true rfl, Nat.le_of_ble_eq_true rfl⟩) hS (fun q _ h => hFc q h) hFc (fun r_82 u t H1 locs ht hvm hw hB hz1 hk1 hS => ?_)
    obtain ⟨hP1, hK1, hD1⟩ := hB
    rw [ht] at hP1
    have hK1 := va_K.moved hvm.symm hK1
    obtain ⟨hP, hD⟩ := va_join (wr := [(h0, kO5 h1 n0_size h2 n0_ran), (h1, kAi cint 50 f1), (h2, kAi cint 24 f2)]) (w1 := []) hP hD [] [0, 1, 2] rfl rfl (by decide) (by decide) hk1 hFc hP1 hD1
    generalize H1 = H at hP hS ⊢
    have hP : va_P (dC, dI) vwCl [(h0, kO5 h1 n0_size h2 n0_ran), (h1, kAi cint 50 f1), (h2, kAi cint 24 f2)] H := hP
    have hD : va_D A [(h0, kO5 h1 n0_size h2 n0_ran), (h1, kAi cint 50 f1), (h2, kAi cint 24 f2)] := hD
    obtain rfl := hw
    refine lv_if_eq (tgt := 63) hx hb dX5_call_53 (by decide) (fun c => absurd c (by decide)) (fun _ => ?_)
    refine lv_iload hx hb dX5_call_56 (lv_at hl 7 rfl) ?_
    refine lv_bipush (v := 40) hx hb dX5_call_58 kk_bi_40 ?_
    refine lv_icmp_le (tgt := 65) hx hb dX5_call_60 (by decide) (fun c_83 => ?_) (fun c_83 => ?_)
    · have t_83 : p4.toInt ≤ 40 := kk_le c_83
      refine va_gets hx hb hZOWN_BODIES hS hown (hts (.fieldLink RX5 43 "KinkStreet$Lines" "OWN_BODIES" "[I") (List.mem_of_getElem? (i := 1) rfl)) (fun _ h9 => h9) dX5_call_65 ?_
      refine lv_iload hx hb dX5_call_68 (lv_at hl 1 rfl) ?_
      refine lv_iconst (v := 4) hx hb dX5_call_70 kk_ic_4 ?_
      refine lv_imul hx hb dX5_call_71 ?_
      refine lv_topi (fun y_84 e_84 => ?_)
      obtain rfl : y_84 = 16 := e_84.trans (by decide)
      refine lv_iload_n hx hb dX5_call_72 rfl (lv_at hl 5 rfl) ?_
      refine lv_iadd hx hb dX5_call_73 ?_
      refine lv_topi (fun y_85 e_85 => ?_)
      obtain rfl : y_85 = 19 := e_85.trans (by decide)
      refine va_ti (v := .int 51) hx hb hTOWN_BODIES hS (by unfold vp_in; decide) rfl dX5_call_74 ?_
      refine lv_istore hx hb dX5_call_75 hl (by decide) (rfl : _ = ([(7, .int 51), (6, .int 4), (0, .ref h0), (1, .int p0), (2, .int 4), (3, .int 3), (4, .int p3), (5, .int p4)] : List (Nat × Value))) (fun ls hl => ?_)
      refine lv_aload_n hx hb dX5_call_77 rfl (lv_at hl 2 rfl) ?_
      refine va_get (D := (dC, dI)) (ci := 5) (v := .int n0_ran) (C := RX5) (T := TX5) (N := 4) hx hb hts (fun _ h => List.mem_cons_of_mem _ (List.mem_append_right _ h)) hown hK hP 0 rfl rfl 3 (by decide) (hts (.fieldLink RX5 36 "KinkStreet$Lines" "ran" "I") (List.mem_of_getElem? (i := 3) rfl)) (fun _ h9 => h9) rfl dX5_call_78 ?_
      refine lv_bipush (v := 24) hx hb dX5_call_81 kk_bi_24 ?_
      refine lv_icmp_ge (tgt := 97) hx hb dX5_call_83 (by decide) (fun c_86 => ?_) (fun c_86 => ?_)
      · have t_86 : 24 ≤ n0_ran.toInt := kk_le c_86
        refine lv_aload_n hx hb dX5_call_97 rfl (lv_at hl 2 rfl) ?_
        refine lv_dup hx hb dX5_call_98 rfl ?_
        refine va_get (D := (dC, dI)) (ci := 5) (v := .int n0_ran) (C := RX5) (T := TX5) (N := 4) hx hb hts (fun _ h => List.mem_cons_of_mem _ (List.mem_append_right _ h)) hown hK hP 0 rfl rfl 3 (by decide) (hts (.fieldLink RX5 36 "KinkStreet$Lines" "ran" "I") (List.mem_of_getElem? (i := 3) rfl)) (fun _ h9 => h9) rfl dX5_call_99 ?_
        refine lv_iconst (v := 1) hx hb dX5_call_102 kk_ic_1 ?_
        refine lv_iadd hx hb dX5_call_103 ?_
        refine va_put (D := (dC, dI)) (ci := 5) (v := .int (n0_ran + 1)) (ty := .int) (C := RX5) (T := TX5) (N := 4) hx hb hts (fun _ h => List.mem_cons_of_mem _ (List.mem_append_right _ h)) tyX5 tyX5_ok nmX5 hown hK hP hD hS 0 rfl rfl 3 (by decide) (hts (.fieldLink RX5 36 "KinkStreet$Lines" "ran" "I") (List.mem_of_getElem? (i := 3) rfl)) (fun _ h9 => h9) rfl (by decide +kernel) rfl rfl (Nat.le_of_ble_eq_true rfl) dX5_call_104 (fun H locs hP hD hS => ?_)
        have hP : va_P (dC, dI) vwCl [(h0, kO5 h1 n0_size h2 (n0_ran + 1)), (h1, kAi cint 50 f1), (h2, kAi cint 24 f2)] H := hP
        have hD : va_D A [(h0, kO5 h1 n0_size h2 (n0_ran + 1)), (h1, kAi cint 50 f1), (h2, kAi cint 24 f2)] := hD
        have hp_87 : kk_P f2 f2 n0_ran.toInt (n0_ran + 1 : Int32).toInt [51] := kk_P_out (by have := kk_add2 (x := n0_ran) (y := 1) (a := n0_ran.toInt) (b := 1) rfl rfl (by omega) (by omega); omega) (by have := kk_add2 (x := n0_ran) (y := 1) (a := n0_ran.toInt) (b := 1) rfl rfl (by omega) (by omega); omega)
        refine lv_iload hx hb dX5_call_107 (lv_at hl 1 rfl) ?_
        refine lv_if_ne (tgt := 128) hx hb dX5_call_109 (by decide) (fun _ => ?_) (fun c => absurd c (by decide))
        refine lv_aload_n hx hb dX5_call_128 rfl (lv_at hl 2 rfl) ?_
        refine lv_iload_n hx hb dX5_call_129 rfl (lv_at hl 3 rfl) ?_
        refine lv_iload hx hb dX5_call_130 (lv_at hl 1 rfl) ?_
        refine lv_iload hx hb dX5_call_132 (lv_at hl 0 rfl) ?_
        refine lv_iload hx hb dX5_call_134 (lv_at hl 6 rfl) ?_
        refine lv_iload hx hb dX5_call_136 (lv_at hl 7 rfl) ?_
        refine lv_iconst (v := 1) hx hb dX5_call_138 kk_ic_1 ?_
        refine lv_iadd hx hb dX5_call_139 ?_
        obtain ⟨hPc, hDc, hFc⟩ := kk_cutout (wc := [(h0, kO5 h1 n0_size h2 (n0_ran + 1)), (h1, kAi cint 50 f1), (h2, kAi cint 24 f2)]) hP hD hS hA [0, 1, 2] (by decide) rfl
        have hKc := kk_Ks (tq := [(cint, .int)]) hK [0] rfl
        refine va_calli (va_runV (As := [.int p0, .int 4, .int 51, .int p3, .int (p4 + 1)]) (rest := []) ⟨hx, hb, hml, hown, hts⟩ (g_X5_runUnder_17 l dC dI h0 h1 h2 cint H.size p0 p3 (p4 + 1) (by show 0 ≤ ((p4 + 1) : Int32).toInt ∧ ((p4 + 1) : Int32).toInt ≤ 1; first | with_reducible assumption | (constructor <;> (have := kk_add2 (x := n0_ran) (y := 1) (a := n0_ran.toInt) (b := 1) rfl rfl (by omega) (by omega); have := kk_add2 (x := p4) (y := 1) (a := p4.toInt) (b := 1) rfl rfl (by omega) (by omega); omega))) n0_size (n0_ran + 1) f1 f2 tn0_size (by show 0 ≤ ((n0_ran + 1) : Int32).toInt ∧ ((n0_ran + 1) : Int32).toInt ≤ 982; first | with_reducible assumption | (constructor <;> (have := kk_add2 (x := n0_ran) (y := 1) (a := n0_ran.toInt) (b := 1) rfl rfl (by omega) (by omega); have := kk_add2 (x := p4) (y := 1) (a := p4.toInt) (b := 1) rfl rfl (by omega) (by omega); omega))) bf1 (by show (0 ≤ (p0 : Int32).toInt ∧ (p0 : Int32).toInt < (n0_size : Int32).toInt); first | with_reducible assumption | (have := kk_add2 (x := n0_ran) (y := 1) (a := n0_ran.toInt) (b := 1) rfl rfl (by omega) (by omega); have := kk_add2 (x := p4) (y := 1) (a := p4.toInt) (b := 1) rfl rfl (by omega) (by omega); omega)) aABOVE aOWN_BODIES) (cwV 5 hts gX5_call_X5_runUnder rfl rfl rfl ⟨rfl, kh_X5_runUnder⟩ ⟨Nat.le_of_ble_eq_true rfl, Nat.le_of_ble_eq_true rfl⟩) ⟨fun a U g mk q => by obtain ⟨q0, q1, qP, qK, qD, qx0, qx1, qx2, qx3⟩ := q; exact ⟨q0, q1, qP, va_K.moved (u := U) (U := U.calling g mk a) (Vm.Alike.refl U.vm) qK, qD, va_Z.moved (u := U) (U := U.calling g mk a) (Vm.Alike.refl U.vm) qx0, va_T.moved (u := U) (U := U.calling g mk a) (Vm.Alike.refl U.vm) qx1, va_Z.moved (u := U) (U := U.calling g mk a) (Vm.Alike.refl U.vm) qx2, va_T.moved (u := U) (U := U.calling g mk a) (Vm.Alike.refl U.vm) qx3⟩, va_recv hKc hPc (ci := 5) (q0 := 0) rfl rfl, fun U hU hW => ⟨rfl, by rw [hU], by rw [hU]; exact hPc, va_K.moved hW.alike hKc, hDc.weaken (fun _ _ _ _ => trivial), by rw [hU]; exact ((hZABOVE.kept (fun a h1 h2 => hS.2.1 a h1 h2)).narrow hFc).moved hW.alike, by rw [hU]; exact ((hTABOVE.kept (fun a h1 h2 => hS.2.1 a h1 h2)).narrow hFc).moved hW.alike, by rw [hU]; exact ((hZOWN_BODIES.kept (fun a h1 h2 => hS.2.1 a h1 h2)).narrow hFc).moved hW.alike, by rw [hU]; exact ((hTOWN_BODIES.kept (fun a h1 h2 => hS.2.1 a h1 h2)).narrow hFc).moved hW.alike⟩⟩ rfl rfl hl.1 rfl (lv_room (Nat.le_of_ble_eq_true rfl)) dX5_call_140 ⟨Nat.le_of_ble_eq_true rfl, Nat.le_of_ble_eq_true rfl⟩) hS (fun q _ h => hFc q h) hFc (fun r_88 u t H1 locs ht hvm hw hB hz1 hk1 hS => ?_)
        obtain ⟨y_89, f_90, by_89, v_90_0, hn_90_0, hP1, hK1, hD1⟩ := hB
        have v_90_0 : y_89.toInt ≤ (n0_ran + 1).toInt + 18 := v_90_0
        have hn_90_0 : kk_P f2 f_90 (n0_ran + 1).toInt y_89.toInt ((kt_tells (f1 (p0 : Int32).toNatClampNeg) 4).tail) := hn_90_0
        rw [ht] at hP1
        have hK1 := va_K.moved hvm.symm hK1
        obtain ⟨hP, hD⟩ := va_join (wr := []) (w1 := [(h0, kO5 h1 n0_size h2 y_89), (h1, kAi cint 50 f1), (h2, kAi cint 24 f_90)]) hP hD [0, 1, 2] [] rfl rfl (by decide) (by decide) hk1 hFc hP1 hD1
        generalize H1 = H at hP hS ⊢
        have hP : va_P (dC, dI) vwCl [(h0, kO5 h1 n0_size h2 y_89), (h1, kAi cint 50 f1), (h2, kAi cint 24 f_90)] H := hP
        have hD : va_D A [(h0, kO5 h1 n0_size h2 y_89), (h1, kAi cint 50 f1), (h2, kAi cint 24 f_90)] := hD
        rcases hw with ⟨t_88_0, _⟩
        · skip
          have t_88_0 : r_88 = kk_tells (f1 (p0 : Int32).toNatClampNeg) 4 p0 p3 := t_88_0
          obtain rfl : r_88 = (kk_tells (f1 (p0 : Int32).toNatClampNeg) 4 p0 p3) := t_88_0
          obtain ⟨hP9, hD9⟩ := kk_leafout (wc := [(h0, kO5 h1 n0_size h2 y_89), (h1, kAi cint 50 f1), (h2, kAi cint 24 f_90)]) hP hD [0, 1, 2] (by decide) rfl
          have hK9 := kk_Ks (tq := []) hK [] rfl
          exact W.iret (v := (kk_tells (f1 (p0 : Int32).toNatClampNeg) 4 p0 p3)) hx hb hr (fun t ht hW => ⟨⟨(kk_tells (f1 (p0 : Int32).toNatClampNeg) 4 p0 p3), (), rfl, ⟨(by first | rfl | (unfold kk_tells; (repeat' split) <;> first | rfl | (exfalso; have : (0 : Int32).toInt = 0 := rfl; have : (1 : Int32).toInt = 1 := rfl; have : (2 : Int32).toInt = 2 := rfl; have : (3 : Int32).toInt = 3 := rfl; have : (4 : Int32).toInt = 4 := rfl; have : (5 : Int32).toInt = 5 := rfl; have : (6 : Int32).toInt = 6 := rfl; have : (7 : Int32).toInt = 7 := rfl; have := kk_add2 (x := n0_ran) (y := 1) (a := n0_ran.toInt) (b := 1) rfl rfl (by omega) (by omega); have := kk_add2 (x := p4) (y := 1) (a := p4.toInt) (b := 1) rfl rfl (by omega) (by omega); omega))), trivial⟩, y_89, f_90, (by show 1 ≤ (y_89 : Int32).toInt ∧ (y_89 : Int32).toInt ≤ 1000; first | with_reducible assumption | (constructor <;> (have := kk_add2 (x := n0_ran) (y := 1) (a := n0_ran.toInt) (b := 1) rfl rfl (by omega) (by omega); have := kk_add2 (x := p4) (y := 1) (a := p4.toInt) (b := 1) rfl rfl (by omega) (by omega); omega))), (by show (y_89 : Int32).toInt ≤ (n0_ran : Int32).toInt + 19; first | with_reducible assumption | (have := kk_add2 (x := n0_ran) (y := 1) (a := n0_ran.toInt) (b := 1) rfl rfl (by omega) (by omega); have := kk_add2 (x := p4) (y := 1) (a := p4.toInt) (b := 1) rfl rfl (by omega) (by omega); omega)), (by first | exact kk_P_eq (kk_P_trans hp_87 hn_90_0) rfl | (unfold kt_tells; (repeat' split) <;> first | exact kk_P_eq (kk_P_trans hp_87 hn_90_0) rfl | (exfalso; have : (0 : Int32).toInt = 0 := rfl; have : (1 : Int32).toInt = 1 := rfl; have : (2 : Int32).toInt = 2 := rfl; have : (3 : Int32).toInt = 3 := rfl; have : (4 : Int32).toInt = 4 := rfl; have : (5 : Int32).toInt = 5 := rfl; have : (6 : Int32).toInt = 6 := rfl; have : (7 : Int32).toInt = 7 := rfl; have := kk_add2 (x := n0_ran) (y := 1) (a := n0_ran.toInt) (b := 1) rfl rfl (by omega) (by omega); have := kk_add2 (x := p4) (y := 1) (a := p4.toInt) (b := 1) rfl rfl (by omega) (by omega); omega))), by rw [ht]; exact hP9, va_K.moved hW.alike hK9, hD9⟩, hS.F ht⟩) hS.2.2 dX5_call_143
      · have t_86 : n0_ran.toInt < 24 := kk_nle c_86
        refine lv_aload_n hx hb dX5_call_86 rfl (lv_at hl 2 rfl) ?_
        refine va_get (D := (dC, dI)) (ci := 5) (v := .ref h2) (C := RX5) (T := TX5) (N := 4) hx hb hts (fun _ h => List.mem_cons_of_mem _ (List.mem_append_right _ h)) hown hK hP 0 rfl rfl 2 (by decide) (hts (.fieldLink RX5 15 "KinkStreet$Lines" "trace" "[I") (List.mem_of_getElem? (i := 4) rfl)) (fun _ h9 => h9) rfl dX5_call_87 ?_
        refine lv_aload_n hx hb dX5_call_90 rfl (lv_at hl 2 rfl) ?_
        refine va_get (D := (dC, dI)) (ci := 5) (v := .int n0_ran) (C := RX5) (T := TX5) (N := 4) hx hb hts (fun _ h => List.mem_cons_of_mem _ (List.mem_append_right _ h)) hown hK hP 0 rfl rfl 3 (by decide) (hts (.fieldLink RX5 36 "KinkStreet$Lines" "ran" "I") (List.mem_of_getElem? (i := 3) rfl)) (fun _ h9 => h9) rfl dX5_call_91 ?_
        refine lv_iload hx hb dX5_call_94 (lv_at hl 0 rfl) ?_
        refine va_iast hx hb hK hP hD hS 2 0 rfl rfl (vp_in_iff.mpr ⟨by omega, by omega⟩) dX5_call_96 (fun H locs hP hD hS => ?_)
        have w_91 : ((upd f2 (n0_ran : Int32).toNatClampNeg 51) (n0_ran : Int32).toNatClampNeg).toInt = (51 : Int32).toInt := by rw [kk_ups]
        have hP : va_P (dC, dI) vwCl [(h0, kO5 h1 n0_size h2 n0_ran), (h1, kAi cint 50 f1), (h2, kAi cint 24 (upd f2 (n0_ran : Int32).toNatClampNeg 51))] H := hP
        have hD : va_D A [(h0, kO5 h1 n0_size h2 n0_ran), (h1, kAi cint 50 f1), (h2, kAi cint 24 (upd f2 (n0_ran : Int32).toNatClampNeg 51))] := hD
        refine lv_aload_n hx hb dX5_call_97 rfl (lv_at hl 2 rfl) ?_
        refine lv_dup hx hb dX5_call_98 rfl ?_
        refine va_get (D := (dC, dI)) (ci := 5) (v := .int n0_ran) (C := RX5) (T := TX5) (N := 4) hx hb hts (fun _ h => List.mem_cons_of_mem _ (List.mem_append_right _ h)) hown hK hP 0 rfl rfl 3 (by decide) (hts (.fieldLink RX5 36 "KinkStreet$Lines" "ran" "I") (List.mem_of_getElem? (i := 3) rfl)) (fun _ h9 => h9) rfl dX5_call_99 ?_
        refine lv_iconst (v := 1) hx hb dX5_call_102 kk_ic_1 ?_
        refine lv_iadd hx hb dX5_call_103 ?_
        refine va_put (D := (dC, dI)) (ci := 5) (v := .int (n0_ran + 1)) (ty := .int) (C := RX5) (T := TX5) (N := 4) hx hb hts (fun _ h => List.mem_cons_of_mem _ (List.mem_append_right _ h)) tyX5 tyX5_ok nmX5 hown hK hP hD hS 0 rfl rfl 3 (by decide) (hts (.fieldLink RX5 36 "KinkStreet$Lines" "ran" "I") (List.mem_of_getElem? (i := 3) rfl)) (fun _ h9 => h9) rfl (by decide +kernel) rfl rfl (Nat.le_of_ble_eq_true rfl) dX5_call_104 (fun H locs hP hD hS => ?_)
        have hP : va_P (dC, dI) vwCl [(h0, kO5 h1 n0_size h2 (n0_ran + 1)), (h1, kAi cint 50 f1), (h2, kAi cint 24 (upd f2 (n0_ran : Int32).toNatClampNeg 51))] H := hP
        have hD : va_D A [(h0, kO5 h1 n0_size h2 (n0_ran + 1)), (h1, kAi cint 50 f1), (h2, kAi cint 24 (upd f2 (n0_ran : Int32).toNatClampNeg 51))] := hD
        have hp_92 : kk_P f2 (upd f2 (n0_ran : Int32).toNatClampNeg 51) n0_ran.toInt (n0_ran + 1 : Int32).toInt [51] := kk_P_one (by have := kk_add2 (x := n0_ran) (y := 1) (a := n0_ran.toInt) (b := 1) rfl rfl (by omega) (by omega); omega) (by have := kk_add2 (x := n0_ran) (y := 1) (a := n0_ran.toInt) (b := 1) rfl rfl (by omega) (by omega); omega)
        refine lv_iload hx hb dX5_call_107 (lv_at hl 1 rfl) ?_
        refine lv_if_ne (tgt := 128) hx hb dX5_call_109 (by decide) (fun _ => ?_) (fun c => absurd c (by decide))
        refine lv_aload_n hx hb dX5_call_128 rfl (lv_at hl 2 rfl) ?_
        refine lv_iload_n hx hb dX5_call_129 rfl (lv_at hl 3 rfl) ?_
        refine lv_iload hx hb dX5_call_130 (lv_at hl 1 rfl) ?_
        refine lv_iload hx hb dX5_call_132 (lv_at hl 0 rfl) ?_
        refine lv_iload hx hb dX5_call_134 (lv_at hl 6 rfl) ?_
        refine lv_iload hx hb dX5_call_136 (lv_at hl 7 rfl) ?_
        refine lv_iconst (v := 1) hx hb dX5_call_138 kk_ic_1 ?_
        refine lv_iadd hx hb dX5_call_139 ?_
        obtain ⟨hPc, hDc, hFc⟩ := kk_cutout (wc := [(h0, kO5 h1 n0_size h2 (n0_ran + 1)), (h1, kAi cint 50 f1), (h2, kAi cint 24 (upd f2 (n0_ran : Int32).toNatClampNeg 51))]) hP hD hS hA [0, 1, 2] (by decide) rfl
        have hKc := kk_Ks (tq := [(cint, .int)]) hK [0] rfl
        refine va_calli (va_runV (As := [.int p0, .int 4, .int 51, .int p3, .int (p4 + 1)]) (rest := []) ⟨hx, hb, hml, hown, hts⟩ (g_X5_runUnder_17 l dC dI h0 h1 h2 cint H.size p0 p3 (p4 + 1) (by show 0 ≤ ((p4 + 1) : Int32).toInt ∧ ((p4 + 1) : Int32).toInt ≤ 1; first | with_reducible assumption | (constructor <;> (have := kk_add2 (x := n0_ran) (y := 1) (a := n0_ran.toInt) (b := 1) rfl rfl (by omega) (by omega); have := kk_add2 (x := p4) (y := 1) (a := p4.toInt) (b := 1) rfl rfl (by omega) (by omega); omega))) n0_size (n0_ran + 1) f1 (upd f2 (n0_ran : Int32).toNatClampNeg 51) tn0_size (by show 0 ≤ ((n0_ran + 1) : Int32).toInt ∧ ((n0_ran + 1) : Int32).toInt ≤ 982; first | with_reducible assumption | (constructor <;> (have := kk_add2 (x := n0_ran) (y := 1) (a := n0_ran.toInt) (b := 1) rfl rfl (by omega) (by omega); have := kk_add2 (x := p4) (y := 1) (a := p4.toInt) (b := 1) rfl rfl (by omega) (by omega); omega))) bf1 (by show (0 ≤ (p0 : Int32).toInt ∧ (p0 : Int32).toInt < (n0_size : Int32).toInt); first | with_reducible assumption | (have := kk_add2 (x := n0_ran) (y := 1) (a := n0_ran.toInt) (b := 1) rfl rfl (by omega) (by omega); have := kk_add2 (x := p4) (y := 1) (a := p4.toInt) (b := 1) rfl rfl (by omega) (by omega); omega)) aABOVE aOWN_BODIES) (cwV 5 hts gX5_call_X5_runUnder rfl rfl rfl ⟨rfl, kh_X5_runUnder⟩ ⟨Nat.le_of_ble_eq_true rfl, Nat.le_of_ble_eq_true rfl⟩) ⟨fun a U g mk q => by obtain ⟨q0, q1, qP, qK, qD, qx0, qx1, qx2, qx3⟩ := q; exact ⟨q0, q1, qP, va_K.moved (u := U) (U := U.calling g mk a) (Vm.Alike.refl U.vm) qK, qD, va_Z.moved (u := U) (U := U.calling g mk a) (Vm.Alike.refl U.vm) qx0, va_T.moved (u := U) (U := U.calling g mk a) (Vm.Alike.refl U.vm) qx1, va_Z.moved (u := U) (U := U.calling g mk a) (Vm.Alike.refl U.vm) qx2, va_T.moved (u := U) (U := U.calling g mk a) (Vm.Alike.refl U.vm) qx3⟩, va_recv hKc hPc (ci := 5) (q0 := 0) rfl rfl, fun U hU hW => ⟨rfl, by rw [hU], by rw [hU]; exact hPc, va_K.moved hW.alike hKc, hDc.weaken (fun _ _ _ _ => trivial), by rw [hU]; exact ((hZABOVE.kept (fun a h1 h2 => hS.2.1 a h1 h2)).narrow hFc).moved hW.alike, by rw [hU]; exact ((hTABOVE.kept (fun a h1 h2 => hS.2.1 a h1 h2)).narrow hFc).moved hW.alike, by rw [hU]; exact ((hZOWN_BODIES.kept (fun a h1 h2 => hS.2.1 a h1 h2)).narrow hFc).moved hW.alike, by rw [hU]; exact ((hTOWN_BODIES.kept (fun a h1 h2 => hS.2.1 a h1 h2)).narrow hFc).moved hW.alike⟩⟩ rfl rfl hl.1 rfl (lv_room (Nat.le_of_ble_eq_true rfl)) dX5_call_140 ⟨Nat.le_of_ble_eq_true rfl, Nat.le_of_ble_eq_true rfl⟩) hS (fun q _ h => hFc q h) hFc (fun r_93 u t H1 locs ht hvm hw hB hz1 hk1 hS => ?_)
        obtain ⟨y_94, f_95, by_94, v_95_0, hn_95_0, hP1, hK1, hD1⟩ := hB
        have v_95_0 : y_94.toInt ≤ (n0_ran + 1).toInt + 18 := v_95_0
        have hn_95_0 : kk_P (upd f2 (n0_ran : Int32).toNatClampNeg 51) f_95 (n0_ran + 1).toInt y_94.toInt ((kt_tells (f1 (p0 : Int32).toNatClampNeg) 4).tail) := hn_95_0
        rw [ht] at hP1
        have hK1 := va_K.moved hvm.symm hK1
        obtain ⟨hP, hD⟩ := va_join (wr := []) (w1 := [(h0, kO5 h1 n0_size h2 y_94), (h1, kAi cint 50 f1), (h2, kAi cint 24 f_95)]) hP hD [0, 1, 2] [] rfl rfl (by decide) (by decide) hk1 hFc hP1 hD1
        generalize H1 = H at hP hS ⊢
        have hP : va_P (dC, dI) vwCl [(h0, kO5 h1 n0_size h2 y_94), (h1, kAi cint 50 f1), (h2, kAi cint 24 f_95)] H := hP
        have hD : va_D A [(h0, kO5 h1 n0_size h2 y_94), (h1, kAi cint 50 f1), (h2, kAi cint 24 f_95)] := hD
        rcases hw with ⟨t_93_0, _⟩
        · skip
          have t_93_0 : r_93 = kk_tells (f1 (p0 : Int32).toNatClampNeg) 4 p0 p3 := t_93_0
          obtain rfl : r_93 = (kk_tells (f1 (p0 : Int32).toNatClampNeg) 4 p0 p3) := t_93_0
          obtain ⟨hP9, hD9⟩ := kk_leafout (wc := [(h0, kO5 h1 n0_size h2 y_94), (h1, kAi cint 50 f1), (h2, kAi cint 24 f_95)]) hP hD [0, 1, 2] (by decide) rfl
          have hK9 := kk_Ks (tq := []) hK [] rfl
          exact W.iret (v := (kk_tells (f1 (p0 : Int32).toNatClampNeg) 4 p0 p3)) hx hb hr (fun t ht hW => ⟨⟨(kk_tells (f1 (p0 : Int32).toNatClampNeg) 4 p0 p3), (), rfl, ⟨(by first | rfl | (unfold kk_tells; (repeat' split) <;> first | rfl | (exfalso; have : (0 : Int32).toInt = 0 := rfl; have : (1 : Int32).toInt = 1 := rfl; have : (2 : Int32).toInt = 2 := rfl; have : (3 : Int32).toInt = 3 := rfl; have : (4 : Int32).toInt = 4 := rfl; have : (5 : Int32).toInt = 5 := rfl; have : (6 : Int32).toInt = 6 := rfl; have : (7 : Int32).toInt = 7 := rfl; have := kk_add2 (x := n0_ran) (y := 1) (a := n0_ran.toInt) (b := 1) rfl rfl (by omega) (by omega); have := kk_add2 (x := p4) (y := 1) (a := p4.toInt) (b := 1) rfl rfl (by omega) (by omega); omega))), trivial⟩, y_94, f_95, (by show 1 ≤ (y_94 : Int32).toInt ∧ (y_94 : Int32).toInt ≤ 1000; first | with_reducible assumption | (constructor <;> (have := kk_add2 (x := n0_ran) (y := 1) (a := n0_ran.toInt) (b := 1) rfl rfl (by omega) (by omega); have := kk_add2 (x := p4) (y := 1) (a := p4.toInt) (b := 1) rfl rfl (by omega) (by omega); omega))), (by show (y_94 : Int32).toInt ≤ (n0_ran : Int32).toInt + 19; first | with_reducible assumption | (have := kk_add2 (x := n0_ran) (y := 1) (a := n0_ran.toInt) (b := 1) rfl rfl (by omega) (by omega); have := kk_add2 (x := p4) (y := 1) (a := p4.toInt) (b := 1) rfl rfl (by omega) (by omega); omega)), (by first | exact kk_P_eq (kk_P_trans hp_92 hn_95_0) rfl | (unfold kt_tells; (repeat' split) <;> first | exact kk_P_eq (kk_P_trans hp_92 hn_95_0) rfl | (exfalso; have : (0 : Int32).toInt = 0 := rfl; have : (1 : Int32).toInt = 1 := rfl; have : (2 : Int32).toInt = 2 := rfl; have : (3 : Int32).toInt = 3 := rfl; have : (4 : Int32).toInt = 4 := rfl; have : (5 : Int32).toInt = 5 := rfl; have : (6 : Int32).toInt = 6 := rfl; have : (7 : Int32).toInt = 7 := rfl; have := kk_add2 (x := n0_ran) (y := 1) (a := n0_ran.toInt) (b := 1) rfl rfl (by omega) (by omega); have := kk_add2 (x := p4) (y := 1) (a := p4.toInt) (b := 1) rfl rfl (by omega) (by omega); omega))), by rw [ht]; exact hP9, va_K.moved hW.alike hK9, hD9⟩, hS.F ht⟩) hS.2.2 dX5_call_143
    · have t_83 : 40 < p4.toInt := kk_nle c_83
      exfalso; omega
  · have t_1 : p1.toInt = 5 := by rw [e_1]; rfl
    subst e_1
    refine lv_iload_n hx hb dX5_call_0 rfl (lv_at hl 2 rfl) ?_
    refine lv_istore hx hb dX5_call_1 hl (by decide) (rfl : _ = ([(6, .int 5), (0, .ref h0), (1, .int p0), (2, .int 5), (3, .int 3), (4, .int p3), (5, .int p4)] : List (Nat × Value))) (fun ls hl => ?_)
    refine lv_iconst (v := 0) hx hb dX5_call_3 kk_ic_0 ?_
    refine lv_istore hx hb dX5_call_4 hl (by decide) (rfl : _ = ([(7, .int 0), (6, .int 5), (0, .ref h0), (1, .int p0), (2, .int 5), (3, .int 3), (4, .int p3), (5, .int p4)] : List (Nat × Value))) (fun ls hl => ?_)
    refine lv_iload hx hb dX5_call_6 (lv_at hl 0 rfl) ?_
    refine lv_bipush (v := 8) hx hb dX5_call_8 kk_bi_8 ?_
    refine lv_icmp_ge (tgt := 48) hx hb dX5_call_10 (by decide) (fun c => absurd c (by decide)) (fun _ => ?_)
    refine lv_iload hx hb dX5_call_13 (lv_at hl 1 rfl) ?_
    obtain ⟨hPc, hDc, hFc⟩ := kk_cutout (wc := []) hP hD hS hA [] (by decide) rfl
    have hKc := kk_Ks (tq := []) hK [] rfl
    refine va_calli (va_runS (As := [.int 5]) (rest := []) ⟨hx, hb, hml, hown, hts⟩ (g_X5_isKind_16 l dC dI s.heap.size) (va_cwS 1 hts gX5_call_X5_isKind rfl rfl rfl kh_X5_isKind ⟨Nat.le_of_ble_eq_true rfl, Nat.le_of_ble_eq_true rfl⟩) ⟨fun a U g mk q => by obtain ⟨q0, q1, qP, qK, qD⟩ := q; exact ⟨q0, q1, qP, va_K.moved (u := U) (U := U.calling g mk a) (Vm.Alike.refl U.vm) qK, qD⟩, fun U hU hW => ⟨rfl, by rw [hU], by rw [hU]; exact hPc, va_K.moved hW.alike hKc, hDc.weaken (fun _ _ _ _ => trivial)⟩⟩ rfl rfl hl.1 rfl (lv_room (Nat.le_of_ble_eq_true rfl)) dX5_call_15 ⟨Nat.le_of_ble_eq_true rfl, Nat.le_of_ble_eq_true rfl⟩) hS (fun q _ h => hFc q h) hFc (fun r_96 u t H1 locs ht hvm hw hB hz1 hk1 hS => ?_)
    obtain ⟨hP1, hK1, hD1⟩ := hB
    rw [ht] at hP1
    have hK1 := va_K.moved hvm.symm hK1
    obtain ⟨hP, hD⟩ := va_join (wr := [(h0, kO5 h1 n0_size h2 n0_ran), (h1, kAi cint 50 f1), (h2, kAi cint 24 f2)]) (w1 := []) hP hD [] [0, 1, 2] rfl rfl (by decide) (by decide) hk1 hFc hP1 hD1
    generalize H1 = H at hP hS ⊢
    have hP : va_P (dC, dI) vwCl [(h0, kO5 h1 n0_size h2 n0_ran), (h1, kAi cint 50 f1), (h2, kAi cint 24 f2)] H := hP
    have hD : va_D A [(h0, kO5 h1 n0_size h2 n0_ran), (h1, kAi cint 50 f1), (h2, kAi cint 24 f2)] := hD
    obtain rfl := hw
    refine lv_if_eq (tgt := 48) hx hb dX5_call_18 (by decide) (fun c => absurd c (by decide)) (fun _ => ?_)
    refine va_gets hx hb hZOWN_BODIES hS hown (hts (.fieldLink RX5 43 "KinkStreet$Lines" "OWN_BODIES" "[I") (List.mem_of_getElem? (i := 1) rfl)) (fun _ h9 => h9) dX5_call_21 ?_
    refine lv_iload hx hb dX5_call_24 (lv_at hl 1 rfl) ?_
    refine lv_iconst (v := 4) hx hb dX5_call_26 kk_ic_4 ?_
    refine lv_imul hx hb dX5_call_27 ?_
    refine lv_topi (fun y_97 e_97 => ?_)
    obtain rfl : y_97 = 20 := e_97.trans (by decide)
    refine lv_iload_n hx hb dX5_call_28 rfl (lv_at hl 5 rfl) ?_
    refine lv_iadd hx hb dX5_call_29 ?_
    refine lv_topi (fun y_98 e_98 => ?_)
    obtain rfl : y_98 = 23 := e_98.trans (by decide)
    refine va_ti (v := .int 0) hx hb hTOWN_BODIES hS (by unfold vp_in; decide) rfl dX5_call_30 ?_
    refine lv_if_ne (tgt := 48) hx hb dX5_call_31 (by decide) (fun c => absurd c (by decide)) (fun _ => ?_)
    refine va_gets hx hb hZABOVE hS hown (hts (.fieldLink RX5 22 "KinkStreet$Lines" "ABOVE" "[I") (List.mem_of_getElem? (i := 2) rfl)) (fun _ h9 => h9) dX5_call_34 ?_
    refine lv_iload hx hb dX5_call_37 (lv_at hl 1 rfl) ?_
    refine va_ti (v := .int 1) hx hb hTABOVE hS (by unfold vp_in; decide) rfl dX5_call_39 ?_
    refine lv_istore hx hb dX5_call_40 hl (by decide) (rfl : _ = ([(6, .int 1), (7, .int 0), (0, .ref h0), (1, .int p0), (2, .int 5), (3, .int 3), (4, .int p3), (5, .int p4)] : List (Nat × Value))) (fun ls hl => ?_)
    refine lv_iinc (v := 1) hx hb dX5_call_42 hl (k := 1) rfl (by first | rfl | decide) (by decide) (rfl : _ = ([(7, .int 1), (6, .int 1), (0, .ref h0), (1, .int p0), (2, .int 5), (3, .int 3), (4, .int p3), (5, .int p4)] : List (Nat × Value))) (fun ls hl => ?_)
    refine lv_goto (tgt := 6) hx hb dX5_call_45 (by decide) ?_
    refine lv_iload hx hb dX5_call_6 (lv_at hl 0 rfl) ?_
    refine lv_bipush (v := 8) hx hb dX5_call_8 kk_bi_8 ?_
    refine lv_icmp_ge (tgt := 48) hx hb dX5_call_10 (by decide) (fun c => absurd c (by decide)) (fun _ => ?_)
    refine lv_iload hx hb dX5_call_13 (lv_at hl 1 rfl) ?_
    obtain ⟨hPc, hDc, hFc⟩ := kk_cutout (wc := []) hP hD hS hA [] (by decide) rfl
    have hKc := kk_Ks (tq := []) hK [] rfl
    refine va_calli (va_runS (As := [.int 1]) (rest := []) ⟨hx, hb, hml, hown, hts⟩ (g_X5_isKind_12 l dC dI H.size) (va_cwS 1 hts gX5_call_X5_isKind rfl rfl rfl kh_X5_isKind ⟨Nat.le_of_ble_eq_true rfl, Nat.le_of_ble_eq_true rfl⟩) ⟨fun a U g mk q => by obtain ⟨q0, q1, qP, qK, qD⟩ := q; exact ⟨q0, q1, qP, va_K.moved (u := U) (U := U.calling g mk a) (Vm.Alike.refl U.vm) qK, qD⟩, fun U hU hW => ⟨rfl, by rw [hU], by rw [hU]; exact hPc, va_K.moved hW.alike hKc, hDc.weaken (fun _ _ _ _ => trivial)⟩⟩ rfl rfl hl.1 rfl (lv_room (Nat.le_of_ble_eq_true rfl)) dX5_call_15 ⟨Nat.le_of_ble_eq_true rfl, Nat.le_of_ble_eq_true rfl⟩) hS (fun q _ h => hFc q h) hFc (fun r_99 u t H1 locs ht hvm hw hB hz1 hk1 hS => ?_)
    obtain ⟨hP1, hK1, hD1⟩ := hB
    rw [ht] at hP1
    have hK1 := va_K.moved hvm.symm hK1
    obtain ⟨hP, hD⟩ := va_join (wr := [(h0, kO5 h1 n0_size h2 n0_ran), (h1, kAi cint 50 f1), (h2, kAi cint 24 f2)]) (w1 := []) hP hD [] [0, 1, 2] rfl rfl (by decide) (by decide) hk1 hFc hP1 hD1
    generalize H1 = H at hP hS ⊢
    have hP : va_P (dC, dI) vwCl [(h0, kO5 h1 n0_size h2 n0_ran), (h1, kAi cint 50 f1), (h2, kAi cint 24 f2)] H := hP
    have hD : va_D A [(h0, kO5 h1 n0_size h2 n0_ran), (h1, kAi cint 50 f1), (h2, kAi cint 24 f2)] := hD
    obtain rfl := hw
    refine lv_if_eq (tgt := 48) hx hb dX5_call_18 (by decide) (fun c => absurd c (by decide)) (fun _ => ?_)
    refine va_gets hx hb hZOWN_BODIES hS hown (hts (.fieldLink RX5 43 "KinkStreet$Lines" "OWN_BODIES" "[I") (List.mem_of_getElem? (i := 1) rfl)) (fun _ h9 => h9) dX5_call_21 ?_
    refine lv_iload hx hb dX5_call_24 (lv_at hl 1 rfl) ?_
    refine lv_iconst (v := 4) hx hb dX5_call_26 kk_ic_4 ?_
    refine lv_imul hx hb dX5_call_27 ?_
    refine lv_topi (fun y_100 e_100 => ?_)
    obtain rfl : y_100 = 4 := e_100.trans (by decide)
    refine lv_iload_n hx hb dX5_call_28 rfl (lv_at hl 5 rfl) ?_
    refine lv_iadd hx hb dX5_call_29 ?_
    refine lv_topi (fun y_101 e_101 => ?_)
    obtain rfl : y_101 = 7 := e_101.trans (by decide)
    refine va_ti (v := .int 0) hx hb hTOWN_BODIES hS (by unfold vp_in; decide) rfl dX5_call_30 ?_
    refine lv_if_ne (tgt := 48) hx hb dX5_call_31 (by decide) (fun c => absurd c (by decide)) (fun _ => ?_)
    refine va_gets hx hb hZABOVE hS hown (hts (.fieldLink RX5 22 "KinkStreet$Lines" "ABOVE" "[I") (List.mem_of_getElem? (i := 2) rfl)) (fun _ h9 => h9) dX5_call_34 ?_
    refine lv_iload hx hb dX5_call_37 (lv_at hl 1 rfl) ?_
    refine va_ti (v := .int 0) hx hb hTABOVE hS (by unfold vp_in; decide) rfl dX5_call_39 ?_
    refine lv_istore hx hb dX5_call_40 hl (by decide) (rfl : _ = ([(6, .int 0), (7, .int 1), (0, .ref h0), (1, .int p0), (2, .int 5), (3, .int 3), (4, .int p3), (5, .int p4)] : List (Nat × Value))) (fun ls hl => ?_)
    refine lv_iinc (v := 2) hx hb dX5_call_42 hl (k := 1) rfl (by first | rfl | decide) (by decide) (rfl : _ = ([(7, .int 2), (6, .int 0), (0, .ref h0), (1, .int p0), (2, .int 5), (3, .int 3), (4, .int p3), (5, .int p4)] : List (Nat × Value))) (fun ls hl => ?_)
    refine lv_goto (tgt := 6) hx hb dX5_call_45 (by decide) ?_
    refine lv_iload hx hb dX5_call_6 (lv_at hl 0 rfl) ?_
    refine lv_bipush (v := 8) hx hb dX5_call_8 kk_bi_8 ?_
    refine lv_icmp_ge (tgt := 48) hx hb dX5_call_10 (by decide) (fun c => absurd c (by decide)) (fun _ => ?_)
    refine lv_iload hx hb dX5_call_13 (lv_at hl 1 rfl) ?_
    obtain ⟨hPc, hDc, hFc⟩ := kk_cutout (wc := []) hP hD hS hA [] (by decide) rfl
    have hKc := kk_Ks (tq := []) hK [] rfl
    refine va_calli (va_runS (As := [.int 0]) (rest := []) ⟨hx, hb, hml, hown, hts⟩ (g_X5_isKind_11 l dC dI H.size) (va_cwS 1 hts gX5_call_X5_isKind rfl rfl rfl kh_X5_isKind ⟨Nat.le_of_ble_eq_true rfl, Nat.le_of_ble_eq_true rfl⟩) ⟨fun a U g mk q => by obtain ⟨q0, q1, qP, qK, qD⟩ := q; exact ⟨q0, q1, qP, va_K.moved (u := U) (U := U.calling g mk a) (Vm.Alike.refl U.vm) qK, qD⟩, fun U hU hW => ⟨rfl, by rw [hU], by rw [hU]; exact hPc, va_K.moved hW.alike hKc, hDc.weaken (fun _ _ _ _ => trivial)⟩⟩ rfl rfl hl.1 rfl (lv_room (Nat.le_of_ble_eq_true rfl)) dX5_call_15 ⟨Nat.le_of_ble_eq_true rfl, Nat.le_of_ble_eq_true rfl⟩) hS (fun q _ h => hFc q h) hFc (fun r_102 u t H1 locs ht hvm hw hB hz1 hk1 hS => ?_)
    obtain ⟨hP1, hK1, hD1⟩ := hB
    rw [ht] at hP1
    have hK1 := va_K.moved hvm.symm hK1
    obtain ⟨hP, hD⟩ := va_join (wr := [(h0, kO5 h1 n0_size h2 n0_ran), (h1, kAi cint 50 f1), (h2, kAi cint 24 f2)]) (w1 := []) hP hD [] [0, 1, 2] rfl rfl (by decide) (by decide) hk1 hFc hP1 hD1
    generalize H1 = H at hP hS ⊢
    have hP : va_P (dC, dI) vwCl [(h0, kO5 h1 n0_size h2 n0_ran), (h1, kAi cint 50 f1), (h2, kAi cint 24 f2)] H := hP
    have hD : va_D A [(h0, kO5 h1 n0_size h2 n0_ran), (h1, kAi cint 50 f1), (h2, kAi cint 24 f2)] := hD
    obtain rfl := hw
    refine lv_if_eq (tgt := 48) hx hb dX5_call_18 (by decide) (fun c => absurd c (by decide)) (fun _ => ?_)
    refine va_gets hx hb hZOWN_BODIES hS hown (hts (.fieldLink RX5 43 "KinkStreet$Lines" "OWN_BODIES" "[I") (List.mem_of_getElem? (i := 1) rfl)) (fun _ h9 => h9) dX5_call_21 ?_
    refine lv_iload hx hb dX5_call_24 (lv_at hl 1 rfl) ?_
    refine lv_iconst (v := 4) hx hb dX5_call_26 kk_ic_4 ?_
    refine lv_imul hx hb dX5_call_27 ?_
    refine lv_topi (fun y_103 e_103 => ?_)
    obtain rfl : y_103 = 0 := e_103.trans (by decide)
    refine lv_iload_n hx hb dX5_call_28 rfl (lv_at hl 5 rfl) ?_
    refine lv_iadd hx hb dX5_call_29 ?_
    refine lv_topi (fun y_104 e_104 => ?_)
    obtain rfl : y_104 = 3 := e_104.trans (by decide)
    refine va_ti (v := .int 2) hx hb hTOWN_BODIES hS (by unfold vp_in; decide) rfl dX5_call_30 ?_
    refine lv_if_ne (tgt := 48) hx hb dX5_call_31 (by decide) (fun _ => ?_) (fun c => absurd c (by decide))
    refine lv_iload hx hb dX5_call_48 (lv_at hl 1 rfl) ?_
    obtain ⟨hPc, hDc, hFc⟩ := kk_cutout (wc := []) hP hD hS hA [] (by decide) rfl
    have hKc := kk_Ks (tq := []) hK [] rfl
    refine va_calli (va_runS (As := [.int 0]) (rest := []) ⟨hx, hb, hml, hown, hts⟩ (g_X5_isKind_11 l dC dI H.size) (va_cwS 1 hts gX5_call_X5_isKind rfl rfl rfl kh_X5_isKind ⟨Nat.le_of_ble_eq_true rfl, Nat.le_of_ble_eq_true rfl⟩) ⟨fun a U g mk q => by obtain ⟨q0, q1, qP, qK, qD⟩ := q; exact ⟨q0, q1, qP, va_K.moved (u := U) (U := U.calling g mk a) (Vm.Alike.refl U.vm) qK, qD⟩, fun U hU hW => ⟨rfl, by rw [hU], by rw [hU]; exact hPc, va_K.moved hW.alike hKc, hDc.weaken (fun _ _ _ _ => trivial)⟩⟩ rfl rfl hl.1 rfl (lv_room (Nat.le_of_ble_eq_true rfl)) dX5_call_50 ⟨Nat.le_of_ble_eq_true rfl, Nat.le_of_ble_eq_true rfl⟩) hS (fun q _ h => hFc q h) hFc (fun r_105 u t H1 locs ht hvm hw hB hz1 hk1 hS => ?_)
    obtain ⟨hP1, hK1, hD1⟩ := hB
    rw [ht] at hP1
    have hK1 := va_K.moved hvm.symm hK1
    obtain ⟨hP, hD⟩ := va_join (wr := [(h0, kO5 h1 n0_size h2 n0_ran), (h1, kAi cint 50 f1), (h2, kAi cint 24 f2)]) (w1 := []) hP hD [] [0, 1, 2] rfl rfl (by decide) (by decide) hk1 hFc hP1 hD1
    generalize H1 = H at hP hS ⊢
    have hP : va_P (dC, dI) vwCl [(h0, kO5 h1 n0_size h2 n0_ran), (h1, kAi cint 50 f1), (h2, kAi cint 24 f2)] H := hP
    have hD : va_D A [(h0, kO5 h1 n0_size h2 n0_ran), (h1, kAi cint 50 f1), (h2, kAi cint 24 f2)] := hD
    obtain rfl := hw
    refine lv_if_eq (tgt := 63) hx hb dX5_call_53 (by decide) (fun c => absurd c (by decide)) (fun _ => ?_)
    refine lv_iload hx hb dX5_call_56 (lv_at hl 7 rfl) ?_
    refine lv_bipush (v := 40) hx hb dX5_call_58 kk_bi_40 ?_
    refine lv_icmp_le (tgt := 65) hx hb dX5_call_60 (by decide) (fun c_106 => ?_) (fun c_106 => ?_)
    · have t_106 : p4.toInt ≤ 40 := kk_le c_106
      refine va_gets hx hb hZOWN_BODIES hS hown (hts (.fieldLink RX5 43 "KinkStreet$Lines" "OWN_BODIES" "[I") (List.mem_of_getElem? (i := 1) rfl)) (fun _ h9 => h9) dX5_call_65 ?_
      refine lv_iload hx hb dX5_call_68 (lv_at hl 1 rfl) ?_
      refine lv_iconst (v := 4) hx hb dX5_call_70 kk_ic_4 ?_
      refine lv_imul hx hb dX5_call_71 ?_
      refine lv_topi (fun y_107 e_107 => ?_)
      obtain rfl : y_107 = 0 := e_107.trans (by decide)
      refine lv_iload_n hx hb dX5_call_72 rfl (lv_at hl 5 rfl) ?_
      refine lv_iadd hx hb dX5_call_73 ?_
      refine lv_topi (fun y_108 e_108 => ?_)
      obtain rfl : y_108 = 3 := e_108.trans (by decide)
      refine va_ti (v := .int 2) hx hb hTOWN_BODIES hS (by unfold vp_in; decide) rfl dX5_call_74 ?_
      refine lv_istore hx hb dX5_call_75 hl (by decide) (rfl : _ = ([(7, .int 2), (6, .int 0), (0, .ref h0), (1, .int p0), (2, .int 5), (3, .int 3), (4, .int p3), (5, .int p4)] : List (Nat × Value))) (fun ls hl => ?_)
      refine lv_aload_n hx hb dX5_call_77 rfl (lv_at hl 2 rfl) ?_
      refine va_get (D := (dC, dI)) (ci := 5) (v := .int n0_ran) (C := RX5) (T := TX5) (N := 4) hx hb hts (fun _ h => List.mem_cons_of_mem _ (List.mem_append_right _ h)) hown hK hP 0 rfl rfl 3 (by decide) (hts (.fieldLink RX5 36 "KinkStreet$Lines" "ran" "I") (List.mem_of_getElem? (i := 3) rfl)) (fun _ h9 => h9) rfl dX5_call_78 ?_
      refine lv_bipush (v := 24) hx hb dX5_call_81 kk_bi_24 ?_
      refine lv_icmp_ge (tgt := 97) hx hb dX5_call_83 (by decide) (fun c_109 => ?_) (fun c_109 => ?_)
      · have t_109 : 24 ≤ n0_ran.toInt := kk_le c_109
        refine lv_aload_n hx hb dX5_call_97 rfl (lv_at hl 2 rfl) ?_
        refine lv_dup hx hb dX5_call_98 rfl ?_
        refine va_get (D := (dC, dI)) (ci := 5) (v := .int n0_ran) (C := RX5) (T := TX5) (N := 4) hx hb hts (fun _ h => List.mem_cons_of_mem _ (List.mem_append_right _ h)) hown hK hP 0 rfl rfl 3 (by decide) (hts (.fieldLink RX5 36 "KinkStreet$Lines" "ran" "I") (List.mem_of_getElem? (i := 3) rfl)) (fun _ h9 => h9) rfl dX5_call_99 ?_
        refine lv_iconst (v := 1) hx hb dX5_call_102 kk_ic_1 ?_
        refine lv_iadd hx hb dX5_call_103 ?_
        refine va_put (D := (dC, dI)) (ci := 5) (v := .int (n0_ran + 1)) (ty := .int) (C := RX5) (T := TX5) (N := 4) hx hb hts (fun _ h => List.mem_cons_of_mem _ (List.mem_append_right _ h)) tyX5 tyX5_ok nmX5 hown hK hP hD hS 0 rfl rfl 3 (by decide) (hts (.fieldLink RX5 36 "KinkStreet$Lines" "ran" "I") (List.mem_of_getElem? (i := 3) rfl)) (fun _ h9 => h9) rfl (by decide +kernel) rfl rfl (Nat.le_of_ble_eq_true rfl) dX5_call_104 (fun H locs hP hD hS => ?_)
        have hP : va_P (dC, dI) vwCl [(h0, kO5 h1 n0_size h2 (n0_ran + 1)), (h1, kAi cint 50 f1), (h2, kAi cint 24 f2)] H := hP
        have hD : va_D A [(h0, kO5 h1 n0_size h2 (n0_ran + 1)), (h1, kAi cint 50 f1), (h2, kAi cint 24 f2)] := hD
        have hp_110 : kk_P f2 f2 n0_ran.toInt (n0_ran + 1 : Int32).toInt [2] := kk_P_out (by have := kk_add2 (x := n0_ran) (y := 1) (a := n0_ran.toInt) (b := 1) rfl rfl (by omega) (by omega); omega) (by have := kk_add2 (x := n0_ran) (y := 1) (a := n0_ran.toInt) (b := 1) rfl rfl (by omega) (by omega); omega)
        refine lv_iload hx hb dX5_call_107 (lv_at hl 1 rfl) ?_
        refine lv_if_ne (tgt := 128) hx hb dX5_call_109 (by decide) (fun c => absurd c (by decide)) (fun _ => ?_)
        refine lv_aload_n hx hb dX5_call_112 rfl (lv_at hl 2 rfl) ?_
        refine lv_iload_n hx hb dX5_call_113 rfl (lv_at hl 3 rfl) ?_
        refine lv_iload hx hb dX5_call_114 (lv_at hl 0 rfl) ?_
        refine lv_iload hx hb dX5_call_116 (lv_at hl 6 rfl) ?_
        refine lv_iload hx hb dX5_call_118 (lv_at hl 7 rfl) ?_
        refine lv_iconst (v := 1) hx hb dX5_call_120 kk_ic_1 ?_
        refine lv_iadd hx hb dX5_call_121 ?_
        obtain ⟨hPc, hDc, hFc⟩ := kk_cutout (wc := [(h0, kO5 h1 n0_size h2 (n0_ran + 1)), (h1, kAi cint 50 f1), (h2, kAi cint 24 f2)]) hP hD hS hA [0, 1, 2] (by decide) rfl
        have hKc := kk_Ks (tq := [(cint, .int)]) hK [0] rfl
        refine va_calli (va_runV (As := [.int p0, .int 2, .int p3, .int (p4 + 1)]) (rest := []) ⟨hx, hb, hml, hown, hts⟩ (g_X5_runLine_7 l dC dI h0 h1 h2 cint H.size p0 p3 (p4 + 1) (by show 0 ≤ ((p4 + 1) : Int32).toInt ∧ ((p4 + 1) : Int32).toInt ≤ 3; first | with_reducible assumption | (constructor <;> (have := kk_add2 (x := n0_ran) (y := 1) (a := n0_ran.toInt) (b := 1) rfl rfl (by omega) (by omega); have := kk_add2 (x := p4) (y := 1) (a := p4.toInt) (b := 1) rfl rfl (by omega) (by omega); omega))) n0_size (n0_ran + 1) f1 f2 tn0_size (by show 0 ≤ ((n0_ran + 1) : Int32).toInt ∧ ((n0_ran + 1) : Int32).toInt ≤ 983; first | with_reducible assumption | (constructor <;> (have := kk_add2 (x := n0_ran) (y := 1) (a := n0_ran.toInt) (b := 1) rfl rfl (by omega) (by omega); have := kk_add2 (x := p4) (y := 1) (a := p4.toInt) (b := 1) rfl rfl (by omega) (by omega); omega))) bf1 (by show (0 ≤ (p0 : Int32).toInt ∧ (p0 : Int32).toInt < (n0_size : Int32).toInt); first | with_reducible assumption | (have := kk_add2 (x := n0_ran) (y := 1) (a := n0_ran.toInt) (b := 1) rfl rfl (by omega) (by omega); have := kk_add2 (x := p4) (y := 1) (a := p4.toInt) (b := 1) rfl rfl (by omega) (by omega); omega)) aOWN_BODIES aABOVE) (cwV 4 hts gX5_call_X5_runLine rfl rfl rfl ⟨rfl, kh_X5_runLine⟩ ⟨Nat.le_of_ble_eq_true rfl, Nat.le_of_ble_eq_true rfl⟩) ⟨fun a U g mk q => by obtain ⟨q0, q1, qP, qK, qD, qx0, qx1, qx2, qx3⟩ := q; exact ⟨q0, q1, qP, va_K.moved (u := U) (U := U.calling g mk a) (Vm.Alike.refl U.vm) qK, qD, va_Z.moved (u := U) (U := U.calling g mk a) (Vm.Alike.refl U.vm) qx0, va_T.moved (u := U) (U := U.calling g mk a) (Vm.Alike.refl U.vm) qx1, va_Z.moved (u := U) (U := U.calling g mk a) (Vm.Alike.refl U.vm) qx2, va_T.moved (u := U) (U := U.calling g mk a) (Vm.Alike.refl U.vm) qx3⟩, va_recv hKc hPc (ci := 5) (q0 := 0) rfl rfl, fun U hU hW => ⟨rfl, by rw [hU], by rw [hU]; exact hPc, va_K.moved hW.alike hKc, hDc.weaken (fun _ _ _ _ => trivial), by rw [hU]; exact ((hZOWN_BODIES.kept (fun a h1 h2 => hS.2.1 a h1 h2)).narrow hFc).moved hW.alike, by rw [hU]; exact ((hTOWN_BODIES.kept (fun a h1 h2 => hS.2.1 a h1 h2)).narrow hFc).moved hW.alike, by rw [hU]; exact ((hZABOVE.kept (fun a h1 h2 => hS.2.1 a h1 h2)).narrow hFc).moved hW.alike, by rw [hU]; exact ((hTABOVE.kept (fun a h1 h2 => hS.2.1 a h1 h2)).narrow hFc).moved hW.alike⟩⟩ rfl rfl hl.1 rfl (lv_room (Nat.le_of_ble_eq_true rfl)) dX5_call_122 ⟨Nat.le_of_ble_eq_true rfl, Nat.le_of_ble_eq_true rfl⟩) hS (fun q _ h => hFc q h) hFc (fun r_111 u t H1 locs ht hvm hw hB hz1 hk1 hS => ?_)
        obtain ⟨y_112, f_113, by_112, v_113_0, hn_113_0, hP1, hK1, hD1⟩ := hB
        have v_113_0 : y_112.toInt ≤ (n0_ran + 1).toInt + 17 := v_113_0
        have hn_113_0 : kk_P f2 f_113 (n0_ran + 1).toInt y_112.toInt ((kt_tells (f1 (p0 : Int32).toNatClampNeg) 0).tail) := hn_113_0
        rw [ht] at hP1
        have hK1 := va_K.moved hvm.symm hK1
        obtain ⟨hP, hD⟩ := va_join (wr := []) (w1 := [(h0, kO5 h1 n0_size h2 y_112), (h1, kAi cint 50 f1), (h2, kAi cint 24 f_113)]) hP hD [0, 1, 2] [] rfl rfl (by decide) (by decide) hk1 hFc hP1 hD1
        generalize H1 = H at hP hS ⊢
        have hP : va_P (dC, dI) vwCl [(h0, kO5 h1 n0_size h2 y_112), (h1, kAi cint 50 f1), (h2, kAi cint 24 f_113)] H := hP
        have hD : va_D A [(h0, kO5 h1 n0_size h2 y_112), (h1, kAi cint 50 f1), (h2, kAi cint 24 f_113)] := hD
        rcases hw with ⟨t_111_0, _⟩
        · skip
          have t_111_0 : r_111 = kk_tells (f1 (p0 : Int32).toNatClampNeg) 0 p0 p3 := t_111_0
          obtain rfl : r_111 = (kk_tells (f1 (p0 : Int32).toNatClampNeg) 0 p0 p3) := t_111_0
          refine lv_goto (tgt := 143) hx hb dX5_call_125 (by decide) ?_
          obtain ⟨hP9, hD9⟩ := kk_leafout (wc := [(h0, kO5 h1 n0_size h2 y_112), (h1, kAi cint 50 f1), (h2, kAi cint 24 f_113)]) hP hD [0, 1, 2] (by decide) rfl
          have hK9 := kk_Ks (tq := []) hK [] rfl
          exact W.iret (v := (kk_tells (f1 (p0 : Int32).toNatClampNeg) 0 p0 p3)) hx hb hr (fun t ht hW => ⟨⟨(kk_tells (f1 (p0 : Int32).toNatClampNeg) 0 p0 p3), (), rfl, ⟨(by first | rfl | (unfold kk_tells; (repeat' split) <;> first | rfl | (exfalso; have : (0 : Int32).toInt = 0 := rfl; have : (1 : Int32).toInt = 1 := rfl; have : (2 : Int32).toInt = 2 := rfl; have : (3 : Int32).toInt = 3 := rfl; have : (4 : Int32).toInt = 4 := rfl; have : (5 : Int32).toInt = 5 := rfl; have : (6 : Int32).toInt = 6 := rfl; have : (7 : Int32).toInt = 7 := rfl; have := kk_add2 (x := n0_ran) (y := 1) (a := n0_ran.toInt) (b := 1) rfl rfl (by omega) (by omega); have := kk_add2 (x := p4) (y := 1) (a := p4.toInt) (b := 1) rfl rfl (by omega) (by omega); omega))), trivial⟩, y_112, f_113, (by show 1 ≤ (y_112 : Int32).toInt ∧ (y_112 : Int32).toInt ≤ 1000; first | with_reducible assumption | (constructor <;> (have := kk_add2 (x := n0_ran) (y := 1) (a := n0_ran.toInt) (b := 1) rfl rfl (by omega) (by omega); have := kk_add2 (x := p4) (y := 1) (a := p4.toInt) (b := 1) rfl rfl (by omega) (by omega); omega))), (by show (y_112 : Int32).toInt ≤ (n0_ran : Int32).toInt + 19; first | with_reducible assumption | (have := kk_add2 (x := n0_ran) (y := 1) (a := n0_ran.toInt) (b := 1) rfl rfl (by omega) (by omega); have := kk_add2 (x := p4) (y := 1) (a := p4.toInt) (b := 1) rfl rfl (by omega) (by omega); omega)), (by first | exact kk_P_eq (kk_P_trans hp_110 hn_113_0) rfl | (unfold kt_tells; (repeat' split) <;> first | exact kk_P_eq (kk_P_trans hp_110 hn_113_0) rfl | (exfalso; have : (0 : Int32).toInt = 0 := rfl; have : (1 : Int32).toInt = 1 := rfl; have : (2 : Int32).toInt = 2 := rfl; have : (3 : Int32).toInt = 3 := rfl; have : (4 : Int32).toInt = 4 := rfl; have : (5 : Int32).toInt = 5 := rfl; have : (6 : Int32).toInt = 6 := rfl; have : (7 : Int32).toInt = 7 := rfl; have := kk_add2 (x := n0_ran) (y := 1) (a := n0_ran.toInt) (b := 1) rfl rfl (by omega) (by omega); have := kk_add2 (x := p4) (y := 1) (a := p4.toInt) (b := 1) rfl rfl (by omega) (by omega); omega))), by rw [ht]; exact hP9, va_K.moved hW.alike hK9, hD9⟩, hS.F ht⟩) hS.2.2 dX5_call_143
      · have t_109 : n0_ran.toInt < 24 := kk_nle c_109
        refine lv_aload_n hx hb dX5_call_86 rfl (lv_at hl 2 rfl) ?_
        refine va_get (D := (dC, dI)) (ci := 5) (v := .ref h2) (C := RX5) (T := TX5) (N := 4) hx hb hts (fun _ h => List.mem_cons_of_mem _ (List.mem_append_right _ h)) hown hK hP 0 rfl rfl 2 (by decide) (hts (.fieldLink RX5 15 "KinkStreet$Lines" "trace" "[I") (List.mem_of_getElem? (i := 4) rfl)) (fun _ h9 => h9) rfl dX5_call_87 ?_
        refine lv_aload_n hx hb dX5_call_90 rfl (lv_at hl 2 rfl) ?_
        refine va_get (D := (dC, dI)) (ci := 5) (v := .int n0_ran) (C := RX5) (T := TX5) (N := 4) hx hb hts (fun _ h => List.mem_cons_of_mem _ (List.mem_append_right _ h)) hown hK hP 0 rfl rfl 3 (by decide) (hts (.fieldLink RX5 36 "KinkStreet$Lines" "ran" "I") (List.mem_of_getElem? (i := 3) rfl)) (fun _ h9 => h9) rfl dX5_call_91 ?_
        refine lv_iload hx hb dX5_call_94 (lv_at hl 0 rfl) ?_
        refine va_iast hx hb hK hP hD hS 2 0 rfl rfl (vp_in_iff.mpr ⟨by omega, by omega⟩) dX5_call_96 (fun H locs hP hD hS => ?_)
        have w_114 : ((upd f2 (n0_ran : Int32).toNatClampNeg 2) (n0_ran : Int32).toNatClampNeg).toInt = (2 : Int32).toInt := by rw [kk_ups]
        have hP : va_P (dC, dI) vwCl [(h0, kO5 h1 n0_size h2 n0_ran), (h1, kAi cint 50 f1), (h2, kAi cint 24 (upd f2 (n0_ran : Int32).toNatClampNeg 2))] H := hP
        have hD : va_D A [(h0, kO5 h1 n0_size h2 n0_ran), (h1, kAi cint 50 f1), (h2, kAi cint 24 (upd f2 (n0_ran : Int32).toNatClampNeg 2))] := hD
        refine lv_aload_n hx hb dX5_call_97 rfl (lv_at hl 2 rfl) ?_
        refine lv_dup hx hb dX5_call_98 rfl ?_
        refine va_get (D := (dC, dI)) (ci := 5) (v := .int n0_ran) (C := RX5) (T := TX5) (N := 4) hx hb hts (fun _ h => List.mem_cons_of_mem _ (List.mem_append_right _ h)) hown hK hP 0 rfl rfl 3 (by decide) (hts (.fieldLink RX5 36 "KinkStreet$Lines" "ran" "I") (List.mem_of_getElem? (i := 3) rfl)) (fun _ h9 => h9) rfl dX5_call_99 ?_
        refine lv_iconst (v := 1) hx hb dX5_call_102 kk_ic_1 ?_
        refine lv_iadd hx hb dX5_call_103 ?_
        refine va_put (D := (dC, dI)) (ci := 5) (v := .int (n0_ran + 1)) (ty := .int) (C := RX5) (T := TX5) (N := 4) hx hb hts (fun _ h => List.mem_cons_of_mem _ (List.mem_append_right _ h)) tyX5 tyX5_ok nmX5 hown hK hP hD hS 0 rfl rfl 3 (by decide) (hts (.fieldLink RX5 36 "KinkStreet$Lines" "ran" "I") (List.mem_of_getElem? (i := 3) rfl)) (fun _ h9 => h9) rfl (by decide +kernel) rfl rfl (Nat.le_of_ble_eq_true rfl) dX5_call_104 (fun H locs hP hD hS => ?_)
        have hP : va_P (dC, dI) vwCl [(h0, kO5 h1 n0_size h2 (n0_ran + 1)), (h1, kAi cint 50 f1), (h2, kAi cint 24 (upd f2 (n0_ran : Int32).toNatClampNeg 2))] H := hP
        have hD : va_D A [(h0, kO5 h1 n0_size h2 (n0_ran + 1)), (h1, kAi cint 50 f1), (h2, kAi cint 24 (upd f2 (n0_ran : Int32).toNatClampNeg 2))] := hD
        have hp_115 : kk_P f2 (upd f2 (n0_ran : Int32).toNatClampNeg 2) n0_ran.toInt (n0_ran + 1 : Int32).toInt [2] := kk_P_one (by have := kk_add2 (x := n0_ran) (y := 1) (a := n0_ran.toInt) (b := 1) rfl rfl (by omega) (by omega); omega) (by have := kk_add2 (x := n0_ran) (y := 1) (a := n0_ran.toInt) (b := 1) rfl rfl (by omega) (by omega); omega)
        refine lv_iload hx hb dX5_call_107 (lv_at hl 1 rfl) ?_
        refine lv_if_ne (tgt := 128) hx hb dX5_call_109 (by decide) (fun c => absurd c (by decide)) (fun _ => ?_)
        refine lv_aload_n hx hb dX5_call_112 rfl (lv_at hl 2 rfl) ?_
        refine lv_iload_n hx hb dX5_call_113 rfl (lv_at hl 3 rfl) ?_
        refine lv_iload hx hb dX5_call_114 (lv_at hl 0 rfl) ?_
        refine lv_iload hx hb dX5_call_116 (lv_at hl 6 rfl) ?_
        refine lv_iload hx hb dX5_call_118 (lv_at hl 7 rfl) ?_
        refine lv_iconst (v := 1) hx hb dX5_call_120 kk_ic_1 ?_
        refine lv_iadd hx hb dX5_call_121 ?_
        obtain ⟨hPc, hDc, hFc⟩ := kk_cutout (wc := [(h0, kO5 h1 n0_size h2 (n0_ran + 1)), (h1, kAi cint 50 f1), (h2, kAi cint 24 (upd f2 (n0_ran : Int32).toNatClampNeg 2))]) hP hD hS hA [0, 1, 2] (by decide) rfl
        have hKc := kk_Ks (tq := [(cint, .int)]) hK [0] rfl
        refine va_calli (va_runV (As := [.int p0, .int 2, .int p3, .int (p4 + 1)]) (rest := []) ⟨hx, hb, hml, hown, hts⟩ (g_X5_runLine_7 l dC dI h0 h1 h2 cint H.size p0 p3 (p4 + 1) (by show 0 ≤ ((p4 + 1) : Int32).toInt ∧ ((p4 + 1) : Int32).toInt ≤ 3; first | with_reducible assumption | (constructor <;> (have := kk_add2 (x := n0_ran) (y := 1) (a := n0_ran.toInt) (b := 1) rfl rfl (by omega) (by omega); have := kk_add2 (x := p4) (y := 1) (a := p4.toInt) (b := 1) rfl rfl (by omega) (by omega); omega))) n0_size (n0_ran + 1) f1 (upd f2 (n0_ran : Int32).toNatClampNeg 2) tn0_size (by show 0 ≤ ((n0_ran + 1) : Int32).toInt ∧ ((n0_ran + 1) : Int32).toInt ≤ 983; first | with_reducible assumption | (constructor <;> (have := kk_add2 (x := n0_ran) (y := 1) (a := n0_ran.toInt) (b := 1) rfl rfl (by omega) (by omega); have := kk_add2 (x := p4) (y := 1) (a := p4.toInt) (b := 1) rfl rfl (by omega) (by omega); omega))) bf1 (by show (0 ≤ (p0 : Int32).toInt ∧ (p0 : Int32).toInt < (n0_size : Int32).toInt); first | with_reducible assumption | (have := kk_add2 (x := n0_ran) (y := 1) (a := n0_ran.toInt) (b := 1) rfl rfl (by omega) (by omega); have := kk_add2 (x := p4) (y := 1) (a := p4.toInt) (b := 1) rfl rfl (by omega) (by omega); omega)) aOWN_BODIES aABOVE) (cwV 4 hts gX5_call_X5_runLine rfl rfl rfl ⟨rfl, kh_X5_runLine⟩ ⟨Nat.le_of_ble_eq_true rfl, Nat.le_of_ble_eq_true rfl⟩) ⟨fun a U g mk q => by obtain ⟨q0, q1, qP, qK, qD, qx0, qx1, qx2, qx3⟩ := q; exact ⟨q0, q1, qP, va_K.moved (u := U) (U := U.calling g mk a) (Vm.Alike.refl U.vm) qK, qD, va_Z.moved (u := U) (U := U.calling g mk a) (Vm.Alike.refl U.vm) qx0, va_T.moved (u := U) (U := U.calling g mk a) (Vm.Alike.refl U.vm) qx1, va_Z.moved (u := U) (U := U.calling g mk a) (Vm.Alike.refl U.vm) qx2, va_T.moved (u := U) (U := U.calling g mk a) (Vm.Alike.refl U.vm) qx3⟩, va_recv hKc hPc (ci := 5) (q0 := 0) rfl rfl, fun U hU hW => ⟨rfl, by rw [hU], by rw [hU]; exact hPc, va_K.moved hW.alike hKc, hDc.weaken (fun _ _ _ _ => trivial), by rw [hU]; exact ((hZOWN_BODIES.kept (fun a h1 h2 => hS.2.1 a h1 h2)).narrow hFc).moved hW.alike, by rw [hU]; exact ((hTOWN_BODIES.kept (fun a h1 h2 => hS.2.1 a h1 h2)).narrow hFc).moved hW.alike, by rw [hU]; exact ((hZABOVE.kept (fun a h1 h2 => hS.2.1 a h1 h2)).narrow hFc).moved hW.alike, by rw [hU]; exact ((hTABOVE.kept (fun a h1 h2 => hS.2.1 a h1 h2)).narrow hFc).moved hW.alike⟩⟩ rfl rfl hl.1 rfl (lv_room (Nat.le_of_ble_eq_true rfl)) dX5_call_122 ⟨Nat.le_of_ble_eq_true rfl, Nat.le_of_ble_eq_true rfl⟩) hS (fun q _ h => hFc q h) hFc (fun r_116 u t H1 locs ht hvm hw hB hz1 hk1 hS => ?_)
        obtain ⟨y_117, f_118, by_117, v_118_0, hn_118_0, hP1, hK1, hD1⟩ := hB
        have v_118_0 : y_117.toInt ≤ (n0_ran + 1).toInt + 17 := v_118_0
        have hn_118_0 : kk_P (upd f2 (n0_ran : Int32).toNatClampNeg 2) f_118 (n0_ran + 1).toInt y_117.toInt ((kt_tells (f1 (p0 : Int32).toNatClampNeg) 0).tail) := hn_118_0
        rw [ht] at hP1
        have hK1 := va_K.moved hvm.symm hK1
        obtain ⟨hP, hD⟩ := va_join (wr := []) (w1 := [(h0, kO5 h1 n0_size h2 y_117), (h1, kAi cint 50 f1), (h2, kAi cint 24 f_118)]) hP hD [0, 1, 2] [] rfl rfl (by decide) (by decide) hk1 hFc hP1 hD1
        generalize H1 = H at hP hS ⊢
        have hP : va_P (dC, dI) vwCl [(h0, kO5 h1 n0_size h2 y_117), (h1, kAi cint 50 f1), (h2, kAi cint 24 f_118)] H := hP
        have hD : va_D A [(h0, kO5 h1 n0_size h2 y_117), (h1, kAi cint 50 f1), (h2, kAi cint 24 f_118)] := hD
        rcases hw with ⟨t_116_0, _⟩
        · skip
          have t_116_0 : r_116 = kk_tells (f1 (p0 : Int32).toNatClampNeg) 0 p0 p3 := t_116_0
          obtain rfl : r_116 = (kk_tells (f1 (p0 : Int32).toNatClampNeg) 0 p0 p3) := t_116_0
          refine lv_goto (tgt := 143) hx hb dX5_call_125 (by decide) ?_
          obtain ⟨hP9, hD9⟩ := kk_leafout (wc := [(h0, kO5 h1 n0_size h2 y_117), (h1, kAi cint 50 f1), (h2, kAi cint 24 f_118)]) hP hD [0, 1, 2] (by decide) rfl
          have hK9 := kk_Ks (tq := []) hK [] rfl
          exact W.iret (v := (kk_tells (f1 (p0 : Int32).toNatClampNeg) 0 p0 p3)) hx hb hr (fun t ht hW => ⟨⟨(kk_tells (f1 (p0 : Int32).toNatClampNeg) 0 p0 p3), (), rfl, ⟨(by first | rfl | (unfold kk_tells; (repeat' split) <;> first | rfl | (exfalso; have : (0 : Int32).toInt = 0 := rfl; have : (1 : Int32).toInt = 1 := rfl; have : (2 : Int32).toInt = 2 := rfl; have : (3 : Int32).toInt = 3 := rfl; have : (4 : Int32).toInt = 4 := rfl; have : (5 : Int32).toInt = 5 := rfl; have : (6 : Int32).toInt = 6 := rfl; have : (7 : Int32).toInt = 7 := rfl; have := kk_add2 (x := n0_ran) (y := 1) (a := n0_ran.toInt) (b := 1) rfl rfl (by omega) (by omega); have := kk_add2 (x := p4) (y := 1) (a := p4.toInt) (b := 1) rfl rfl (by omega) (by omega); omega))), trivial⟩, y_117, f_118, (by show 1 ≤ (y_117 : Int32).toInt ∧ (y_117 : Int32).toInt ≤ 1000; first | with_reducible assumption | (constructor <;> (have := kk_add2 (x := n0_ran) (y := 1) (a := n0_ran.toInt) (b := 1) rfl rfl (by omega) (by omega); have := kk_add2 (x := p4) (y := 1) (a := p4.toInt) (b := 1) rfl rfl (by omega) (by omega); omega))), (by show (y_117 : Int32).toInt ≤ (n0_ran : Int32).toInt + 19; first | with_reducible assumption | (have := kk_add2 (x := n0_ran) (y := 1) (a := n0_ran.toInt) (b := 1) rfl rfl (by omega) (by omega); have := kk_add2 (x := p4) (y := 1) (a := p4.toInt) (b := 1) rfl rfl (by omega) (by omega); omega)), (by first | exact kk_P_eq (kk_P_trans hp_115 hn_118_0) rfl | (unfold kt_tells; (repeat' split) <;> first | exact kk_P_eq (kk_P_trans hp_115 hn_118_0) rfl | (exfalso; have : (0 : Int32).toInt = 0 := rfl; have : (1 : Int32).toInt = 1 := rfl; have : (2 : Int32).toInt = 2 := rfl; have : (3 : Int32).toInt = 3 := rfl; have : (4 : Int32).toInt = 4 := rfl; have : (5 : Int32).toInt = 5 := rfl; have : (6 : Int32).toInt = 6 := rfl; have : (7 : Int32).toInt = 7 := rfl; have := kk_add2 (x := n0_ran) (y := 1) (a := n0_ran.toInt) (b := 1) rfl rfl (by omega) (by omega); have := kk_add2 (x := p4) (y := 1) (a := p4.toInt) (b := 1) rfl rfl (by omega) (by omega); omega))), by rw [ht]; exact hP9, va_K.moved hW.alike hK9, hD9⟩, hS.F ht⟩) hS.2.2 dX5_call_143
    · have t_106 : 40 < p4.toInt := kk_nle c_106
      exfalso; omega
  · have t_1 : p1.toInt = 6 := by rw [e_1]; rfl
    subst e_1
    refine lv_iload_n hx hb dX5_call_0 rfl (lv_at hl 2 rfl) ?_
    refine lv_istore hx hb dX5_call_1 hl (by decide) (rfl : _ = ([(6, .int 6), (0, .ref h0), (1, .int p0), (2, .int 6), (3, .int 3), (4, .int p3), (5, .int p4)] : List (Nat × Value))) (fun ls hl => ?_)
    refine lv_iconst (v := 0) hx hb dX5_call_3 kk_ic_0 ?_
    refine lv_istore hx hb dX5_call_4 hl (by decide) (rfl : _ = ([(7, .int 0), (6, .int 6), (0, .ref h0), (1, .int p0), (2, .int 6), (3, .int 3), (4, .int p3), (5, .int p4)] : List (Nat × Value))) (fun ls hl => ?_)
    refine lv_iload hx hb dX5_call_6 (lv_at hl 0 rfl) ?_
    refine lv_bipush (v := 8) hx hb dX5_call_8 kk_bi_8 ?_
    refine lv_icmp_ge (tgt := 48) hx hb dX5_call_10 (by decide) (fun c => absurd c (by decide)) (fun _ => ?_)
    refine lv_iload hx hb dX5_call_13 (lv_at hl 1 rfl) ?_
    obtain ⟨hPc, hDc, hFc⟩ := kk_cutout (wc := []) hP hD hS hA [] (by decide) rfl
    have hKc := kk_Ks (tq := []) hK [] rfl
    refine va_calli (va_runS (As := [.int 6]) (rest := []) ⟨hx, hb, hml, hown, hts⟩ (g_X5_isKind_17 l dC dI s.heap.size) (va_cwS 1 hts gX5_call_X5_isKind rfl rfl rfl kh_X5_isKind ⟨Nat.le_of_ble_eq_true rfl, Nat.le_of_ble_eq_true rfl⟩) ⟨fun a U g mk q => by obtain ⟨q0, q1, qP, qK, qD⟩ := q; exact ⟨q0, q1, qP, va_K.moved (u := U) (U := U.calling g mk a) (Vm.Alike.refl U.vm) qK, qD⟩, fun U hU hW => ⟨rfl, by rw [hU], by rw [hU]; exact hPc, va_K.moved hW.alike hKc, hDc.weaken (fun _ _ _ _ => trivial)⟩⟩ rfl rfl hl.1 rfl (lv_room (Nat.le_of_ble_eq_true rfl)) dX5_call_15 ⟨Nat.le_of_ble_eq_true rfl, Nat.le_of_ble_eq_true rfl⟩) hS (fun q _ h => hFc q h) hFc (fun r_119 u t H1 locs ht hvm hw hB hz1 hk1 hS => ?_)
    obtain ⟨hP1, hK1, hD1⟩ := hB
    rw [ht] at hP1
    have hK1 := va_K.moved hvm.symm hK1
    obtain ⟨hP, hD⟩ := va_join (wr := [(h0, kO5 h1 n0_size h2 n0_ran), (h1, kAi cint 50 f1), (h2, kAi cint 24 f2)]) (w1 := []) hP hD [] [0, 1, 2] rfl rfl (by decide) (by decide) hk1 hFc hP1 hD1
    generalize H1 = H at hP hS ⊢
    have hP : va_P (dC, dI) vwCl [(h0, kO5 h1 n0_size h2 n0_ran), (h1, kAi cint 50 f1), (h2, kAi cint 24 f2)] H := hP
    have hD : va_D A [(h0, kO5 h1 n0_size h2 n0_ran), (h1, kAi cint 50 f1), (h2, kAi cint 24 f2)] := hD
    obtain rfl := hw
    refine lv_if_eq (tgt := 48) hx hb dX5_call_18 (by decide) (fun c => absurd c (by decide)) (fun _ => ?_)
    refine va_gets hx hb hZOWN_BODIES hS hown (hts (.fieldLink RX5 43 "KinkStreet$Lines" "OWN_BODIES" "[I") (List.mem_of_getElem? (i := 1) rfl)) (fun _ h9 => h9) dX5_call_21 ?_
    refine lv_iload hx hb dX5_call_24 (lv_at hl 1 rfl) ?_
    refine lv_iconst (v := 4) hx hb dX5_call_26 kk_ic_4 ?_
    refine lv_imul hx hb dX5_call_27 ?_
    refine lv_topi (fun y_120 e_120 => ?_)
    obtain rfl : y_120 = 24 := e_120.trans (by decide)
    refine lv_iload_n hx hb dX5_call_28 rfl (lv_at hl 5 rfl) ?_
    refine lv_iadd hx hb dX5_call_29 ?_
    refine lv_topi (fun y_121 e_121 => ?_)
    obtain rfl : y_121 = 27 := e_121.trans (by decide)
    refine va_ti (v := .int 0) hx hb hTOWN_BODIES hS (by unfold vp_in; decide) rfl dX5_call_30 ?_
    refine lv_if_ne (tgt := 48) hx hb dX5_call_31 (by decide) (fun c => absurd c (by decide)) (fun _ => ?_)
    refine va_gets hx hb hZABOVE hS hown (hts (.fieldLink RX5 22 "KinkStreet$Lines" "ABOVE" "[I") (List.mem_of_getElem? (i := 2) rfl)) (fun _ h9 => h9) dX5_call_34 ?_
    refine lv_iload hx hb dX5_call_37 (lv_at hl 1 rfl) ?_
    refine va_ti (v := .int 0) hx hb hTABOVE hS (by unfold vp_in; decide) rfl dX5_call_39 ?_
    refine lv_istore hx hb dX5_call_40 hl (by decide) (rfl : _ = ([(6, .int 0), (7, .int 0), (0, .ref h0), (1, .int p0), (2, .int 6), (3, .int 3), (4, .int p3), (5, .int p4)] : List (Nat × Value))) (fun ls hl => ?_)
    refine lv_iinc (v := 1) hx hb dX5_call_42 hl (k := 1) rfl (by first | rfl | decide) (by decide) (rfl : _ = ([(7, .int 1), (6, .int 0), (0, .ref h0), (1, .int p0), (2, .int 6), (3, .int 3), (4, .int p3), (5, .int p4)] : List (Nat × Value))) (fun ls hl => ?_)
    refine lv_goto (tgt := 6) hx hb dX5_call_45 (by decide) ?_
    refine lv_iload hx hb dX5_call_6 (lv_at hl 0 rfl) ?_
    refine lv_bipush (v := 8) hx hb dX5_call_8 kk_bi_8 ?_
    refine lv_icmp_ge (tgt := 48) hx hb dX5_call_10 (by decide) (fun c => absurd c (by decide)) (fun _ => ?_)
    refine lv_iload hx hb dX5_call_13 (lv_at hl 1 rfl) ?_
    obtain ⟨hPc, hDc, hFc⟩ := kk_cutout (wc := []) hP hD hS hA [] (by decide) rfl
    have hKc := kk_Ks (tq := []) hK [] rfl
    refine va_calli (va_runS (As := [.int 0]) (rest := []) ⟨hx, hb, hml, hown, hts⟩ (g_X5_isKind_11 l dC dI H.size) (va_cwS 1 hts gX5_call_X5_isKind rfl rfl rfl kh_X5_isKind ⟨Nat.le_of_ble_eq_true rfl, Nat.le_of_ble_eq_true rfl⟩) ⟨fun a U g mk q => by obtain ⟨q0, q1, qP, qK, qD⟩ := q; exact ⟨q0, q1, qP, va_K.moved (u := U) (U := U.calling g mk a) (Vm.Alike.refl U.vm) qK, qD⟩, fun U hU hW => ⟨rfl, by rw [hU], by rw [hU]; exact hPc, va_K.moved hW.alike hKc, hDc.weaken (fun _ _ _ _ => trivial)⟩⟩ rfl rfl hl.1 rfl (lv_room (Nat.le_of_ble_eq_true rfl)) dX5_call_15 ⟨Nat.le_of_ble_eq_true rfl, Nat.le_of_ble_eq_true rfl⟩) hS (fun q _ h => hFc q h) hFc (fun r_122 u t H1 locs ht hvm hw hB hz1 hk1 hS => ?_)
    obtain ⟨hP1, hK1, hD1⟩ := hB
    rw [ht] at hP1
    have hK1 := va_K.moved hvm.symm hK1
    obtain ⟨hP, hD⟩ := va_join (wr := [(h0, kO5 h1 n0_size h2 n0_ran), (h1, kAi cint 50 f1), (h2, kAi cint 24 f2)]) (w1 := []) hP hD [] [0, 1, 2] rfl rfl (by decide) (by decide) hk1 hFc hP1 hD1
    generalize H1 = H at hP hS ⊢
    have hP : va_P (dC, dI) vwCl [(h0, kO5 h1 n0_size h2 n0_ran), (h1, kAi cint 50 f1), (h2, kAi cint 24 f2)] H := hP
    have hD : va_D A [(h0, kO5 h1 n0_size h2 n0_ran), (h1, kAi cint 50 f1), (h2, kAi cint 24 f2)] := hD
    obtain rfl := hw
    refine lv_if_eq (tgt := 48) hx hb dX5_call_18 (by decide) (fun c => absurd c (by decide)) (fun _ => ?_)
    refine va_gets hx hb hZOWN_BODIES hS hown (hts (.fieldLink RX5 43 "KinkStreet$Lines" "OWN_BODIES" "[I") (List.mem_of_getElem? (i := 1) rfl)) (fun _ h9 => h9) dX5_call_21 ?_
    refine lv_iload hx hb dX5_call_24 (lv_at hl 1 rfl) ?_
    refine lv_iconst (v := 4) hx hb dX5_call_26 kk_ic_4 ?_
    refine lv_imul hx hb dX5_call_27 ?_
    refine lv_topi (fun y_123 e_123 => ?_)
    obtain rfl : y_123 = 0 := e_123.trans (by decide)
    refine lv_iload_n hx hb dX5_call_28 rfl (lv_at hl 5 rfl) ?_
    refine lv_iadd hx hb dX5_call_29 ?_
    refine lv_topi (fun y_124 e_124 => ?_)
    obtain rfl : y_124 = 3 := e_124.trans (by decide)
    refine va_ti (v := .int 2) hx hb hTOWN_BODIES hS (by unfold vp_in; decide) rfl dX5_call_30 ?_
    refine lv_if_ne (tgt := 48) hx hb dX5_call_31 (by decide) (fun _ => ?_) (fun c => absurd c (by decide))
    refine lv_iload hx hb dX5_call_48 (lv_at hl 1 rfl) ?_
    obtain ⟨hPc, hDc, hFc⟩ := kk_cutout (wc := []) hP hD hS hA [] (by decide) rfl
    have hKc := kk_Ks (tq := []) hK [] rfl
    refine va_calli (va_runS (As := [.int 0]) (rest := []) ⟨hx, hb, hml, hown, hts⟩ (g_X5_isKind_11 l dC dI H.size) (va_cwS 1 hts gX5_call_X5_isKind rfl rfl rfl kh_X5_isKind ⟨Nat.le_of_ble_eq_true rfl, Nat.le_of_ble_eq_true rfl⟩) ⟨fun a U g mk q => by obtain ⟨q0, q1, qP, qK, qD⟩ := q; exact ⟨q0, q1, qP, va_K.moved (u := U) (U := U.calling g mk a) (Vm.Alike.refl U.vm) qK, qD⟩, fun U hU hW => ⟨rfl, by rw [hU], by rw [hU]; exact hPc, va_K.moved hW.alike hKc, hDc.weaken (fun _ _ _ _ => trivial)⟩⟩ rfl rfl hl.1 rfl (lv_room (Nat.le_of_ble_eq_true rfl)) dX5_call_50 ⟨Nat.le_of_ble_eq_true rfl, Nat.le_of_ble_eq_true rfl⟩) hS (fun q _ h => hFc q h) hFc (fun r_125 u t H1 locs ht hvm hw hB hz1 hk1 hS => ?_)
    obtain ⟨hP1, hK1, hD1⟩ := hB
    rw [ht] at hP1
    have hK1 := va_K.moved hvm.symm hK1
    obtain ⟨hP, hD⟩ := va_join (wr := [(h0, kO5 h1 n0_size h2 n0_ran), (h1, kAi cint 50 f1), (h2, kAi cint 24 f2)]) (w1 := []) hP hD [] [0, 1, 2] rfl rfl (by decide) (by decide) hk1 hFc hP1 hD1
    generalize H1 = H at hP hS ⊢
    have hP : va_P (dC, dI) vwCl [(h0, kO5 h1 n0_size h2 n0_ran), (h1, kAi cint 50 f1), (h2, kAi cint 24 f2)] H := hP
    have hD : va_D A [(h0, kO5 h1 n0_size h2 n0_ran), (h1, kAi cint 50 f1), (h2, kAi cint 24 f2)] := hD
    obtain rfl := hw
    refine lv_if_eq (tgt := 63) hx hb dX5_call_53 (by decide) (fun c => absurd c (by decide)) (fun _ => ?_)
    refine lv_iload hx hb dX5_call_56 (lv_at hl 7 rfl) ?_
    refine lv_bipush (v := 40) hx hb dX5_call_58 kk_bi_40 ?_
    refine lv_icmp_le (tgt := 65) hx hb dX5_call_60 (by decide) (fun c_126 => ?_) (fun c_126 => ?_)
    · have t_126 : p4.toInt ≤ 40 := kk_le c_126
      refine va_gets hx hb hZOWN_BODIES hS hown (hts (.fieldLink RX5 43 "KinkStreet$Lines" "OWN_BODIES" "[I") (List.mem_of_getElem? (i := 1) rfl)) (fun _ h9 => h9) dX5_call_65 ?_
      refine lv_iload hx hb dX5_call_68 (lv_at hl 1 rfl) ?_
      refine lv_iconst (v := 4) hx hb dX5_call_70 kk_ic_4 ?_
      refine lv_imul hx hb dX5_call_71 ?_
      refine lv_topi (fun y_127 e_127 => ?_)
      obtain rfl : y_127 = 0 := e_127.trans (by decide)
      refine lv_iload_n hx hb dX5_call_72 rfl (lv_at hl 5 rfl) ?_
      refine lv_iadd hx hb dX5_call_73 ?_
      refine lv_topi (fun y_128 e_128 => ?_)
      obtain rfl : y_128 = 3 := e_128.trans (by decide)
      refine va_ti (v := .int 2) hx hb hTOWN_BODIES hS (by unfold vp_in; decide) rfl dX5_call_74 ?_
      refine lv_istore hx hb dX5_call_75 hl (by decide) (rfl : _ = ([(7, .int 2), (6, .int 0), (0, .ref h0), (1, .int p0), (2, .int 6), (3, .int 3), (4, .int p3), (5, .int p4)] : List (Nat × Value))) (fun ls hl => ?_)
      refine lv_aload_n hx hb dX5_call_77 rfl (lv_at hl 2 rfl) ?_
      refine va_get (D := (dC, dI)) (ci := 5) (v := .int n0_ran) (C := RX5) (T := TX5) (N := 4) hx hb hts (fun _ h => List.mem_cons_of_mem _ (List.mem_append_right _ h)) hown hK hP 0 rfl rfl 3 (by decide) (hts (.fieldLink RX5 36 "KinkStreet$Lines" "ran" "I") (List.mem_of_getElem? (i := 3) rfl)) (fun _ h9 => h9) rfl dX5_call_78 ?_
      refine lv_bipush (v := 24) hx hb dX5_call_81 kk_bi_24 ?_
      refine lv_icmp_ge (tgt := 97) hx hb dX5_call_83 (by decide) (fun c_129 => ?_) (fun c_129 => ?_)
      · have t_129 : 24 ≤ n0_ran.toInt := kk_le c_129
        refine lv_aload_n hx hb dX5_call_97 rfl (lv_at hl 2 rfl) ?_
        refine lv_dup hx hb dX5_call_98 rfl ?_
        refine va_get (D := (dC, dI)) (ci := 5) (v := .int n0_ran) (C := RX5) (T := TX5) (N := 4) hx hb hts (fun _ h => List.mem_cons_of_mem _ (List.mem_append_right _ h)) hown hK hP 0 rfl rfl 3 (by decide) (hts (.fieldLink RX5 36 "KinkStreet$Lines" "ran" "I") (List.mem_of_getElem? (i := 3) rfl)) (fun _ h9 => h9) rfl dX5_call_99 ?_
        refine lv_iconst (v := 1) hx hb dX5_call_102 kk_ic_1 ?_
        refine lv_iadd hx hb dX5_call_103 ?_
        refine va_put (D := (dC, dI)) (ci := 5) (v := .int (n0_ran + 1)) (ty := .int) (C := RX5) (T := TX5) (N := 4) hx hb hts (fun _ h => List.mem_cons_of_mem _ (List.mem_append_right _ h)) tyX5 tyX5_ok nmX5 hown hK hP hD hS 0 rfl rfl 3 (by decide) (hts (.fieldLink RX5 36 "KinkStreet$Lines" "ran" "I") (List.mem_of_getElem? (i := 3) rfl)) (fun _ h9 => h9) rfl (by decide +kernel) rfl rfl (Nat.le_of_ble_eq_true rfl) dX5_call_104 (fun H locs hP hD hS => ?_)
        have hP : va_P (dC, dI) vwCl [(h0, kO5 h1 n0_size h2 (n0_ran + 1)), (h1, kAi cint 50 f1), (h2, kAi cint 24 f2)] H := hP
        have hD : va_D A [(h0, kO5 h1 n0_size h2 (n0_ran + 1)), (h1, kAi cint 50 f1), (h2, kAi cint 24 f2)] := hD
        have hp_130 : kk_P f2 f2 n0_ran.toInt (n0_ran + 1 : Int32).toInt [2] := kk_P_out (by have := kk_add2 (x := n0_ran) (y := 1) (a := n0_ran.toInt) (b := 1) rfl rfl (by omega) (by omega); omega) (by have := kk_add2 (x := n0_ran) (y := 1) (a := n0_ran.toInt) (b := 1) rfl rfl (by omega) (by omega); omega)
        refine lv_iload hx hb dX5_call_107 (lv_at hl 1 rfl) ?_
        refine lv_if_ne (tgt := 128) hx hb dX5_call_109 (by decide) (fun c => absurd c (by decide)) (fun _ => ?_)
        refine lv_aload_n hx hb dX5_call_112 rfl (lv_at hl 2 rfl) ?_
        refine lv_iload_n hx hb dX5_call_113 rfl (lv_at hl 3 rfl) ?_
        refine lv_iload hx hb dX5_call_114 (lv_at hl 0 rfl) ?_
        refine lv_iload hx hb dX5_call_116 (lv_at hl 6 rfl) ?_
        refine lv_iload hx hb dX5_call_118 (lv_at hl 7 rfl) ?_
        refine lv_iconst (v := 1) hx hb dX5_call_120 kk_ic_1 ?_
        refine lv_iadd hx hb dX5_call_121 ?_
        obtain ⟨hPc, hDc, hFc⟩ := kk_cutout (wc := [(h0, kO5 h1 n0_size h2 (n0_ran + 1)), (h1, kAi cint 50 f1), (h2, kAi cint 24 f2)]) hP hD hS hA [0, 1, 2] (by decide) rfl
        have hKc := kk_Ks (tq := [(cint, .int)]) hK [0] rfl
        refine va_calli (va_runV (As := [.int p0, .int 2, .int p3, .int (p4 + 1)]) (rest := []) ⟨hx, hb, hml, hown, hts⟩ (g_X5_runLine_7 l dC dI h0 h1 h2 cint H.size p0 p3 (p4 + 1) (by show 0 ≤ ((p4 + 1) : Int32).toInt ∧ ((p4 + 1) : Int32).toInt ≤ 3; first | with_reducible assumption | (constructor <;> (have := kk_add2 (x := n0_ran) (y := 1) (a := n0_ran.toInt) (b := 1) rfl rfl (by omega) (by omega); have := kk_add2 (x := p4) (y := 1) (a := p4.toInt) (b := 1) rfl rfl (by omega) (by omega); omega))) n0_size (n0_ran + 1) f1 f2 tn0_size (by show 0 ≤ ((n0_ran + 1) : Int32).toInt ∧ ((n0_ran + 1) : Int32).toInt ≤ 983; first | with_reducible assumption | (constructor <;> (have := kk_add2 (x := n0_ran) (y := 1) (a := n0_ran.toInt) (b := 1) rfl rfl (by omega) (by omega); have := kk_add2 (x := p4) (y := 1) (a := p4.toInt) (b := 1) rfl rfl (by omega) (by omega); omega))) bf1 (by show (0 ≤ (p0 : Int32).toInt ∧ (p0 : Int32).toInt < (n0_size : Int32).toInt); first | with_reducible assumption | (have := kk_add2 (x := n0_ran) (y := 1) (a := n0_ran.toInt) (b := 1) rfl rfl (by omega) (by omega); have := kk_add2 (x := p4) (y := 1) (a := p4.toInt) (b := 1) rfl rfl (by omega) (by omega); omega)) aOWN_BODIES aABOVE) (cwV 4 hts gX5_call_X5_runLine rfl rfl rfl ⟨rfl, kh_X5_runLine⟩ ⟨Nat.le_of_ble_eq_true rfl, Nat.le_of_ble_eq_true rfl⟩) ⟨fun a U g mk q => by obtain ⟨q0, q1, qP, qK, qD, qx0, qx1, qx2, qx3⟩ := q; exact ⟨q0, q1, qP, va_K.moved (u := U) (U := U.calling g mk a) (Vm.Alike.refl U.vm) qK, qD, va_Z.moved (u := U) (U := U.calling g mk a) (Vm.Alike.refl U.vm) qx0, va_T.moved (u := U) (U := U.calling g mk a) (Vm.Alike.refl U.vm) qx1, va_Z.moved (u := U) (U := U.calling g mk a) (Vm.Alike.refl U.vm) qx2, va_T.moved (u := U) (U := U.calling g mk a) (Vm.Alike.refl U.vm) qx3⟩, va_recv hKc hPc (ci := 5) (q0 := 0) rfl rfl, fun U hU hW => ⟨rfl, by rw [hU], by rw [hU]; exact hPc, va_K.moved hW.alike hKc, hDc.weaken (fun _ _ _ _ => trivial), by rw [hU]; exact ((hZOWN_BODIES.kept (fun a h1 h2 => hS.2.1 a h1 h2)).narrow hFc).moved hW.alike, by rw [hU]; exact ((hTOWN_BODIES.kept (fun a h1 h2 => hS.2.1 a h1 h2)).narrow hFc).moved hW.alike, by rw [hU]; exact ((hZABOVE.kept (fun a h1 h2 => hS.2.1 a h1 h2)).narrow hFc).moved hW.alike, by rw [hU]; exact ((hTABOVE.kept (fun a h1 h2 => hS.2.1 a h1 h2)).narrow hFc).moved hW.alike⟩⟩ rfl rfl hl.1 rfl (lv_room (Nat.le_of_ble_eq_true rfl)) dX5_call_122 ⟨Nat.le_of_ble_eq_true rfl, Nat.le_of_ble_eq_true rfl⟩) hS (fun q _ h => hFc q h) hFc (fun r_131 u t H1 locs ht hvm hw hB hz1 hk1 hS => ?_)
        obtain ⟨y_132, f_133, by_132, v_133_0, hn_133_0, hP1, hK1, hD1⟩ := hB
        have v_133_0 : y_132.toInt ≤ (n0_ran + 1).toInt + 17 := v_133_0
        have hn_133_0 : kk_P f2 f_133 (n0_ran + 1).toInt y_132.toInt ((kt_tells (f1 (p0 : Int32).toNatClampNeg) 0).tail) := hn_133_0
        rw [ht] at hP1
        have hK1 := va_K.moved hvm.symm hK1
        obtain ⟨hP, hD⟩ := va_join (wr := []) (w1 := [(h0, kO5 h1 n0_size h2 y_132), (h1, kAi cint 50 f1), (h2, kAi cint 24 f_133)]) hP hD [0, 1, 2] [] rfl rfl (by decide) (by decide) hk1 hFc hP1 hD1
        generalize H1 = H at hP hS ⊢
        have hP : va_P (dC, dI) vwCl [(h0, kO5 h1 n0_size h2 y_132), (h1, kAi cint 50 f1), (h2, kAi cint 24 f_133)] H := hP
        have hD : va_D A [(h0, kO5 h1 n0_size h2 y_132), (h1, kAi cint 50 f1), (h2, kAi cint 24 f_133)] := hD
        rcases hw with ⟨t_131_0, _⟩
        · skip
          have t_131_0 : r_131 = kk_tells (f1 (p0 : Int32).toNatClampNeg) 0 p0 p3 := t_131_0
          obtain rfl : r_131 = (kk_tells (f1 (p0 : Int32).toNatClampNeg) 0 p0 p3) := t_131_0
          refine lv_goto (tgt := 143) hx hb dX5_call_125 (by decide) ?_
          obtain ⟨hP9, hD9⟩ := kk_leafout (wc := [(h0, kO5 h1 n0_size h2 y_132), (h1, kAi cint 50 f1), (h2, kAi cint 24 f_133)]) hP hD [0, 1, 2] (by decide) rfl
          have hK9 := kk_Ks (tq := []) hK [] rfl
          exact W.iret (v := (kk_tells (f1 (p0 : Int32).toNatClampNeg) 0 p0 p3)) hx hb hr (fun t ht hW => ⟨⟨(kk_tells (f1 (p0 : Int32).toNatClampNeg) 0 p0 p3), (), rfl, ⟨(by first | rfl | (unfold kk_tells; (repeat' split) <;> first | rfl | (exfalso; have : (0 : Int32).toInt = 0 := rfl; have : (1 : Int32).toInt = 1 := rfl; have : (2 : Int32).toInt = 2 := rfl; have : (3 : Int32).toInt = 3 := rfl; have : (4 : Int32).toInt = 4 := rfl; have : (5 : Int32).toInt = 5 := rfl; have : (6 : Int32).toInt = 6 := rfl; have : (7 : Int32).toInt = 7 := rfl; have := kk_add2 (x := n0_ran) (y := 1) (a := n0_ran.toInt) (b := 1) rfl rfl (by omega) (by omega); have := kk_add2 (x := p4) (y := 1) (a := p4.toInt) (b := 1) rfl rfl (by omega) (by omega); omega))), trivial⟩, y_132, f_133, (by show 1 ≤ (y_132 : Int32).toInt ∧ (y_132 : Int32).toInt ≤ 1000; first | with_reducible assumption | (constructor <;> (have := kk_add2 (x := n0_ran) (y := 1) (a := n0_ran.toInt) (b := 1) rfl rfl (by omega) (by omega); have := kk_add2 (x := p4) (y := 1) (a := p4.toInt) (b := 1) rfl rfl (by omega) (by omega); omega))), (by show (y_132 : Int32).toInt ≤ (n0_ran : Int32).toInt + 19; first | with_reducible assumption | (have := kk_add2 (x := n0_ran) (y := 1) (a := n0_ran.toInt) (b := 1) rfl rfl (by omega) (by omega); have := kk_add2 (x := p4) (y := 1) (a := p4.toInt) (b := 1) rfl rfl (by omega) (by omega); omega)), (by first | exact kk_P_eq (kk_P_trans hp_130 hn_133_0) rfl | (unfold kt_tells; (repeat' split) <;> first | exact kk_P_eq (kk_P_trans hp_130 hn_133_0) rfl | (exfalso; have : (0 : Int32).toInt = 0 := rfl; have : (1 : Int32).toInt = 1 := rfl; have : (2 : Int32).toInt = 2 := rfl; have : (3 : Int32).toInt = 3 := rfl; have : (4 : Int32).toInt = 4 := rfl; have : (5 : Int32).toInt = 5 := rfl; have : (6 : Int32).toInt = 6 := rfl; have : (7 : Int32).toInt = 7 := rfl; have := kk_add2 (x := n0_ran) (y := 1) (a := n0_ran.toInt) (b := 1) rfl rfl (by omega) (by omega); have := kk_add2 (x := p4) (y := 1) (a := p4.toInt) (b := 1) rfl rfl (by omega) (by omega); omega))), by rw [ht]; exact hP9, va_K.moved hW.alike hK9, hD9⟩, hS.F ht⟩) hS.2.2 dX5_call_143
      · have t_129 : n0_ran.toInt < 24 := kk_nle c_129
        refine lv_aload_n hx hb dX5_call_86 rfl (lv_at hl 2 rfl) ?_
        refine va_get (D := (dC, dI)) (ci := 5) (v := .ref h2) (C := RX5) (T := TX5) (N := 4) hx hb hts (fun _ h => List.mem_cons_of_mem _ (List.mem_append_right _ h)) hown hK hP 0 rfl rfl 2 (by decide) (hts (.fieldLink RX5 15 "KinkStreet$Lines" "trace" "[I") (List.mem_of_getElem? (i := 4) rfl)) (fun _ h9 => h9) rfl dX5_call_87 ?_
        refine lv_aload_n hx hb dX5_call_90 rfl (lv_at hl 2 rfl) ?_
        refine va_get (D := (dC, dI)) (ci := 5) (v := .int n0_ran) (C := RX5) (T := TX5) (N := 4) hx hb hts (fun _ h => List.mem_cons_of_mem _ (List.mem_append_right _ h)) hown hK hP 0 rfl rfl 3 (by decide) (hts (.fieldLink RX5 36 "KinkStreet$Lines" "ran" "I") (List.mem_of_getElem? (i := 3) rfl)) (fun _ h9 => h9) rfl dX5_call_91 ?_
        refine lv_iload hx hb dX5_call_94 (lv_at hl 0 rfl) ?_
        refine va_iast hx hb hK hP hD hS 2 0 rfl rfl (vp_in_iff.mpr ⟨by omega, by omega⟩) dX5_call_96 (fun H locs hP hD hS => ?_)
        have w_134 : ((upd f2 (n0_ran : Int32).toNatClampNeg 2) (n0_ran : Int32).toNatClampNeg).toInt = (2 : Int32).toInt := by rw [kk_ups]
        have hP : va_P (dC, dI) vwCl [(h0, kO5 h1 n0_size h2 n0_ran), (h1, kAi cint 50 f1), (h2, kAi cint 24 (upd f2 (n0_ran : Int32).toNatClampNeg 2))] H := hP
        have hD : va_D A [(h0, kO5 h1 n0_size h2 n0_ran), (h1, kAi cint 50 f1), (h2, kAi cint 24 (upd f2 (n0_ran : Int32).toNatClampNeg 2))] := hD
        refine lv_aload_n hx hb dX5_call_97 rfl (lv_at hl 2 rfl) ?_
        refine lv_dup hx hb dX5_call_98 rfl ?_
        refine va_get (D := (dC, dI)) (ci := 5) (v := .int n0_ran) (C := RX5) (T := TX5) (N := 4) hx hb hts (fun _ h => List.mem_cons_of_mem _ (List.mem_append_right _ h)) hown hK hP 0 rfl rfl 3 (by decide) (hts (.fieldLink RX5 36 "KinkStreet$Lines" "ran" "I") (List.mem_of_getElem? (i := 3) rfl)) (fun _ h9 => h9) rfl dX5_call_99 ?_
        refine lv_iconst (v := 1) hx hb dX5_call_102 kk_ic_1 ?_
        refine lv_iadd hx hb dX5_call_103 ?_
        refine va_put (D := (dC, dI)) (ci := 5) (v := .int (n0_ran + 1)) (ty := .int) (C := RX5) (T := TX5) (N := 4) hx hb hts (fun _ h => List.mem_cons_of_mem _ (List.mem_append_right _ h)) tyX5 tyX5_ok nmX5 hown hK hP hD hS 0 rfl rfl 3 (by decide) (hts (.fieldLink RX5 36 "KinkStreet$Lines" "ran" "I") (List.mem_of_getElem? (i := 3) rfl)) (fun _ h9 => h9) rfl (by decide +kernel) rfl rfl (Nat.le_of_ble_eq_true rfl) dX5_call_104 (fun H locs hP hD hS => ?_)
        have hP : va_P (dC, dI) vwCl [(h0, kO5 h1 n0_size h2 (n0_ran + 1)), (h1, kAi cint 50 f1), (h2, kAi cint 24 (upd f2 (n0_ran : Int32).toNatClampNeg 2))] H := hP
        have hD : va_D A [(h0, kO5 h1 n0_size h2 (n0_ran + 1)), (h1, kAi cint 50 f1), (h2, kAi cint 24 (upd f2 (n0_ran : Int32).toNatClampNeg 2))] := hD
        have hp_135 : kk_P f2 (upd f2 (n0_ran : Int32).toNatClampNeg 2) n0_ran.toInt (n0_ran + 1 : Int32).toInt [2] := kk_P_one (by have := kk_add2 (x := n0_ran) (y := 1) (a := n0_ran.toInt) (b := 1) rfl rfl (by omega) (by omega); omega) (by have := kk_add2 (x := n0_ran) (y := 1) (a := n0_ran.toInt) (b := 1) rfl rfl (by omega) (by omega); omega)
        refine lv_iload hx hb dX5_call_107 (lv_at hl 1 rfl) ?_
        refine lv_if_ne (tgt := 128) hx hb dX5_call_109 (by decide) (fun c => absurd c (by decide)) (fun _ => ?_)
        refine lv_aload_n hx hb dX5_call_112 rfl (lv_at hl 2 rfl) ?_
        refine lv_iload_n hx hb dX5_call_113 rfl (lv_at hl 3 rfl) ?_
        refine lv_iload hx hb dX5_call_114 (lv_at hl 0 rfl) ?_
        refine lv_iload hx hb dX5_call_116 (lv_at hl 6 rfl) ?_
        refine lv_iload hx hb dX5_call_118 (lv_at hl 7 rfl) ?_
        refine lv_iconst (v := 1) hx hb dX5_call_120 kk_ic_1 ?_
        refine lv_iadd hx hb dX5_call_121 ?_
        obtain ⟨hPc, hDc, hFc⟩ := kk_cutout (wc := [(h0, kO5 h1 n0_size h2 (n0_ran + 1)), (h1, kAi cint 50 f1), (h2, kAi cint 24 (upd f2 (n0_ran : Int32).toNatClampNeg 2))]) hP hD hS hA [0, 1, 2] (by decide) rfl
        have hKc := kk_Ks (tq := [(cint, .int)]) hK [0] rfl
        refine va_calli (va_runV (As := [.int p0, .int 2, .int p3, .int (p4 + 1)]) (rest := []) ⟨hx, hb, hml, hown, hts⟩ (g_X5_runLine_7 l dC dI h0 h1 h2 cint H.size p0 p3 (p4 + 1) (by show 0 ≤ ((p4 + 1) : Int32).toInt ∧ ((p4 + 1) : Int32).toInt ≤ 3; first | with_reducible assumption | (constructor <;> (have := kk_add2 (x := n0_ran) (y := 1) (a := n0_ran.toInt) (b := 1) rfl rfl (by omega) (by omega); have := kk_add2 (x := p4) (y := 1) (a := p4.toInt) (b := 1) rfl rfl (by omega) (by omega); omega))) n0_size (n0_ran + 1) f1 (upd f2 (n0_ran : Int32).toNatClampNeg 2) tn0_size (by show 0 ≤ ((n0_ran + 1) : Int32).toInt ∧ ((n0_ran + 1) : Int32).toInt ≤ 983; first | with_reducible assumption | (constructor <;> (have := kk_add2 (x := n0_ran) (y := 1) (a := n0_ran.toInt) (b := 1) rfl rfl (by omega) (by omega); have := kk_add2 (x := p4) (y := 1) (a := p4.toInt) (b := 1) rfl rfl (by omega) (by omega); omega))) bf1 (by show (0 ≤ (p0 : Int32).toInt ∧ (p0 : Int32).toInt < (n0_size : Int32).toInt); first | with_reducible assumption | (have := kk_add2 (x := n0_ran) (y := 1) (a := n0_ran.toInt) (b := 1) rfl rfl (by omega) (by omega); have := kk_add2 (x := p4) (y := 1) (a := p4.toInt) (b := 1) rfl rfl (by omega) (by omega); omega)) aOWN_BODIES aABOVE) (cwV 4 hts gX5_call_X5_runLine rfl rfl rfl ⟨rfl, kh_X5_runLine⟩ ⟨Nat.le_of_ble_eq_true rfl, Nat.le_of_ble_eq_true rfl⟩) ⟨fun a U g mk q => by obtain ⟨q0, q1, qP, qK, qD, qx0, qx1, qx2, qx3⟩ := q; exact ⟨q0, q1, qP, va_K.moved (u := U) (U := U.calling g mk a) (Vm.Alike.refl U.vm) qK, qD, va_Z.moved (u := U) (U := U.calling g mk a) (Vm.Alike.refl U.vm) qx0, va_T.moved (u := U) (U := U.calling g mk a) (Vm.Alike.refl U.vm) qx1, va_Z.moved (u := U) (U := U.calling g mk a) (Vm.Alike.refl U.vm) qx2, va_T.moved (u := U) (U := U.calling g mk a) (Vm.Alike.refl U.vm) qx3⟩, va_recv hKc hPc (ci := 5) (q0 := 0) rfl rfl, fun U hU hW => ⟨rfl, by rw [hU], by rw [hU]; exact hPc, va_K.moved hW.alike hKc, hDc.weaken (fun _ _ _ _ => trivial), by rw [hU]; exact ((hZOWN_BODIES.kept (fun a h1 h2 => hS.2.1 a h1 h2)).narrow hFc).moved hW.alike, by rw [hU]; exact ((hTOWN_BODIES.kept (fun a h1 h2 => hS.2.1 a h1 h2)).narrow hFc).moved hW.alike, by rw [hU]; exact ((hZABOVE.kept (fun a h1 h2 => hS.2.1 a h1 h2)).narrow hFc).moved hW.alike, by rw [hU]; exact ((hTABOVE.kept (fun a h1 h2 => hS.2.1 a h1 h2)).narrow hFc).moved hW.alike⟩⟩ rfl rfl hl.1 rfl (lv_room (Nat.le_of_ble_eq_true rfl)) dX5_call_122 ⟨Nat.le_of_ble_eq_true rfl, Nat.le_of_ble_eq_true rfl⟩) hS (fun q _ h => hFc q h) hFc (fun r_136 u t H1 locs ht hvm hw hB hz1 hk1 hS => ?_)
        obtain ⟨y_137, f_138, by_137, v_138_0, hn_138_0, hP1, hK1, hD1⟩ := hB
        have v_138_0 : y_137.toInt ≤ (n0_ran + 1).toInt + 17 := v_138_0
        have hn_138_0 : kk_P (upd f2 (n0_ran : Int32).toNatClampNeg 2) f_138 (n0_ran + 1).toInt y_137.toInt ((kt_tells (f1 (p0 : Int32).toNatClampNeg) 0).tail) := hn_138_0
        rw [ht] at hP1
        have hK1 := va_K.moved hvm.symm hK1
        obtain ⟨hP, hD⟩ := va_join (wr := []) (w1 := [(h0, kO5 h1 n0_size h2 y_137), (h1, kAi cint 50 f1), (h2, kAi cint 24 f_138)]) hP hD [0, 1, 2] [] rfl rfl (by decide) (by decide) hk1 hFc hP1 hD1
        generalize H1 = H at hP hS ⊢
        have hP : va_P (dC, dI) vwCl [(h0, kO5 h1 n0_size h2 y_137), (h1, kAi cint 50 f1), (h2, kAi cint 24 f_138)] H := hP
        have hD : va_D A [(h0, kO5 h1 n0_size h2 y_137), (h1, kAi cint 50 f1), (h2, kAi cint 24 f_138)] := hD
        rcases hw with ⟨t_136_0, _⟩
        · skip
          have t_136_0 : r_136 = kk_tells (f1 (p0 : Int32).toNatClampNeg) 0 p0 p3 := t_136_0
          obtain rfl : r_136 = (kk_tells (f1 (p0 : Int32).toNatClampNeg) 0 p0 p3) := t_136_0
          refine lv_goto (tgt := 143) hx hb dX5_call_125 (by decide) ?_
          obtain ⟨hP9, hD9⟩ := kk_leafout (wc := [(h0, kO5 h1 n0_size h2 y_137), (h1, kAi cint 50 f1), (h2, kAi cint 24 f_138)]) hP hD [0, 1, 2] (by decide) rfl
          have hK9 := kk_Ks (tq := []) hK [] rfl
          exact W.iret (v := (kk_tells (f1 (p0 : Int32).toNatClampNeg) 0 p0 p3)) hx hb hr (fun t ht hW => ⟨⟨(kk_tells (f1 (p0 : Int32).toNatClampNeg) 0 p0 p3), (), rfl, ⟨(by first | rfl | (unfold kk_tells; (repeat' split) <;> first | rfl | (exfalso; have : (0 : Int32).toInt = 0 := rfl; have : (1 : Int32).toInt = 1 := rfl; have : (2 : Int32).toInt = 2 := rfl; have : (3 : Int32).toInt = 3 := rfl; have : (4 : Int32).toInt = 4 := rfl; have : (5 : Int32).toInt = 5 := rfl; have : (6 : Int32).toInt = 6 := rfl; have : (7 : Int32).toInt = 7 := rfl; have := kk_add2 (x := n0_ran) (y := 1) (a := n0_ran.toInt) (b := 1) rfl rfl (by omega) (by omega); have := kk_add2 (x := p4) (y := 1) (a := p4.toInt) (b := 1) rfl rfl (by omega) (by omega); omega))), trivial⟩, y_137, f_138, (by show 1 ≤ (y_137 : Int32).toInt ∧ (y_137 : Int32).toInt ≤ 1000; first | with_reducible assumption | (constructor <;> (have := kk_add2 (x := n0_ran) (y := 1) (a := n0_ran.toInt) (b := 1) rfl rfl (by omega) (by omega); have := kk_add2 (x := p4) (y := 1) (a := p4.toInt) (b := 1) rfl rfl (by omega) (by omega); omega))), (by show (y_137 : Int32).toInt ≤ (n0_ran : Int32).toInt + 19; first | with_reducible assumption | (have := kk_add2 (x := n0_ran) (y := 1) (a := n0_ran.toInt) (b := 1) rfl rfl (by omega) (by omega); have := kk_add2 (x := p4) (y := 1) (a := p4.toInt) (b := 1) rfl rfl (by omega) (by omega); omega)), (by first | exact kk_P_eq (kk_P_trans hp_135 hn_138_0) rfl | (unfold kt_tells; (repeat' split) <;> first | exact kk_P_eq (kk_P_trans hp_135 hn_138_0) rfl | (exfalso; have : (0 : Int32).toInt = 0 := rfl; have : (1 : Int32).toInt = 1 := rfl; have : (2 : Int32).toInt = 2 := rfl; have : (3 : Int32).toInt = 3 := rfl; have : (4 : Int32).toInt = 4 := rfl; have : (5 : Int32).toInt = 5 := rfl; have : (6 : Int32).toInt = 6 := rfl; have : (7 : Int32).toInt = 7 := rfl; have := kk_add2 (x := n0_ran) (y := 1) (a := n0_ran.toInt) (b := 1) rfl rfl (by omega) (by omega); have := kk_add2 (x := p4) (y := 1) (a := p4.toInt) (b := 1) rfl rfl (by omega) (by omega); omega))), by rw [ht]; exact hP9, va_K.moved hW.alike hK9, hD9⟩, hS.F ht⟩) hS.2.2 dX5_call_143
    · have t_126 : 40 < p4.toInt := kk_nle c_126
      exfalso; omega
  · have t_1 : p1.toInt = 7 := by rw [e_1]; rfl
    subst e_1
    refine lv_iload_n hx hb dX5_call_0 rfl (lv_at hl 2 rfl) ?_
    refine lv_istore hx hb dX5_call_1 hl (by decide) (rfl : _ = ([(6, .int 7), (0, .ref h0), (1, .int p0), (2, .int 7), (3, .int 3), (4, .int p3), (5, .int p4)] : List (Nat × Value))) (fun ls hl => ?_)
    refine lv_iconst (v := 0) hx hb dX5_call_3 kk_ic_0 ?_
    refine lv_istore hx hb dX5_call_4 hl (by decide) (rfl : _ = ([(7, .int 0), (6, .int 7), (0, .ref h0), (1, .int p0), (2, .int 7), (3, .int 3), (4, .int p3), (5, .int p4)] : List (Nat × Value))) (fun ls hl => ?_)
    refine lv_iload hx hb dX5_call_6 (lv_at hl 0 rfl) ?_
    refine lv_bipush (v := 8) hx hb dX5_call_8 kk_bi_8 ?_
    refine lv_icmp_ge (tgt := 48) hx hb dX5_call_10 (by decide) (fun c => absurd c (by decide)) (fun _ => ?_)
    refine lv_iload hx hb dX5_call_13 (lv_at hl 1 rfl) ?_
    obtain ⟨hPc, hDc, hFc⟩ := kk_cutout (wc := []) hP hD hS hA [] (by decide) rfl
    have hKc := kk_Ks (tq := []) hK [] rfl
    refine va_calli (va_runS (As := [.int 7]) (rest := []) ⟨hx, hb, hml, hown, hts⟩ (g_X5_isKind_18 l dC dI s.heap.size) (va_cwS 1 hts gX5_call_X5_isKind rfl rfl rfl kh_X5_isKind ⟨Nat.le_of_ble_eq_true rfl, Nat.le_of_ble_eq_true rfl⟩) ⟨fun a U g mk q => by obtain ⟨q0, q1, qP, qK, qD⟩ := q; exact ⟨q0, q1, qP, va_K.moved (u := U) (U := U.calling g mk a) (Vm.Alike.refl U.vm) qK, qD⟩, fun U hU hW => ⟨rfl, by rw [hU], by rw [hU]; exact hPc, va_K.moved hW.alike hKc, hDc.weaken (fun _ _ _ _ => trivial)⟩⟩ rfl rfl hl.1 rfl (lv_room (Nat.le_of_ble_eq_true rfl)) dX5_call_15 ⟨Nat.le_of_ble_eq_true rfl, Nat.le_of_ble_eq_true rfl⟩) hS (fun q _ h => hFc q h) hFc (fun r_139 u t H1 locs ht hvm hw hB hz1 hk1 hS => ?_)
    obtain ⟨hP1, hK1, hD1⟩ := hB
    rw [ht] at hP1
    have hK1 := va_K.moved hvm.symm hK1
    obtain ⟨hP, hD⟩ := va_join (wr := [(h0, kO5 h1 n0_size h2 n0_ran), (h1, kAi cint 50 f1), (h2, kAi cint 24 f2)]) (w1 := []) hP hD [] [0, 1, 2] rfl rfl (by decide) (by decide) hk1 hFc hP1 hD1
    generalize H1 = H at hP hS ⊢
    have hP : va_P (dC, dI) vwCl [(h0, kO5 h1 n0_size h2 n0_ran), (h1, kAi cint 50 f1), (h2, kAi cint 24 f2)] H := hP
    have hD : va_D A [(h0, kO5 h1 n0_size h2 n0_ran), (h1, kAi cint 50 f1), (h2, kAi cint 24 f2)] := hD
    obtain rfl := hw
    refine lv_if_eq (tgt := 48) hx hb dX5_call_18 (by decide) (fun c => absurd c (by decide)) (fun _ => ?_)
    refine va_gets hx hb hZOWN_BODIES hS hown (hts (.fieldLink RX5 43 "KinkStreet$Lines" "OWN_BODIES" "[I") (List.mem_of_getElem? (i := 1) rfl)) (fun _ h9 => h9) dX5_call_21 ?_
    refine lv_iload hx hb dX5_call_24 (lv_at hl 1 rfl) ?_
    refine lv_iconst (v := 4) hx hb dX5_call_26 kk_ic_4 ?_
    refine lv_imul hx hb dX5_call_27 ?_
    refine lv_topi (fun y_140 e_140 => ?_)
    obtain rfl : y_140 = 28 := e_140.trans (by decide)
    refine lv_iload_n hx hb dX5_call_28 rfl (lv_at hl 5 rfl) ?_
    refine lv_iadd hx hb dX5_call_29 ?_
    refine lv_topi (fun y_141 e_141 => ?_)
    obtain rfl : y_141 = 31 := e_141.trans (by decide)
    refine va_ti (v := .int 0) hx hb hTOWN_BODIES hS (by unfold vp_in; decide) rfl dX5_call_30 ?_
    refine lv_if_ne (tgt := 48) hx hb dX5_call_31 (by decide) (fun c => absurd c (by decide)) (fun _ => ?_)
    refine va_gets hx hb hZABOVE hS hown (hts (.fieldLink RX5 22 "KinkStreet$Lines" "ABOVE" "[I") (List.mem_of_getElem? (i := 2) rfl)) (fun _ h9 => h9) dX5_call_34 ?_
    refine lv_iload hx hb dX5_call_37 (lv_at hl 1 rfl) ?_
    refine va_ti (v := .int 1) hx hb hTABOVE hS (by unfold vp_in; decide) rfl dX5_call_39 ?_
    refine lv_istore hx hb dX5_call_40 hl (by decide) (rfl : _ = ([(6, .int 1), (7, .int 0), (0, .ref h0), (1, .int p0), (2, .int 7), (3, .int 3), (4, .int p3), (5, .int p4)] : List (Nat × Value))) (fun ls hl => ?_)
    refine lv_iinc (v := 1) hx hb dX5_call_42 hl (k := 1) rfl (by first | rfl | decide) (by decide) (rfl : _ = ([(7, .int 1), (6, .int 1), (0, .ref h0), (1, .int p0), (2, .int 7), (3, .int 3), (4, .int p3), (5, .int p4)] : List (Nat × Value))) (fun ls hl => ?_)
    refine lv_goto (tgt := 6) hx hb dX5_call_45 (by decide) ?_
    refine lv_iload hx hb dX5_call_6 (lv_at hl 0 rfl) ?_
    refine lv_bipush (v := 8) hx hb dX5_call_8 kk_bi_8 ?_
    refine lv_icmp_ge (tgt := 48) hx hb dX5_call_10 (by decide) (fun c => absurd c (by decide)) (fun _ => ?_)
    refine lv_iload hx hb dX5_call_13 (lv_at hl 1 rfl) ?_
    obtain ⟨hPc, hDc, hFc⟩ := kk_cutout (wc := []) hP hD hS hA [] (by decide) rfl
    have hKc := kk_Ks (tq := []) hK [] rfl
    refine va_calli (va_runS (As := [.int 1]) (rest := []) ⟨hx, hb, hml, hown, hts⟩ (g_X5_isKind_12 l dC dI H.size) (va_cwS 1 hts gX5_call_X5_isKind rfl rfl rfl kh_X5_isKind ⟨Nat.le_of_ble_eq_true rfl, Nat.le_of_ble_eq_true rfl⟩) ⟨fun a U g mk q => by obtain ⟨q0, q1, qP, qK, qD⟩ := q; exact ⟨q0, q1, qP, va_K.moved (u := U) (U := U.calling g mk a) (Vm.Alike.refl U.vm) qK, qD⟩, fun U hU hW => ⟨rfl, by rw [hU], by rw [hU]; exact hPc, va_K.moved hW.alike hKc, hDc.weaken (fun _ _ _ _ => trivial)⟩⟩ rfl rfl hl.1 rfl (lv_room (Nat.le_of_ble_eq_true rfl)) dX5_call_15 ⟨Nat.le_of_ble_eq_true rfl, Nat.le_of_ble_eq_true rfl⟩) hS (fun q _ h => hFc q h) hFc (fun r_142 u t H1 locs ht hvm hw hB hz1 hk1 hS => ?_)
    obtain ⟨hP1, hK1, hD1⟩ := hB
    rw [ht] at hP1
    have hK1 := va_K.moved hvm.symm hK1
    obtain ⟨hP, hD⟩ := va_join (wr := [(h0, kO5 h1 n0_size h2 n0_ran), (h1, kAi cint 50 f1), (h2, kAi cint 24 f2)]) (w1 := []) hP hD [] [0, 1, 2] rfl rfl (by decide) (by decide) hk1 hFc hP1 hD1
    generalize H1 = H at hP hS ⊢
    have hP : va_P (dC, dI) vwCl [(h0, kO5 h1 n0_size h2 n0_ran), (h1, kAi cint 50 f1), (h2, kAi cint 24 f2)] H := hP
    have hD : va_D A [(h0, kO5 h1 n0_size h2 n0_ran), (h1, kAi cint 50 f1), (h2, kAi cint 24 f2)] := hD
    obtain rfl := hw
    refine lv_if_eq (tgt := 48) hx hb dX5_call_18 (by decide) (fun c => absurd c (by decide)) (fun _ => ?_)
    refine va_gets hx hb hZOWN_BODIES hS hown (hts (.fieldLink RX5 43 "KinkStreet$Lines" "OWN_BODIES" "[I") (List.mem_of_getElem? (i := 1) rfl)) (fun _ h9 => h9) dX5_call_21 ?_
    refine lv_iload hx hb dX5_call_24 (lv_at hl 1 rfl) ?_
    refine lv_iconst (v := 4) hx hb dX5_call_26 kk_ic_4 ?_
    refine lv_imul hx hb dX5_call_27 ?_
    refine lv_topi (fun y_143 e_143 => ?_)
    obtain rfl : y_143 = 4 := e_143.trans (by decide)
    refine lv_iload_n hx hb dX5_call_28 rfl (lv_at hl 5 rfl) ?_
    refine lv_iadd hx hb dX5_call_29 ?_
    refine lv_topi (fun y_144 e_144 => ?_)
    obtain rfl : y_144 = 7 := e_144.trans (by decide)
    refine va_ti (v := .int 0) hx hb hTOWN_BODIES hS (by unfold vp_in; decide) rfl dX5_call_30 ?_
    refine lv_if_ne (tgt := 48) hx hb dX5_call_31 (by decide) (fun c => absurd c (by decide)) (fun _ => ?_)
    refine va_gets hx hb hZABOVE hS hown (hts (.fieldLink RX5 22 "KinkStreet$Lines" "ABOVE" "[I") (List.mem_of_getElem? (i := 2) rfl)) (fun _ h9 => h9) dX5_call_34 ?_
    refine lv_iload hx hb dX5_call_37 (lv_at hl 1 rfl) ?_
    refine va_ti (v := .int 0) hx hb hTABOVE hS (by unfold vp_in; decide) rfl dX5_call_39 ?_
    refine lv_istore hx hb dX5_call_40 hl (by decide) (rfl : _ = ([(6, .int 0), (7, .int 1), (0, .ref h0), (1, .int p0), (2, .int 7), (3, .int 3), (4, .int p3), (5, .int p4)] : List (Nat × Value))) (fun ls hl => ?_)
    refine lv_iinc (v := 2) hx hb dX5_call_42 hl (k := 1) rfl (by first | rfl | decide) (by decide) (rfl : _ = ([(7, .int 2), (6, .int 0), (0, .ref h0), (1, .int p0), (2, .int 7), (3, .int 3), (4, .int p3), (5, .int p4)] : List (Nat × Value))) (fun ls hl => ?_)
    refine lv_goto (tgt := 6) hx hb dX5_call_45 (by decide) ?_
    refine lv_iload hx hb dX5_call_6 (lv_at hl 0 rfl) ?_
    refine lv_bipush (v := 8) hx hb dX5_call_8 kk_bi_8 ?_
    refine lv_icmp_ge (tgt := 48) hx hb dX5_call_10 (by decide) (fun c => absurd c (by decide)) (fun _ => ?_)
    refine lv_iload hx hb dX5_call_13 (lv_at hl 1 rfl) ?_
    obtain ⟨hPc, hDc, hFc⟩ := kk_cutout (wc := []) hP hD hS hA [] (by decide) rfl
    have hKc := kk_Ks (tq := []) hK [] rfl
    refine va_calli (va_runS (As := [.int 0]) (rest := []) ⟨hx, hb, hml, hown, hts⟩ (g_X5_isKind_11 l dC dI H.size) (va_cwS 1 hts gX5_call_X5_isKind rfl rfl rfl kh_X5_isKind ⟨Nat.le_of_ble_eq_true rfl, Nat.le_of_ble_eq_true rfl⟩) ⟨fun a U g mk q => by obtain ⟨q0, q1, qP, qK, qD⟩ := q; exact ⟨q0, q1, qP, va_K.moved (u := U) (U := U.calling g mk a) (Vm.Alike.refl U.vm) qK, qD⟩, fun U hU hW => ⟨rfl, by rw [hU], by rw [hU]; exact hPc, va_K.moved hW.alike hKc, hDc.weaken (fun _ _ _ _ => trivial)⟩⟩ rfl rfl hl.1 rfl (lv_room (Nat.le_of_ble_eq_true rfl)) dX5_call_15 ⟨Nat.le_of_ble_eq_true rfl, Nat.le_of_ble_eq_true rfl⟩) hS (fun q _ h => hFc q h) hFc (fun r_145 u t H1 locs ht hvm hw hB hz1 hk1 hS => ?_)
    obtain ⟨hP1, hK1, hD1⟩ := hB
    rw [ht] at hP1
    have hK1 := va_K.moved hvm.symm hK1
    obtain ⟨hP, hD⟩ := va_join (wr := [(h0, kO5 h1 n0_size h2 n0_ran), (h1, kAi cint 50 f1), (h2, kAi cint 24 f2)]) (w1 := []) hP hD [] [0, 1, 2] rfl rfl (by decide) (by decide) hk1 hFc hP1 hD1
    generalize H1 = H at hP hS ⊢
    have hP : va_P (dC, dI) vwCl [(h0, kO5 h1 n0_size h2 n0_ran), (h1, kAi cint 50 f1), (h2, kAi cint 24 f2)] H := hP
    have hD : va_D A [(h0, kO5 h1 n0_size h2 n0_ran), (h1, kAi cint 50 f1), (h2, kAi cint 24 f2)] := hD
    obtain rfl := hw
    refine lv_if_eq (tgt := 48) hx hb dX5_call_18 (by decide) (fun c => absurd c (by decide)) (fun _ => ?_)
    refine va_gets hx hb hZOWN_BODIES hS hown (hts (.fieldLink RX5 43 "KinkStreet$Lines" "OWN_BODIES" "[I") (List.mem_of_getElem? (i := 1) rfl)) (fun _ h9 => h9) dX5_call_21 ?_
    refine lv_iload hx hb dX5_call_24 (lv_at hl 1 rfl) ?_
    refine lv_iconst (v := 4) hx hb dX5_call_26 kk_ic_4 ?_
    refine lv_imul hx hb dX5_call_27 ?_
    refine lv_topi (fun y_146 e_146 => ?_)
    obtain rfl : y_146 = 0 := e_146.trans (by decide)
    refine lv_iload_n hx hb dX5_call_28 rfl (lv_at hl 5 rfl) ?_
    refine lv_iadd hx hb dX5_call_29 ?_
    refine lv_topi (fun y_147 e_147 => ?_)
    obtain rfl : y_147 = 3 := e_147.trans (by decide)
    refine va_ti (v := .int 2) hx hb hTOWN_BODIES hS (by unfold vp_in; decide) rfl dX5_call_30 ?_
    refine lv_if_ne (tgt := 48) hx hb dX5_call_31 (by decide) (fun _ => ?_) (fun c => absurd c (by decide))
    refine lv_iload hx hb dX5_call_48 (lv_at hl 1 rfl) ?_
    obtain ⟨hPc, hDc, hFc⟩ := kk_cutout (wc := []) hP hD hS hA [] (by decide) rfl
    have hKc := kk_Ks (tq := []) hK [] rfl
    refine va_calli (va_runS (As := [.int 0]) (rest := []) ⟨hx, hb, hml, hown, hts⟩ (g_X5_isKind_11 l dC dI H.size) (va_cwS 1 hts gX5_call_X5_isKind rfl rfl rfl kh_X5_isKind ⟨Nat.le_of_ble_eq_true rfl, Nat.le_of_ble_eq_true rfl⟩) ⟨fun a U g mk q => by obtain ⟨q0, q1, qP, qK, qD⟩ := q; exact ⟨q0, q1, qP, va_K.moved (u := U) (U := U.calling g mk a) (Vm.Alike.refl U.vm) qK, qD⟩, fun U hU hW => ⟨rfl, by rw [hU], by rw [hU]; exact hPc, va_K.moved hW.alike hKc, hDc.weaken (fun _ _ _ _ => trivial)⟩⟩ rfl rfl hl.1 rfl (lv_room (Nat.le_of_ble_eq_true rfl)) dX5_call_50 ⟨Nat.le_of_ble_eq_true rfl, Nat.le_of_ble_eq_true rfl⟩) hS (fun q _ h => hFc q h) hFc (fun r_148 u t H1 locs ht hvm hw hB hz1 hk1 hS => ?_)
    obtain ⟨hP1, hK1, hD1⟩ := hB
    rw [ht] at hP1
    have hK1 := va_K.moved hvm.symm hK1
    obtain ⟨hP, hD⟩ := va_join (wr := [(h0, kO5 h1 n0_size h2 n0_ran), (h1, kAi cint 50 f1), (h2, kAi cint 24 f2)]) (w1 := []) hP hD [] [0, 1, 2] rfl rfl (by decide) (by decide) hk1 hFc hP1 hD1
    generalize H1 = H at hP hS ⊢
    have hP : va_P (dC, dI) vwCl [(h0, kO5 h1 n0_size h2 n0_ran), (h1, kAi cint 50 f1), (h2, kAi cint 24 f2)] H := hP
    have hD : va_D A [(h0, kO5 h1 n0_size h2 n0_ran), (h1, kAi cint 50 f1), (h2, kAi cint 24 f2)] := hD
    obtain rfl := hw
    refine lv_if_eq (tgt := 63) hx hb dX5_call_53 (by decide) (fun c => absurd c (by decide)) (fun _ => ?_)
    refine lv_iload hx hb dX5_call_56 (lv_at hl 7 rfl) ?_
    refine lv_bipush (v := 40) hx hb dX5_call_58 kk_bi_40 ?_
    refine lv_icmp_le (tgt := 65) hx hb dX5_call_60 (by decide) (fun c_149 => ?_) (fun c_149 => ?_)
    · have t_149 : p4.toInt ≤ 40 := kk_le c_149
      refine va_gets hx hb hZOWN_BODIES hS hown (hts (.fieldLink RX5 43 "KinkStreet$Lines" "OWN_BODIES" "[I") (List.mem_of_getElem? (i := 1) rfl)) (fun _ h9 => h9) dX5_call_65 ?_
      refine lv_iload hx hb dX5_call_68 (lv_at hl 1 rfl) ?_
      refine lv_iconst (v := 4) hx hb dX5_call_70 kk_ic_4 ?_
      refine lv_imul hx hb dX5_call_71 ?_
      refine lv_topi (fun y_150 e_150 => ?_)
      obtain rfl : y_150 = 0 := e_150.trans (by decide)
      refine lv_iload_n hx hb dX5_call_72 rfl (lv_at hl 5 rfl) ?_
      refine lv_iadd hx hb dX5_call_73 ?_
      refine lv_topi (fun y_151 e_151 => ?_)
      obtain rfl : y_151 = 3 := e_151.trans (by decide)
      refine va_ti (v := .int 2) hx hb hTOWN_BODIES hS (by unfold vp_in; decide) rfl dX5_call_74 ?_
      refine lv_istore hx hb dX5_call_75 hl (by decide) (rfl : _ = ([(7, .int 2), (6, .int 0), (0, .ref h0), (1, .int p0), (2, .int 7), (3, .int 3), (4, .int p3), (5, .int p4)] : List (Nat × Value))) (fun ls hl => ?_)
      refine lv_aload_n hx hb dX5_call_77 rfl (lv_at hl 2 rfl) ?_
      refine va_get (D := (dC, dI)) (ci := 5) (v := .int n0_ran) (C := RX5) (T := TX5) (N := 4) hx hb hts (fun _ h => List.mem_cons_of_mem _ (List.mem_append_right _ h)) hown hK hP 0 rfl rfl 3 (by decide) (hts (.fieldLink RX5 36 "KinkStreet$Lines" "ran" "I") (List.mem_of_getElem? (i := 3) rfl)) (fun _ h9 => h9) rfl dX5_call_78 ?_
      refine lv_bipush (v := 24) hx hb dX5_call_81 kk_bi_24 ?_
      refine lv_icmp_ge (tgt := 97) hx hb dX5_call_83 (by decide) (fun c_152 => ?_) (fun c_152 => ?_)
      · have t_152 : 24 ≤ n0_ran.toInt := kk_le c_152
        refine lv_aload_n hx hb dX5_call_97 rfl (lv_at hl 2 rfl) ?_
        refine lv_dup hx hb dX5_call_98 rfl ?_
        refine va_get (D := (dC, dI)) (ci := 5) (v := .int n0_ran) (C := RX5) (T := TX5) (N := 4) hx hb hts (fun _ h => List.mem_cons_of_mem _ (List.mem_append_right _ h)) hown hK hP 0 rfl rfl 3 (by decide) (hts (.fieldLink RX5 36 "KinkStreet$Lines" "ran" "I") (List.mem_of_getElem? (i := 3) rfl)) (fun _ h9 => h9) rfl dX5_call_99 ?_
        refine lv_iconst (v := 1) hx hb dX5_call_102 kk_ic_1 ?_
        refine lv_iadd hx hb dX5_call_103 ?_
        refine va_put (D := (dC, dI)) (ci := 5) (v := .int (n0_ran + 1)) (ty := .int) (C := RX5) (T := TX5) (N := 4) hx hb hts (fun _ h => List.mem_cons_of_mem _ (List.mem_append_right _ h)) tyX5 tyX5_ok nmX5 hown hK hP hD hS 0 rfl rfl 3 (by decide) (hts (.fieldLink RX5 36 "KinkStreet$Lines" "ran" "I") (List.mem_of_getElem? (i := 3) rfl)) (fun _ h9 => h9) rfl (by decide +kernel) rfl rfl (Nat.le_of_ble_eq_true rfl) dX5_call_104 (fun H locs hP hD hS => ?_)
        have hP : va_P (dC, dI) vwCl [(h0, kO5 h1 n0_size h2 (n0_ran + 1)), (h1, kAi cint 50 f1), (h2, kAi cint 24 f2)] H := hP
        have hD : va_D A [(h0, kO5 h1 n0_size h2 (n0_ran + 1)), (h1, kAi cint 50 f1), (h2, kAi cint 24 f2)] := hD
        have hp_153 : kk_P f2 f2 n0_ran.toInt (n0_ran + 1 : Int32).toInt [2] := kk_P_out (by have := kk_add2 (x := n0_ran) (y := 1) (a := n0_ran.toInt) (b := 1) rfl rfl (by omega) (by omega); omega) (by have := kk_add2 (x := n0_ran) (y := 1) (a := n0_ran.toInt) (b := 1) rfl rfl (by omega) (by omega); omega)
        refine lv_iload hx hb dX5_call_107 (lv_at hl 1 rfl) ?_
        refine lv_if_ne (tgt := 128) hx hb dX5_call_109 (by decide) (fun c => absurd c (by decide)) (fun _ => ?_)
        refine lv_aload_n hx hb dX5_call_112 rfl (lv_at hl 2 rfl) ?_
        refine lv_iload_n hx hb dX5_call_113 rfl (lv_at hl 3 rfl) ?_
        refine lv_iload hx hb dX5_call_114 (lv_at hl 0 rfl) ?_
        refine lv_iload hx hb dX5_call_116 (lv_at hl 6 rfl) ?_
        refine lv_iload hx hb dX5_call_118 (lv_at hl 7 rfl) ?_
        refine lv_iconst (v := 1) hx hb dX5_call_120 kk_ic_1 ?_
        refine lv_iadd hx hb dX5_call_121 ?_
        obtain ⟨hPc, hDc, hFc⟩ := kk_cutout (wc := [(h0, kO5 h1 n0_size h2 (n0_ran + 1)), (h1, kAi cint 50 f1), (h2, kAi cint 24 f2)]) hP hD hS hA [0, 1, 2] (by decide) rfl
        have hKc := kk_Ks (tq := [(cint, .int)]) hK [0] rfl
        refine va_calli (va_runV (As := [.int p0, .int 2, .int p3, .int (p4 + 1)]) (rest := []) ⟨hx, hb, hml, hown, hts⟩ (g_X5_runLine_7 l dC dI h0 h1 h2 cint H.size p0 p3 (p4 + 1) (by show 0 ≤ ((p4 + 1) : Int32).toInt ∧ ((p4 + 1) : Int32).toInt ≤ 3; first | with_reducible assumption | (constructor <;> (have := kk_add2 (x := n0_ran) (y := 1) (a := n0_ran.toInt) (b := 1) rfl rfl (by omega) (by omega); have := kk_add2 (x := p4) (y := 1) (a := p4.toInt) (b := 1) rfl rfl (by omega) (by omega); omega))) n0_size (n0_ran + 1) f1 f2 tn0_size (by show 0 ≤ ((n0_ran + 1) : Int32).toInt ∧ ((n0_ran + 1) : Int32).toInt ≤ 983; first | with_reducible assumption | (constructor <;> (have := kk_add2 (x := n0_ran) (y := 1) (a := n0_ran.toInt) (b := 1) rfl rfl (by omega) (by omega); have := kk_add2 (x := p4) (y := 1) (a := p4.toInt) (b := 1) rfl rfl (by omega) (by omega); omega))) bf1 (by show (0 ≤ (p0 : Int32).toInt ∧ (p0 : Int32).toInt < (n0_size : Int32).toInt); first | with_reducible assumption | (have := kk_add2 (x := n0_ran) (y := 1) (a := n0_ran.toInt) (b := 1) rfl rfl (by omega) (by omega); have := kk_add2 (x := p4) (y := 1) (a := p4.toInt) (b := 1) rfl rfl (by omega) (by omega); omega)) aOWN_BODIES aABOVE) (cwV 4 hts gX5_call_X5_runLine rfl rfl rfl ⟨rfl, kh_X5_runLine⟩ ⟨Nat.le_of_ble_eq_true rfl, Nat.le_of_ble_eq_true rfl⟩) ⟨fun a U g mk q => by obtain ⟨q0, q1, qP, qK, qD, qx0, qx1, qx2, qx3⟩ := q; exact ⟨q0, q1, qP, va_K.moved (u := U) (U := U.calling g mk a) (Vm.Alike.refl U.vm) qK, qD, va_Z.moved (u := U) (U := U.calling g mk a) (Vm.Alike.refl U.vm) qx0, va_T.moved (u := U) (U := U.calling g mk a) (Vm.Alike.refl U.vm) qx1, va_Z.moved (u := U) (U := U.calling g mk a) (Vm.Alike.refl U.vm) qx2, va_T.moved (u := U) (U := U.calling g mk a) (Vm.Alike.refl U.vm) qx3⟩, va_recv hKc hPc (ci := 5) (q0 := 0) rfl rfl, fun U hU hW => ⟨rfl, by rw [hU], by rw [hU]; exact hPc, va_K.moved hW.alike hKc, hDc.weaken (fun _ _ _ _ => trivial), by rw [hU]; exact ((hZOWN_BODIES.kept (fun a h1 h2 => hS.2.1 a h1 h2)).narrow hFc).moved hW.alike, by rw [hU]; exact ((hTOWN_BODIES.kept (fun a h1 h2 => hS.2.1 a h1 h2)).narrow hFc).moved hW.alike, by rw [hU]; exact ((hZABOVE.kept (fun a h1 h2 => hS.2.1 a h1 h2)).narrow hFc).moved hW.alike, by rw [hU]; exact ((hTABOVE.kept (fun a h1 h2 => hS.2.1 a h1 h2)).narrow hFc).moved hW.alike⟩⟩ rfl rfl hl.1 rfl (lv_room (Nat.le_of_ble_eq_true rfl)) dX5_call_122 ⟨Nat.le_of_ble_eq_true rfl, Nat.le_of_ble_eq_true rfl⟩) hS (fun q _ h => hFc q h) hFc (fun r_154 u t H1 locs ht hvm hw hB hz1 hk1 hS => ?_)
        obtain ⟨y_155, f_156, by_155, v_156_0, hn_156_0, hP1, hK1, hD1⟩ := hB
        have v_156_0 : y_155.toInt ≤ (n0_ran + 1).toInt + 17 := v_156_0
        have hn_156_0 : kk_P f2 f_156 (n0_ran + 1).toInt y_155.toInt ((kt_tells (f1 (p0 : Int32).toNatClampNeg) 0).tail) := hn_156_0
        rw [ht] at hP1
        have hK1 := va_K.moved hvm.symm hK1
        obtain ⟨hP, hD⟩ := va_join (wr := []) (w1 := [(h0, kO5 h1 n0_size h2 y_155), (h1, kAi cint 50 f1), (h2, kAi cint 24 f_156)]) hP hD [0, 1, 2] [] rfl rfl (by decide) (by decide) hk1 hFc hP1 hD1
        generalize H1 = H at hP hS ⊢
        have hP : va_P (dC, dI) vwCl [(h0, kO5 h1 n0_size h2 y_155), (h1, kAi cint 50 f1), (h2, kAi cint 24 f_156)] H := hP
        have hD : va_D A [(h0, kO5 h1 n0_size h2 y_155), (h1, kAi cint 50 f1), (h2, kAi cint 24 f_156)] := hD
        rcases hw with ⟨t_154_0, _⟩
        · skip
          have t_154_0 : r_154 = kk_tells (f1 (p0 : Int32).toNatClampNeg) 0 p0 p3 := t_154_0
          obtain rfl : r_154 = (kk_tells (f1 (p0 : Int32).toNatClampNeg) 0 p0 p3) := t_154_0
          refine lv_goto (tgt := 143) hx hb dX5_call_125 (by decide) ?_
          obtain ⟨hP9, hD9⟩ := kk_leafout (wc := [(h0, kO5 h1 n0_size h2 y_155), (h1, kAi cint 50 f1), (h2, kAi cint 24 f_156)]) hP hD [0, 1, 2] (by decide) rfl
          have hK9 := kk_Ks (tq := []) hK [] rfl
          exact W.iret (v := (kk_tells (f1 (p0 : Int32).toNatClampNeg) 0 p0 p3)) hx hb hr (fun t ht hW => ⟨⟨(kk_tells (f1 (p0 : Int32).toNatClampNeg) 0 p0 p3), (), rfl, ⟨(by first | rfl | (unfold kk_tells; (repeat' split) <;> first | rfl | (exfalso; have : (0 : Int32).toInt = 0 := rfl; have : (1 : Int32).toInt = 1 := rfl; have : (2 : Int32).toInt = 2 := rfl; have : (3 : Int32).toInt = 3 := rfl; have : (4 : Int32).toInt = 4 := rfl; have : (5 : Int32).toInt = 5 := rfl; have : (6 : Int32).toInt = 6 := rfl; have : (7 : Int32).toInt = 7 := rfl; have := kk_add2 (x := n0_ran) (y := 1) (a := n0_ran.toInt) (b := 1) rfl rfl (by omega) (by omega); have := kk_add2 (x := p4) (y := 1) (a := p4.toInt) (b := 1) rfl rfl (by omega) (by omega); omega))), trivial⟩, y_155, f_156, (by show 1 ≤ (y_155 : Int32).toInt ∧ (y_155 : Int32).toInt ≤ 1000; first | with_reducible assumption | (constructor <;> (have := kk_add2 (x := n0_ran) (y := 1) (a := n0_ran.toInt) (b := 1) rfl rfl (by omega) (by omega); have := kk_add2 (x := p4) (y := 1) (a := p4.toInt) (b := 1) rfl rfl (by omega) (by omega); omega))), (by show (y_155 : Int32).toInt ≤ (n0_ran : Int32).toInt + 19; first | with_reducible assumption | (have := kk_add2 (x := n0_ran) (y := 1) (a := n0_ran.toInt) (b := 1) rfl rfl (by omega) (by omega); have := kk_add2 (x := p4) (y := 1) (a := p4.toInt) (b := 1) rfl rfl (by omega) (by omega); omega)), (by first | exact kk_P_eq (kk_P_trans hp_153 hn_156_0) rfl | (unfold kt_tells; (repeat' split) <;> first | exact kk_P_eq (kk_P_trans hp_153 hn_156_0) rfl | (exfalso; have : (0 : Int32).toInt = 0 := rfl; have : (1 : Int32).toInt = 1 := rfl; have : (2 : Int32).toInt = 2 := rfl; have : (3 : Int32).toInt = 3 := rfl; have : (4 : Int32).toInt = 4 := rfl; have : (5 : Int32).toInt = 5 := rfl; have : (6 : Int32).toInt = 6 := rfl; have : (7 : Int32).toInt = 7 := rfl; have := kk_add2 (x := n0_ran) (y := 1) (a := n0_ran.toInt) (b := 1) rfl rfl (by omega) (by omega); have := kk_add2 (x := p4) (y := 1) (a := p4.toInt) (b := 1) rfl rfl (by omega) (by omega); omega))), by rw [ht]; exact hP9, va_K.moved hW.alike hK9, hD9⟩, hS.F ht⟩) hS.2.2 dX5_call_143
      · have t_152 : n0_ran.toInt < 24 := kk_nle c_152
        refine lv_aload_n hx hb dX5_call_86 rfl (lv_at hl 2 rfl) ?_
        refine va_get (D := (dC, dI)) (ci := 5) (v := .ref h2) (C := RX5) (T := TX5) (N := 4) hx hb hts (fun _ h => List.mem_cons_of_mem _ (List.mem_append_right _ h)) hown hK hP 0 rfl rfl 2 (by decide) (hts (.fieldLink RX5 15 "KinkStreet$Lines" "trace" "[I") (List.mem_of_getElem? (i := 4) rfl)) (fun _ h9 => h9) rfl dX5_call_87 ?_
        refine lv_aload_n hx hb dX5_call_90 rfl (lv_at hl 2 rfl) ?_
        refine va_get (D := (dC, dI)) (ci := 5) (v := .int n0_ran) (C := RX5) (T := TX5) (N := 4) hx hb hts (fun _ h => List.mem_cons_of_mem _ (List.mem_append_right _ h)) hown hK hP 0 rfl rfl 3 (by decide) (hts (.fieldLink RX5 36 "KinkStreet$Lines" "ran" "I") (List.mem_of_getElem? (i := 3) rfl)) (fun _ h9 => h9) rfl dX5_call_91 ?_
        refine lv_iload hx hb dX5_call_94 (lv_at hl 0 rfl) ?_
        refine va_iast hx hb hK hP hD hS 2 0 rfl rfl (vp_in_iff.mpr ⟨by omega, by omega⟩) dX5_call_96 (fun H locs hP hD hS => ?_)
        have w_157 : ((upd f2 (n0_ran : Int32).toNatClampNeg 2) (n0_ran : Int32).toNatClampNeg).toInt = (2 : Int32).toInt := by rw [kk_ups]
        have hP : va_P (dC, dI) vwCl [(h0, kO5 h1 n0_size h2 n0_ran), (h1, kAi cint 50 f1), (h2, kAi cint 24 (upd f2 (n0_ran : Int32).toNatClampNeg 2))] H := hP
        have hD : va_D A [(h0, kO5 h1 n0_size h2 n0_ran), (h1, kAi cint 50 f1), (h2, kAi cint 24 (upd f2 (n0_ran : Int32).toNatClampNeg 2))] := hD
        refine lv_aload_n hx hb dX5_call_97 rfl (lv_at hl 2 rfl) ?_
        refine lv_dup hx hb dX5_call_98 rfl ?_
        refine va_get (D := (dC, dI)) (ci := 5) (v := .int n0_ran) (C := RX5) (T := TX5) (N := 4) hx hb hts (fun _ h => List.mem_cons_of_mem _ (List.mem_append_right _ h)) hown hK hP 0 rfl rfl 3 (by decide) (hts (.fieldLink RX5 36 "KinkStreet$Lines" "ran" "I") (List.mem_of_getElem? (i := 3) rfl)) (fun _ h9 => h9) rfl dX5_call_99 ?_
        refine lv_iconst (v := 1) hx hb dX5_call_102 kk_ic_1 ?_
        refine lv_iadd hx hb dX5_call_103 ?_
        refine va_put (D := (dC, dI)) (ci := 5) (v := .int (n0_ran + 1)) (ty := .int) (C := RX5) (T := TX5) (N := 4) hx hb hts (fun _ h => List.mem_cons_of_mem _ (List.mem_append_right _ h)) tyX5 tyX5_ok nmX5 hown hK hP hD hS 0 rfl rfl 3 (by decide) (hts (.fieldLink RX5 36 "KinkStreet$Lines" "ran" "I") (List.mem_of_getElem? (i := 3) rfl)) (fun _ h9 => h9) rfl (by decide +kernel) rfl rfl (Nat.le_of_ble_eq_true rfl) dX5_call_104 (fun H locs hP hD hS => ?_)
        have hP : va_P (dC, dI) vwCl [(h0, kO5 h1 n0_size h2 (n0_ran + 1)), (h1, kAi cint 50 f1), (h2, kAi cint 24 (upd f2 (n0_ran : Int32).toNatClampNeg 2))] H := hP
        have hD : va_D A [(h0, kO5 h1 n0_size h2 (n0_ran + 1)), (h1, kAi cint 50 f1), (h2, kAi cint 24 (upd f2 (n0_ran : Int32).toNatClampNeg 2))] := hD
        have hp_158 : kk_P f2 (upd f2 (n0_ran : Int32).toNatClampNeg 2) n0_ran.toInt (n0_ran + 1 : Int32).toInt [2] := kk_P_one (by have := kk_add2 (x := n0_ran) (y := 1) (a := n0_ran.toInt) (b := 1) rfl rfl (by omega) (by omega); omega) (by have := kk_add2 (x := n0_ran) (y := 1) (a := n0_ran.toInt) (b := 1) rfl rfl (by omega) (by omega); omega)
        refine lv_iload hx hb dX5_call_107 (lv_at hl 1 rfl) ?_
        refine lv_if_ne (tgt := 128) hx hb dX5_call_109 (by decide) (fun c => absurd c (by decide)) (fun _ => ?_)
        refine lv_aload_n hx hb dX5_call_112 rfl (lv_at hl 2 rfl) ?_
        refine lv_iload_n hx hb dX5_call_113 rfl (lv_at hl 3 rfl) ?_
        refine lv_iload hx hb dX5_call_114 (lv_at hl 0 rfl) ?_
        refine lv_iload hx hb dX5_call_116 (lv_at hl 6 rfl) ?_
        refine lv_iload hx hb dX5_call_118 (lv_at hl 7 rfl) ?_
        refine lv_iconst (v := 1) hx hb dX5_call_120 kk_ic_1 ?_
        refine lv_iadd hx hb dX5_call_121 ?_
        obtain ⟨hPc, hDc, hFc⟩ := kk_cutout (wc := [(h0, kO5 h1 n0_size h2 (n0_ran + 1)), (h1, kAi cint 50 f1), (h2, kAi cint 24 (upd f2 (n0_ran : Int32).toNatClampNeg 2))]) hP hD hS hA [0, 1, 2] (by decide) rfl
        have hKc := kk_Ks (tq := [(cint, .int)]) hK [0] rfl
        refine va_calli (va_runV (As := [.int p0, .int 2, .int p3, .int (p4 + 1)]) (rest := []) ⟨hx, hb, hml, hown, hts⟩ (g_X5_runLine_7 l dC dI h0 h1 h2 cint H.size p0 p3 (p4 + 1) (by show 0 ≤ ((p4 + 1) : Int32).toInt ∧ ((p4 + 1) : Int32).toInt ≤ 3; first | with_reducible assumption | (constructor <;> (have := kk_add2 (x := n0_ran) (y := 1) (a := n0_ran.toInt) (b := 1) rfl rfl (by omega) (by omega); have := kk_add2 (x := p4) (y := 1) (a := p4.toInt) (b := 1) rfl rfl (by omega) (by omega); omega))) n0_size (n0_ran + 1) f1 (upd f2 (n0_ran : Int32).toNatClampNeg 2) tn0_size (by show 0 ≤ ((n0_ran + 1) : Int32).toInt ∧ ((n0_ran + 1) : Int32).toInt ≤ 983; first | with_reducible assumption | (constructor <;> (have := kk_add2 (x := n0_ran) (y := 1) (a := n0_ran.toInt) (b := 1) rfl rfl (by omega) (by omega); have := kk_add2 (x := p4) (y := 1) (a := p4.toInt) (b := 1) rfl rfl (by omega) (by omega); omega))) bf1 (by show (0 ≤ (p0 : Int32).toInt ∧ (p0 : Int32).toInt < (n0_size : Int32).toInt); first | with_reducible assumption | (have := kk_add2 (x := n0_ran) (y := 1) (a := n0_ran.toInt) (b := 1) rfl rfl (by omega) (by omega); have := kk_add2 (x := p4) (y := 1) (a := p4.toInt) (b := 1) rfl rfl (by omega) (by omega); omega)) aOWN_BODIES aABOVE) (cwV 4 hts gX5_call_X5_runLine rfl rfl rfl ⟨rfl, kh_X5_runLine⟩ ⟨Nat.le_of_ble_eq_true rfl, Nat.le_of_ble_eq_true rfl⟩) ⟨fun a U g mk q => by obtain ⟨q0, q1, qP, qK, qD, qx0, qx1, qx2, qx3⟩ := q; exact ⟨q0, q1, qP, va_K.moved (u := U) (U := U.calling g mk a) (Vm.Alike.refl U.vm) qK, qD, va_Z.moved (u := U) (U := U.calling g mk a) (Vm.Alike.refl U.vm) qx0, va_T.moved (u := U) (U := U.calling g mk a) (Vm.Alike.refl U.vm) qx1, va_Z.moved (u := U) (U := U.calling g mk a) (Vm.Alike.refl U.vm) qx2, va_T.moved (u := U) (U := U.calling g mk a) (Vm.Alike.refl U.vm) qx3⟩, va_recv hKc hPc (ci := 5) (q0 := 0) rfl rfl, fun U hU hW => ⟨rfl, by rw [hU], by rw [hU]; exact hPc, va_K.moved hW.alike hKc, hDc.weaken (fun _ _ _ _ => trivial), by rw [hU]; exact ((hZOWN_BODIES.kept (fun a h1 h2 => hS.2.1 a h1 h2)).narrow hFc).moved hW.alike, by rw [hU]; exact ((hTOWN_BODIES.kept (fun a h1 h2 => hS.2.1 a h1 h2)).narrow hFc).moved hW.alike, by rw [hU]; exact ((hZABOVE.kept (fun a h1 h2 => hS.2.1 a h1 h2)).narrow hFc).moved hW.alike, by rw [hU]; exact ((hTABOVE.kept (fun a h1 h2 => hS.2.1 a h1 h2)).narrow hFc).moved hW.alike⟩⟩ rfl rfl hl.1 rfl (lv_room (Nat.le_of_ble_eq_true rfl)) dX5_call_122 ⟨Nat.le_of_ble_eq_true rfl, Nat.le_of_ble_eq_true rfl⟩) hS (fun q _ h => hFc q h) hFc (fun r_159 u t H1 locs ht hvm hw hB hz1 hk1 hS => ?_)
        obtain ⟨y_160, f_161, by_160, v_161_0, hn_161_0, hP1, hK1, hD1⟩ := hB
        have v_161_0 : y_160.toInt ≤ (n0_ran + 1).toInt + 17 := v_161_0
        have hn_161_0 : kk_P (upd f2 (n0_ran : Int32).toNatClampNeg 2) f_161 (n0_ran + 1).toInt y_160.toInt ((kt_tells (f1 (p0 : Int32).toNatClampNeg) 0).tail) := hn_161_0
        rw [ht] at hP1
        have hK1 := va_K.moved hvm.symm hK1
        obtain ⟨hP, hD⟩ := va_join (wr := []) (w1 := [(h0, kO5 h1 n0_size h2 y_160), (h1, kAi cint 50 f1), (h2, kAi cint 24 f_161)]) hP hD [0, 1, 2] [] rfl rfl (by decide) (by decide) hk1 hFc hP1 hD1
        generalize H1 = H at hP hS ⊢
        have hP : va_P (dC, dI) vwCl [(h0, kO5 h1 n0_size h2 y_160), (h1, kAi cint 50 f1), (h2, kAi cint 24 f_161)] H := hP
        have hD : va_D A [(h0, kO5 h1 n0_size h2 y_160), (h1, kAi cint 50 f1), (h2, kAi cint 24 f_161)] := hD
        rcases hw with ⟨t_159_0, _⟩
        · skip
          have t_159_0 : r_159 = kk_tells (f1 (p0 : Int32).toNatClampNeg) 0 p0 p3 := t_159_0
          obtain rfl : r_159 = (kk_tells (f1 (p0 : Int32).toNatClampNeg) 0 p0 p3) := t_159_0
          refine lv_goto (tgt := 143) hx hb dX5_call_125 (by decide) ?_
          obtain ⟨hP9, hD9⟩ := kk_leafout (wc := [(h0, kO5 h1 n0_size h2 y_160), (h1, kAi cint 50 f1), (h2, kAi cint 24 f_161)]) hP hD [0, 1, 2] (by decide) rfl
          have hK9 := kk_Ks (tq := []) hK [] rfl
          exact W.iret (v := (kk_tells (f1 (p0 : Int32).toNatClampNeg) 0 p0 p3)) hx hb hr (fun t ht hW => ⟨⟨(kk_tells (f1 (p0 : Int32).toNatClampNeg) 0 p0 p3), (), rfl, ⟨(by first | rfl | (unfold kk_tells; (repeat' split) <;> first | rfl | (exfalso; have : (0 : Int32).toInt = 0 := rfl; have : (1 : Int32).toInt = 1 := rfl; have : (2 : Int32).toInt = 2 := rfl; have : (3 : Int32).toInt = 3 := rfl; have : (4 : Int32).toInt = 4 := rfl; have : (5 : Int32).toInt = 5 := rfl; have : (6 : Int32).toInt = 6 := rfl; have : (7 : Int32).toInt = 7 := rfl; have := kk_add2 (x := n0_ran) (y := 1) (a := n0_ran.toInt) (b := 1) rfl rfl (by omega) (by omega); have := kk_add2 (x := p4) (y := 1) (a := p4.toInt) (b := 1) rfl rfl (by omega) (by omega); omega))), trivial⟩, y_160, f_161, (by show 1 ≤ (y_160 : Int32).toInt ∧ (y_160 : Int32).toInt ≤ 1000; first | with_reducible assumption | (constructor <;> (have := kk_add2 (x := n0_ran) (y := 1) (a := n0_ran.toInt) (b := 1) rfl rfl (by omega) (by omega); have := kk_add2 (x := p4) (y := 1) (a := p4.toInt) (b := 1) rfl rfl (by omega) (by omega); omega))), (by show (y_160 : Int32).toInt ≤ (n0_ran : Int32).toInt + 19; first | with_reducible assumption | (have := kk_add2 (x := n0_ran) (y := 1) (a := n0_ran.toInt) (b := 1) rfl rfl (by omega) (by omega); have := kk_add2 (x := p4) (y := 1) (a := p4.toInt) (b := 1) rfl rfl (by omega) (by omega); omega)), (by first | exact kk_P_eq (kk_P_trans hp_158 hn_161_0) rfl | (unfold kt_tells; (repeat' split) <;> first | exact kk_P_eq (kk_P_trans hp_158 hn_161_0) rfl | (exfalso; have : (0 : Int32).toInt = 0 := rfl; have : (1 : Int32).toInt = 1 := rfl; have : (2 : Int32).toInt = 2 := rfl; have : (3 : Int32).toInt = 3 := rfl; have : (4 : Int32).toInt = 4 := rfl; have : (5 : Int32).toInt = 5 := rfl; have : (6 : Int32).toInt = 6 := rfl; have : (7 : Int32).toInt = 7 := rfl; have := kk_add2 (x := n0_ran) (y := 1) (a := n0_ran.toInt) (b := 1) rfl rfl (by omega) (by omega); have := kk_add2 (x := p4) (y := 1) (a := p4.toInt) (b := 1) rfl rfl (by omega) (by omega); omega))), by rw [ht]; exact hP9, va_K.moved hW.alike hK9, hD9⟩, hS.F ht⟩) hS.2.2 dX5_call_143
    · have t_149 : 40 < p4.toInt := kk_nle c_149
      exfalso; omega
