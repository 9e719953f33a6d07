set_option maxHeartbeats 4000000 in
set_option maxRecDepth 100000 in
theorem g_X5_runUnder_14 (l : Launch) (dC : Nat → ClassId) (dI : Nat → Nat → Nat) (h0 : Nat) (h1 : Nat) (h2 : Nat) (cint : ClassId) (sz : Nat) (p0 : Int32) (p3 : Int32) (p4 : Int32) (tp4 : 0 ≤ p4.toInt ∧ p4.toInt ≤ 13) (n0_size : Int32) (n0_ran : Int32) (f1 : Nat → Int32) (f2 : Nat → Int32) (tn0_size : 0 ≤ n0_size.toInt ∧ n0_size.toInt ≤ 50) (tn0_ran : 0 ≤ n0_ran.toInt ∧ n0_ran.toInt ≤ 995) (bf1 : ∀ j, j < 50 → 0 ≤ (f1 j).toInt ∧ (f1 j).toInt ≤ 7) (pr0 : (0 ≤ p0.toInt ∧ p0.toInt < n0_size.toInt)) (aABOVE : Nat) (aOWN_BODIES : Nat) : Met l yX5_runUnder wsX5_runUnder ({ frames := 8, cells := 0, slots := 0, locals := 202 }) (va_Pc [.ref h0, .int p0, .int 4, .int 50, .int p3, .int p4] (fun U => U.heap.size = sz ∧ va_P (dC, dI) vwCl [(h0, kO5 h1 n0_size h2 n0_ran), (h1, kAi cint 50 f1), (h2, kAi cint 24 f2)] U.heap ∧ va_K (dC, dI) vwCl [(cint, .int)] U ∧ va_D (fun _ => True) [(h0, kO5 h1 n0_size h2 n0_ran), (h1, kAi cint 50 f1), (h2, kAi cint 24 f2)] ∧ va_Z "KinkStreet$Lines" "ABOVE" "[I" (.ref aABOVE) (va_A [(h0, kO5 h1 n0_size h2 n0_ran), (h1, kAi cint 50 f1), (h2, kAi cint 24 f2)] sz) U U.heap ∧ va_T .int aABOVE 8 tb_ABOVE (va_A [(h0, kO5 h1 n0_size h2 n0_ran), (h1, kAi cint 50 f1), (h2, kAi cint 24 f2)] sz) U U.heap ∧ va_Z "KinkStreet$Lines" "OWN_BODIES" "[I" (.ref aOWN_BODIES) (va_A [(h0, kO5 h1 n0_size h2 n0_ran), (h1, kAi cint 50 f1), (h2, kAi cint 24 f2)] sz) U U.heap ∧ va_T .int aOWN_BODIES 32 tb_OWN_BODIES (va_A [(h0, kO5 h1 n0_size h2 n0_ran), (h1, kAi cint 50 f1), (h2, kAi cint 24 f2)] sz) U U.heap)) (va_Qi (fun (r : Int32) (_ : Unit) => r = kk_leads (f1 (p0 : Int32).toNatClampNeg) 4 p0 p3 ∧ True) (fun (_ : Unit) t => ∃ (m0_ran : Int32) (g2 : Nat → Int32), (1 ≤ m0_ran.toInt ∧ m0_ran.toInt ≤ 1000) ∧ (m0_ran.toInt ≤ n0_ran.toInt + 5) ∧ (kk_P f2 g2 n0_ran.toInt m0_ran.toInt ((kt_leads (f1 (p0 : Int32).toNatClampNeg) 4).tail)) ∧ va_P (dC, dI) vwCl [(h0, kO5 h1 n0_size h2 m0_ran), (h1, kAi cint 50 f1), (h2, kAi cint 24 g2)] t.heap ∧ va_K (dC, dI) vwCl [] t ∧ va_D (va_A [(h0, kO5 h1 n0_size h2 n0_ran), (h1, kAi cint 50 f1), (h2, kAi cint 24 f2)] sz) [(h0, kO5 h1 n0_size h2 m0_ran), (h1, kAi cint 50 f1), (h2, kAi cint 24 g2)]) (va_A [(h0, kO5 h1 n0_size h2 n0_ran), (h1, kAi cint 50 f1), (h2, kAi cint 24 f2)] sz)) 0 0 (va_A [(h0, kO5 h1 n0_size h2 n0_ran), (h1, kAi cint 50 f1), (h2, kAi cint 24 f2)] sz) := by
  refine Met.ofW (cc := cX5_runUnder) (maxL := 8) (ret := (some .int)) (by decide) rfl ?_
  intro p e s m args below meth c s₁ B hml hv
  obtain ⟨rfl, hsz, hP, hK, hD0, hZABOVE, hTABOVE, hZOWN_BODIES, hTOWN_BODIES⟩ := hv
  have hx := B.exec
  have hb := B.bytes
  have hr := B.returns
  have hts := atoms_spec (ws := wsX5_runUnder) B.pre
  have hown : s.vm.findClass RX5 = some m.cls := findClass_of_methodNamed B.named
  have hlocks := B.notSynchronized
  subst hsz
  have hD := hD0.self (sz := s.heap.size)
  generalize hAe : va_A [(h0, kO5 h1 n0_size h2 n0_ran), (h1, kAi cint 50 f1), (h2, kAi cint 24 f2)] s.heap.size = A at hD hZABOVE hTABOVE hZOWN_BODIES hTOWN_BODIES ⊢
  have hA : ∀ q : Nat, s.heap.size ≤ q → A q := fun q h => by rw [← hAe]; exact Or.inr h
  have hS : va_S A s.heap s.heap [] := va_S.rf
  have hP : va_P (dC, dI) vwCl [(h0, kO5 h1 n0_size h2 n0_ran), (h1, kAi cint 50 f1), (h2, kAi cint 24 f2)] s.heap := hP
  have hl := lv_entry ([.ref h0, .int p0, .int 4, .int 50, .int p3, .int p4]) (n := 8) (Nat.le_of_ble_eq_true rfl)
  rw [lg_entry_eq]
  generalize (lg_sl ([.ref h0, .int p0, .int 4, .int 50, .int p3, .int p4]) ++ List.replicate (8 - (lg_sl ([.ref h0, .int p0, .int 4, .int 50, .int p3, .int p4])).length) Slot.unset).toArray = ls at hl ⊢
  have hl : lv_has ls 8 [(0, .ref h0), (1, .int p0), (2, .int 4), (3, .int 50), (4, .int p3), (5, .int p4)] := hl
  refine lv_aload_n hx hb dX5_runUnder_0 rfl (lv_at hl 0 rfl) ?_
  refine lv_iload_n hx hb dX5_runUnder_1 rfl (lv_at hl 1 rfl) ?_
  obtain ⟨hPc, hDc, hFc⟩ := kk_cutout (wc := [(h0, kO5 h1 n0_size h2 n0_ran), (h1, kAi cint 50 f1)]) hP hD hS hA [0, 1] (by decide) rfl
  have hKc := kk_Ks (tq := [(cint, .int)]) hK [0] rfl
  refine va_calli (va_runV (As := [.int p0]) (rest := []) ⟨hx, hb, hml, hown, hts⟩ (g_X5_kindOf_1 l dC dI h0 h1 h2 cint s.heap.size p0 n0_size n0_ran f1 tn0_size (by show 0 ≤ (n0_ran : Int32).toInt ∧ (n0_ran : Int32).toInt ≤ 1000; first | with_reducible assumption | (constructor <;> (omega))) bf1) (cwV 1 hts gX5_runUnder_X5_kindOf rfl rfl rfl ⟨rfl, kh_X5_kindOf⟩ ⟨Nat.le_of_ble_eq_true rfl, Nat.le_of_ble_eq_true rfl⟩) ⟨fun a U g mk q => by obtain ⟨q0, q1, qP, qK, qD⟩ := q; exact ⟨q0, q1, qP, va_K.moved (u := U) (U := U.calling g mk a) (Vm.Alike.refl U.vm) qK, qD⟩, va_recv hKc hPc (ci := 5) (q0 := 0) rfl rfl, fun U hU hW => ⟨rfl, by rw [hU], by rw [hU]; exact hPc, va_K.moved hW.alike hKc, hDc.weaken (fun _ _ _ _ => trivial)⟩⟩ rfl rfl hl.1 rfl (lv_room (Nat.le_of_ble_eq_true rfl)) dX5_runUnder_2 ⟨Nat.le_of_ble_eq_true rfl, Nat.le_of_ble_eq_true rfl⟩) hS (fun q _ h => hFc q h) hFc (fun r_1 u t H1 locs ht hvm hw hB hz1 hk1 hS => ?_)
  obtain ⟨hP1, hK1, hD1⟩ := hB
  rw [ht] at hP1
  have hK1 := va_K.moved hvm.symm hK1
  obtain ⟨hP, hD⟩ := va_join (wr := [(h2, kAi cint 24 f2)]) (w1 := [(h0, kO5 h1 n0_size h2 n0_ran), (h1, kAi cint 50 f1)]) hP hD [0, 1] [2] rfl rfl (by decide) (by decide) hk1 hFc hP1 hD1
  generalize H1 = H at hP hS ⊢
  have hP : va_P (dC, dI) vwCl [(h2, kAi cint 24 f2), (h0, kO5 h1 n0_size h2 n0_ran), (h1, kAi cint 50 f1)] H := hP
  have hD : va_D A [(h2, kAi cint 24 f2), (h0, kO5 h1 n0_size h2 n0_ran), (h1, kAi cint 50 f1)] := hD
  rcases hw with ⟨t_1_0, t_1_1, t_1_any⟩
  · skip
    have t_1_0 : ((0 ≤ p0.toInt ∧ p0.toInt < n0_size.toInt → r_1.toInt = (f1 (p0 : Int32).toNatClampNeg).toInt ∧ 0 ≤ (f1 (p0 : Int32).toNatClampNeg).toInt) ∧ (¬ (0 ≤ p0.toInt ∧ p0.toInt < n0_size.toInt) → r_1.toInt = -1)) := t_1_0
    have t_1_1 : (0 ≤ p0.toInt ∧ p0.toInt < n0_size.toInt → r_1 = (f1 (p0 : Int32).toNatClampNeg)) := t_1_1
    obtain rfl : r_1 = (f1 (p0 : Int32).toNatClampNeg) := t_1_1 (by omega)
    refine lv_istore hx hb dX5_runUnder_5 hl (by decide) (rfl : _ = ([(6, .int (f1 (p0 : Int32).toNatClampNeg)), (0, .ref h0), (1, .int p0), (2, .int 4), (3, .int 50), (4, .int p3), (5, .int p4)] : List (Nat × Value))) (fun ls hl => ?_)
    refine lv_iload_n hx hb dX5_runUnder_7 rfl (lv_at hl 3 rfl) ?_
    obtain ⟨hPc, hDc, hFc⟩ := kk_cutout (wc := []) hP hD hS hA [] (by decide) rfl
    have hKc := kk_Ks (tq := []) hK [] rfl
    refine va_calli (va_runS (As := [.int 4]) (rest := []) ⟨hx, hb, hml, hown, hts⟩ (g_X5_isKind_15 l dC dI H.size) (va_cwS 1 hts gX5_runUnder_X5_isKind rfl rfl rfl kh_X5_isKind ⟨Nat.le_of_ble_eq_true rfl, Nat.le_of_ble_eq_true rfl⟩) ⟨fun a U g mk q => by obtain ⟨q0, q1, qP, qK, qD⟩ := q; exact ⟨q0, q1, qP, va_K.moved (u := U) (U := U.calling g mk a) (Vm.Alike.refl U.vm) qK, qD⟩, fun U hU hW => ⟨rfl, by rw [hU], by rw [hU]; exact hPc, va_K.moved hW.alike hKc, hDc.weaken (fun _ _ _ _ => trivial)⟩⟩ rfl rfl hl.1 rfl (lv_room (Nat.le_of_ble_eq_true rfl)) dX5_runUnder_8 ⟨Nat.le_of_ble_eq_true rfl, Nat.le_of_ble_eq_true rfl⟩) hS (fun q _ h => hFc q h) hFc (fun r_2 u t H1 locs ht hvm hw hB hz1 hk1 hS => ?_)
    obtain ⟨hP1, hK1, hD1⟩ := hB
    rw [ht] at hP1
    have hK1 := va_K.moved hvm.symm hK1
    obtain ⟨hP, hD⟩ := va_join (wr := [(h2, kAi cint 24 f2), (h0, kO5 h1 n0_size h2 n0_ran), (h1, kAi cint 50 f1)]) (w1 := []) hP hD [] [0, 1, 2] rfl rfl (by decide) (by decide) hk1 hFc hP1 hD1
    generalize H1 = H at hP hS ⊢
    have hP : va_P (dC, dI) vwCl [(h2, kAi cint 24 f2), (h0, kO5 h1 n0_size h2 n0_ran), (h1, kAi cint 50 f1)] H := hP
    have hD : va_D A [(h2, kAi cint 24 f2), (h0, kO5 h1 n0_size h2 n0_ran), (h1, kAi cint 50 f1)] := hD
    obtain rfl := hw
    refine lv_if_eq (tgt := 22) hx hb dX5_runUnder_11 (by decide) (fun c => absurd c (by decide)) (fun _ => ?_)
    refine va_gets hx hb hZABOVE hS hown (hts (.fieldLink RX5 22 "KinkStreet$Lines" "ABOVE" "[I") (List.mem_of_getElem? (i := 1) rfl)) (fun _ h9 => h9) dX5_runUnder_14 ?_
    refine lv_iload_n hx hb dX5_runUnder_17 rfl (lv_at hl 3 rfl) ?_
    refine va_ti (v := .int 3) hx hb hTABOVE hS (by unfold vp_in; decide) rfl dX5_runUnder_18 ?_
    refine lv_goto (tgt := 23) hx hb dX5_runUnder_19 (by decide) ?_
    refine lv_istore hx hb dX5_runUnder_23 hl (by decide) (rfl : _ = ([(7, .int 3), (6, .int (f1 (p0 : Int32).toNatClampNeg)), (0, .ref h0), (1, .int p0), (2, .int 4), (3, .int 50), (4, .int p3), (5, .int p4)] : List (Nat × Value))) (fun ls hl => ?_)
    refine lv_iload_n hx hb dX5_runUnder_25 rfl (lv_at hl 5 rfl) ?_
    refine lv_lookup (tgt := 144) (off := 118) hx hb dX5_runUnder_26 (by decide) (by decide) (by decide) ?_
    refine lv_aload_n hx hb dX5_runUnder_144 rfl (lv_at hl 2 rfl) ?_
    refine lv_iload_n hx hb dX5_runUnder_145 rfl (lv_at hl 3 rfl) ?_
    refine lv_iload hx hb dX5_runUnder_146 (lv_at hl 0 rfl) ?_
    refine lv_iconst (v := 2) hx hb dX5_runUnder_148 kk_ic_2 ?_
    refine lv_iload hx hb dX5_runUnder_149 (lv_at hl 6 rfl) ?_
    refine lv_iload hx hb dX5_runUnder_151 (lv_at hl 7 rfl) ?_
    obtain ⟨hPc, hDc, hFc⟩ := kk_cutout (wc := [(h0, kO5 h1 n0_size h2 n0_ran), (h1, kAi cint 50 f1), (h2, kAi cint 24 f2)]) hP hD hS hA [1, 2, 0] (by decide) rfl
    have hKc := kk_Ks (tq := [(cint, .int)]) hK [0] rfl
    refine va_calli (va_runV (As := [.int p0, .int 3, .int 2, .int p3, .int p4]) (rest := []) ⟨hx, hb, hml, hown, hts⟩ (g_X5_call_18 l dC dI h0 h1 h2 cint H.size p0 p3 p4 tp4 n0_size n0_ran f1 f2 tn0_size (by show 0 ≤ (n0_ran : Int32).toInt ∧ (n0_ran : Int32).toInt ≤ 998; first | with_reducible assumption | (constructor <;> (omega))) bf1 (by show (0 ≤ (p0 : Int32).toInt ∧ (p0 : Int32).toInt < (n0_size : Int32).toInt); first | with_reducible assumption | (omega)) aOWN_BODIES aABOVE) (cwV 5 hts gX5_runUnder_X5_call rfl rfl rfl ⟨rfl, kh_X5_call⟩ ⟨Nat.le_of_ble_eq_true rfl, Nat.le_of_ble_eq_true rfl⟩) ⟨fun a U g mk q => by obtain ⟨q0, q1, qP, qK, qD, qx0, qx1, qx2, qx3⟩ := q; exact ⟨q0, q1, qP, va_K.moved (u := U) (U := U.calling g mk a) (Vm.Alike.refl U.vm) qK, qD, va_Z.moved (u := U) (U := U.calling g mk a) (Vm.Alike.refl U.vm) qx0, va_T.moved (u := U) (U := U.calling g mk a) (Vm.Alike.refl U.vm) qx1, va_Z.moved (u := U) (U := U.calling g mk a) (Vm.Alike.refl U.vm) qx2, va_T.moved (u := U) (U := U.calling g mk a) (Vm.Alike.refl U.vm) qx3⟩, va_recv hKc hPc (ci := 5) (q0 := 0) rfl rfl, fun U hU hW => ⟨rfl, by rw [hU], by rw [hU]; exact hPc, va_K.moved hW.alike hKc, hDc.weaken (fun _ _ _ _ => trivial), by rw [hU]; exact ((hZOWN_BODIES.kept (fun a h1 h2 => hS.2.1 a h1 h2)).narrow hFc).moved hW.alike, by rw [hU]; exact ((hTOWN_BODIES.kept (fun a h1 h2 => hS.2.1 a h1 h2)).narrow hFc).moved hW.alike, by rw [hU]; exact ((hZABOVE.kept (fun a h1 h2 => hS.2.1 a h1 h2)).narrow hFc).moved hW.alike, by rw [hU]; exact ((hTABOVE.kept (fun a h1 h2 => hS.2.1 a h1 h2)).narrow hFc).moved hW.alike⟩⟩ rfl rfl hl.1 rfl (lv_room (Nat.le_of_ble_eq_true rfl)) dX5_runUnder_153 ⟨Nat.le_of_ble_eq_true rfl, Nat.le_of_ble_eq_true rfl⟩) hS (fun q _ h => hFc q h) hFc (fun r_3 u t H1 locs ht hvm hw hB hz1 hk1 hS => ?_)
    obtain ⟨y_4, f_5, by_4, v_5_0, hn_5_0, hP1, hK1, hD1⟩ := hB
    have v_5_0 : y_4.toInt ≤ n0_ran.toInt + 2 := v_5_0
    have hn_5_0 : kk_P f2 f_5 n0_ran.toInt y_4.toInt (kt_leads (f1 (p0 : Int32).toNatClampNeg) 3) := hn_5_0
    rw [ht] at hP1
    have hK1 := va_K.moved hvm.symm hK1
    obtain ⟨hP, hD⟩ := va_join (wr := []) (w1 := [(h0, kO5 h1 n0_size h2 y_4), (h1, kAi cint 50 f1), (h2, kAi cint 24 f_5)]) hP hD [1, 2, 0] [] rfl rfl (by decide) (by decide) hk1 hFc hP1 hD1
    generalize H1 = H at hP hS ⊢
    have hP : va_P (dC, dI) vwCl [(h0, kO5 h1 n0_size h2 y_4), (h1, kAi cint 50 f1), (h2, kAi cint 24 f_5)] H := hP
    have hD : va_D A [(h0, kO5 h1 n0_size h2 y_4), (h1, kAi cint 50 f1), (h2, kAi cint 24 f_5)] := hD
    rcases hw with ⟨t_3_0, _⟩
    · skip
      have t_3_0 : r_3 = kk_leads (f1 (p0 : Int32).toNatClampNeg) 3 p0 p3 := t_3_0
      obtain rfl : r_3 = (kk_leads (f1 (p0 : Int32).toNatClampNeg) 3 p0 p3) := t_3_0
      refine lv_aload_n hx hb dX5_runUnder_156 rfl (lv_at hl 2 rfl) ?_
      refine lv_iload_n hx hb dX5_runUnder_157 rfl (lv_at hl 3 rfl) ?_
      refine lv_iload hx hb dX5_runUnder_158 (lv_at hl 1 rfl) ?_
      refine lv_iconst (v := 0) hx hb dX5_runUnder_160 kk_ic_0 ?_
      refine lv_iconst (v := 2) hx hb dX5_runUnder_161 kk_ic_2 ?_
      refine lv_iload hx hb dX5_runUnder_162 (lv_at hl 7 rfl) ?_
      obtain ⟨hPc, hDc, hFc⟩ := kk_cutout (wc := [(h0, kO5 h1 n0_size h2 y_4), (h1, kAi cint 50 f1), (h2, kAi cint 24 f_5)]) hP hD hS hA [0, 1, 2] (by decide) rfl
      have hKc := kk_Ks (tq := [(cint, .int)]) hK [0] rfl
      refine va_calli (va_runV (As := [.int p0, .int (f1 (p0 : Int32).toNatClampNeg), .int 0, .int 2, .int p4]) (rest := [.int (kk_leads (f1 (p0 : Int32).toNatClampNeg) 3 p0 p3)]) ⟨hx, hb, hml, hown, hts⟩ (g_X5_call_14 l dC dI h0 h1 h2 cint H.size p0 (f1 (p0 : Int32).toNatClampNeg) 2 p4 (by show 0 ≤ ((f1 (p0 : Int32).toNatClampNeg) : Int32).toInt ∧ ((f1 (p0 : Int32).toNatClampNeg) : Int32).toInt ≤ 7; first | with_reducible assumption | (constructor <;> (omega))) (by show 0 ≤ (p4 : Int32).toInt ∧ (p4 : Int32).toInt ≤ 20; first | with_reducible assumption | (constructor <;> (omega))) n0_size y_4 f1 f_5 tn0_size (by show 0 ≤ (y_4 : Int32).toInt ∧ (y_4 : Int32).toInt ≤ 997; first | with_reducible assumption | (constructor <;> (omega))) bf1 (by show (0 ≤ (p0 : Int32).toInt ∧ (p0 : Int32).toInt < (n0_size : Int32).toInt); first | with_reducible assumption | (omega)) aOWN_BODIES aABOVE) (cwV 5 hts gX5_runUnder_X5_call rfl rfl rfl ⟨rfl, kh_X5_call⟩ ⟨Nat.le_of_ble_eq_true rfl, Nat.le_of_ble_eq_true rfl⟩) ⟨fun a U g mk q => by obtain ⟨q0, q1, qP, qK, qD, qx0, qx1, qx2, qx3⟩ := q; exact ⟨q0, q1, qP, va_K.moved (u := U) (U := U.calling g mk a) (Vm.Alike.refl U.vm) qK, qD, va_Z.moved (u := U) (U := U.calling g mk a) (Vm.Alike.refl U.vm) qx0, va_T.moved (u := U) (U := U.calling g mk a) (Vm.Alike.refl U.vm) qx1, va_Z.moved (u := U) (U := U.calling g mk a) (Vm.Alike.refl U.vm) qx2, va_T.moved (u := U) (U := U.calling g mk a) (Vm.Alike.refl U.vm) qx3⟩, va_recv hKc hPc (ci := 5) (q0 := 0) rfl rfl, fun U hU hW => ⟨rfl, by rw [hU], by rw [hU]; exact hPc, va_K.moved hW.alike hKc, hDc.weaken (fun _ _ _ _ => trivial), by rw [hU]; exact ((hZOWN_BODIES.kept (fun a h1 h2 => hS.2.1 a h1 h2)).narrow hFc).moved hW.alike, by rw [hU]; exact ((hTOWN_BODIES.kept (fun a h1 h2 => hS.2.1 a h1 h2)).narrow hFc).moved hW.alike, by rw [hU]; exact ((hZABOVE.kept (fun a h1 h2 => hS.2.1 a h1 h2)).narrow hFc).moved hW.alike, by rw [hU]; exact ((hTABOVE.kept (fun a h1 h2 => hS.2.1 a h1 h2)).narrow hFc).moved hW.alike⟩⟩ rfl rfl hl.1 rfl (lv_room (Nat.le_of_ble_eq_true rfl)) dX5_runUnder_164 ⟨Nat.le_of_ble_eq_true rfl, Nat.le_of_ble_eq_true rfl⟩) hS (fun q _ h => hFc q h) hFc (fun r_6 u t H1 locs ht hvm hw hB hz1 hk1 hS => ?_)
      obtain ⟨y_7, f_8, by_7, v_8_0, hn_8_0, hP1, hK1, hD1⟩ := hB
      have v_8_0 : y_7.toInt ≤ y_4.toInt + 3 := v_8_0
      have hn_8_0 : kk_P f_5 f_8 y_4.toInt y_7.toInt (kt_runs (f1 (p0 : Int32).toNatClampNeg)) := hn_8_0
      rw [ht] at hP1
      have hK1 := va_K.moved hvm.symm hK1
      obtain ⟨hP, hD⟩ := va_join (wr := []) (w1 := [(h0, kO5 h1 n0_size h2 y_7), (h1, kAi cint 50 f1), (h2, kAi cint 24 f_8)]) hP hD [0, 1, 2] [] rfl rfl (by decide) (by decide) hk1 hFc hP1 hD1
      generalize H1 = H at hP hS ⊢
      have hP : va_P (dC, dI) vwCl [(h0, kO5 h1 n0_size h2 y_7), (h1, kAi cint 50 f1), (h2, kAi cint 24 f_8)] H := hP
      have hD : va_D A [(h0, kO5 h1 n0_size h2 y_7), (h1, kAi cint 50 f1), (h2, kAi cint 24 f_8)] := hD
      rcases hw with ⟨t_6_0, _⟩
      · skip
        have t_6_0 : r_6 = kk_runs (f1 (p0 : Int32).toNatClampNeg) p0 2 := t_6_0
        obtain rfl : r_6 = (kk_runs (f1 (p0 : Int32).toNatClampNeg) p0 2) := t_6_0
        refine lv_isub hx hb dX5_runUnder_167 ?_
        obtain ⟨hP9, hD9⟩ := kk_leafout (wc := [(h0, kO5 h1 n0_size h2 y_7), (h1, kAi cint 50 f1), (h2, kAi cint 24 f_8)]) hP hD [0, 1, 2] (by decide) rfl
        have hK9 := kk_Ks (tq := []) hK [] rfl
        exact W.iret (v := ((kk_leads (f1 (p0 : Int32).toNatClampNeg) 3 p0 p3) - (kk_runs (f1 (p0 : Int32).toNatClampNeg) p0 2))) hx hb hr (fun t ht hW => ⟨⟨((kk_leads (f1 (p0 : Int32).toNatClampNeg) 3 p0 p3) - (kk_runs (f1 (p0 : Int32).toNatClampNeg) p0 2)), (), rfl, ⟨(by first | rfl | (unfold kk_leads; (repeat' split) <;> first | rfl | (exfalso; have : (0 : Int32).toInt = 0 := rfl; have : (1 : Int32).toInt = 1 := rfl; have : (2 : Int32).toInt = 2 := rfl; have : (3 : Int32).toInt = 3 := rfl; have : (4 : Int32).toInt = 4 := rfl; have : (5 : Int32).toInt = 5 := rfl; have : (6 : Int32).toInt = 6 := rfl; have : (7 : Int32).toInt = 7 := rfl; omega))), trivial⟩, y_7, f_8, (by show 1 ≤ (y_7 : Int32).toInt ∧ (y_7 : Int32).toInt ≤ 1000; first | with_reducible assumption | (constructor <;> (omega))), (by show (y_7 : Int32).toInt ≤ (n0_ran : Int32).toInt + 5; first | with_reducible assumption | (omega)), (by first | exact kk_P_eq (kk_P_trans hn_5_0 hn_8_0) rfl | (unfold kt_leads; (repeat' split) <;> first | exact kk_P_eq (kk_P_trans hn_5_0 hn_8_0) rfl | (exfalso; have : (0 : Int32).toInt = 0 := rfl; have : (1 : Int32).toInt = 1 := rfl; have : (2 : Int32).toInt = 2 := rfl; have : (3 : Int32).toInt = 3 := rfl; have : (4 : Int32).toInt = 4 := rfl; have : (5 : Int32).toInt = 5 := rfl; have : (6 : Int32).toInt = 6 := rfl; have : (7 : Int32).toInt = 7 := rfl; omega))), by rw [ht]; exact hP9, va_K.moved hW.alike hK9, hD9⟩, hS.F ht⟩) hS.2.2 dX5_runUnder_168
set_option maxHeartbeats 4000000 in
set_option maxRecDepth 100000 in
theorem g_X5_call_19 (l : Launch) (dC : Nat → ClassId) (dI : Nat → Nat → Nat) (h0 : Nat) (h1 : Nat) (h2 : Nat) (cint : ClassId) (sz : Nat) (p0 : Int32) (p3 : Int32) (p4 : Int32) (tp4 : 0 ≤ p4.toInt ∧ p4.toInt ≤ 13) (n0_size : Int32) (n0_ran : Int32) (f1 : Nat → Int32) (f2 : Nat → Int32) (tn0_size : 0 ≤ n0_size.toInt ∧ n0_size.toInt ≤ 50) (tn0_ran : 0 ≤ n0_ran.toInt ∧ n0_ran.toInt ≤ 999) (bf1 : ∀ j, j < 50 → 0 ≤ (f1 j).toInt ∧ (f1 j).toInt ≤ 7) (pr0 : (0 ≤ p0.toInt ∧ p0.toInt < n0_size.toInt)) (aOWN_BODIES : Nat) (aABOVE : Nat) : Met l yX5_call wsX5_call ({ frames := 3, cells := 0, slots := 0, locals := 67 }) (va_Pc [.ref h0, .int p0, .int 1, .int 2, .int p3, .int p4] (fun U => U.heap.size = sz ∧ va_P (dC, dI) vwCl [(h0, kO5 h1 n0_size h2 n0_ran), (h1, kAi cint 50 f1), (h2, kAi cint 24 f2)] U.heap ∧ va_K (dC, dI) vwCl [(cint, .int)] U ∧ va_D (fun _ => True) [(h0, kO5 h1 n0_size h2 n0_ran), (h1, kAi cint 50 f1), (h2, kAi cint 24 f2)] ∧ va_Z "KinkStreet$Lines" "OWN_BODIES" "[I" (.ref aOWN_BODIES) (va_A [(h0, kO5 h1 n0_size h2 n0_ran), (h1, kAi cint 50 f1), (h2, kAi cint 24 f2)] sz) U U.heap ∧ va_T .int aOWN_BODIES 32 tb_OWN_BODIES (va_A [(h0, kO5 h1 n0_size h2 n0_ran), (h1, kAi cint 50 f1), (h2, kAi cint 24 f2)] sz) U U.heap ∧ va_Z "KinkStreet$Lines" "ABOVE" "[I" (.ref aABOVE) (va_A [(h0, kO5 h1 n0_size h2 n0_ran), (h1, kAi cint 50 f1), (h2, kAi cint 24 f2)] sz) U U.heap ∧ va_T .int aABOVE 8 tb_ABOVE (va_A [(h0, kO5 h1 n0_size h2 n0_ran), (h1, kAi cint 50 f1), (h2, kAi cint 24 f2)] sz) U U.heap)) (va_Qi (fun (r : Int32) (_ : Unit) => r = kk_leads (f1 (p0 : Int32).toNatClampNeg) 1 p0 p3 ∧ True) (fun (_ : Unit) t => ∃ (m0_ran : Int32) (g2 : Nat → Int32), (1 ≤ m0_ran.toInt ∧ m0_ran.toInt ≤ 1000) ∧ (m0_ran.toInt ≤ n0_ran.toInt + 1) ∧ (kk_P f2 g2 n0_ran.toInt m0_ran.toInt (kt_leads (f1 (p0 : Int32).toNatClampNeg) 1)) ∧ va_P (dC, dI) vwCl [(h0, kO5 h1 n0_size h2 m0_ran), (h1, kAi cint 50 f1), (h2, kAi cint 24 g2)] t.heap ∧ va_K (dC, dI) vwCl [] t ∧ va_D (va_A [(h0, kO5 h1 n0_size h2 n0_ran), (h1, kAi cint 50 f1), (h2, kAi cint 24 f2)] sz) [(h0, kO5 h1 n0_size h2 m0_ran), (h1, kAi cint 50 f1), (h2, kAi cint 24 g2)]) (va_A [(h0, kO5 h1 n0_size h2 n0_ran), (h1, kAi cint 50 f1), (h2, kAi cint 24 f2)] sz)) 0 0 (va_A [(h0, kO5 h1 n0_size h2 n0_ran), (h1, kAi cint 50 f1), (h2, kAi cint 24 f2)] sz) := by
  refine Met.ofW (cc := cX5_call) (maxL := 8) (ret := (some .int)) (by decide) rfl ?_
  intro p e s m args below meth c s₁ B hml hv
  obtain ⟨rfl, hsz, hP, hK, hD0, hZOWN_BODIES, hTOWN_BODIES, hZABOVE, hTABOVE⟩ := hv
  have hx := B.exec
  have hb := B.bytes
  have hr := B.returns
  have hts := atoms_spec (ws := wsX5_call) B.pre
  have hown : s.vm.findClass RX5 = some m.cls := findClass_of_methodNamed B.named
  have hlocks := B.notSynchronized
  subst hsz
  have hD := hD0.self (sz := s.heap.size)
  generalize hAe : va_A [(h0, kO5 h1 n0_size h2 n0_ran), (h1, kAi cint 50 f1), (h2, kAi cint 24 f2)] s.heap.size = A at hD hZOWN_BODIES hTOWN_BODIES hZABOVE hTABOVE ⊢
  have hA : ∀ q : Nat, s.heap.size ≤ q → A q := fun q h => by rw [← hAe]; exact Or.inr h
  have hS : va_S A s.heap s.heap [] := va_S.rf
  have hP : va_P (dC, dI) vwCl [(h0, kO5 h1 n0_size h2 n0_ran), (h1, kAi cint 50 f1), (h2, kAi cint 24 f2)] s.heap := hP
  have hl := lv_entry ([.ref h0, .int p0, .int 1, .int 2, .int p3, .int p4]) (n := 8) (Nat.le_of_ble_eq_true rfl)
  rw [lg_entry_eq]
  generalize (lg_sl ([.ref h0, .int p0, .int 1, .int 2, .int p3, .int p4]) ++ List.replicate (8 - (lg_sl ([.ref h0, .int p0, .int 1, .int 2, .int p3, .int p4])).length) Slot.unset).toArray = ls at hl ⊢
  have hl : lv_has ls 8 [(0, .ref h0), (1, .int p0), (2, .int 1), (3, .int 2), (4, .int p3), (5, .int p4)] := hl
  refine lv_iload_n hx hb dX5_call_0 rfl (lv_at hl 2 rfl) ?_
  refine lv_istore hx hb dX5_call_1 hl (by decide) (rfl : _ = ([(6, .int 1), (0, .ref h0), (1, .int p0), (2, .int 1), (3, .int 2), (4, .int p3), (5, .int p4)] : List (Nat × Value))) (fun ls hl => ?_)
  refine lv_iconst (v := 0) hx hb dX5_call_3 kk_ic_0 ?_
  refine lv_istore hx hb dX5_call_4 hl (by decide) (rfl : _ = ([(7, .int 0), (6, .int 1), (0, .ref h0), (1, .int p0), (2, .int 1), (3, .int 2), (4, .int p3), (5, .int p4)] : List (Nat × Value))) (fun ls hl => ?_)
  refine lv_iload hx hb dX5_call_6 (lv_at hl 0 rfl) ?_
  refine lv_bipush (v := 8) hx hb dX5_call_8 kk_bi_8 ?_
  refine lv_icmp_ge (tgt := 48) hx hb dX5_call_10 (by decide) (fun c => absurd c (by decide)) (fun _ => ?_)
  refine lv_iload hx hb dX5_call_13 (lv_at hl 1 rfl) ?_
  obtain ⟨hPc, hDc, hFc⟩ := kk_cutout (wc := []) hP hD hS hA [] (by decide) rfl
  have hKc := kk_Ks (tq := []) hK [] rfl
  refine va_calli (va_runS (As := [.int 1]) (rest := []) ⟨hx, hb, hml, hown, hts⟩ (g_X5_isKind_12 l dC dI s.heap.size) (va_cwS 1 hts gX5_call_X5_isKind rfl rfl rfl kh_X5_isKind ⟨Nat.le_of_ble_eq_true rfl, Nat.le_of_ble_eq_true rfl⟩) ⟨fun a U g mk q => by obtain ⟨q0, q1, qP, qK, qD⟩ := q; exact ⟨q0, q1, qP, va_K.moved (u := U) (U := U.calling g mk a) (Vm.Alike.refl U.vm) qK, qD⟩, fun U hU hW => ⟨rfl, by rw [hU], by rw [hU]; exact hPc, va_K.moved hW.alike hKc, hDc.weaken (fun _ _ _ _ => trivial)⟩⟩ rfl rfl hl.1 rfl (lv_room (Nat.le_of_ble_eq_true rfl)) dX5_call_15 ⟨Nat.le_of_ble_eq_true rfl, Nat.le_of_ble_eq_true rfl⟩) hS (fun q _ h => hFc q h) hFc (fun r_1 u t H1 locs ht hvm hw hB hz1 hk1 hS => ?_)
  obtain ⟨hP1, hK1, hD1⟩ := hB
  rw [ht] at hP1
  have hK1 := va_K.moved hvm.symm hK1
  obtain ⟨hP, hD⟩ := va_join (wr := [(h0, kO5 h1 n0_size h2 n0_ran), (h1, kAi cint 50 f1), (h2, kAi cint 24 f2)]) (w1 := []) hP hD [] [0, 1, 2] rfl rfl (by decide) (by decide) hk1 hFc hP1 hD1
  generalize H1 = H at hP hS ⊢
  have hP : va_P (dC, dI) vwCl [(h0, kO5 h1 n0_size h2 n0_ran), (h1, kAi cint 50 f1), (h2, kAi cint 24 f2)] H := hP
  have hD : va_D A [(h0, kO5 h1 n0_size h2 n0_ran), (h1, kAi cint 50 f1), (h2, kAi cint 24 f2)] := hD
  obtain rfl := hw
  refine lv_if_eq (tgt := 48) hx hb dX5_call_18 (by decide) (fun c => absurd c (by decide)) (fun _ => ?_)
  refine va_gets hx hb hZOWN_BODIES hS hown (hts (.fieldLink RX5 43 "KinkStreet$Lines" "OWN_BODIES" "[I") (List.mem_of_getElem? (i := 1) rfl)) (fun _ h9 => h9) dX5_call_21 ?_
  refine lv_iload hx hb dX5_call_24 (lv_at hl 1 rfl) ?_
  refine lv_iconst (v := 4) hx hb dX5_call_26 kk_ic_4 ?_
  refine lv_imul hx hb dX5_call_27 ?_
  refine lv_topi (fun y_2 e_2 => ?_)
  obtain rfl : y_2 = 4 := e_2.trans (by decide)
  refine lv_iload_n hx hb dX5_call_28 rfl (lv_at hl 5 rfl) ?_
  refine lv_iadd hx hb dX5_call_29 ?_
  refine lv_topi (fun y_3 e_3 => ?_)
  obtain rfl : y_3 = 6 := e_3.trans (by decide)
  refine va_ti (v := .int 0) hx hb hTOWN_BODIES hS (by unfold vp_in; decide) rfl dX5_call_30 ?_
  refine lv_if_ne (tgt := 48) hx hb dX5_call_31 (by decide) (fun c => absurd c (by decide)) (fun _ => ?_)
  refine va_gets hx hb hZABOVE hS hown (hts (.fieldLink RX5 22 "KinkStreet$Lines" "ABOVE" "[I") (List.mem_of_getElem? (i := 2) rfl)) (fun _ h9 => h9) dX5_call_34 ?_
  refine lv_iload hx hb dX5_call_37 (lv_at hl 1 rfl) ?_
  refine va_ti (v := .int 0) hx hb hTABOVE hS (by unfold vp_in; decide) rfl dX5_call_39 ?_
  refine lv_istore hx hb dX5_call_40 hl (by decide) (rfl : _ = ([(6, .int 0), (7, .int 0), (0, .ref h0), (1, .int p0), (2, .int 1), (3, .int 2), (4, .int p3), (5, .int p4)] : List (Nat × Value))) (fun ls hl => ?_)
  refine lv_iinc (v := 1) hx hb dX5_call_42 hl (k := 1) rfl (by first | rfl | decide) (by decide) (rfl : _ = ([(7, .int 1), (6, .int 0), (0, .ref h0), (1, .int p0), (2, .int 1), (3, .int 2), (4, .int p3), (5, .int p4)] : List (Nat × Value))) (fun ls hl => ?_)
  refine lv_goto (tgt := 6) hx hb dX5_call_45 (by decide) ?_
  refine lv_iload hx hb dX5_call_6 (lv_at hl 0 rfl) ?_
  refine lv_bipush (v := 8) hx hb dX5_call_8 kk_bi_8 ?_
  refine lv_icmp_ge (tgt := 48) hx hb dX5_call_10 (by decide) (fun c => absurd c (by decide)) (fun _ => ?_)
  refine lv_iload hx hb dX5_call_13 (lv_at hl 1 rfl) ?_
  obtain ⟨hPc, hDc, hFc⟩ := kk_cutout (wc := []) hP hD hS hA [] (by decide) rfl
  have hKc := kk_Ks (tq := []) hK [] rfl
  refine va_calli (va_runS (As := [.int 0]) (rest := []) ⟨hx, hb, hml, hown, hts⟩ (g_X5_isKind_11 l dC dI H.size) (va_cwS 1 hts gX5_call_X5_isKind rfl rfl rfl kh_X5_isKind ⟨Nat.le_of_ble_eq_true rfl, Nat.le_of_ble_eq_true rfl⟩) ⟨fun a U g mk q => by obtain ⟨q0, q1, qP, qK, qD⟩ := q; exact ⟨q0, q1, qP, va_K.moved (u := U) (U := U.calling g mk a) (Vm.Alike.refl U.vm) qK, qD⟩, fun U hU hW => ⟨rfl, by rw [hU], by rw [hU]; exact hPc, va_K.moved hW.alike hKc, hDc.weaken (fun _ _ _ _ => trivial)⟩⟩ rfl rfl hl.1 rfl (lv_room (Nat.le_of_ble_eq_true rfl)) dX5_call_15 ⟨Nat.le_of_ble_eq_true rfl, Nat.le_of_ble_eq_true rfl⟩) hS (fun q _ h => hFc q h) hFc (fun r_4 u t H1 locs ht hvm hw hB hz1 hk1 hS => ?_)
  obtain ⟨hP1, hK1, hD1⟩ := hB
  rw [ht] at hP1
  have hK1 := va_K.moved hvm.symm hK1
  obtain ⟨hP, hD⟩ := va_join (wr := [(h0, kO5 h1 n0_size h2 n0_ran), (h1, kAi cint 50 f1), (h2, kAi cint 24 f2)]) (w1 := []) hP hD [] [0, 1, 2] rfl rfl (by decide) (by decide) hk1 hFc hP1 hD1
  generalize H1 = H at hP hS ⊢
  have hP : va_P (dC, dI) vwCl [(h0, kO5 h1 n0_size h2 n0_ran), (h1, kAi cint 50 f1), (h2, kAi cint 24 f2)] H := hP
  have hD : va_D A [(h0, kO5 h1 n0_size h2 n0_ran), (h1, kAi cint 50 f1), (h2, kAi cint 24 f2)] := hD
  obtain rfl := hw
  refine lv_if_eq (tgt := 48) hx hb dX5_call_18 (by decide) (fun c => absurd c (by decide)) (fun _ => ?_)
  refine va_gets hx hb hZOWN_BODIES hS hown (hts (.fieldLink RX5 43 "KinkStreet$Lines" "OWN_BODIES" "[I") (List.mem_of_getElem? (i := 1) rfl)) (fun _ h9 => h9) dX5_call_21 ?_
  refine lv_iload hx hb dX5_call_24 (lv_at hl 1 rfl) ?_
  refine lv_iconst (v := 4) hx hb dX5_call_26 kk_ic_4 ?_
  refine lv_imul hx hb dX5_call_27 ?_
  refine lv_topi (fun y_5 e_5 => ?_)
  obtain rfl : y_5 = 0 := e_5.trans (by decide)
  refine lv_iload_n hx hb dX5_call_28 rfl (lv_at hl 5 rfl) ?_
  refine lv_iadd hx hb dX5_call_29 ?_
  refine lv_topi (fun y_6 e_6 => ?_)
  obtain rfl : y_6 = 2 := e_6.trans (by decide)
  refine va_ti (v := .int 11) hx hb hTOWN_BODIES hS (by unfold vp_in; decide) rfl dX5_call_30 ?_
  refine lv_if_ne (tgt := 48) hx hb dX5_call_31 (by decide) (fun _ => ?_) (fun c => absurd c (by decide))
  refine lv_iload hx hb dX5_call_48 (lv_at hl 1 rfl) ?_
  obtain ⟨hPc, hDc, hFc⟩ := kk_cutout (wc := []) hP hD hS hA [] (by decide) rfl
  have hKc := kk_Ks (tq := []) hK [] rfl
  refine va_calli (va_runS (As := [.int 0]) (rest := []) ⟨hx, hb, hml, hown, hts⟩ (g_X5_isKind_11 l dC dI H.size) (va_cwS 1 hts gX5_call_X5_isKind rfl rfl rfl kh_X5_isKind ⟨Nat.le_of_ble_eq_true rfl, Nat.le_of_ble_eq_true rfl⟩) ⟨fun a U g mk q => by obtain ⟨q0, q1, qP, qK, qD⟩ := q; exact ⟨q0, q1, qP, va_K.moved (u := U) (U := U.calling g mk a) (Vm.Alike.refl U.vm) qK, qD⟩, fun U hU hW => ⟨rfl, by rw [hU], by rw [hU]; exact hPc, va_K.moved hW.alike hKc, hDc.weaken (fun _ _ _ _ => trivial)⟩⟩ rfl rfl hl.1 rfl (lv_room (Nat.le_of_ble_eq_true rfl)) dX5_call_50 ⟨Nat.le_of_ble_eq_true rfl, Nat.le_of_ble_eq_true rfl⟩) hS (fun q _ h => hFc q h) hFc (fun r_7 u t H1 locs ht hvm hw hB hz1 hk1 hS => ?_)
  obtain ⟨hP1, hK1, hD1⟩ := hB
  rw [ht] at hP1
  have hK1 := va_K.moved hvm.symm hK1
  obtain ⟨hP, hD⟩ := va_join (wr := [(h0, kO5 h1 n0_size h2 n0_ran), (h1, kAi cint 50 f1), (h2, kAi cint 24 f2)]) (w1 := []) hP hD [] [0, 1, 2] rfl rfl (by decide) (by decide) hk1 hFc hP1 hD1
  generalize H1 = H at hP hS ⊢
  have hP : va_P (dC, dI) vwCl [(h0, kO5 h1 n0_size h2 n0_ran), (h1, kAi cint 50 f1), (h2, kAi cint 24 f2)] H := hP
  have hD : va_D A [(h0, kO5 h1 n0_size h2 n0_ran), (h1, kAi cint 50 f1), (h2, kAi cint 24 f2)] := hD
  obtain rfl := hw
  refine lv_if_eq (tgt := 63) hx hb dX5_call_53 (by decide) (fun c => absurd c (by decide)) (fun _ => ?_)
  refine lv_iload hx hb dX5_call_56 (lv_at hl 7 rfl) ?_
  refine lv_bipush (v := 40) hx hb dX5_call_58 kk_bi_40 ?_
  refine lv_icmp_le (tgt := 65) hx hb dX5_call_60 (by decide) (fun c_8 => ?_) (fun c_8 => ?_)
  · have t_8 : p4.toInt ≤ 40 := kk_le c_8
    refine va_gets hx hb hZOWN_BODIES hS hown (hts (.fieldLink RX5 43 "KinkStreet$Lines" "OWN_BODIES" "[I") (List.mem_of_getElem? (i := 1) rfl)) (fun _ h9 => h9) dX5_call_65 ?_
    refine lv_iload hx hb dX5_call_68 (lv_at hl 1 rfl) ?_
    refine lv_iconst (v := 4) hx hb dX5_call_70 kk_ic_4 ?_
    refine lv_imul hx hb dX5_call_71 ?_
    refine lv_topi (fun y_9 e_9 => ?_)
    obtain rfl : y_9 = 0 := e_9.trans (by decide)
    refine lv_iload_n hx hb dX5_call_72 rfl (lv_at hl 5 rfl) ?_
    refine lv_iadd hx hb dX5_call_73 ?_
    refine lv_topi (fun y_10 e_10 => ?_)
    obtain rfl : y_10 = 2 := e_10.trans (by decide)
    refine va_ti (v := .int 11) hx hb hTOWN_BODIES hS (by unfold vp_in; decide) rfl dX5_call_74 ?_
    refine lv_istore hx hb dX5_call_75 hl (by decide) (rfl : _ = ([(7, .int 11), (6, .int 0), (0, .ref h0), (1, .int p0), (2, .int 1), (3, .int 2), (4, .int p3), (5, .int p4)] : List (Nat × Value))) (fun ls hl => ?_)
    refine lv_aload_n hx hb dX5_call_77 rfl (lv_at hl 2 rfl) ?_
    refine va_get (D := (dC, dI)) (ci := 5) (v := .int n0_ran) (C := RX5) (T := TX5) (N := 4) hx hb hts (fun _ h => List.mem_cons_of_mem _ (List.mem_append_right _ h)) hown hK hP 0 rfl rfl 3 (by decide) (hts (.fieldLink RX5 36 "KinkStreet$Lines" "ran" "I") (List.mem_of_getElem? (i := 3) rfl)) (fun _ h9 => h9) rfl dX5_call_78 ?_
    refine lv_bipush (v := 24) hx hb dX5_call_81 kk_bi_24 ?_
    refine lv_icmp_ge (tgt := 97) hx hb dX5_call_83 (by decide) (fun c_11 => ?_) (fun c_11 => ?_)
    · have t_11 : 24 ≤ n0_ran.toInt := kk_le c_11
      refine lv_aload_n hx hb dX5_call_97 rfl (lv_at hl 2 rfl) ?_
      refine lv_dup hx hb dX5_call_98 rfl ?_
      refine va_get (D := (dC, dI)) (ci := 5) (v := .int n0_ran) (C := RX5) (T := TX5) (N := 4) hx hb hts (fun _ h => List.mem_cons_of_mem _ (List.mem_append_right _ h)) hown hK hP 0 rfl rfl 3 (by decide) (hts (.fieldLink RX5 36 "KinkStreet$Lines" "ran" "I") (List.mem_of_getElem? (i := 3) rfl)) (fun _ h9 => h9) rfl dX5_call_99 ?_
      refine lv_iconst (v := 1) hx hb dX5_call_102 kk_ic_1 ?_
      refine lv_iadd hx hb dX5_call_103 ?_
      refine va_put (D := (dC, dI)) (ci := 5) (v := .int (n0_ran + 1)) (ty := .int) (C := RX5) (T := TX5) (N := 4) hx hb hts (fun _ h => List.mem_cons_of_mem _ (List.mem_append_right _ h)) tyX5 tyX5_ok nmX5 hown hK hP hD hS 0 rfl rfl 3 (by decide) (hts (.fieldLink RX5 36 "KinkStreet$Lines" "ran" "I") (List.mem_of_getElem? (i := 3) rfl)) (fun _ h9 => h9) rfl (by decide +kernel) rfl rfl (Nat.le_of_ble_eq_true rfl) dX5_call_104 (fun H locs hP hD hS => ?_)
      have hP : va_P (dC, dI) vwCl [(h0, kO5 h1 n0_size h2 (n0_ran + 1)), (h1, kAi cint 50 f1), (h2, kAi cint 24 f2)] H := hP
      have hD : va_D A [(h0, kO5 h1 n0_size h2 (n0_ran + 1)), (h1, kAi cint 50 f1), (h2, kAi cint 24 f2)] := hD
      have hp_12 : kk_P f2 f2 n0_ran.toInt (n0_ran + 1 : Int32).toInt [11] := kk_P_out (by have := kk_add2 (x := n0_ran) (y := 1) (a := n0_ran.toInt) (b := 1) rfl rfl (by omega) (by omega); omega) (by have := kk_add2 (x := n0_ran) (y := 1) (a := n0_ran.toInt) (b := 1) rfl rfl (by omega) (by omega); omega)
      refine lv_iload hx hb dX5_call_107 (lv_at hl 1 rfl) ?_
      refine lv_if_ne (tgt := 128) hx hb dX5_call_109 (by decide) (fun c => absurd c (by decide)) (fun _ => ?_)
      refine lv_aload_n hx hb dX5_call_112 rfl (lv_at hl 2 rfl) ?_
      refine lv_iload_n hx hb dX5_call_113 rfl (lv_at hl 3 rfl) ?_
      refine lv_iload hx hb dX5_call_114 (lv_at hl 0 rfl) ?_
      refine lv_iload hx hb dX5_call_116 (lv_at hl 6 rfl) ?_
      refine lv_iload hx hb dX5_call_118 (lv_at hl 7 rfl) ?_
      refine lv_iconst (v := 1) hx hb dX5_call_120 kk_ic_1 ?_
      refine lv_iadd hx hb dX5_call_121 ?_
      obtain ⟨hPc, hDc, hFc⟩ := kk_cutout (wc := [(h0, kO5 h1 n0_size h2 (n0_ran + 1)), (h1, kAi cint 50 f1)]) hP hD hS hA [0, 1] (by decide) rfl
      have hKc := kk_Ks (tq := [(cint, .int)]) hK [0] rfl
      refine va_calli (va_runV (As := [.int p0, .int 11, .int p3, .int (p4 + 1)]) (rest := []) ⟨hx, hb, hml, hown, hts⟩ (g_X5_runLine_6 l dC dI h0 h1 h2 cint H.size p0 p3 (p4 + 1) (by show 0 ≤ ((p4 + 1) : Int32).toInt ∧ ((p4 + 1) : Int32).toInt ≤ 15; first | with_reducible assumption | (constructor <;> (have := kk_add2 (x := n0_ran) (y := 1) (a := n0_ran.toInt) (b := 1) rfl rfl (by omega) (by omega); have := kk_add2 (x := p4) (y := 1) (a := p4.toInt) (b := 1) rfl rfl (by omega) (by omega); omega))) n0_size (n0_ran + 1) f1 tn0_size (by show 0 ≤ ((n0_ran + 1) : Int32).toInt ∧ ((n0_ran + 1) : Int32).toInt ≤ 1000; first | with_reducible assumption | (constructor <;> (have := kk_add2 (x := n0_ran) (y := 1) (a := n0_ran.toInt) (b := 1) rfl rfl (by omega) (by omega); have := kk_add2 (x := p4) (y := 1) (a := p4.toInt) (b := 1) rfl rfl (by omega) (by omega); omega))) bf1 (by show (0 ≤ (p0 : Int32).toInt ∧ (p0 : Int32).toInt < (n0_size : Int32).toInt); first | with_reducible assumption | (have := kk_add2 (x := n0_ran) (y := 1) (a := n0_ran.toInt) (b := 1) rfl rfl (by omega) (by omega); have := kk_add2 (x := p4) (y := 1) (a := p4.toInt) (b := 1) rfl rfl (by omega) (by omega); omega))) (cwV 4 hts gX5_call_X5_runLine rfl rfl rfl ⟨rfl, kh_X5_runLine⟩ ⟨Nat.le_of_ble_eq_true rfl, Nat.le_of_ble_eq_true rfl⟩) ⟨fun a U g mk q => by obtain ⟨q0, q1, qP, qK, qD⟩ := q; exact ⟨q0, q1, qP, va_K.moved (u := U) (U := U.calling g mk a) (Vm.Alike.refl U.vm) qK, qD⟩, va_recv hKc hPc (ci := 5) (q0 := 0) rfl rfl, fun U hU hW => ⟨rfl, by rw [hU], by rw [hU]; exact hPc, va_K.moved hW.alike hKc, hDc.weaken (fun _ _ _ _ => trivial)⟩⟩ rfl rfl hl.1 rfl (lv_room (Nat.le_of_ble_eq_true rfl)) dX5_call_122 ⟨Nat.le_of_ble_eq_true rfl, Nat.le_of_ble_eq_true rfl⟩) hS (fun q _ h => hFc q h) hFc (fun r_13 u t H1 locs ht hvm hw hB hz1 hk1 hS => ?_)
      obtain ⟨hP1, hK1, hD1⟩ := hB
      rw [ht] at hP1
      have hK1 := va_K.moved hvm.symm hK1
      obtain ⟨hP, hD⟩ := va_join (wr := [(h2, kAi cint 24 f2)]) (w1 := [(h0, kO5 h1 n0_size h2 (n0_ran + 1)), (h1, kAi cint 50 f1)]) hP hD [0, 1] [2] rfl rfl (by decide) (by decide) hk1 hFc hP1 hD1
      generalize H1 = H at hP hS ⊢
      have hP : va_P (dC, dI) vwCl [(h2, kAi cint 24 f2), (h0, kO5 h1 n0_size h2 (n0_ran + 1)), (h1, kAi cint 50 f1)] H := hP
      have hD : va_D A [(h2, kAi cint 24 f2), (h0, kO5 h1 n0_size h2 (n0_ran + 1)), (h1, kAi cint 50 f1)] := hD
      rcases hw with ⟨t_13_0, _⟩
      · skip
        have t_13_0 : r_13 = kk_leads (f1 (p0 : Int32).toNatClampNeg) 0 p0 p3 := t_13_0
        obtain rfl : r_13 = (kk_leads (f1 (p0 : Int32).toNatClampNeg) 0 p0 p3) := t_13_0
        refine lv_goto (tgt := 143) hx hb dX5_call_125 (by decide) ?_
        obtain ⟨hP9, hD9⟩ := kk_leafout (wc := [(h0, kO5 h1 n0_size h2 (n0_ran + 1)), (h1, kAi cint 50 f1), (h2, kAi cint 24 f2)]) hP hD [1, 2, 0] (by decide) rfl
        have hK9 := kk_Ks (tq := []) hK [] rfl
        exact W.iret (v := (kk_leads (f1 (p0 : Int32).toNatClampNeg) 0 p0 p3)) hx hb hr (fun t ht hW => ⟨⟨(kk_leads (f1 (p0 : Int32).toNatClampNeg) 0 p0 p3), (), rfl, ⟨(by first | rfl | (unfold kk_leads; (repeat' split) <;> first | rfl | (exfalso; have : (0 : Int32).toInt = 0 := rfl; have : (1 : Int32).toInt = 1 := rfl; have : (2 : Int32).toInt = 2 := rfl; have : (3 : Int32).toInt = 3 := rfl; have : (4 : Int32).toInt = 4 := rfl; have : (5 : Int32).toInt = 5 := rfl; have : (6 : Int32).toInt = 6 := rfl; have : (7 : Int32).toInt = 7 := rfl; have := kk_add2 (x := n0_ran) (y := 1) (a := n0_ran.toInt) (b := 1) rfl rfl (by omega) (by omega); have := kk_add2 (x := p4) (y := 1) (a := p4.toInt) (b := 1) rfl rfl (by omega) (by omega); omega))), trivial⟩, (n0_ran + 1), f2, (by show 1 ≤ ((n0_ran + 1) : Int32).toInt ∧ ((n0_ran + 1) : Int32).toInt ≤ 1000; first | with_reducible assumption | (constructor <;> (have := kk_add2 (x := n0_ran) (y := 1) (a := n0_ran.toInt) (b := 1) rfl rfl (by omega) (by omega); have := kk_add2 (x := p4) (y := 1) (a := p4.toInt) (b := 1) rfl rfl (by omega) (by omega); omega))), (by show ((n0_ran + 1) : Int32).toInt ≤ (n0_ran : Int32).toInt + 1; first | with_reducible assumption | (have := kk_add2 (x := n0_ran) (y := 1) (a := n0_ran.toInt) (b := 1) rfl rfl (by omega) (by omega); have := kk_add2 (x := p4) (y := 1) (a := p4.toInt) (b := 1) rfl rfl (by omega) (by omega); omega)), (by first | exact kk_P_eq hp_12 rfl | (unfold kt_leads; (repeat' split) <;> first | exact kk_P_eq hp_12 rfl | (exfalso; have : (0 : Int32).toInt = 0 := rfl; have : (1 : Int32).toInt = 1 := rfl; have : (2 : Int32).toInt = 2 := rfl; have : (3 : Int32).toInt = 3 := rfl; have : (4 : Int32).toInt = 4 := rfl; have : (5 : Int32).toInt = 5 := rfl; have : (6 : Int32).toInt = 6 := rfl; have : (7 : Int32).toInt = 7 := rfl; have := kk_add2 (x := n0_ran) (y := 1) (a := n0_ran.toInt) (b := 1) rfl rfl (by omega) (by omega); have := kk_add2 (x := p4) (y := 1) (a := p4.toInt) (b := 1) rfl rfl (by omega) (by omega); omega))), by rw [ht]; exact hP9, va_K.moved hW.alike hK9, hD9⟩, hS.F ht⟩) hS.2.2 dX5_call_143
    · have t_11 : n0_ran.toInt < 24 := kk_nle c_11
      refine lv_aload_n hx hb dX5_call_86 rfl (lv_at hl 2 rfl) ?_
      refine va_get (D := (dC, dI)) (ci := 5) (v := .ref h2) (C := RX5) (T := TX5) (N := 4) hx hb hts (fun _ h => List.mem_cons_of_mem _ (List.mem_append_right _ h)) hown hK hP 0 rfl rfl 2 (by decide) (hts (.fieldLink RX5 15 "KinkStreet$Lines" "trace" "[I") (List.mem_of_getElem? (i := 4) rfl)) (fun _ h9 => h9) rfl dX5_call_87 ?_
      refine lv_aload_n hx hb dX5_call_90 rfl (lv_at hl 2 rfl) ?_
      refine va_get (D := (dC, dI)) (ci := 5) (v := .int n0_ran) (C := RX5) (T := TX5) (N := 4) hx hb hts (fun _ h => List.mem_cons_of_mem _ (List.mem_append_right _ h)) hown hK hP 0 rfl rfl 3 (by decide) (hts (.fieldLink RX5 36 "KinkStreet$Lines" "ran" "I") (List.mem_of_getElem? (i := 3) rfl)) (fun _ h9 => h9) rfl dX5_call_91 ?_
      refine lv_iload hx hb dX5_call_94 (lv_at hl 0 rfl) ?_
      refine va_iast hx hb hK hP hD hS 2 0 rfl rfl (vp_in_iff.mpr ⟨by omega, by omega⟩) dX5_call_96 (fun H locs hP hD hS => ?_)
      have w_14 : ((upd f2 (n0_ran : Int32).toNatClampNeg 11) (n0_ran : Int32).toNatClampNeg).toInt = (11 : Int32).toInt := by rw [kk_ups]
      have hP : va_P (dC, dI) vwCl [(h0, kO5 h1 n0_size h2 n0_ran), (h1, kAi cint 50 f1), (h2, kAi cint 24 (upd f2 (n0_ran : Int32).toNatClampNeg 11))] H := hP
      have hD : va_D A [(h0, kO5 h1 n0_size h2 n0_ran), (h1, kAi cint 50 f1), (h2, kAi cint 24 (upd f2 (n0_ran : Int32).toNatClampNeg 11))] := hD
      refine lv_aload_n hx hb dX5_call_97 rfl (lv_at hl 2 rfl) ?_
      refine lv_dup hx hb dX5_call_98 rfl ?_
      refine va_get (D := (dC, dI)) (ci := 5) (v := .int n0_ran) (C := RX5) (T := TX5) (N := 4) hx hb hts (fun _ h => List.mem_cons_of_mem _ (List.mem_append_right _ h)) hown hK hP 0 rfl rfl 3 (by decide) (hts (.fieldLink RX5 36 "KinkStreet$Lines" "ran" "I") (List.mem_of_getElem? (i := 3) rfl)) (fun _ h9 => h9) rfl dX5_call_99 ?_
      refine lv_iconst (v := 1) hx hb dX5_call_102 kk_ic_1 ?_
      refine lv_iadd hx hb dX5_call_103 ?_
      refine va_put (D := (dC, dI)) (ci := 5) (v := .int (n0_ran + 1)) (ty := .int) (C := RX5) (T := TX5) (N := 4) hx hb hts (fun _ h => List.mem_cons_of_mem _ (List.mem_append_right _ h)) tyX5 tyX5_ok nmX5 hown hK hP hD hS 0 rfl rfl 3 (by decide) (hts (.fieldLink RX5 36 "KinkStreet$Lines" "ran" "I") (List.mem_of_getElem? (i := 3) rfl)) (fun _ h9 => h9) rfl (by decide +kernel) rfl rfl (Nat.le_of_ble_eq_true rfl) dX5_call_104 (fun H locs hP hD hS => ?_)
      have hP : va_P (dC, dI) vwCl [(h0, kO5 h1 n0_size h2 (n0_ran + 1)), (h1, kAi cint 50 f1), (h2, kAi cint 24 (upd f2 (n0_ran : Int32).toNatClampNeg 11))] H := hP
      have hD : va_D A [(h0, kO5 h1 n0_size h2 (n0_ran + 1)), (h1, kAi cint 50 f1), (h2, kAi cint 24 (upd f2 (n0_ran : Int32).toNatClampNeg 11))] := hD
      have hp_15 : kk_P f2 (upd f2 (n0_ran : Int32).toNatClampNeg 11) n0_ran.toInt (n0_ran + 1 : Int32).toInt [11] := kk_P_one (by have := kk_add2 (x := n0_ran) (y := 1) (a := n0_ran.toInt) (b := 1) rfl rfl (by omega) (by omega); omega) (by have := kk_add2 (x := n0_ran) (y := 1) (a := n0_ran.toInt) (b := 1) rfl rfl (by omega) (by omega); omega)
      refine lv_iload hx hb dX5_call_107 (lv_at hl 1 rfl) ?_
      refine lv_if_ne (tgt := 128) hx hb dX5_call_109 (by decide) (fun c => absurd c (by decide)) (fun _ => ?_)
      refine lv_aload_n hx hb dX5_call_112 rfl (lv_at hl 2 rfl) ?_
      refine lv_iload_n hx hb dX5_call_113 rfl (lv_at hl 3 rfl) ?_
      refine lv_iload hx hb dX5_call_114 (lv_at hl 0 rfl) ?_
      refine lv_iload hx hb dX5_call_116 (lv_at hl 6 rfl) ?_
      refine lv_iload hx hb dX5_call_118 (lv_at hl 7 rfl) ?_
      refine lv_iconst (v := 1) hx hb dX5_call_120 kk_ic_1 ?_
      refine lv_iadd hx hb dX5_call_121 ?_
      obtain ⟨hPc, hDc, hFc⟩ := kk_cutout (wc := [(h0, kO5 h1 n0_size h2 (n0_ran + 1)), (h1, kAi cint 50 f1)]) hP hD hS hA [0, 1] (by decide) rfl
      have hKc := kk_Ks (tq := [(cint, .int)]) hK [0] rfl
      refine va_calli (va_runV (As := [.int p0, .int 11, .int p3, .int (p4 + 1)]) (rest := []) ⟨hx, hb, hml, hown, hts⟩ (g_X5_runLine_6 l dC dI h0 h1 h2 cint H.size p0 p3 (p4 + 1) (by show 0 ≤ ((p4 + 1) : Int32).toInt ∧ ((p4 + 1) : Int32).toInt ≤ 15; first | with_reducible assumption | (constructor <;> (have := kk_add2 (x := n0_ran) (y := 1) (a := n0_ran.toInt) (b := 1) rfl rfl (by omega) (by omega); have := kk_add2 (x := p4) (y := 1) (a := p4.toInt) (b := 1) rfl rfl (by omega) (by omega); omega))) n0_size (n0_ran + 1) f1 tn0_size (by show 0 ≤ ((n0_ran + 1) : Int32).toInt ∧ ((n0_ran + 1) : Int32).toInt ≤ 1000; first | with_reducible assumption | (constructor <;> (have := kk_add2 (x := n0_ran) (y := 1) (a := n0_ran.toInt) (b := 1) rfl rfl (by omega) (by omega); have := kk_add2 (x := p4) (y := 1) (a := p4.toInt) (b := 1) rfl rfl (by omega) (by omega); omega))) bf1 (by show (0 ≤ (p0 : Int32).toInt ∧ (p0 : Int32).toInt < (n0_size : Int32).toInt); first | with_reducible assumption | (have := kk_add2 (x := n0_ran) (y := 1) (a := n0_ran.toInt) (b := 1) rfl rfl (by omega) (by omega); have := kk_add2 (x := p4) (y := 1) (a := p4.toInt) (b := 1) rfl rfl (by omega) (by omega); omega))) (cwV 4 hts gX5_call_X5_runLine rfl rfl rfl ⟨rfl, kh_X5_runLine⟩ ⟨Nat.le_of_ble_eq_true rfl, Nat.le_of_ble_eq_true rfl⟩) ⟨fun a U g mk q => by obtain ⟨q0, q1, qP, qK, qD⟩ := q; exact ⟨q0, q1, qP, va_K.moved (u := U) (U := U.calling g mk a) (Vm.Alike.refl U.vm) qK, qD⟩, va_recv hKc hPc (ci := 5) (q0 := 0) rfl rfl, fun U hU hW => ⟨rfl, by rw [hU], by rw [hU]; exact hPc, va_K.moved hW.alike hKc, hDc.weaken (fun _ _ _ _ => trivial)⟩⟩ rfl rfl hl.1 rfl (lv_room (Nat.le_of_ble_eq_true rfl)) dX5_call_122 ⟨Nat.le_of_ble_eq_true rfl, Nat.le_of_ble_eq_true rfl⟩) hS (fun q _ h => hFc q h) hFc (fun r_16 u t H1 locs ht hvm hw hB hz1 hk1 hS => ?_)
      obtain ⟨hP1, hK1, hD1⟩ := hB
      rw [ht] at hP1
      have hK1 := va_K.moved hvm.symm hK1
      obtain ⟨hP, hD⟩ := va_join (wr := [(h2, kAi cint 24 (upd f2 (n0_ran : Int32).toNatClampNeg 11))]) (w1 := [(h0, kO5 h1 n0_size h2 (n0_ran + 1)), (h1, kAi cint 50 f1)]) hP hD [0, 1] [2] rfl rfl (by decide) (by decide) hk1 hFc hP1 hD1
      generalize H1 = H at hP hS ⊢
      have hP : va_P (dC, dI) vwCl [(h2, kAi cint 24 (upd f2 (n0_ran : Int32).toNatClampNeg 11)), (h0, kO5 h1 n0_size h2 (n0_ran + 1)), (h1, kAi cint 50 f1)] H := hP
      have hD : va_D A [(h2, kAi cint 24 (upd f2 (n0_ran : Int32).toNatClampNeg 11)), (h0, kO5 h1 n0_size h2 (n0_ran + 1)), (h1, kAi cint 50 f1)] := hD
      rcases hw with ⟨t_16_0, _⟩
      · skip
        have t_16_0 : r_16 = kk_leads (f1 (p0 : Int32).toNatClampNeg) 0 p0 p3 := t_16_0
        obtain rfl : r_16 = (kk_leads (f1 (p0 : Int32).toNatClampNeg) 0 p0 p3) := t_16_0
        refine lv_goto (tgt := 143) hx hb dX5_call_125 (by decide) ?_
        obtain ⟨hP9, hD9⟩ := kk_leafout (wc := [(h0, kO5 h1 n0_size h2 (n0_ran + 1)), (h1, kAi cint 50 f1), (h2, kAi cint 24 (upd f2 (n0_ran : Int32).toNatClampNeg 11))]) hP hD [1, 2, 0] (by decide) rfl
        have hK9 := kk_Ks (tq := []) hK [] rfl
        exact W.iret (v := (kk_leads (f1 (p0 : Int32).toNatClampNeg) 0 p0 p3)) hx hb hr (fun t ht hW => ⟨⟨(kk_leads (f1 (p0 : Int32).toNatClampNeg) 0 p0 p3), (), rfl, ⟨(by first | rfl | (unfold kk_leads; (repeat' split) <;> first | rfl | (exfalso; have : (0 : Int32).toInt = 0 := rfl; have : (1 : Int32).toInt = 1 := rfl; have : (2 : Int32).toInt = 2 := rfl; have : (3 : Int32).toInt = 3 := rfl; have : (4 : Int32).toInt = 4 := rfl; have : (5 : Int32).toInt = 5 := rfl; have : (6 : Int32).toInt = 6 := rfl; have : (7 : Int32).toInt = 7 := rfl; have := kk_add2 (x := n0_ran) (y := 1) (a := n0_ran.toInt) (b := 1) rfl rfl (by omega) (by omega); have := kk_add2 (x := p4) (y := 1) (a := p4.toInt) (b := 1) rfl rfl (by omega) (by omega); omega))), trivial⟩, (n0_ran + 1), (upd f2 (n0_ran : Int32).toNatClampNeg 11), (by show 1 ≤ ((n0_ran + 1) : Int32).toInt ∧ ((n0_ran + 1) : Int32).toInt ≤ 1000; first | with_reducible assumption | (constructor <;> (have := kk_add2 (x := n0_ran) (y := 1) (a := n0_ran.toInt) (b := 1) rfl rfl (by omega) (by omega); have := kk_add2 (x := p4) (y := 1) (a := p4.toInt) (b := 1) rfl rfl (by omega) (by omega); omega))), (by show ((n0_ran + 1) : Int32).toInt ≤ (n0_ran : Int32).toInt + 1; first | with_reducible assumption | (have := kk_add2 (x := n0_ran) (y := 1) (a := n0_ran.toInt) (b := 1) rfl rfl (by omega) (by omega); have := kk_add2 (x := p4) (y := 1) (a := p4.toInt) (b := 1) rfl rfl (by omega) (by omega); omega)), (by first | exact kk_P_eq hp_15 rfl | (unfold kt_leads; (repeat' split) <;> first | exact kk_P_eq hp_15 rfl | (exfalso; have : (0 : Int32).toInt = 0 := rfl; have : (1 : Int32).toInt = 1 := rfl; have : (2 : Int32).toInt = 2 := rfl; have : (3 : Int32).toInt = 3 := rfl; have : (4 : Int32).toInt = 4 := rfl; have : (5 : Int32).toInt = 5 := rfl; have : (6 : Int32).toInt = 6 := rfl; have : (7 : Int32).toInt = 7 := rfl; have := kk_add2 (x := n0_ran) (y := 1) (a := n0_ran.toInt) (b := 1) rfl rfl (by omega) (by omega); have := kk_add2 (x := p4) (y := 1) (a := p4.toInt) (b := 1) rfl rfl (by omega) (by omega); omega))), by rw [ht]; exact hP9, va_K.moved hW.alike hK9, hD9⟩, hS.F ht⟩) hS.2.2 dX5_call_143
  · have t_8 : 40 < p4.toInt := kk_nle c_8
    exfalso; omega
set_option maxHeartbeats 4000000 in
set_option maxRecDepth 100000 in
theorem g_X5_runUnder_15 (l : Launch) (dC : Nat → ClassId) (dI : Nat → Nat → Nat) (h0 : Nat) (h1 : Nat) (h2 : Nat) (cint : ClassId) (sz : Nat) (p0 : Int32) (p3 : Int32) (p4 : Int32) (tp4 : 0 ≤ p4.toInt ∧ p4.toInt ≤ 13) (n0_size : Int32) (n0_ran : Int32) (f1 : Nat → Int32) (f2 : Nat → Int32) (tn0_size : 0 ≤ n0_size.toInt ∧ n0_size.toInt ≤ 50) (tn0_ran : 0 ≤ n0_ran.toInt ∧ n0_ran.toInt ≤ 999) (bf1 : ∀ j, j < 50 → 0 ≤ (f1 j).toInt ∧ (f1 j).toInt ≤ 7) (pr0 : (0 ≤ p0.toInt ∧ p0.toInt < n0_size.toInt)) (aABOVE : Nat) (aOWN_BODIES : Nat) : Met l yX5_runUnder wsX5_runUnder ({ frames := 4, cells := 0, slots := 0, locals := 94 }) (va_Pc [.ref h0, .int p0, .int 7, .int 81, .int p3, .int p4] (fun U => U.heap.size = sz ∧ va_P (dC, dI) vwCl [(h0, kO5 h1 n0_size h2 n0_ran), (h1, kAi cint 50 f1), (h2, kAi cint 24 f2)] U.heap ∧ va_K (dC, dI) vwCl [(cint, .int)] U ∧ va_D (fun _ => True) [(h0, kO5 h1 n0_size h2 n0_ran), (h1, kAi cint 50 f1), (h2, kAi cint 24 f2)] ∧ va_Z "KinkStreet$Lines" "ABOVE" "[I" (.ref aABOVE) (va_A [(h0, kO5 h1 n0_size h2 n0_ran), (h1, kAi cint 50 f1), (h2, kAi cint 24 f2)] sz) U U.heap ∧ va_T .int aABOVE 8 tb_ABOVE (va_A [(h0, kO5 h1 n0_size h2 n0_ran), (h1, kAi cint 50 f1), (h2, kAi cint 24 f2)] sz) U U.heap ∧ va_Z "KinkStreet$Lines" "OWN_BODIES" "[I" (.ref aOWN_BODIES) (va_A [(h0, kO5 h1 n0_size h2 n0_ran), (h1, kAi cint 50 f1), (h2, kAi cint 24 f2)] sz) U U.heap ∧ va_T .int aOWN_BODIES 32 tb_OWN_BODIES (va_A [(h0, kO5 h1 n0_size h2 n0_ran), (h1, kAi cint 50 f1), (h2, kAi cint 24 f2)] sz) U U.heap)) (va_Qi (fun (r : Int32) (_ : Unit) => r = kk_leads (f1 (p0 : Int32).toNatClampNeg) 7 p0 p3 ∧ True) (fun (_ : Unit) t => ∃ (m0_ran : Int32) (g2 : Nat → Int32), (1 ≤ m0_ran.toInt ∧ m0_ran.toInt ≤ 1000) ∧ (m0_ran.toInt ≤ n0_ran.toInt + 1) ∧ (kk_P f2 g2 n0_ran.toInt m0_ran.toInt ((kt_leads (f1 (p0 : Int32).toNatClampNeg) 7).tail)) ∧ va_P (dC, dI) vwCl [(h0, kO5 h1 n0_size h2 m0_ran), (h1, kAi cint 50 f1), (h2, kAi cint 24 g2)] t.heap ∧ va_K (dC, dI) vwCl [] t ∧ va_D (va_A [(h0, kO5 h1 n0_size h2 n0_ran), (h1, kAi cint 50 f1), (h2, kAi cint 24 f2)] sz) [(h0, kO5 h1 n0_size h2 m0_ran), (h1, kAi cint 50 f1), (h2, kAi cint 24 g2)]) (va_A [(h0, kO5 h1 n0_size h2 n0_ran), (h1, kAi cint 50 f1), (h2, kAi cint 24 f2)] sz)) 0 0 (va_A [(h0, kO5 h1 n0_size h2 n0_ran), (h1, kAi cint 50 f1), (h2, kAi cint 24 f2)] sz) := by
  refine Met.ofW (cc := cX5_runUnder) (maxL := 8) (ret := (some .int)) (by decide) rfl ?_
  intro p e s m args below meth c s₁ B hml hv
  obtain ⟨rfl, hsz, hP, hK, hD0, hZABOVE, hTABOVE, hZOWN_BODIES, hTOWN_BODIES⟩ := hv
  have hx := B.exec
  have hb := B.bytes
  have hr := B.returns
  have hts := atoms_spec (ws := wsX5_runUnder) B.pre
  have hown : s.vm.findClass RX5 = some m.cls := findClass_of_methodNamed B.named
  have hlocks := B.notSynchronized
  subst hsz
  have hD := hD0.self (sz := s.heap.size)
  generalize hAe : va_A [(h0, kO5 h1 n0_size h2 n0_ran), (h1, kAi cint 50 f1), (h2, kAi cint 24 f2)] s.heap.size = A at hD hZABOVE hTABOVE hZOWN_BODIES hTOWN_BODIES ⊢
  have hA : ∀ q : Nat, s.heap.size ≤ q → A q := fun q h => by rw [← hAe]; exact Or.inr h
  have hS : va_S A s.heap s.heap [] := va_S.rf
  have hP : va_P (dC, dI) vwCl [(h0, kO5 h1 n0_size h2 n0_ran), (h1, kAi cint 50 f1), (h2, kAi cint 24 f2)] s.heap := hP
  have hl := lv_entry ([.ref h0, .int p0, .int 7, .int 81, .int p3, .int p4]) (n := 8) (Nat.le_of_ble_eq_true rfl)
  rw [lg_entry_eq]
  generalize (lg_sl ([.ref h0, .int p0, .int 7, .int 81, .int p3, .int p4]) ++ List.replicate (8 - (lg_sl ([.ref h0, .int p0, .int 7, .int 81, .int p3, .int p4])).length) Slot.unset).toArray = ls at hl ⊢
  have hl : lv_has ls 8 [(0, .ref h0), (1, .int p0), (2, .int 7), (3, .int 81), (4, .int p3), (5, .int p4)] := hl
  refine lv_aload_n hx hb dX5_runUnder_0 rfl (lv_at hl 0 rfl) ?_
  refine lv_iload_n hx hb dX5_runUnder_1 rfl (lv_at hl 1 rfl) ?_
  obtain ⟨hPc, hDc, hFc⟩ := kk_cutout (wc := [(h0, kO5 h1 n0_size h2 n0_ran), (h1, kAi cint 50 f1)]) hP hD hS hA [0, 1] (by decide) rfl
  have hKc := kk_Ks (tq := [(cint, .int)]) hK [0] rfl
  refine va_calli (va_runV (As := [.int p0]) (rest := []) ⟨hx, hb, hml, hown, hts⟩ (g_X5_kindOf_1 l dC dI h0 h1 h2 cint s.heap.size p0 n0_size n0_ran f1 tn0_size (by show 0 ≤ (n0_ran : Int32).toInt ∧ (n0_ran : Int32).toInt ≤ 1000; first | with_reducible assumption | (constructor <;> (omega))) bf1) (cwV 1 hts gX5_runUnder_X5_kindOf rfl rfl rfl ⟨rfl, kh_X5_kindOf⟩ ⟨Nat.le_of_ble_eq_true rfl, Nat.le_of_ble_eq_true rfl⟩) ⟨fun a U g mk q => by obtain ⟨q0, q1, qP, qK, qD⟩ := q; exact ⟨q0, q1, qP, va_K.moved (u := U) (U := U.calling g mk a) (Vm.Alike.refl U.vm) qK, qD⟩, va_recv hKc hPc (ci := 5) (q0 := 0) rfl rfl, fun U hU hW => ⟨rfl, by rw [hU], by rw [hU]; exact hPc, va_K.moved hW.alike hKc, hDc.weaken (fun _ _ _ _ => trivial)⟩⟩ rfl rfl hl.1 rfl (lv_room (Nat.le_of_ble_eq_true rfl)) dX5_runUnder_2 ⟨Nat.le_of_ble_eq_true rfl, Nat.le_of_ble_eq_true rfl⟩) hS (fun q _ h => hFc q h) hFc (fun r_1 u t H1 locs ht hvm hw hB hz1 hk1 hS => ?_)
  obtain ⟨hP1, hK1, hD1⟩ := hB
  rw [ht] at hP1
  have hK1 := va_K.moved hvm.symm hK1
  obtain ⟨hP, hD⟩ := va_join (wr := [(h2, kAi cint 24 f2)]) (w1 := [(h0, kO5 h1 n0_size h2 n0_ran), (h1, kAi cint 50 f1)]) hP hD [0, 1] [2] rfl rfl (by decide) (by decide) hk1 hFc hP1 hD1
  generalize H1 = H at hP hS ⊢
  have hP : va_P (dC, dI) vwCl [(h2, kAi cint 24 f2), (h0, kO5 h1 n0_size h2 n0_ran), (h1, kAi cint 50 f1)] H := hP
  have hD : va_D A [(h2, kAi cint 24 f2), (h0, kO5 h1 n0_size h2 n0_ran), (h1, kAi cint 50 f1)] := hD
  rcases hw with ⟨t_1_0, t_1_1, t_1_any⟩
  · skip
    have t_1_0 : ((0 ≤ p0.toInt ∧ p0.toInt < n0_size.toInt → r_1.toInt = (f1 (p0 : Int32).toNatClampNeg).toInt ∧ 0 ≤ (f1 (p0 : Int32).toNatClampNeg).toInt) ∧ (¬ (0 ≤ p0.toInt ∧ p0.toInt < n0_size.toInt) → r_1.toInt = -1)) := t_1_0
    have t_1_1 : (0 ≤ p0.toInt ∧ p0.toInt < n0_size.toInt → r_1 = (f1 (p0 : Int32).toNatClampNeg)) := t_1_1
    obtain rfl : r_1 = (f1 (p0 : Int32).toNatClampNeg) := t_1_1 (by omega)
    refine lv_istore hx hb dX5_runUnder_5 hl (by decide) (rfl : _ = ([(6, .int (f1 (p0 : Int32).toNatClampNeg)), (0, .ref h0), (1, .int p0), (2, .int 7), (3, .int 81), (4, .int p3), (5, .int p4)] : List (Nat × Value))) (fun ls hl => ?_)
    refine lv_iload_n hx hb dX5_runUnder_7 rfl (lv_at hl 3 rfl) ?_
    obtain ⟨hPc, hDc, hFc⟩ := kk_cutout (wc := []) hP hD hS hA [] (by decide) rfl
    have hKc := kk_Ks (tq := []) hK [] rfl
    refine va_calli (va_runS (As := [.int 7]) (rest := []) ⟨hx, hb, hml, hown, hts⟩ (g_X5_isKind_18 l dC dI H.size) (va_cwS 1 hts gX5_runUnder_X5_isKind rfl rfl rfl kh_X5_isKind ⟨Nat.le_of_ble_eq_true rfl, Nat.le_of_ble_eq_true rfl⟩) ⟨fun a U g mk q => by obtain ⟨q0, q1, qP, qK, qD⟩ := q; exact ⟨q0, q1, qP, va_K.moved (u := U) (U := U.calling g mk a) (Vm.Alike.refl U.vm) qK, qD⟩, fun U hU hW => ⟨rfl, by rw [hU], by rw [hU]; exact hPc, va_K.moved hW.alike hKc, hDc.weaken (fun _ _ _ _ => trivial)⟩⟩ rfl rfl hl.1 rfl (lv_room (Nat.le_of_ble_eq_true rfl)) dX5_runUnder_8 ⟨Nat.le_of_ble_eq_true rfl, Nat.le_of_ble_eq_true rfl⟩) hS (fun q _ h => hFc q h) hFc (fun r_2 u t H1 locs ht hvm hw hB hz1 hk1 hS => ?_)
    obtain ⟨hP1, hK1, hD1⟩ := hB
    rw [ht] at hP1
    have hK1 := va_K.moved hvm.symm hK1
    obtain ⟨hP, hD⟩ := va_join (wr := [(h2, kAi cint 24 f2), (h0, kO5 h1 n0_size h2 n0_ran), (h1, kAi cint 50 f1)]) (w1 := []) hP hD [] [0, 1, 2] rfl rfl (by decide) (by decide) hk1 hFc hP1 hD1
    generalize H1 = H at hP hS ⊢
    have hP : va_P (dC, dI) vwCl [(h2, kAi cint 24 f2), (h0, kO5 h1 n0_size h2 n0_ran), (h1, kAi cint 50 f1)] H := hP
    have hD : va_D A [(h2, kAi cint 24 f2), (h0, kO5 h1 n0_size h2 n0_ran), (h1, kAi cint 50 f1)] := hD
    obtain rfl := hw
    refine lv_if_eq (tgt := 22) hx hb dX5_runUnder_11 (by decide) (fun c => absurd c (by decide)) (fun _ => ?_)
    refine va_gets hx hb hZABOVE hS hown (hts (.fieldLink RX5 22 "KinkStreet$Lines" "ABOVE" "[I") (List.mem_of_getElem? (i := 1) rfl)) (fun _ h9 => h9) dX5_runUnder_14 ?_
    refine lv_iload_n hx hb dX5_runUnder_17 rfl (lv_at hl 3 rfl) ?_
    refine va_ti (v := .int 1) hx hb hTABOVE hS (by unfold vp_in; decide) rfl dX5_runUnder_18 ?_
    refine lv_goto (tgt := 23) hx hb dX5_runUnder_19 (by decide) ?_
    refine lv_istore hx hb dX5_runUnder_23 hl (by decide) (rfl : _ = ([(7, .int 1), (6, .int (f1 (p0 : Int32).toNatClampNeg)), (0, .ref h0), (1, .int p0), (2, .int 7), (3, .int 81), (4, .int p3), (5, .int p4)] : List (Nat × Value))) (fun ls hl => ?_)
    refine lv_iload_n hx hb dX5_runUnder_25 rfl (lv_at hl 5 rfl) ?_
    refine lv_lookup (tgt := 239) (off := 213) hx hb dX5_runUnder_26 (by decide) (by decide) (by decide) ?_
    refine lv_aload_n hx hb dX5_runUnder_239 rfl (lv_at hl 2 rfl) ?_
    refine lv_iload_n hx hb dX5_runUnder_240 rfl (lv_at hl 3 rfl) ?_
    refine lv_iload hx hb dX5_runUnder_241 (lv_at hl 0 rfl) ?_
    refine lv_iconst (v := 2) hx hb dX5_runUnder_243 kk_ic_2 ?_
    refine lv_iload hx hb dX5_runUnder_244 (lv_at hl 6 rfl) ?_
    refine lv_iload hx hb dX5_runUnder_246 (lv_at hl 7 rfl) ?_
    obtain ⟨hPc, hDc, hFc⟩ := kk_cutout (wc := [(h0, kO5 h1 n0_size h2 n0_ran), (h1, kAi cint 50 f1), (h2, kAi cint 24 f2)]) hP hD hS hA [1, 2, 0] (by decide) rfl
    have hKc := kk_Ks (tq := [(cint, .int)]) hK [0] rfl
    refine va_calli (va_runV (As := [.int p0, .int 1, .int 2, .int p3, .int p4]) (rest := []) ⟨hx, hb, hml, hown, hts⟩ (g_X5_call_19 l dC dI h0 h1 h2 cint H.size p0 p3 p4 tp4 n0_size n0_ran f1 f2 tn0_size tn0_ran bf1 (by show (0 ≤ (p0 : Int32).toInt ∧ (p0 : Int32).toInt < (n0_size : Int32).toInt); first | with_reducible assumption | (omega)) aOWN_BODIES aABOVE) (cwV 5 hts gX5_runUnder_X5_call rfl rfl rfl ⟨rfl, kh_X5_call⟩ ⟨Nat.le_of_ble_eq_true rfl, Nat.le_of_ble_eq_true rfl⟩) ⟨fun a U g mk q => by obtain ⟨q0, q1, qP, qK, qD, qx0, qx1, qx2, qx3⟩ := q; exact ⟨q0, q1, qP, va_K.moved (u := U) (U := U.calling g mk a) (Vm.Alike.refl U.vm) qK, qD, va_Z.moved (u := U) (U := U.calling g mk a) (Vm.Alike.refl U.vm) qx0, va_T.moved (u := U) (U := U.calling g mk a) (Vm.Alike.refl U.vm) qx1, va_Z.moved (u := U) (U := U.calling g mk a) (Vm.Alike.refl U.vm) qx2, va_T.moved (u := U) (U := U.calling g mk a) (Vm.Alike.refl U.vm) qx3⟩, va_recv hKc hPc (ci := 5) (q0 := 0) rfl rfl, fun U hU hW => ⟨rfl, by rw [hU], by rw [hU]; exact hPc, va_K.moved hW.alike hKc, hDc.weaken (fun _ _ _ _ => trivial), by rw [hU]; exact ((hZOWN_BODIES.kept (fun a h1 h2 => hS.2.1 a h1 h2)).narrow hFc).moved hW.alike, by rw [hU]; exact ((hTOWN_BODIES.kept (fun a h1 h2 => hS.2.1 a h1 h2)).narrow hFc).moved hW.alike, by rw [hU]; exact ((hZABOVE.kept (fun a h1 h2 => hS.2.1 a h1 h2)).narrow hFc).moved hW.alike, by rw [hU]; exact ((hTABOVE.kept (fun a h1 h2 => hS.2.1 a h1 h2)).narrow hFc).moved hW.alike⟩⟩ rfl rfl hl.1 rfl (lv_room (Nat.le_of_ble_eq_true rfl)) dX5_runUnder_248 ⟨Nat.le_of_ble_eq_true rfl, Nat.le_of_ble_eq_true rfl⟩) hS (fun q _ h => hFc q h) hFc (fun r_3 u t H1 locs ht hvm hw hB hz1 hk1 hS => ?_)
    obtain ⟨y_4, f_5, by_4, v_5_0, hn_5_0, hP1, hK1, hD1⟩ := hB
    have v_5_0 : y_4.toInt ≤ n0_ran.toInt + 1 := v_5_0
    have hn_5_0 : kk_P f2 f_5 n0_ran.toInt y_4.toInt (kt_leads (f1 (p0 : Int32).toNatClampNeg) 1) := hn_5_0
    rw [ht] at hP1
    have hK1 := va_K.moved hvm.symm hK1
    obtain ⟨hP, hD⟩ := va_join (wr := []) (w1 := [(h0, kO5 h1 n0_size h2 y_4), (h1, kAi cint 50 f1), (h2, kAi cint 24 f_5)]) hP hD [1, 2, 0] [] rfl rfl (by decide) (by decide) hk1 hFc hP1 hD1
    generalize H1 = H at hP hS ⊢
    have hP : va_P (dC, dI) vwCl [(h0, kO5 h1 n0_size h2 y_4), (h1, kAi cint 50 f1), (h2, kAi cint 24 f_5)] H := hP
    have hD : va_D A [(h0, kO5 h1 n0_size h2 y_4), (h1, kAi cint 50 f1), (h2, kAi cint 24 f_5)] := hD
    rcases hw with ⟨t_3_0, _⟩
    · skip
      have t_3_0 : r_3 = kk_leads (f1 (p0 : Int32).toNatClampNeg) 1 p0 p3 := t_3_0
      obtain rfl : r_3 = (kk_leads (f1 (p0 : Int32).toNatClampNeg) 1 p0 p3) := t_3_0
      refine lv_iconst (v := 1) hx hb dX5_runUnder_251 kk_ic_1 ?_
      refine lv_isub hx hb dX5_runUnder_252 ?_
      obtain ⟨hP9, hD9⟩ := kk_leafout (wc := [(h0, kO5 h1 n0_size h2 y_4), (h1, kAi cint 50 f1), (h2, kAi cint 24 f_5)]) hP hD [0, 1, 2] (by decide) rfl
      have hK9 := kk_Ks (tq := []) hK [] rfl
      exact W.iret (v := ((kk_leads (f1 (p0 : Int32).toNatClampNeg) 1 p0 p3) - 1)) hx hb hr (fun t ht hW => ⟨⟨((kk_leads (f1 (p0 : Int32).toNatClampNeg) 1 p0 p3) - 1), (), rfl, ⟨(by first | rfl | (unfold kk_leads; (repeat' split) <;> first | rfl | (exfalso; have : (0 : Int32).toInt = 0 := rfl; have : (1 : Int32).toInt = 1 := rfl; have : (2 : Int32).toInt = 2 := rfl; have : (3 : Int32).toInt = 3 := rfl; have : (4 : Int32).toInt = 4 := rfl; have : (5 : Int32).toInt = 5 := rfl; have : (6 : Int32).toInt = 6 := rfl; have : (7 : Int32).toInt = 7 := rfl; omega))), trivial⟩, y_4, f_5, (by show 1 ≤ (y_4 : Int32).toInt ∧ (y_4 : Int32).toInt ≤ 1000; first | with_reducible assumption | (constructor <;> (omega))), (by show (y_4 : Int32).toInt ≤ (n0_ran : Int32).toInt + 1; first | with_reducible assumption | (omega)), (by first | exact kk_P_eq hn_5_0 rfl | (unfold kt_leads; (repeat' split) <;> first | exact kk_P_eq hn_5_0 rfl | (exfalso; have : (0 : Int32).toInt = 0 := rfl; have : (1 : Int32).toInt = 1 := rfl; have : (2 : Int32).toInt = 2 := rfl; have : (3 : Int32).toInt = 3 := rfl; have : (4 : Int32).toInt = 4 := rfl; have : (5 : Int32).toInt = 5 := rfl; have : (6 : Int32).toInt = 6 := rfl; have : (7 : Int32).toInt = 7 := rfl; omega))), by rw [ht]; exact hP9, va_K.moved hW.alike hK9, hD9⟩, hS.F ht⟩) hS.2.2 dX5_runUnder_253
set_option maxHeartbeats 4000000 in
set_option maxRecDepth 100000 in
theorem g_X5_call_20 (l : Launch) (dC : Nat → ClassId) (dI : Nat → Nat → Nat) (h0 : Nat) (h1 : Nat) (h2 : Nat) (cint : ClassId) (sz : Nat) (p0 : Int32) (p1 : Int32) (p3 : Int32) (p4 : Int32) (tp1 : 0 ≤ p1.toInt ∧ p1.toInt ≤ 7) (tp4 : 0 ≤ p4.toInt ∧ p4.toInt ≤ 12) (n0_size : Int32) (n0_ran : Int32) (f1 : Nat → Int32) (f2 : Nat → Int32) (tn0_size : 0 ≤ n0_size.toInt ∧ n0_size.toInt ≤ 50) (tn0_ran : 0 ≤ n0_ran.toInt ∧ n0_ran.toInt ≤ 994) (bf1 : ∀ j, j < 50 → 0 ≤ (f1 j).toInt ∧ (f1 j).toInt ≤ 7) (pr0 : (0 ≤ p0.toInt ∧ p0.toInt < n0_size.toInt)) (aOWN_BODIES : Nat) (aABOVE : Nat) : Met l yX5_call wsX5_call ({ frames := 9, cells := 0, slots := 0, locals := 229 }) (va_Pc [.ref h0, .int p0, .int p1, .int 2, .int p3, .int p4] (fun U => U.heap.size = sz ∧ va_P (dC, dI) vwCl [(h0, kO5 h1 n0_size h2 n0_ran), (h1, kAi cint 50 f1), (h2, kAi cint 24 f2)] U.heap ∧ va_K (dC, dI) vwCl [(cint, .int)] U ∧ va_D (fun _ => True) [(h0, kO5 h1 n0_size h2 n0_ran), (h1, kAi cint 50 f1), (h2, kAi cint 24 f2)] ∧ va_Z "KinkStreet$Lines" "OWN_BODIES" "[I" (.ref aOWN_BODIES) (va_A [(h0, kO5 h1 n0_size h2 n0_ran), (h1, kAi cint 50 f1), (h2, kAi cint 24 f2)] sz) U U.heap ∧ va_T .int aOWN_BODIES 32 tb_OWN_BODIES (va_A [(h0, kO5 h1 n0_size h2 n0_ran), (h1, kAi cint 50 f1), (h2, kAi cint 24 f2)] sz) U U.heap ∧ va_Z "KinkStreet$Lines" "ABOVE" "[I" (.ref aABOVE) (va_A [(h0, kO5 h1 n0_size h2 n0_ran), (h1, kAi cint 50 f1), (h2, kAi cint 24 f2)] sz) U U.heap ∧ va_T .int aABOVE 8 tb_ABOVE (va_A [(h0, kO5 h1 n0_size h2 n0_ran), (h1, kAi cint 50 f1), (h2, kAi cint 24 f2)] sz) U U.heap)) (va_Qi (fun (r : Int32) (_ : Unit) => r = kk_leads (f1 (p0 : Int32).toNatClampNeg) p1 p0 p3 ∧ True) (fun (_ : Unit) t => ∃ (m0_ran : Int32) (g2 : Nat → Int32), (1 ≤ m0_ran.toInt ∧ m0_ran.toInt ≤ 1000) ∧ (m0_ran.toInt ≤ n0_ran.toInt + 6) ∧ (kk_P f2 g2 n0_ran.toInt m0_ran.toInt (kt_leads (f1 (p0 : Int32).toNatClampNeg) p1)) ∧ va_P (dC, dI) vwCl [(h0, kO5 h1 n0_size h2 m0_ran), (h1, kAi cint 50 f1), (h2, kAi cint 24 g2)] t.heap ∧ va_K (dC, dI) vwCl [] t ∧ va_D (va_A [(h0, kO5 h1 n0_size h2 n0_ran), (h1, kAi cint 50 f1), (h2, kAi cint 24 f2)] sz) [(h0, kO5 h1 n0_size h2 m0_ran), (h1, kAi cint 50 f1), (h2, kAi cint 24 g2)]) (va_A [(h0, kO5 h1 n0_size h2 n0_ran), (h1, kAi cint 50 f1), (h2, kAi cint 24 f2)] sz)) 0 0 (va_A [(h0, kO5 h1 n0_size h2 n0_ran), (h1, kAi cint 50 f1), (h2, kAi cint 24 f2)] sz) := by
  refine Met.ofW (cc := cX5_call) (maxL := 8) (ret := (some .int)) (by decide) rfl ?_
  intro p e s m args below meth c s₁ B hml hv
  obtain ⟨rfl, hsz, hP, hK, hD0, hZOWN_BODIES, hTOWN_BODIES, hZABOVE, hTABOVE⟩ := hv
  have hx := B.exec
  have hb := B.bytes
  have hr := B.returns
  have hts := atoms_spec (ws := wsX5_call) B.pre
  have hown : s.vm.findClass RX5 = some m.cls := findClass_of_methodNamed B.named
  have hlocks := B.notSynchronized
  subst hsz
  have hD := hD0.self (sz := s.heap.size)
  generalize hAe : va_A [(h0, kO5 h1 n0_size h2 n0_ran), (h1, kAi cint 50 f1), (h2, kAi cint 24 f2)] s.heap.size = A at hD hZOWN_BODIES hTOWN_BODIES hZABOVE hTABOVE ⊢
  have hA : ∀ q : Nat, s.heap.size ≤ q → A q := fun q h => by rw [← hAe]; exact Or.inr h
  have hS : va_S A s.heap s.heap [] := va_S.rf
  have hP : va_P (dC, dI) vwCl [(h0, kO5 h1 n0_size h2 n0_ran), (h1, kAi cint 50 f1), (h2, kAi cint 24 f2)] s.heap := hP
  have hl := lv_entry ([.ref h0, .int p0, .int p1, .int 2, .int p3, .int p4]) (n := 8) (Nat.le_of_ble_eq_true rfl)
  rw [lg_entry_eq]
  generalize (lg_sl ([.ref h0, .int p0, .int p1, .int 2, .int p3, .int p4]) ++ List.replicate (8 - (lg_sl ([.ref h0, .int p0, .int p1, .int 2, .int p3, .int p4])).length) Slot.unset).toArray = ls at hl ⊢
  have hl : lv_has ls 8 [(0, .ref h0), (1, .int p0), (2, .int p1), (3, .int 2), (4, .int p3), (5, .int p4)] := hl
  rcases (show p1 = 0 ∨ p1 = 1 ∨ p1 = 2 ∨ p1 = 3 ∨ p1 = 4 ∨ p1 = 5 ∨ p1 = 6 ∨ p1 = 7 from by simp only [← Int32.toInt_inj]; simp; omega) with e_1 | e_1 | e_1 | e_1 | e_1 | e_1 | e_1 | e_1
  · have t_1 : p1.toInt = 0 := by rw [e_1]; rfl
    subst e_1
    refine lv_iload_n hx hb dX5_call_0 rfl (lv_at hl 2 rfl) ?_
    refine lv_istore hx hb dX5_call_1 hl (by decide) (rfl : _ = ([(6, .int 0), (0, .ref h0), (1, .int p0), (2, .int 0), (3, .int 2), (4, .int p3), (5, .int p4)] : List (Nat × Value))) (fun ls hl => ?_)
    refine lv_iconst (v := 0) hx hb dX5_call_3 kk_ic_0 ?_
    refine lv_istore hx hb dX5_call_4 hl (by decide) (rfl : _ = ([(7, .int 0), (6, .int 0), (0, .ref h0), (1, .int p0), (2, .int 0), (3, .int 2), (4, .int p3), (5, .int p4)] : List (Nat × Value))) (fun ls hl => ?_)
    refine lv_iload hx hb dX5_call_6 (lv_at hl 0 rfl) ?_
    refine lv_bipush (v := 8) hx hb dX5_call_8 kk_bi_8 ?_
    refine lv_icmp_ge (tgt := 48) hx hb dX5_call_10 (by decide) (fun c => absurd c (by decide)) (fun _ => ?_)
    refine lv_iload hx hb dX5_call_13 (lv_at hl 1 rfl) ?_
    obtain ⟨hPc, hDc, hFc⟩ := kk_cutout (wc := []) hP hD hS hA [] (by decide) rfl
    have hKc := kk_Ks (tq := []) hK [] rfl
    refine va_calli (va_runS (As := [.int 0]) (rest := []) ⟨hx, hb, hml, hown, hts⟩ (g_X5_isKind_11 l dC dI s.heap.size) (va_cwS 1 hts gX5_call_X5_isKind rfl rfl rfl kh_X5_isKind ⟨Nat.le_of_ble_eq_true rfl, Nat.le_of_ble_eq_true rfl⟩) ⟨fun a U g mk q => by obtain ⟨q0, q1, qP, qK, qD⟩ := q; exact ⟨q0, q1, qP, va_K.moved (u := U) (U := U.calling g mk a) (Vm.Alike.refl U.vm) qK, qD⟩, fun U hU hW => ⟨rfl, by rw [hU], by rw [hU]; exact hPc, va_K.moved hW.alike hKc, hDc.weaken (fun _ _ _ _ => trivial)⟩⟩ rfl rfl hl.1 rfl (lv_room (Nat.le_of_ble_eq_true rfl)) dX5_call_15 ⟨Nat.le_of_ble_eq_true rfl, Nat.le_of_ble_eq_true rfl⟩) hS (fun q _ h => hFc q h) hFc (fun r_2 u t H1 locs ht hvm hw hB hz1 hk1 hS => ?_)
    obtain ⟨hP1, hK1, hD1⟩ := hB
    rw [ht] at hP1
    have hK1 := va_K.moved hvm.symm hK1
    obtain ⟨hP, hD⟩ := va_join (wr := [(h0, kO5 h1 n0_size h2 n0_ran), (h1, kAi cint 50 f1), (h2, kAi cint 24 f2)]) (w1 := []) hP hD [] [0, 1, 2] rfl rfl (by decide) (by decide) hk1 hFc hP1 hD1
    generalize H1 = H at hP hS ⊢
    have hP : va_P (dC, dI) vwCl [(h0, kO5 h1 n0_size h2 n0_ran), (h1, kAi cint 50 f1), (h2, kAi cint 24 f2)] H := hP
    have hD : va_D A [(h0, kO5 h1 n0_size h2 n0_ran), (h1, kAi cint 50 f1), (h2, kAi cint 24 f2)] := hD
    obtain rfl := hw
    refine lv_if_eq (tgt := 48) hx hb dX5_call_18 (by decide) (fun c => absurd c (by decide)) (fun _ => ?_)
    refine va_gets hx hb hZOWN_BODIES hS hown (hts (.fieldLink RX5 43 "KinkStreet$Lines" "OWN_BODIES" "[I") (List.mem_of_getElem? (i := 1) rfl)) (fun _ h9 => h9) dX5_call_21 ?_
    refine lv_iload hx hb dX5_call_24 (lv_at hl 1 rfl) ?_
    refine lv_iconst (v := 4) hx hb dX5_call_26 kk_ic_4 ?_
    refine lv_imul hx hb dX5_call_27 ?_
    refine lv_topi (fun y_3 e_3 => ?_)
    obtain rfl : y_3 = 0 := e_3.trans (by decide)
    refine lv_iload_n hx hb dX5_call_28 rfl (lv_at hl 5 rfl) ?_
    refine lv_iadd hx hb dX5_call_29 ?_
    refine lv_topi (fun y_4 e_4 => ?_)
    obtain rfl : y_4 = 2 := e_4.trans (by decide)
    refine va_ti (v := .int 11) hx hb hTOWN_BODIES hS (by unfold vp_in; decide) rfl dX5_call_30 ?_
    refine lv_if_ne (tgt := 48) hx hb dX5_call_31 (by decide) (fun _ => ?_) (fun c => absurd c (by decide))
    refine lv_iload hx hb dX5_call_48 (lv_at hl 1 rfl) ?_
    obtain ⟨hPc, hDc, hFc⟩ := kk_cutout (wc := []) hP hD hS hA [] (by decide) rfl
    have hKc := kk_Ks (tq := []) hK [] rfl
    refine va_calli (va_runS (As := [.int 0]) (rest := []) ⟨hx, hb, hml, hown, hts⟩ (g_X5_isKind_11 l dC dI H.size) (va_cwS 1 hts gX5_call_X5_isKind rfl rfl rfl kh_X5_isKind ⟨Nat.le_of_ble_eq_true rfl, Nat.le_of_ble_eq_true rfl⟩) ⟨fun a U g mk q => by obtain ⟨q0, q1, qP, qK, qD⟩ := q; exact ⟨q0, q1, qP, va_K.moved (u := U) (U := U.calling g mk a) (Vm.Alike.refl U.vm) qK, qD⟩, fun U hU hW => ⟨rfl, by rw [hU], by rw [hU]; exact hPc, va_K.moved hW.alike hKc, hDc.weaken (fun _ _ _ _ => trivial)⟩⟩ rfl rfl hl.1 rfl (lv_room (Nat.le_of_ble_eq_true rfl)) dX5_call_50 ⟨Nat.le_of_ble_eq_true rfl, Nat.le_of_ble_eq_true rfl⟩) hS (fun q _ h => hFc q h) hFc (fun r_5 u t H1 locs ht hvm hw hB hz1 hk1 hS => ?_)
    obtain ⟨hP1, hK1, hD1⟩ := hB
    rw [ht] at hP1
    have hK1 := va_K.moved hvm.symm hK1
    obtain ⟨hP, hD⟩ := va_join (wr := [(h0, kO5 h1 n0_size h2 n0_ran), (h1, kAi cint 50 f1), (h2, kAi cint 24 f2)]) (w1 := []) hP hD [] [0, 1, 2] rfl rfl (by decide) (by decide) hk1 hFc hP1 hD1
    generalize H1 = H at hP hS ⊢
    have hP : va_P (dC, dI) vwCl [(h0, kO5 h1 n0_size h2 n0_ran), (h1, kAi cint 50 f1), (h2, kAi cint 24 f2)] H := hP
    have hD : va_D A [(h0, kO5 h1 n0_size h2 n0_ran), (h1, kAi cint 50 f1), (h2, kAi cint 24 f2)] := hD
    obtain rfl := hw
    refine lv_if_eq (tgt := 63) hx hb dX5_call_53 (by decide) (fun c => absurd c (by decide)) (fun _ => ?_)
    refine lv_iload hx hb dX5_call_56 (lv_at hl 7 rfl) ?_
    refine lv_bipush (v := 40) hx hb dX5_call_58 kk_bi_40 ?_
    refine lv_icmp_le (tgt := 65) hx hb dX5_call_60 (by decide) (fun c_6 => ?_) (fun c_6 => ?_)
    · have t_6 : p4.toInt ≤ 40 := kk_le c_6
      refine va_gets hx hb hZOWN_BODIES hS hown (hts (.fieldLink RX5 43 "KinkStreet$Lines" "OWN_BODIES" "[I") (List.mem_of_getElem? (i := 1) rfl)) (fun _ h9 => h9) dX5_call_65 ?_
      refine lv_iload hx hb dX5_call_68 (lv_at hl 1 rfl) ?_
      refine lv_iconst (v := 4) hx hb dX5_call_70 kk_ic_4 ?_
      refine lv_imul hx hb dX5_call_71 ?_
      refine lv_topi (fun y_7 e_7 => ?_)
      obtain rfl : y_7 = 0 := e_7.trans (by decide)
      refine lv_iload_n hx hb dX5_call_72 rfl (lv_at hl 5 rfl) ?_
      refine lv_iadd hx hb dX5_call_73 ?_
      refine lv_topi (fun y_8 e_8 => ?_)
      obtain rfl : y_8 = 2 := e_8.trans (by decide)
      refine va_ti (v := .int 11) hx hb hTOWN_BODIES hS (by unfold vp_in; decide) rfl dX5_call_74 ?_
      refine lv_istore hx hb dX5_call_75 hl (by decide) (rfl : _ = ([(7, .int 11), (6, .int 0), (0, .ref h0), (1, .int p0), (2, .int 0), (3, .int 2), (4, .int p3), (5, .int p4)] : List (Nat × Value))) (fun ls hl => ?_)
      refine lv_aload_n hx hb dX5_call_77 rfl (lv_at hl 2 rfl) ?_
      refine va_get (D := (dC, dI)) (ci := 5) (v := .int n0_ran) (C := RX5) (T := TX5) (N := 4) hx hb hts (fun _ h => List.mem_cons_of_mem _ (List.mem_append_right _ h)) hown hK hP 0 rfl rfl 3 (by decide) (hts (.fieldLink RX5 36 "KinkStreet$Lines" "ran" "I") (List.mem_of_getElem? (i := 3) rfl)) (fun _ h9 => h9) rfl dX5_call_78 ?_
      refine lv_bipush (v := 24) hx hb dX5_call_81 kk_bi_24 ?_
      refine lv_icmp_ge (tgt := 97) hx hb dX5_call_83 (by decide) (fun c_9 => ?_) (fun c_9 => ?_)
      · have t_9 : 24 ≤ n0_ran.toInt := kk_le c_9
        refine lv_aload_n hx hb dX5_call_97 rfl (lv_at hl 2 rfl) ?_
        refine lv_dup hx hb dX5_call_98 rfl ?_
        refine va_get (D := (dC, dI)) (ci := 5) (v := .int n0_ran) (C := RX5) (T := TX5) (N := 4) hx hb hts (fun _ h => List.mem_cons_of_mem _ (List.mem_append_right _ h)) hown hK hP 0 rfl rfl 3 (by decide) (hts (.fieldLink RX5 36 "KinkStreet$Lines" "ran" "I") (List.mem_of_getElem? (i := 3) rfl)) (fun _ h9 => h9) rfl dX5_call_99 ?_
        refine lv_iconst (v := 1) hx hb dX5_call_102 kk_ic_1 ?_
        refine lv_iadd hx hb dX5_call_103 ?_
        refine va_put (D := (dC, dI)) (ci := 5) (v := .int (n0_ran + 1)) (ty := .int) (C := RX5) (T := TX5) (N := 4) hx hb hts (fun _ h => List.mem_cons_of_mem _ (List.mem_append_right _ h)) tyX5 tyX5_ok nmX5 hown hK hP hD hS 0 rfl rfl 3 (by decide) (hts (.fieldLink RX5 36 "KinkStreet$Lines" "ran" "I") (List.mem_of_getElem? (i := 3) rfl)) (fun _ h9 => h9) rfl (by decide +kernel) rfl rfl (Nat.le_of_ble_eq_true rfl) dX5_call_104 (fun H locs hP hD hS => ?_)
        have hP : va_P (dC, dI) vwCl [(h0, kO5 h1 n0_size h2 (n0_ran + 1)), (h1, kAi cint 50 f1), (h2, kAi cint 24 f2)] H := hP
        have hD : va_D A [(h0, kO5 h1 n0_size h2 (n0_ran + 1)), (h1, kAi cint 50 f1), (h2, kAi cint 24 f2)] := hD
        have hp_10 : kk_P f2 f2 n0_ran.toInt (n0_ran + 1 : Int32).toInt [11] := kk_P_out (by have := kk_add2 (x := n0_ran) (y := 1) (a := n0_ran.toInt) (b := 1) rfl rfl (by omega) (by omega); omega) (by have := kk_add2 (x := n0_ran) (y := 1) (a := n0_ran.toInt) (b := 1) rfl rfl (by omega) (by omega); omega)
        refine lv_iload hx hb dX5_call_107 (lv_at hl 1 rfl) ?_
        refine lv_if_ne (tgt := 128) hx hb dX5_call_109 (by decide) (fun c => absurd c (by decide)) (fun _ => ?_)
        refine lv_aload_n hx hb dX5_call_112 rfl (lv_at hl 2 rfl) ?_
        refine lv_iload_n hx hb dX5_call_113 rfl (lv_at hl 3 rfl) ?_
        refine lv_iload hx hb dX5_call_114 (lv_at hl 0 rfl) ?_
        refine lv_iload hx hb dX5_call_116 (lv_at hl 6 rfl) ?_
        refine lv_iload hx hb dX5_call_118 (lv_at hl 7 rfl) ?_
        refine lv_iconst (v := 1) hx hb dX5_call_120 kk_ic_1 ?_
        refine lv_iadd hx hb dX5_call_121 ?_
        obtain ⟨hPc, hDc, hFc⟩ := kk_cutout (wc := [(h0, kO5 h1 n0_size h2 (n0_ran + 1)), (h1, kAi cint 50 f1)]) hP hD hS hA [0, 1] (by decide) rfl
        have hKc := kk_Ks (tq := [(cint, .int)]) hK [0] rfl
        refine va_calli (va_runV (As := [.int p0, .int 11, .int p3, .int (p4 + 1)]) (rest := []) ⟨hx, hb, hml, hown, hts⟩ (g_X5_runLine_6 l dC dI h0 h1 h2 cint H.size p0 p3 (p4 + 1) (by show 0 ≤ ((p4 + 1) : Int32).toInt ∧ ((p4 + 1) : Int32).toInt ≤ 15; first | with_reducible assumption | (constructor <;> (have := kk_add2 (x := n0_ran) (y := 1) (a := n0_ran.toInt) (b := 1) rfl rfl (by omega) (by omega); have := kk_add2 (x := p4) (y := 1) (a := p4.toInt) (b := 1) rfl rfl (by omega) (by omega); omega))) n0_size (n0_ran + 1) f1 tn0_size (by show 0 ≤ ((n0_ran + 1) : Int32).toInt ∧ ((n0_ran + 1) : Int32).toInt ≤ 1000; first | with_reducible assumption | (constructor <;> (have := kk_add2 (x := n0_ran) (y := 1) (a := n0_ran.toInt) (b := 1) rfl rfl (by omega) (by omega); have := kk_add2 (x := p4) (y := 1) (a := p4.toInt) (b := 1) rfl rfl (by omega) (by omega); omega))) bf1 (by show (0 ≤ (p0 : Int32).toInt ∧ (p0 : Int32).toInt < (n0_size : Int32).toInt); first | with_reducible assumption | (have := kk_add2 (x := n0_ran) (y := 1) (a := n0_ran.toInt) (b := 1) rfl rfl (by omega) (by omega); have := kk_add2 (x := p4) (y := 1) (a := p4.toInt) (b := 1) rfl rfl (by omega) (by omega); omega))) (cwV 4 hts gX5_call_X5_runLine rfl rfl rfl ⟨rfl, kh_X5_runLine⟩ ⟨Nat.le_of_ble_eq_true rfl, Nat.le_of_ble_eq_true rfl⟩) ⟨fun a U g mk q => by obtain ⟨q0, q1, qP, qK, qD⟩ := q; exact ⟨q0, q1, qP, va_K.moved (u := U) (U := U.calling g mk a) (Vm.Alike.refl U.vm) qK, qD⟩, va_recv hKc hPc (ci := 5) (q0 := 0) rfl rfl, fun U hU hW => ⟨rfl, by rw [hU], by rw [hU]; exact hPc, va_K.moved hW.alike hKc, hDc.weaken (fun _ _ _ _ => trivial)⟩⟩ rfl rfl hl.1 rfl (lv_room (Nat.le_of_ble_eq_true rfl)) dX5_call_122 ⟨Nat.le_of_ble_eq_true rfl, Nat.le_of_ble_eq_true rfl⟩) hS (fun q _ h => hFc q h) hFc (fun r_11 u t H1 locs ht hvm hw hB hz1 hk1 hS => ?_)
        obtain ⟨hP1, hK1, hD1⟩ := hB
        rw [ht] at hP1
        have hK1 := va_K.moved hvm.symm hK1
        obtain ⟨hP, hD⟩ := va_join (wr := [(h2, kAi cint 24 f2)]) (w1 := [(h0, kO5 h1 n0_size h2 (n0_ran + 1)), (h1, kAi cint 50 f1)]) hP hD [0, 1] [2] rfl rfl (by decide) (by decide) hk1 hFc hP1 hD1
        generalize H1 = H at hP hS ⊢
        have hP : va_P (dC, dI) vwCl [(h2, kAi cint 24 f2), (h0, kO5 h1 n0_size h2 (n0_ran + 1)), (h1, kAi cint 50 f1)] H := hP
        have hD : va_D A [(h2, kAi cint 24 f2), (h0, kO5 h1 n0_size h2 (n0_ran + 1)), (h1, kAi cint 50 f1)] := hD
        rcases hw with ⟨t_11_0, _⟩
        · skip
          have t_11_0 : r_11 = kk_leads (f1 (p0 : Int32).toNatClampNeg) 0 p0 p3 := t_11_0
          obtain rfl : r_11 = (kk_leads (f1 (p0 : Int32).toNatClampNeg) 0 p0 p3) := t_11_0
          refine lv_goto (tgt := 143) hx hb dX5_call_125 (by decide) ?_
          obtain ⟨hP9, hD9⟩ := kk_leafout (wc := [(h0, kO5 h1 n0_size h2 (n0_ran + 1)), (h1, kAi cint 50 f1), (h2, kAi cint 24 f2)]) hP hD [1, 2, 0] (by decide) rfl
          have hK9 := kk_Ks (tq := []) hK [] rfl
          exact W.iret (v := (kk_leads (f1 (p0 : Int32).toNatClampNeg) 0 p0 p3)) hx hb hr (fun t ht hW => ⟨⟨(kk_leads (f1 (p0 : Int32).toNatClampNeg) 0 p0 p3), (), rfl, ⟨(by first | rfl | (unfold kk_leads; (repeat' split) <;> first | rfl | (exfalso; have : (0 : Int32).toInt = 0 := rfl; have : (1 : Int32).toInt = 1 := rfl; have : (2 : Int32).toInt = 2 := rfl; have : (3 : Int32).toInt = 3 := rfl; have : (4 : Int32).toInt = 4 := rfl; have : (5 : Int32).toInt = 5 := rfl; have : (6 : Int32).toInt = 6 := rfl; have : (7 : Int32).toInt = 7 := rfl; have := kk_add2 (x := n0_ran) (y := 1) (a := n0_ran.toInt) (b := 1) rfl rfl (by omega) (by omega); have := kk_add2 (x := p4) (y := 1) (a := p4.toInt) (b := 1) rfl rfl (by omega) (by omega); omega))), trivial⟩, (n0_ran + 1), f2, (by show 1 ≤ ((n0_ran + 1) : Int32).toInt ∧ ((n0_ran + 1) : Int32).toInt ≤ 1000; first | with_reducible assumption | (constructor <;> (have := kk_add2 (x := n0_ran) (y := 1) (a := n0_ran.toInt) (b := 1) rfl rfl (by omega) (by omega); have := kk_add2 (x := p4) (y := 1) (a := p4.toInt) (b := 1) rfl rfl (by omega) (by omega); omega))), (by show ((n0_ran + 1) : Int32).toInt ≤ (n0_ran : Int32).toInt + 6; first | with_reducible assumption | (have := kk_add2 (x := n0_ran) (y := 1) (a := n0_ran.toInt) (b := 1) rfl rfl (by omega) (by omega); have := kk_add2 (x := p4) (y := 1) (a := p4.toInt) (b := 1) rfl rfl (by omega) (by omega); omega)), (by first | exact kk_P_eq hp_10 rfl | (unfold kt_leads; (repeat' split) <;> first | exact kk_P_eq hp_10 rfl | (exfalso; have : (0 : Int32).toInt = 0 := rfl; have : (1 : Int32).toInt = 1 := rfl; have : (2 : Int32).toInt = 2 := rfl; have : (3 : Int32).toInt = 3 := rfl; have : (4 : Int32).toInt = 4 := rfl; have : (5 : Int32).toInt = 5 := rfl; have : (6 : Int32).toInt = 6 := rfl; have : (7 : Int32).toInt = 7 := rfl; have := kk_add2 (x := n0_ran) (y := 1) (a := n0_ran.toInt) (b := 1) rfl rfl (by omega) (by omega); have := kk_add2 (x := p4) (y := 1) (a := p4.toInt) (b := 1) rfl rfl (by omega) (by omega); omega))), by rw [ht]; exact hP9, va_K.moved hW.alike hK9, hD9⟩, hS.F ht⟩) hS.2.2 dX5_call_143
      · have t_9 : n0_ran.toInt < 24 := kk_nle c_9
        refine lv_aload_n hx hb dX5_call_86 rfl (lv_at hl 2 rfl) ?_
        refine va_get (D := (dC, dI)) (ci := 5) (v := .ref h2) (C := RX5) (T := TX5) (N := 4) hx hb hts (fun _ h => List.mem_cons_of_mem _ (List.mem_append_right _ h)) hown hK hP 0 rfl rfl 2 (by decide) (hts (.fieldLink RX5 15 "KinkStreet$Lines" "trace" "[I") (List.mem_of_getElem? (i := 4) rfl)) (fun _ h9 => h9) rfl dX5_call_87 ?_
        refine lv_aload_n hx hb dX5_call_90 rfl (lv_at hl 2 rfl) ?_
        refine va_get (D := (dC, dI)) (ci := 5) (v := .int n0_ran) (C := RX5) (T := TX5) (N := 4) hx hb hts (fun _ h => List.mem_cons_of_mem _ (List.mem_append_right _ h)) hown hK hP 0 rfl rfl 3 (by decide) (hts (.fieldLink RX5 36 "KinkStreet$Lines" "ran" "I") (List.mem_of_getElem? (i := 3) rfl)) (fun _ h9 => h9) rfl dX5_call_91 ?_
        refine lv_iload hx hb dX5_call_94 (lv_at hl 0 rfl) ?_
        refine va_iast hx hb hK hP hD hS 2 0 rfl rfl (vp_in_iff.mpr ⟨by omega, by omega⟩) dX5_call_96 (fun H locs hP hD hS => ?_)
        have w_12 : ((upd f2 (n0_ran : Int32).toNatClampNeg 11) (n0_ran : Int32).toNatClampNeg).toInt = (11 : Int32).toInt := by rw [kk_ups]
        have hP : va_P (dC, dI) vwCl [(h0, kO5 h1 n0_size h2 n0_ran), (h1, kAi cint 50 f1), (h2, kAi cint 24 (upd f2 (n0_ran : Int32).toNatClampNeg 11))] H := hP
        have hD : va_D A [(h0, kO5 h1 n0_size h2 n0_ran), (h1, kAi cint 50 f1), (h2, kAi cint 24 (upd f2 (n0_ran : Int32).toNatClampNeg 11))] := hD
        refine lv_aload_n hx hb dX5_call_97 rfl (lv_at hl 2 rfl) ?_
        refine lv_dup hx hb dX5_call_98 rfl ?_
        refine va_get (D := (dC, dI)) (ci := 5) (v := .int n0_ran) (C := RX5) (T := TX5) (N := 4) hx hb hts (fun _ h => List.mem_cons_of_mem _ (List.mem_append_right _ h)) hown hK hP 0 rfl rfl 3 (by decide) (hts (.fieldLink RX5 36 "KinkStreet$Lines" "ran" "I") (List.mem_of_getElem? (i := 3) rfl)) (fun _ h9 => h9) rfl dX5_call_99 ?_
        refine lv_iconst (v := 1) hx hb dX5_call_102 kk_ic_1 ?_
        refine lv_iadd hx hb dX5_call_103 ?_
        refine va_put (D := (dC, dI)) (ci := 5) (v := .int (n0_ran + 1)) (ty := .int) (C := RX5) (T := TX5) (N := 4) hx hb hts (fun _ h => List.mem_cons_of_mem _ (List.mem_append_right _ h)) tyX5 tyX5_ok nmX5 hown hK hP hD hS 0 rfl rfl 3 (by decide) (hts (.fieldLink RX5 36 "KinkStreet$Lines" "ran" "I") (List.mem_of_getElem? (i := 3) rfl)) (fun _ h9 => h9) rfl (by decide +kernel) rfl rfl (Nat.le_of_ble_eq_true rfl) dX5_call_104 (fun H locs hP hD hS => ?_)
        have hP : va_P (dC, dI) vwCl [(h0, kO5 h1 n0_size h2 (n0_ran + 1)), (h1, kAi cint 50 f1), (h2, kAi cint 24 (upd f2 (n0_ran : Int32).toNatClampNeg 11))] H := hP
        have hD : va_D A [(h0, kO5 h1 n0_size h2 (n0_ran + 1)), (h1, kAi cint 50 f1), (h2, kAi cint 24 (upd f2 (n0_ran : Int32).toNatClampNeg 11))] := hD
        have hp_13 : kk_P f2 (upd f2 (n0_ran : Int32).toNatClampNeg 11) n0_ran.toInt (n0_ran + 1 : Int32).toInt [11] := kk_P_one (by have := kk_add2 (x := n0_ran) (y := 1) (a := n0_ran.toInt) (b := 1) rfl rfl (by omega) (by omega); omega) (by have := kk_add2 (x := n0_ran) (y := 1) (a := n0_ran.toInt) (b := 1) rfl rfl (by omega) (by omega); omega)
        refine lv_iload hx hb dX5_call_107 (lv_at hl 1 rfl) ?_
        refine lv_if_ne (tgt := 128) hx hb dX5_call_109 (by decide) (fun c => absurd c (by decide)) (fun _ => ?_)
        refine lv_aload_n hx hb dX5_call_112 rfl (lv_at hl 2 rfl) ?_
        refine lv_iload_n hx hb dX5_call_113 rfl (lv_at hl 3 rfl) ?_
        refine lv_iload hx hb dX5_call_114 (lv_at hl 0 rfl) ?_
        refine lv_iload hx hb dX5_call_116 (lv_at hl 6 rfl) ?_
        refine lv_iload hx hb dX5_call_118 (lv_at hl 7 rfl) ?_
        refine lv_iconst (v := 1) hx hb dX5_call_120 kk_ic_1 ?_
        refine lv_iadd hx hb dX5_call_121 ?_
        obtain ⟨hPc, hDc, hFc⟩ := kk_cutout (wc := [(h0, kO5 h1 n0_size h2 (n0_ran + 1)), (h1, kAi cint 50 f1)]) hP hD hS hA [0, 1] (by decide) rfl
        have hKc := kk_Ks (tq := [(cint, .int)]) hK [0] rfl
        refine va_calli (va_runV (As := [.int p0, .int 11, .int p3, .int (p4 + 1)]) (rest := []) ⟨hx, hb, hml, hown, hts⟩ (g_X5_runLine_6 l dC dI h0 h1 h2 cint H.size p0 p3 (p4 + 1) (by show 0 ≤ ((p4 + 1) : Int32).toInt ∧ ((p4 + 1) : Int32).toInt ≤ 15; first | with_reducible assumption | (constructor <;> (have := kk_add2 (x := n0_ran) (y := 1) (a := n0_ran.toInt) (b := 1) rfl rfl (by omega) (by omega); have := kk_add2 (x := p4) (y := 1) (a := p4.toInt) (b := 1) rfl rfl (by omega) (by omega); omega))) n0_size (n0_ran + 1) f1 tn0_size (by show 0 ≤ ((n0_ran + 1) : Int32).toInt ∧ ((n0_ran + 1) : Int32).toInt ≤ 1000; first | with_reducible assumption | (constructor <;> (have := kk_add2 (x := n0_ran) (y := 1) (a := n0_ran.toInt) (b := 1) rfl rfl (by omega) (by omega); have := kk_add2 (x := p4) (y := 1) (a := p4.toInt) (b := 1) rfl rfl (by omega) (by omega); omega))) bf1 (by show (0 ≤ (p0 : Int32).toInt ∧ (p0 : Int32).toInt < (n0_size : Int32).toInt); first | with_reducible assumption | (have := kk_add2 (x := n0_ran) (y := 1) (a := n0_ran.toInt) (b := 1) rfl rfl (by omega) (by omega); have := kk_add2 (x := p4) (y := 1) (a := p4.toInt) (b := 1) rfl rfl (by omega) (by omega); omega))) (cwV 4 hts gX5_call_X5_runLine rfl rfl rfl ⟨rfl, kh_X5_runLine⟩ ⟨Nat.le_of_ble_eq_true rfl, Nat.le_of_ble_eq_true rfl⟩) ⟨fun a U g mk q => by obtain ⟨q0, q1, qP, qK, qD⟩ := q; exact ⟨q0, q1, qP, va_K.moved (u := U) (U := U.calling g mk a) (Vm.Alike.refl U.vm) qK, qD⟩, va_recv hKc hPc (ci := 5) (q0 := 0) rfl rfl, fun U hU hW => ⟨rfl, by rw [hU], by rw [hU]; exact hPc, va_K.moved hW.alike hKc, hDc.weaken (fun _ _ _ _ => trivial)⟩⟩ rfl rfl hl.1 rfl (lv_room (Nat.le_of_ble_eq_true rfl)) dX5_call_122 ⟨Nat.le_of_ble_eq_true rfl, Nat.le_of_ble_eq_true rfl⟩) hS (fun q _ h => hFc q h) hFc (fun r_14 u t H1 locs ht hvm hw hB hz1 hk1 hS => ?_)
        obtain ⟨hP1, hK1, hD1⟩ := hB
        rw [ht] at hP1
        have hK1 := va_K.moved hvm.symm hK1
        obtain ⟨hP, hD⟩ := va_join (wr := [(h2, kAi cint 24 (upd f2 (n0_ran : Int32).toNatClampNeg 11))]) (w1 := [(h0, kO5 h1 n0_size h2 (n0_ran + 1)), (h1, kAi cint 50 f1)]) hP hD [0, 1] [2] rfl rfl (by decide) (by decide) hk1 hFc hP1 hD1
        generalize H1 = H at hP hS ⊢
        have hP : va_P (dC, dI) vwCl [(h2, kAi cint 24 (upd f2 (n0_ran : Int32).toNatClampNeg 11)), (h0, kO5 h1 n0_size h2 (n0_ran + 1)), (h1, kAi cint 50 f1)] H := hP
        have hD : va_D A [(h2, kAi cint 24 (upd f2 (n0_ran : Int32).toNatClampNeg 11)), (h0, kO5 h1 n0_size h2 (n0_ran + 1)), (h1, kAi cint 50 f1)] := hD
        rcases hw with ⟨t_14_0, _⟩
        · skip
          have t_14_0 : r_14 = kk_leads (f1 (p0 : Int32).toNatClampNeg) 0 p0 p3 := t_14_0
          obtain rfl : r_14 = (kk_leads (f1 (p0 : Int32).toNatClampNeg) 0 p0 p3) := t_14_0
          refine lv_goto (tgt := 143) hx hb dX5_call_125 (by decide) ?_
          obtain ⟨hP9, hD9⟩ := kk_leafout (wc := [(h0, kO5 h1 n0_size h2 (n0_ran + 1)), (h1, kAi cint 50 f1), (h2, kAi cint 24 (upd f2 (n0_ran : Int32).toNatClampNeg 11))]) hP hD [1, 2, 0] (by decide) rfl
          have hK9 := kk_Ks (tq := []) hK [] rfl
          exact W.iret (v := (kk_leads (f1 (p0 : Int32).toNatClampNeg) 0 p0 p3)) hx hb hr (fun t ht hW => ⟨⟨(kk_leads (f1 (p0 : Int32).toNatClampNeg) 0 p0 p3), (), rfl, ⟨(by first | rfl | (unfold kk_leads; (repeat' split) <;> first | rfl | (exfalso; have : (0 : Int32).toInt = 0 := rfl; have : (1 : Int32).toInt = 1 := rfl; have : (2 : Int32).toInt = 2 := rfl; have : (3 : Int32).toInt = 3 := rfl; have : (4 : Int32).toInt = 4 := rfl; have : (5 : Int32).toInt = 5 := rfl; have : (6 : Int32).toInt = 6 := rfl; have : (7 : Int32).toInt = 7 := rfl; have := kk_add2 (x := n0_ran) (y := 1) (a := n0_ran.toInt) (b := 1) rfl rfl (by omega) (by omega); have := kk_add2 (x := p4) (y := 1) (a := p4.toInt) (b := 1) rfl rfl (by omega) (by omega); omega))), trivial⟩, (n0_ran + 1), (upd f2 (n0_ran : Int32).toNatClampNeg 11), (by show 1 ≤ ((n0_ran + 1) : Int32).toInt ∧ ((n0_ran + 1) : Int32).toInt ≤ 1000; first | with_reducible assumption | (constructor <;> (have := kk_add2 (x := n0_ran) (y := 1) (a := n0_ran.toInt) (b := 1) rfl rfl (by omega) (by omega); have := kk_add2 (x := p4) (y := 1) (a := p4.toInt) (b := 1) rfl rfl (by omega) (by omega); omega))), (by show ((n0_ran + 1) : Int32).toInt ≤ (n0_ran : Int32).toInt + 6; first | with_reducible assumption | (have := kk_add2 (x := n0_ran) (y := 1) (a := n0_ran.toInt) (b := 1) rfl rfl (by omega) (by omega); have := kk_add2 (x := p4) (y := 1) (a := p4.toInt) (b := 1) rfl rfl (by omega) (by omega); omega)), (by first | exact kk_P_eq hp_13 rfl | (unfold kt_leads; (repeat' split) <;> first | exact kk_P_eq hp_13 rfl | (exfalso; have : (0 : Int32).toInt = 0 := rfl; have : (1 : Int32).toInt = 1 := rfl; have : (2 : Int32).toInt = 2 := rfl; have : (3 : Int32).toInt = 3 := rfl; have : (4 : Int32).toInt = 4 := rfl; have : (5 : Int32).toInt = 5 := rfl; have : (6 : Int32).toInt = 6 := rfl; have : (7 : Int32).toInt = 7 := rfl; have := kk_add2 (x := n0_ran) (y := 1) (a := n0_ran.toInt) (b := 1) rfl rfl (by omega) (by omega); have := kk_add2 (x := p4) (y := 1) (a := p4.toInt) (b := 1) rfl rfl (by omega) (by omega); omega))), by rw [ht]; exact hP9, va_K.moved hW.alike hK9, hD9⟩, hS.F ht⟩) hS.2.2 dX5_call_143
    · have t_6 : 40 < p4.toInt := kk_nle c_6
      exfalso; omega
  · have t_1 : p1.toInt = 1 := by rw [e_1]; rfl
    subst e_1
    refine lv_iload_n hx hb dX5_call_0 rfl (lv_at hl 2 rfl) ?_
    refine lv_istore hx hb dX5_call_1 hl (by decide) (rfl : _ = ([(6, .int 1), (0, .ref h0), (1, .int p0), (2, .int 1), (3, .int 2), (4, .int p3), (5, .int p4)] : List (Nat × Value))) (fun ls hl => ?_)
    refine lv_iconst (v := 0) hx hb dX5_call_3 kk_ic_0 ?_
    refine lv_istore hx hb dX5_call_4 hl (by decide) (rfl : _ = ([(7, .int 0), (6, .int 1), (0, .ref h0), (1, .int p0), (2, .int 1), (3, .int 2), (4, .int p3), (5, .int p4)] : List (Nat × Value))) (fun ls hl => ?_)
    refine lv_iload hx hb dX5_call_6 (lv_at hl 0 rfl) ?_
    refine lv_bipush (v := 8) hx hb dX5_call_8 kk_bi_8 ?_
    refine lv_icmp_ge (tgt := 48) hx hb dX5_call_10 (by decide) (fun c => absurd c (by decide)) (fun _ => ?_)
    refine lv_iload hx hb dX5_call_13 (lv_at hl 1 rfl) ?_
    obtain ⟨hPc, hDc, hFc⟩ := kk_cutout (wc := []) hP hD hS hA [] (by decide) rfl
    have hKc := kk_Ks (tq := []) hK [] rfl
    refine va_calli (va_runS (As := [.int 1]) (rest := []) ⟨hx, hb, hml, hown, hts⟩ (g_X5_isKind_12 l dC dI s.heap.size) (va_cwS 1 hts gX5_call_X5_isKind rfl rfl rfl kh_X5_isKind ⟨Nat.le_of_ble_eq_true rfl, Nat.le_of_ble_eq_true rfl⟩) ⟨fun a U g mk q => by obtain ⟨q0, q1, qP, qK, qD⟩ := q; exact ⟨q0, q1, qP, va_K.moved (u := U) (U := U.calling g mk a) (Vm.Alike.refl U.vm) qK, qD⟩, fun U hU hW => ⟨rfl, by rw [hU], by rw [hU]; exact hPc, va_K.moved hW.alike hKc, hDc.weaken (fun _ _ _ _ => trivial)⟩⟩ rfl rfl hl.1 rfl (lv_room (Nat.le_of_ble_eq_true rfl)) dX5_call_15 ⟨Nat.le_of_ble_eq_true rfl, Nat.le_of_ble_eq_true rfl⟩) hS (fun q _ h => hFc q h) hFc (fun r_15 u t H1 locs ht hvm hw hB hz1 hk1 hS => ?_)
    obtain ⟨hP1, hK1, hD1⟩ := hB
    rw [ht] at hP1
    have hK1 := va_K.moved hvm.symm hK1
    obtain ⟨hP, hD⟩ := va_join (wr := [(h0, kO5 h1 n0_size h2 n0_ran), (h1, kAi cint 50 f1), (h2, kAi cint 24 f2)]) (w1 := []) hP hD [] [0, 1, 2] rfl rfl (by decide) (by decide) hk1 hFc hP1 hD1
    generalize H1 = H at hP hS ⊢
    have hP : va_P (dC, dI) vwCl [(h0, kO5 h1 n0_size h2 n0_ran), (h1, kAi cint 50 f1), (h2, kAi cint 24 f2)] H := hP
    have hD : va_D A [(h0, kO5 h1 n0_size h2 n0_ran), (h1, kAi cint 50 f1), (h2, kAi cint 24 f2)] := hD
    obtain rfl := hw
    refine lv_if_eq (tgt := 48) hx hb dX5_call_18 (by decide) (fun c => absurd c (by decide)) (fun _ => ?_)
    refine va_gets hx hb hZOWN_BODIES hS hown (hts (.fieldLink RX5 43 "KinkStreet$Lines" "OWN_BODIES" "[I") (List.mem_of_getElem? (i := 1) rfl)) (fun _ h9 => h9) dX5_call_21 ?_
    refine lv_iload hx hb dX5_call_24 (lv_at hl 1 rfl) ?_
    refine lv_iconst (v := 4) hx hb dX5_call_26 kk_ic_4 ?_
    refine lv_imul hx hb dX5_call_27 ?_
    refine lv_topi (fun y_16 e_16 => ?_)
    obtain rfl : y_16 = 4 := e_16.trans (by decide)
    refine lv_iload_n hx hb dX5_call_28 rfl (lv_at hl 5 rfl) ?_
    refine lv_iadd hx hb dX5_call_29 ?_
    refine lv_topi (fun y_17 e_17 => ?_)
    obtain rfl : y_17 = 6 := e_17.trans (by decide)
    refine va_ti (v := .int 0) hx hb hTOWN_BODIES hS (by unfold vp_in; decide) rfl dX5_call_30 ?_
    refine lv_if_ne (tgt := 48) hx hb dX5_call_31 (by decide) (fun c => absurd c (by decide)) (fun _ => ?_)
    refine va_gets hx hb hZABOVE hS hown (hts (.fieldLink RX5 22 "KinkStreet$Lines" "ABOVE" "[I") (List.mem_of_getElem? (i := 2) rfl)) (fun _ h9 => h9) dX5_call_34 ?_
    refine lv_iload hx hb dX5_call_37 (lv_at hl 1 rfl) ?_
    refine va_ti (v := .int 0) hx hb hTABOVE hS (by unfold vp_in; decide) rfl dX5_call_39 ?_
    refine lv_istore hx hb dX5_call_40 hl (by decide) (rfl : _ = ([(6, .int 0), (7, .int 0), (0, .ref h0), (1, .int p0), (2, .int 1), (3, .int 2), (4, .int p3), (5, .int p4)] : List (Nat × Value))) (fun ls hl => ?_)
    refine lv_iinc (v := 1) hx hb dX5_call_42 hl (k := 1) rfl (by first | rfl | decide) (by decide) (rfl : _ = ([(7, .int 1), (6, .int 0), (0, .ref h0), (1, .int p0), (2, .int 1), (3, .int 2), (4, .int p3), (5, .int p4)] : List (Nat × Value))) (fun ls hl => ?_)
    refine lv_goto (tgt := 6) hx hb dX5_call_45 (by decide) ?_
    refine lv_iload hx hb dX5_call_6 (lv_at hl 0 rfl) ?_
    refine lv_bipush (v := 8) hx hb dX5_call_8 kk_bi_8 ?_
    refine lv_icmp_ge (tgt := 48) hx hb dX5_call_10 (by decide) (fun c => absurd c (by decide)) (fun _ => ?_)
    refine lv_iload hx hb dX5_call_13 (lv_at hl 1 rfl) ?_
    obtain ⟨hPc, hDc, hFc⟩ := kk_cutout (wc := []) hP hD hS hA [] (by decide) rfl
    have hKc := kk_Ks (tq := []) hK [] rfl
    refine va_calli (va_runS (As := [.int 0]) (rest := []) ⟨hx, hb, hml, hown, hts⟩ (g_X5_isKind_11 l dC dI H.size) (va_cwS 1 hts gX5_call_X5_isKind rfl rfl rfl kh_X5_isKind ⟨Nat.le_of_ble_eq_true rfl, Nat.le_of_ble_eq_true rfl⟩) ⟨fun a U g mk q => by obtain ⟨q0, q1, qP, qK, qD⟩ := q; exact ⟨q0, q1, qP, va_K.moved (u := U) (U := U.calling g mk a) (Vm.Alike.refl U.vm) qK, qD⟩, fun U hU hW => ⟨rfl, by rw [hU], by rw [hU]; exact hPc, va_K.moved hW.alike hKc, hDc.weaken (fun _ _ _ _ => trivial)⟩⟩ rfl rfl hl.1 rfl (lv_room (Nat.le_of_ble_eq_true rfl)) dX5_call_15 ⟨Nat.le_of_ble_eq_true rfl, Nat.le_of_ble_eq_true rfl⟩) hS (fun q _ h => hFc q h) hFc (fun r_18 u t H1 locs ht hvm hw hB hz1 hk1 hS => ?_)
    obtain ⟨hP1, hK1, hD1⟩ := hB
    rw [ht] at hP1
    have hK1 := va_K.moved hvm.symm hK1
    obtain ⟨hP, hD⟩ := va_join (wr := [(h0, kO5 h1 n0_size h2 n0_ran), (h1, kAi cint 50 f1), (h2, kAi cint 24 f2)]) (w1 := []) hP hD [] [0, 1, 2] rfl rfl (by decide) (by decide) hk1 hFc hP1 hD1
    generalize H1 = H at hP hS ⊢
    have hP : va_P (dC, dI) vwCl [(h0, kO5 h1 n0_size h2 n0_ran), (h1, kAi cint 50 f1), (h2, kAi cint 24 f2)] H := hP
    have hD : va_D A [(h0, kO5 h1 n0_size h2 n0_ran), (h1, kAi cint 50 f1), (h2, kAi cint 24 f2)] := hD
    obtain rfl := hw
    refine lv_if_eq (tgt := 48) hx hb dX5_call_18 (by decide) (fun c => absurd c (by decide)) (fun _ => ?_)
    refine va_gets hx hb hZOWN_BODIES hS hown (hts (.fieldLink RX5 43 "KinkStreet$Lines" "OWN_BODIES" "[I") (List.mem_of_getElem? (i := 1) rfl)) (fun _ h9 => h9) dX5_call_21 ?_
    refine lv_iload hx hb dX5_call_24 (lv_at hl 1 rfl) ?_
    refine lv_iconst (v := 4) hx hb dX5_call_26 kk_ic_4 ?_
    refine lv_imul hx hb dX5_call_27 ?_
    refine lv_topi (fun y_19 e_19 => ?_)
    obtain rfl : y_19 = 0 := e_19.trans (by decide)
    refine lv_iload_n hx hb dX5_call_28 rfl (lv_at hl 5 rfl) ?_
    refine lv_iadd hx hb dX5_call_29 ?_
    refine lv_topi (fun y_20 e_20 => ?_)
    obtain rfl : y_20 = 2 := e_20.trans (by decide)
    refine va_ti (v := .int 11) hx hb hTOWN_BODIES hS (by unfold vp_in; decide) rfl dX5_call_30 ?_
    refine lv_if_ne (tgt := 48) hx hb dX5_call_31 (by decide) (fun _ => ?_) (fun c => absurd c (by decide))
    refine lv_iload hx hb dX5_call_48 (lv_at hl 1 rfl) ?_
    obtain ⟨hPc, hDc, hFc⟩ := kk_cutout (wc := []) hP hD hS hA [] (by decide) rfl
    have hKc := kk_Ks (tq := []) hK [] rfl
    refine va_calli (va_runS (As := [.int 0]) (rest := []) ⟨hx, hb, hml, hown, hts⟩ (g_X5_isKind_11 l dC dI H.size) (va_cwS 1 hts gX5_call_X5_isKind rfl rfl rfl kh_X5_isKind ⟨Nat.le_of_ble_eq_true rfl, Nat.le_of_ble_eq_true rfl⟩) ⟨fun a U g mk q => by obtain ⟨q0, q1, qP, qK, qD⟩ := q; exact ⟨q0, q1, qP, va_K.moved (u := U) (U := U.calling g mk a) (Vm.Alike.refl U.vm) qK, qD⟩, fun U hU hW => ⟨rfl, by rw [hU], by rw [hU]; exact hPc, va_K.moved hW.alike hKc, hDc.weaken (fun _ _ _ _ => trivial)⟩⟩ rfl rfl hl.1 rfl (lv_room (Nat.le_of_ble_eq_true rfl)) dX5_call_50 ⟨Nat.le_of_ble_eq_true rfl, Nat.le_of_ble_eq_true rfl⟩) hS (fun q _ h => hFc q h) hFc (fun r_21 u t H1 locs ht hvm hw hB hz1 hk1 hS => ?_)
    obtain ⟨hP1, hK1, hD1⟩ := hB
    rw [ht] at hP1
    have hK1 := va_K.moved hvm.symm hK1
    obtain ⟨hP, hD⟩ := va_join (wr := [(h0, kO5 h1 n0_size h2 n0_ran), (h1, kAi cint 50 f1), (h2, kAi cint 24 f2)]) (w1 := []) hP hD [] [0, 1, 2] rfl rfl (by decide) (by decide) hk1 hFc hP1 hD1
    generalize H1 = H at hP hS ⊢
    have hP : va_P (dC, dI) vwCl [(h0, kO5 h1 n0_size h2 n0_ran), (h1, kAi cint 50 f1), (h2, kAi cint 24 f2)] H := hP
    have hD : va_D A [(h0, kO5 h1 n0_size h2 n0_ran), (h1, kAi cint 50 f1), (h2, kAi cint 24 f2)] := hD
    obtain rfl := hw
    refine lv_if_eq (tgt := 63) hx hb dX5_call_53 (by decide) (fun c => absurd c (by decide)) (fun _ => ?_)
    refine lv_iload hx hb dX5_call_56 (lv_at hl 7 rfl) ?_
    refine lv_bipush (v := 40) hx hb dX5_call_58 kk_bi_40 ?_
    refine lv_icmp_le (tgt := 65) hx hb dX5_call_60 (by decide) (fun c_22 => ?_) (fun c_22 => ?_)
    · have t_22 : p4.toInt ≤ 40 := kk_le c_22
      refine va_gets hx hb hZOWN_BODIES hS hown (hts (.fieldLink RX5 43 "KinkStreet$Lines" "OWN_BODIES" "[I") (List.mem_of_getElem? (i := 1) rfl)) (fun _ h9 => h9) dX5_call_65 ?_
      refine lv_iload hx hb dX5_call_68 (lv_at hl 1 rfl) ?_
      refine lv_iconst (v := 4) hx hb dX5_call_70 kk_ic_4 ?_
      refine lv_imul hx hb dX5_call_71 ?_
      refine lv_topi (fun y_23 e_23 => ?_)
      obtain rfl : y_23 = 0 := e_23.trans (by decide)
      refine lv_iload_n hx hb dX5_call_72 rfl (lv_at hl 5 rfl) ?_
      refine lv_iadd hx hb dX5_call_73 ?_
      refine lv_topi (fun y_24 e_24 => ?_)
      obtain rfl : y_24 = 2 := e_24.trans (by decide)
      refine va_ti (v := .int 11) hx hb hTOWN_BODIES hS (by unfold vp_in; decide) rfl dX5_call_74 ?_
      refine lv_istore hx hb dX5_call_75 hl (by decide) (rfl : _ = ([(7, .int 11), (6, .int 0), (0, .ref h0), (1, .int p0), (2, .int 1), (3, .int 2), (4, .int p3), (5, .int p4)] : List (Nat × Value))) (fun ls hl => ?_)
      refine lv_aload_n hx hb dX5_call_77 rfl (lv_at hl 2 rfl) ?_
      refine va_get (D := (dC, dI)) (ci := 5) (v := .int n0_ran) (C := RX5) (T := TX5) (N := 4) hx hb hts (fun _ h => List.mem_cons_of_mem _ (List.mem_append_right _ h)) hown hK hP 0 rfl rfl 3 (by decide) (hts (.fieldLink RX5 36 "KinkStreet$Lines" "ran" "I") (List.mem_of_getElem? (i := 3) rfl)) (fun _ h9 => h9) rfl dX5_call_78 ?_
      refine lv_bipush (v := 24) hx hb dX5_call_81 kk_bi_24 ?_
      refine lv_icmp_ge (tgt := 97) hx hb dX5_call_83 (by decide) (fun c_25 => ?_) (fun c_25 => ?_)
      · have t_25 : 24 ≤ n0_ran.toInt := kk_le c_25
        refine lv_aload_n hx hb dX5_call_97 rfl (lv_at hl 2 rfl) ?_
        refine lv_dup hx hb dX5_call_98 rfl ?_
        refine va_get (D := (dC, dI)) (ci := 5) (v := .int n0_ran) (C := RX5) (T := TX5) (N := 4) hx hb hts (fun _ h => List.mem_cons_of_mem _ (List.mem_append_right _ h)) hown hK hP 0 rfl rfl 3 (by decide) (hts (.fieldLink RX5 36 "KinkStreet$Lines" "ran" "I") (List.mem_of_getElem? (i := 3) rfl)) (fun _ h9 => h9) rfl dX5_call_99 ?_
        refine lv_iconst (v := 1) hx hb dX5_call_102 kk_ic_1 ?_
        refine lv_iadd hx hb dX5_call_103 ?_
        refine va_put (D := (dC, dI)) (ci := 5) (v := .int (n0_ran + 1)) (ty := .int) (C := RX5) (T := TX5) (N := 4) hx hb hts (fun _ h => List.mem_cons_of_mem _ (List.mem_append_right _ h)) tyX5 tyX5_ok nmX5 hown hK hP hD hS 0 rfl rfl 3 (by decide) (hts (.fieldLink RX5 36 "KinkStreet$Lines" "ran" "I") (List.mem_of_getElem? (i := 3) rfl)) (fun _ h9 => h9) rfl (by decide +kernel) rfl rfl (Nat.le_of_ble_eq_true rfl) dX5_call_104 (fun H locs hP hD hS => ?_)
        have hP : va_P (dC, dI) vwCl [(h0, kO5 h1 n0_size h2 (n0_ran + 1)), (h1, kAi cint 50 f1), (h2, kAi cint 24 f2)] H := hP
        have hD : va_D A [(h0, kO5 h1 n0_size h2 (n0_ran + 1)), (h1, kAi cint 50 f1), (h2, kAi cint 24 f2)] := hD
        have hp_26 : kk_P f2 f2 n0_ran.toInt (n0_ran + 1 : Int32).toInt [11] := kk_P_out (by have := kk_add2 (x := n0_ran) (y := 1) (a := n0_ran.toInt) (b := 1) rfl rfl (by omega) (by omega); omega) (by have := kk_add2 (x := n0_ran) (y := 1) (a := n0_ran.toInt) (b := 1) rfl rfl (by omega) (by omega); omega)
        refine lv_iload hx hb dX5_call_107 (lv_at hl 1 rfl) ?_
        refine lv_if_ne (tgt := 128) hx hb dX5_call_109 (by decide) (fun c => absurd c (by decide)) (fun _ => ?_)
        refine lv_aload_n hx hb dX5_call_112 rfl (lv_at hl 2 rfl) ?_
        refine lv_iload_n hx hb dX5_call_113 rfl (lv_at hl 3 rfl) ?_
        refine lv_iload hx hb dX5_call_114 (lv_at hl 0 rfl) ?_
        refine lv_iload hx hb dX5_call_116 (lv_at hl 6 rfl) ?_
        refine lv_iload hx hb dX5_call_118 (lv_at hl 7 rfl) ?_
        refine lv_iconst (v := 1) hx hb dX5_call_120 kk_ic_1 ?_
        refine lv_iadd hx hb dX5_call_121 ?_
        obtain ⟨hPc, hDc, hFc⟩ := kk_cutout (wc := [(h0, kO5 h1 n0_size h2 (n0_ran + 1)), (h1, kAi cint 50 f1)]) hP hD hS hA [0, 1] (by decide) rfl
        have hKc := kk_Ks (tq := [(cint, .int)]) hK [0] rfl
        refine va_calli (va_runV (As := [.int p0, .int 11, .int p3, .int (p4 + 1)]) (rest := []) ⟨hx, hb, hml, hown, hts⟩ (g_X5_runLine_6 l dC dI h0 h1 h2 cint H.size p0 p3 (p4 + 1) (by show 0 ≤ ((p4 + 1) : Int32).toInt ∧ ((p4 + 1) : Int32).toInt ≤ 15; first | with_reducible assumption | (constructor <;> (have := kk_add2 (x := n0_ran) (y := 1) (a := n0_ran.toInt) (b := 1) rfl rfl (by omega) (by omega); have := kk_add2 (x := p4) (y := 1) (a := p4.toInt) (b := 1) rfl rfl (by omega) (by omega); omega))) n0_size (n0_ran + 1) f1 tn0_size (by show 0 ≤ ((n0_ran + 1) : Int32).toInt ∧ ((n0_ran + 1) : Int32).toInt ≤ 1000; first | with_reducible assumption | (constructor <;> (have := kk_add2 (x := n0_ran) (y := 1) (a := n0_ran.toInt) (b := 1) rfl rfl (by omega) (by omega); have := kk_add2 (x := p4) (y := 1) (a := p4.toInt) (b := 1) rfl rfl (by omega) (by omega); omega))) bf1 (by show (0 ≤ (p0 : Int32).toInt ∧ (p0 : Int32).toInt < (n0_size : Int32).toInt); first | with_reducible assumption | (have := kk_add2 (x := n0_ran) (y := 1) (a := n0_ran.toInt) (b := 1) rfl rfl (by omega) (by omega); have := kk_add2 (x := p4) (y := 1) (a := p4.toInt) (b := 1) rfl rfl (by omega) (by omega); omega))) (cwV 4 hts gX5_call_X5_runLine rfl rfl rfl ⟨rfl, kh_X5_runLine⟩ ⟨Nat.le_of_ble_eq_true rfl, Nat.le_of_ble_eq_true rfl⟩) ⟨fun a U g mk q => by obtain ⟨q0, q1, qP, qK, qD⟩ := q; exact ⟨q0, q1, qP, va_K.moved (u := U) (U := U.calling g mk a) (Vm.Alike.refl U.vm) qK, qD⟩, va_recv hKc hPc (ci := 5) (q0 := 0) rfl rfl, fun U hU hW => ⟨rfl, by rw [hU], by rw [hU]; exact hPc, va_K.moved hW.alike hKc, hDc.weaken (fun _ _ _ _ => trivial)⟩⟩ rfl rfl hl.1 rfl (lv_room (Nat.le_of_ble_eq_true rfl)) dX5_call_122 ⟨Nat.le_of_ble_eq_true rfl, Nat.le_of_ble_eq_true rfl⟩) hS (fun q _ h => hFc q h) hFc (fun r_27 u t H1 locs ht hvm hw hB hz1 hk1 hS => ?_)
        obtain ⟨hP1, hK1, hD1⟩ := hB
        rw [ht] at hP1
        have hK1 := va_K.moved hvm.symm hK1
        obtain ⟨hP, hD⟩ := va_join (wr := [(h2, kAi cint 24 f2)]) (w1 := [(h0, kO5 h1 n0_size h2 (n0_ran + 1)), (h1, kAi cint 50 f1)]) hP hD [0, 1] [2] rfl rfl (by decide) (by decide) hk1 hFc hP1 hD1
        generalize H1 = H at hP hS ⊢
        have hP : va_P (dC, dI) vwCl [(h2, kAi cint 24 f2), (h0, kO5 h1 n0_size h2 (n0_ran + 1)), (h1, kAi cint 50 f1)] H := hP
        have hD : va_D A [(h2, kAi cint 24 f2), (h0, kO5 h1 n0_size h2 (n0_ran + 1)), (h1, kAi cint 50 f1)] := hD
        rcases hw with ⟨t_27_0, _⟩
        · skip
          have t_27_0 : r_27 = kk_leads (f1 (p0 : Int32).toNatClampNeg) 0 p0 p3 := t_27_0
          obtain rfl : r_27 = (kk_leads (f1 (p0 : Int32).toNatClampNeg) 0 p0 p3) := t_27_0
          refine lv_goto (tgt := 143) hx hb dX5_call_125 (by decide) ?_
          obtain ⟨hP9, hD9⟩ := kk_leafout (wc := [(h0, kO5 h1 n0_size h2 (n0_ran + 1)), (h1, kAi cint 50 f1), (h2, kAi cint 24 f2)]) hP hD [1, 2, 0] (by decide) rfl
          have hK9 := kk_Ks (tq := []) hK [] rfl
          exact W.iret (v := (kk_leads (f1 (p0 : Int32).toNatClampNeg) 0 p0 p3)) hx hb hr (fun t ht hW => ⟨⟨(kk_leads (f1 (p0 : Int32).toNatClampNeg) 0 p0 p3), (), rfl, ⟨(by first | rfl | (unfold kk_leads; (repeat' split) <;> first | rfl | (exfalso; have : (0 : Int32).toInt = 0 := rfl; have : (1 : Int32).toInt = 1 := rfl; have : (2 : Int32).toInt = 2 := rfl; have : (3 : Int32).toInt = 3 := rfl; have : (4 : Int32).toInt = 4 := rfl; have : (5 : Int32).toInt = 5 := rfl; have : (6 : Int32).toInt = 6 := rfl; have : (7 : Int32).toInt = 7 := rfl; have := kk_add2 (x := n0_ran) (y := 1) (a := n0_ran.toInt) (b := 1) rfl rfl (by omega) (by omega); have := kk_add2 (x := p4) (y := 1) (a := p4.toInt) (b := 1) rfl rfl (by omega) (by omega); omega))), trivial⟩, (n0_ran + 1), f2, (by show 1 ≤ ((n0_ran + 1) : Int32).toInt ∧ ((n0_ran + 1) : Int32).toInt ≤ 1000; first | with_reducible assumption | (constructor <;> (have := kk_add2 (x := n0_ran) (y := 1) (a := n0_ran.toInt) (b := 1) rfl rfl (by omega) (by omega); have := kk_add2 (x := p4) (y := 1) (a := p4.toInt) (b := 1) rfl rfl (by omega) (by omega); omega))), (by show ((n0_ran + 1) : Int32).toInt ≤ (n0_ran : Int32).toInt + 6; first | with_reducible assumption | (have := kk_add2 (x := n0_ran) (y := 1) (a := n0_ran.toInt) (b := 1) rfl rfl (by omega) (by omega); have := kk_add2 (x := p4) (y := 1) (a := p4.toInt) (b := 1) rfl rfl (by omega) (by omega); omega)), (by first | exact kk_P_eq hp_26 rfl | (unfold kt_leads; (repeat' split) <;> first | exact kk_P_eq hp_26 rfl | (exfalso; have : (0 : Int32).toInt = 0 := rfl; have : (1 : Int32).toInt = 1 := rfl; have : (2 : Int32).toInt = 2 := rfl; have : (3 : Int32).toInt = 3 := rfl; have : (4 : Int32).toInt = 4 := rfl; have : (5 : Int32).toInt = 5 := rfl; have : (6 : Int32).toInt = 6 := rfl; have : (7 : Int32).toInt = 7 := rfl; have := kk_add2 (x := n0_ran) (y := 1) (a := n0_ran.toInt) (b := 1) rfl rfl (by omega) (by omega); have := kk_add2 (x := p4) (y := 1) (a := p4.toInt) (b := 1) rfl rfl (by omega) (by omega); omega))), by rw [ht]; exact hP9, va_K.moved hW.alike hK9, hD9⟩, hS.F ht⟩) hS.2.2 dX5_call_143
      · have t_25 : n0_ran.toInt < 24 := kk_nle c_25
        refine lv_aload_n hx hb dX5_call_86 rfl (lv_at hl 2 rfl) ?_
        refine va_get (D := (dC, dI)) (ci := 5) (v := .ref h2) (C := RX5) (T := TX5) (N := 4) hx hb hts (fun _ h => List.mem_cons_of_mem _ (List.mem_append_right _ h)) hown hK hP 0 rfl rfl 2 (by decide) (hts (.fieldLink RX5 15 "KinkStreet$Lines" "trace" "[I") (List.mem_of_getElem? (i := 4) rfl)) (fun _ h9 => h9) rfl dX5_call_87 ?_
        refine lv_aload_n hx hb dX5_call_90 rfl (lv_at hl 2 rfl) ?_
        refine va_get (D := (dC, dI)) (ci := 5) (v := .int n0_ran) (C := RX5) (T := TX5) (N := 4) hx hb hts (fun _ h => List.mem_cons_of_mem _ (List.mem_append_right _ h)) hown hK hP 0 rfl rfl 3 (by decide) (hts (.fieldLink RX5 36 "KinkStreet$Lines" "ran" "I") (List.mem_of_getElem? (i := 3) rfl)) (fun _ h9 => h9) rfl dX5_call_91 ?_
        refine lv_iload hx hb dX5_call_94 (lv_at hl 0 rfl) ?_
        refine va_iast hx hb hK hP hD hS 2 0 rfl rfl (vp_in_iff.mpr ⟨by omega, by omega⟩) dX5_call_96 (fun H locs hP hD hS => ?_)
        have w_28 : ((upd f2 (n0_ran : Int32).toNatClampNeg 11) (n0_ran : Int32).toNatClampNeg).toInt = (11 : Int32).toInt := by rw [kk_ups]
        have hP : va_P (dC, dI) vwCl [(h0, kO5 h1 n0_size h2 n0_ran), (h1, kAi cint 50 f1), (h2, kAi cint 24 (upd f2 (n0_ran : Int32).toNatClampNeg 11))] H := hP
        have hD : va_D A [(h0, kO5 h1 n0_size h2 n0_ran), (h1, kAi cint 50 f1), (h2, kAi cint 24 (upd f2 (n0_ran : Int32).toNatClampNeg 11))] := hD
        refine lv_aload_n hx hb dX5_call_97 rfl (lv_at hl 2 rfl) ?_
        refine lv_dup hx hb dX5_call_98 rfl ?_
        refine va_get (D := (dC, dI)) (ci := 5) (v := .int n0_ran) (C := RX5) (T := TX5) (N := 4) hx hb hts (fun _ h => List.mem_cons_of_mem _ (List.mem_append_right _ h)) hown hK hP 0 rfl rfl 3 (by decide) (hts (.fieldLink RX5 36 "KinkStreet$Lines" "ran" "I") (List.mem_of_getElem? (i := 3) rfl)) (fun _ h9 => h9) rfl dX5_call_99 ?_
        refine lv_iconst (v := 1) hx hb dX5_call_102 kk_ic_1 ?_
        refine lv_iadd hx hb dX5_call_103 ?_
        refine va_put (D := (dC, dI)) (ci := 5) (v := .int (n0_ran + 1)) (ty := .int) (C := RX5) (T := TX5) (N := 4) hx hb hts (fun _ h => List.mem_cons_of_mem _ (List.mem_append_right _ h)) tyX5 tyX5_ok nmX5 hown hK hP hD hS 0 rfl rfl 3 (by decide) (hts (.fieldLink RX5 36 "KinkStreet$Lines" "ran" "I") (List.mem_of_getElem? (i := 3) rfl)) (fun _ h9 => h9) rfl (by decide +kernel) rfl rfl (Nat.le_of_ble_eq_true rfl) dX5_call_104 (fun H locs hP hD hS => ?_)
        have hP : va_P (dC, dI) vwCl [(h0, kO5 h1 n0_size h2 (n0_ran + 1)), (h1, kAi cint 50 f1), (h2, kAi cint 24 (upd f2 (n0_ran : Int32).toNatClampNeg 11))] H := hP
        have hD : va_D A [(h0, kO5 h1 n0_size h2 (n0_ran + 1)), (h1, kAi cint 50 f1), (h2, kAi cint 24 (upd f2 (n0_ran : Int32).toNatClampNeg 11))] := hD
        have hp_29 : kk_P f2 (upd f2 (n0_ran : Int32).toNatClampNeg 11) n0_ran.toInt (n0_ran + 1 : Int32).toInt [11] := kk_P_one (by have := kk_add2 (x := n0_ran) (y := 1) (a := n0_ran.toInt) (b := 1) rfl rfl (by omega) (by omega); omega) (by have := kk_add2 (x := n0_ran) (y := 1) (a := n0_ran.toInt) (b := 1) rfl rfl (by omega) (by omega); omega)
        refine lv_iload hx hb dX5_call_107 (lv_at hl 1 rfl) ?_
        refine lv_if_ne (tgt := 128) hx hb dX5_call_109 (by decide) (fun c => absurd c (by decide)) (fun _ => ?_)
        refine lv_aload_n hx hb dX5_call_112 rfl (lv_at hl 2 rfl) ?_
        refine lv_iload_n hx hb dX5_call_113 rfl (lv_at hl 3 rfl) ?_
        refine lv_iload hx hb dX5_call_114 (lv_at hl 0 rfl) ?_
        refine lv_iload hx hb dX5_call_116 (lv_at hl 6 rfl) ?_
        refine lv_iload hx hb dX5_call_118 (lv_at hl 7 rfl) ?_
        refine lv_iconst (v := 1) hx hb dX5_call_120 kk_ic_1 ?_
        refine lv_iadd hx hb dX5_call_121 ?_
        obtain ⟨hPc, hDc, hFc⟩ := kk_cutout (wc := [(h0, kO5 h1 n0_size h2 (n0_ran + 1)), (h1, kAi cint 50 f1)]) hP hD hS hA [0, 1] (by decide) rfl
        have hKc := kk_Ks (tq := [(cint, .int)]) hK [0] rfl
        refine va_calli (va_runV (As := [.int p0, .int 11, .int p3, .int (p4 + 1)]) (rest := []) ⟨hx, hb, hml, hown, hts⟩ (g_X5_runLine_6 l dC dI h0 h1 h2 cint H.size p0 p3 (p4 + 1) (by show 0 ≤ ((p4 + 1) : Int32).toInt ∧ ((p4 + 1) : Int32).toInt ≤ 15; first | with_reducible assumption | (constructor <;> (have := kk_add2 (x := n0_ran) (y := 1) (a := n0_ran.toInt) (b := 1) rfl rfl (by omega) (by omega); have := kk_add2 (x := p4) (y := 1) (a := p4.toInt) (b := 1) rfl rfl (by omega) (by omega); omega))) n0_size (n0_ran + 1) f1 tn0_size (by show 0 ≤ ((n0_ran + 1) : Int32).toInt ∧ ((n0_ran + 1) : Int32).toInt ≤ 1000; first | with_reducible assumption | (constructor <;> (have := kk_add2 (x := n0_ran) (y := 1) (a := n0_ran.toInt) (b := 1) rfl rfl (by omega) (by omega); have := kk_add2 (x := p4) (y := 1) (a := p4.toInt) (b := 1) rfl rfl (by omega) (by omega); omega))) bf1 (by show (0 ≤ (p0 : Int32).toInt ∧ (p0 : Int32).toInt < (n0_size : Int32).toInt); first | with_reducible assumption | (have := kk_add2 (x := n0_ran) (y := 1) (a := n0_ran.toInt) (b := 1) rfl rfl (by omega) (by omega); have := kk_add2 (x := p4) (y := 1) (a := p4.toInt) (b := 1) rfl rfl (by omega) (by omega); omega))) (cwV 4 hts gX5_call_X5_runLine rfl rfl rfl ⟨rfl, kh_X5_runLine⟩ ⟨Nat.le_of_ble_eq_true rfl, Nat.le_of_ble_eq_true rfl⟩) ⟨fun a U g mk q => by obtain ⟨q0, q1, qP, qK, qD⟩ := q; exact ⟨q0, q1, qP, va_K.moved (u := U) (U := U.calling g mk a) (Vm.Alike.refl U.vm) qK, qD⟩, va_recv hKc hPc (ci := 5) (q0 := 0) rfl rfl, fun U hU hW => ⟨rfl, by rw [hU], by rw [hU]; exact hPc, va_K.moved hW.alike hKc, hDc.weaken (fun _ _ _ _ => trivial)⟩⟩ rfl rfl hl.1 rfl (lv_room (Nat.le_of_ble_eq_true rfl)) dX5_call_122 ⟨Nat.le_of_ble_eq_true rfl, Nat.le_of_ble_eq_true rfl⟩) hS (fun q _ h => hFc q h) hFc (fun r_30 u t H1 locs ht hvm hw hB hz1 hk1 hS => ?_)
        obtain ⟨hP1, hK1, hD1⟩ := hB
        rw [ht] at hP1
        have hK1 := va_K.moved hvm.symm hK1
        obtain ⟨hP, hD⟩ := va_join (wr := [(h2, kAi cint 24 (upd f2 (n0_ran : Int32).toNatClampNeg 11))]) (w1 := [(h0, kO5 h1 n0_size h2 (n0_ran + 1)), (h1, kAi cint 50 f1)]) hP hD [0, 1] [2] rfl rfl (by decide) (by decide) hk1 hFc hP1 hD1
        generalize H1 = H at hP hS ⊢
        have hP : va_P (dC, dI) vwCl [(h2, kAi cint 24 (upd f2 (n0_ran : Int32).toNatClampNeg 11)), (h0, kO5 h1 n0_size h2 (n0_ran + 1)), (h1, kAi cint 50 f1)] H := hP
        have hD : va_D A [(h2, kAi cint 24 (upd f2 (n0_ran : Int32).toNatClampNeg 11)), (h0, kO5 h1 n0_size h2 (n0_ran + 1)), (h1, kAi cint 50 f1)] := hD
        rcases hw with ⟨t_30_0, _⟩
        · skip
          have t_30_0 : r_30 = kk_leads (f1 (p0 : Int32).toNatClampNeg) 0 p0 p3 := t_30_0
          obtain rfl : r_30 = (kk_leads (f1 (p0 : Int32).toNatClampNeg) 0 p0 p3) := t_30_0
          refine lv_goto (tgt := 143) hx hb dX5_call_125 (by decide) ?_
          obtain ⟨hP9, hD9⟩ := kk_leafout (wc := [(h0, kO5 h1 n0_size h2 (n0_ran + 1)), (h1, kAi cint 50 f1), (h2, kAi cint 24 (upd f2 (n0_ran : Int32).toNatClampNeg 11))]) hP hD [1, 2, 0] (by decide) rfl
          have hK9 := kk_Ks (tq := []) hK [] rfl
          exact W.iret (v := (kk_leads (f1 (p0 : Int32).toNatClampNeg) 0 p0 p3)) hx hb hr (fun t ht hW => ⟨⟨(kk_leads (f1 (p0 : Int32).toNatClampNeg) 0 p0 p3), (), rfl, ⟨(by first | rfl | (unfold kk_leads; (repeat' split) <;> first | rfl | (exfalso; have : (0 : Int32).toInt = 0 := rfl; have : (1 : Int32).toInt = 1 := rfl; have : (2 : Int32).toInt = 2 := rfl; have : (3 : Int32).toInt = 3 := rfl; have : (4 : Int32).toInt = 4 := rfl; have : (5 : Int32).toInt = 5 := rfl; have : (6 : Int32).toInt = 6 := rfl; have : (7 : Int32).toInt = 7 := rfl; have := kk_add2 (x := n0_ran) (y := 1) (a := n0_ran.toInt) (b := 1) rfl rfl (by omega) (by omega); have := kk_add2 (x := p4) (y := 1) (a := p4.toInt) (b := 1) rfl rfl (by omega) (by omega); omega))), trivial⟩, (n0_ran + 1), (upd f2 (n0_ran : Int32).toNatClampNeg 11), (by show 1 ≤ ((n0_ran + 1) : Int32).toInt ∧ ((n0_ran + 1) : Int32).toInt ≤ 1000; first | with_reducible assumption | (constructor <;> (have := kk_add2 (x := n0_ran) (y := 1) (a := n0_ran.toInt) (b := 1) rfl rfl (by omega) (by omega); have := kk_add2 (x := p4) (y := 1) (a := p4.toInt) (b := 1) rfl rfl (by omega) (by omega); omega))), (by show ((n0_ran + 1) : Int32).toInt ≤ (n0_ran : Int32).toInt + 6; first | with_reducible assumption | (have := kk_add2 (x := n0_ran) (y := 1) (a := n0_ran.toInt) (b := 1) rfl rfl (by omega) (by omega); have := kk_add2 (x := p4) (y := 1) (a := p4.toInt) (b := 1) rfl rfl (by omega) (by omega); omega)), (by first | exact kk_P_eq hp_29 rfl | (unfold kt_leads; (repeat' split) <;> first | exact kk_P_eq hp_29 rfl | (exfalso; have : (0 : Int32).toInt = 0 := rfl; have : (1 : Int32).toInt = 1 := rfl; have : (2 : Int32).toInt = 2 := rfl; have : (3 : Int32).toInt = 3 := rfl; have : (4 : Int32).toInt = 4 := rfl; have : (5 : Int32).toInt = 5 := rfl; have : (6 : Int32).toInt = 6 := rfl; have : (7 : Int32).toInt = 7 := rfl; have := kk_add2 (x := n0_ran) (y := 1) (a := n0_ran.toInt) (b := 1) rfl rfl (by omega) (by omega); have := kk_add2 (x := p4) (y := 1) (a := p4.toInt) (b := 1) rfl rfl (by omega) (by omega); omega))), by rw [ht]; exact hP9, va_K.moved hW.alike hK9, hD9⟩, hS.F ht⟩) hS.2.2 dX5_call_143
    · have t_22 : 40 < p4.toInt := kk_nle c_22
      exfalso; omega
  · have t_1 : p1.toInt = 2 := by rw [e_1]; rfl
    subst e_1
    refine lv_iload_n hx hb dX5_call_0 rfl (lv_at hl 2 rfl) ?_
    refine lv_istore hx hb dX5_call_1 hl (by decide) (rfl : _ = ([(6, .int 2), (0, .ref h0), (1, .int p0), (2, .int 2), (3, .int 2), (4, .int p3), (5, .int p4)] : List (Nat × Value))) (fun ls hl => ?_)
    refine lv_iconst (v := 0) hx hb dX5_call_3 kk_ic_0 ?_
    refine lv_istore hx hb dX5_call_4 hl (by decide) (rfl : _ = ([(7, .int 0), (6, .int 2), (0, .ref h0), (1, .int p0), (2, .int 2), (3, .int 2), (4, .int p3), (5, .int p4)] : List (Nat × Value))) (fun ls hl => ?_)
    refine lv_iload hx hb dX5_call_6 (lv_at hl 0 rfl) ?_
    refine lv_bipush (v := 8) hx hb dX5_call_8 kk_bi_8 ?_
    refine lv_icmp_ge (tgt := 48) hx hb dX5_call_10 (by decide) (fun c => absurd c (by decide)) (fun _ => ?_)
    refine lv_iload hx hb dX5_call_13 (lv_at hl 1 rfl) ?_
    obtain ⟨hPc, hDc, hFc⟩ := kk_cutout (wc := []) hP hD hS hA [] (by decide) rfl
    have hKc := kk_Ks (tq := []) hK [] rfl
    refine va_calli (va_runS (As := [.int 2]) (rest := []) ⟨hx, hb, hml, hown, hts⟩ (g_X5_isKind_13 l dC dI s.heap.size) (va_cwS 1 hts gX5_call_X5_isKind rfl rfl rfl kh_X5_isKind ⟨Nat.le_of_ble_eq_true rfl, Nat.le_of_ble_eq_true rfl⟩) ⟨fun a U g mk q => by obtain ⟨q0, q1, qP, qK, qD⟩ := q; exact ⟨q0, q1, qP, va_K.moved (u := U) (U := U.calling g mk a) (Vm.Alike.refl U.vm) qK, qD⟩, fun U hU hW => ⟨rfl, by rw [hU], by rw [hU]; exact hPc, va_K.moved hW.alike hKc, hDc.weaken (fun _ _ _ _ => trivial)⟩⟩ rfl rfl hl.1 rfl (lv_room (Nat.le_of_ble_eq_true rfl)) dX5_call_15 ⟨Nat.le_of_ble_eq_true rfl, Nat.le_of_ble_eq_true rfl⟩) hS (fun q _ h => hFc q h) hFc (fun r_31 u t H1 locs ht hvm hw hB hz1 hk1 hS => ?_)
    obtain ⟨hP1, hK1, hD1⟩ := hB
    rw [ht] at hP1
    have hK1 := va_K.moved hvm.symm hK1
    obtain ⟨hP, hD⟩ := va_join (wr := [(h0, kO5 h1 n0_size h2 n0_ran), (h1, kAi cint 50 f1), (h2, kAi cint 24 f2)]) (w1 := []) hP hD [] [0, 1, 2] rfl rfl (by decide) (by decide) hk1 hFc hP1 hD1
    generalize H1 = H at hP hS ⊢
    have hP : va_P (dC, dI) vwCl [(h0, kO5 h1 n0_size h2 n0_ran), (h1, kAi cint 50 f1), (h2, kAi cint 24 f2)] H := hP
    have hD : va_D A [(h0, kO5 h1 n0_size h2 n0_ran), (h1, kAi cint 50 f1), (h2, kAi cint 24 f2)] := hD
    obtain rfl := hw
    refine lv_if_eq (tgt := 48) hx hb dX5_call_18 (by decide) (fun c => absurd c (by decide)) (fun _ => ?_)
    refine va_gets hx hb hZOWN_BODIES hS hown (hts (.fieldLink RX5 43 "KinkStreet$Lines" "OWN_BODIES" "[I") (List.mem_of_getElem? (i := 1) rfl)) (fun _ h9 => h9) dX5_call_21 ?_
    refine lv_iload hx hb dX5_call_24 (lv_at hl 1 rfl) ?_
    refine lv_iconst (v := 4) hx hb dX5_call_26 kk_ic_4 ?_
    refine lv_imul hx hb dX5_call_27 ?_
    refine lv_topi (fun y_32 e_32 => ?_)
    obtain rfl : y_32 = 8 := e_32.trans (by decide)
    refine lv_iload_n hx hb dX5_call_28 rfl (lv_at hl 5 rfl) ?_
    refine lv_iadd hx hb dX5_call_29 ?_
    refine lv_topi (fun y_33 e_33 => ?_)
    obtain rfl : y_33 = 10 := e_33.trans (by decide)
    refine va_ti (v := .int 0) hx hb hTOWN_BODIES hS (by unfold vp_in; decide) rfl dX5_call_30 ?_
    refine lv_if_ne (tgt := 48) hx hb dX5_call_31 (by decide) (fun c => absurd c (by decide)) (fun _ => ?_)
    refine va_gets hx hb hZABOVE hS hown (hts (.fieldLink RX5 22 "KinkStreet$Lines" "ABOVE" "[I") (List.mem_of_getElem? (i := 2) rfl)) (fun _ h9 => h9) dX5_call_34 ?_
    refine lv_iload hx hb dX5_call_37 (lv_at hl 1 rfl) ?_
    refine va_ti (v := .int 0) hx hb hTABOVE hS (by unfold vp_in; decide) rfl dX5_call_39 ?_
    refine lv_istore hx hb dX5_call_40 hl (by decide) (rfl : _ = ([(6, .int 0), (7, .int 0), (0, .ref h0), (1, .int p0), (2, .int 2), (3, .int 2), (4, .int p3), (5, .int p4)] : List (Nat × Value))) (fun ls hl => ?_)
    refine lv_iinc (v := 1) hx hb dX5_call_42 hl (k := 1) rfl (by first | rfl | decide) (by decide) (rfl : _ = ([(7, .int 1), (6, .int 0), (0, .ref h0), (1, .int p0), (2, .int 2), (3, .int 2), (4, .int p3), (5, .int p4)] : List (Nat × Value))) (fun ls hl => ?_)
    refine lv_goto (tgt := 6) hx hb dX5_call_45 (by decide) ?_
    refine lv_iload hx hb dX5_call_6 (lv_at hl 0 rfl) ?_
    refine lv_bipush (v := 8) hx hb dX5_call_8 kk_bi_8 ?_
    refine lv_icmp_ge (tgt := 48) hx hb dX5_call_10 (by decide) (fun c => absurd c (by decide)) (fun _ => ?_)
    refine lv_iload hx hb dX5_call_13 (lv_at hl 1 rfl) ?_
    obtain ⟨hPc, hDc, hFc⟩ := kk_cutout (wc := []) hP hD hS hA [] (by decide) rfl
    have hKc := kk_Ks (tq := []) hK [] rfl
    refine va_calli (va_runS (As := [.int 0]) (rest := []) ⟨hx, hb, hml, hown, hts⟩ (g_X5_isKind_11 l dC dI H.size) (va_cwS 1 hts gX5_call_X5_isKind rfl rfl rfl kh_X5_isKind ⟨Nat.le_of_ble_eq_true rfl, Nat.le_of_ble_eq_true rfl⟩) ⟨fun a U g mk q => by obtain ⟨q0, q1, qP, qK, qD⟩ := q; exact ⟨q0, q1, qP, va_K.moved (u := U) (U := U.calling g mk a) (Vm.Alike.refl U.vm) qK, qD⟩, fun U hU hW => ⟨rfl, by rw [hU], by rw [hU]; exact hPc, va_K.moved hW.alike hKc, hDc.weaken (fun _ _ _ _ => trivial)⟩⟩ rfl rfl hl.1 rfl (lv_room (Nat.le_of_ble_eq_true rfl)) dX5_call_15 ⟨Nat.le_of_ble_eq_true rfl, Nat.le_of_ble_eq_true rfl⟩) hS (fun q _ h => hFc q h) hFc (fun r_34 u t H1 locs ht hvm hw hB hz1 hk1 hS => ?_)
    obtain ⟨hP1, hK1, hD1⟩ := hB
    rw [ht] at hP1
    have hK1 := va_K.moved hvm.symm hK1
    obtain ⟨hP, hD⟩ := va_join (wr := [(h0, kO5 h1 n0_size h2 n0_ran), (h1, kAi cint 50 f1), (h2, kAi cint 24 f2)]) (w1 := []) hP hD [] [0, 1, 2] rfl rfl (by decide) (by decide) hk1 hFc hP1 hD1
    generalize H1 = H at hP hS ⊢
    have hP : va_P (dC, dI) vwCl [(h0, kO5 h1 n0_size h2 n0_ran), (h1, kAi cint 50 f1), (h2, kAi cint 24 f2)] H := hP
    have hD : va_D A [(h0, kO5 h1 n0_size h2 n0_ran), (h1, kAi cint 50 f1), (h2, kAi cint 24 f2)] := hD
    obtain rfl := hw
    refine lv_if_eq (tgt := 48) hx hb dX5_call_18 (by decide) (fun c => absurd c (by decide)) (fun _ => ?_)
    refine va_gets hx hb hZOWN_BODIES hS hown (hts (.fieldLink RX5 43 "KinkStreet$Lines" "OWN_BODIES" "[I") (List.mem_of_getElem? (i := 1) rfl)) (fun _ h9 => h9) dX5_call_21 ?_
    refine lv_iload hx hb dX5_call_24 (lv_at hl 1 rfl) ?_
    refine lv_iconst (v := 4) hx hb dX5_call_26 kk_ic_4 ?_
    refine lv_imul hx hb dX5_call_27 ?_
    refine lv_topi (fun y_35 e_35 => ?_)
    obtain rfl : y_35 = 0 := e_35.trans (by decide)
    refine lv_iload_n hx hb dX5_call_28 rfl (lv_at hl 5 rfl) ?_
    refine lv_iadd hx hb dX5_call_29 ?_
    refine lv_topi (fun y_36 e_36 => ?_)
    obtain rfl : y_36 = 2 := e_36.trans (by decide)
    refine va_ti (v := .int 11) hx hb hTOWN_BODIES hS (by unfold vp_in; decide) rfl dX5_call_30 ?_
    refine lv_if_ne (tgt := 48) hx hb dX5_call_31 (by decide) (fun _ => ?_) (fun c => absurd c (by decide))
    refine lv_iload hx hb dX5_call_48 (lv_at hl 1 rfl) ?_
    obtain ⟨hPc, hDc, hFc⟩ := kk_cutout (wc := []) hP hD hS hA [] (by decide) rfl
    have hKc := kk_Ks (tq := []) hK [] rfl
    refine va_calli (va_runS (As := [.int 0]) (rest := []) ⟨hx, hb, hml, hown, hts⟩ (g_X5_isKind_11 l dC dI H.size) (va_cwS 1 hts gX5_call_X5_isKind rfl rfl rfl kh_X5_isKind ⟨Nat.le_of_ble_eq_true rfl, Nat.le_of_ble_eq_true rfl⟩) ⟨fun a U g mk q => by obtain ⟨q0, q1, qP, qK, qD⟩ := q; exact ⟨q0, q1, qP, va_K.moved (u := U) (U := U.calling g mk a) (Vm.Alike.refl U.vm) qK, qD⟩, fun U hU hW => ⟨rfl, by rw [hU], by rw [hU]; exact hPc, va_K.moved hW.alike hKc, hDc.weaken (fun _ _ _ _ => trivial)⟩⟩ rfl rfl hl.1 rfl (lv_room (Nat.le_of_ble_eq_true rfl)) dX5_call_50 ⟨Nat.le_of_ble_eq_true rfl, Nat.le_of_ble_eq_true rfl⟩) hS (fun q _ h => hFc q h) hFc (fun r_37 u t H1 locs ht hvm hw hB hz1 hk1 hS => ?_)
    obtain ⟨hP1, hK1, hD1⟩ := hB
    rw [ht] at hP1
    have hK1 := va_K.moved hvm.symm hK1
    obtain ⟨hP, hD⟩ := va_join (wr := [(h0, kO5 h1 n0_size h2 n0_ran), (h1, kAi cint 50 f1), (h2, kAi cint 24 f2)]) (w1 := []) hP hD [] [0, 1, 2] rfl rfl (by decide) (by decide) hk1 hFc hP1 hD1
    generalize H1 = H at hP hS ⊢
    have hP : va_P (dC, dI) vwCl [(h0, kO5 h1 n0_size h2 n0_ran), (h1, kAi cint 50 f1), (h2, kAi cint 24 f2)] H := hP
    have hD : va_D A [(h0, kO5 h1 n0_size h2 n0_ran), (h1, kAi cint 50 f1), (h2, kAi cint 24 f2)] := hD
    obtain rfl := hw
    refine lv_if_eq (tgt := 63) hx hb dX5_call_53 (by decide) (fun c => absurd c (by decide)) (fun _ => ?_)
    refine lv_iload hx hb dX5_call_56 (lv_at hl 7 rfl) ?_
    refine lv_bipush (v := 40) hx hb dX5_call_58 kk_bi_40 ?_
    refine lv_icmp_le (tgt := 65) hx hb dX5_call_60 (by decide) (fun c_38 => ?_) (fun c_38 => ?_)
    · have t_38 : p4.toInt ≤ 40 := kk_le c_38
      refine va_gets hx hb hZOWN_BODIES hS hown (hts (.fieldLink RX5 43 "KinkStreet$Lines" "OWN_BODIES" "[I") (List.mem_of_getElem? (i := 1) rfl)) (fun _ h9 => h9) dX5_call_65 ?_
      refine lv_iload hx hb dX5_call_68 (lv_at hl 1 rfl) ?_
      refine lv_iconst (v := 4) hx hb dX5_call_70 kk_ic_4 ?_
      refine lv_imul hx hb dX5_call_71 ?_
      refine lv_topi (fun y_39 e_39 => ?_)
      obtain rfl : y_39 = 0 := e_39.trans (by decide)
      refine lv_iload_n hx hb dX5_call_72 rfl (lv_at hl 5 rfl) ?_
      refine lv_iadd hx hb dX5_call_73 ?_
      refine lv_topi (fun y_40 e_40 => ?_)
      obtain rfl : y_40 = 2 := e_40.trans (by decide)
      refine va_ti (v := .int 11) hx hb hTOWN_BODIES hS (by unfold vp_in; decide) rfl dX5_call_74 ?_
      refine lv_istore hx hb dX5_call_75 hl (by decide) (rfl : _ = ([(7, .int 11), (6, .int 0), (0, .ref h0), (1, .int p0), (2, .int 2), (3, .int 2), (4, .int p3), (5, .int p4)] : List (Nat × Value))) (fun ls hl => ?_)
      refine lv_aload_n hx hb dX5_call_77 rfl (lv_at hl 2 rfl) ?_
      refine va_get (D := (dC, dI)) (ci := 5) (v := .int n0_ran) (C := RX5) (T := TX5) (N := 4) hx hb hts (fun _ h => List.mem_cons_of_mem _ (List.mem_append_right _ h)) hown hK hP 0 rfl rfl 3 (by decide) (hts (.fieldLink RX5 36 "KinkStreet$Lines" "ran" "I") (List.mem_of_getElem? (i := 3) rfl)) (fun _ h9 => h9) rfl dX5_call_78 ?_
      refine lv_bipush (v := 24) hx hb dX5_call_81 kk_bi_24 ?_
      refine lv_icmp_ge (tgt := 97) hx hb dX5_call_83 (by decide) (fun c_41 => ?_) (fun c_41 => ?_)
      · have t_41 : 24 ≤ n0_ran.toInt := kk_le c_41
        refine lv_aload_n hx hb dX5_call_97 rfl (lv_at hl 2 rfl) ?_
        refine lv_dup hx hb dX5_call_98 rfl ?_
        refine va_get (D := (dC, dI)) (ci := 5) (v := .int n0_ran) (C := RX5) (T := TX5) (N := 4) hx hb hts (fun _ h => List.mem_cons_of_mem _ (List.mem_append_right _ h)) hown hK hP 0 rfl rfl 3 (by decide) (hts (.fieldLink RX5 36 "KinkStreet$Lines" "ran" "I") (List.mem_of_getElem? (i := 3) rfl)) (fun _ h9 => h9) rfl dX5_call_99 ?_
        refine lv_iconst (v := 1) hx hb dX5_call_102 kk_ic_1 ?_
        refine lv_iadd hx hb dX5_call_103 ?_
        refine va_put (D := (dC, dI)) (ci := 5) (v := .int (n0_ran + 1)) (ty := .int) (C := RX5) (T := TX5) (N := 4) hx hb hts (fun _ h => List.mem_cons_of_mem _ (List.mem_append_right _ h)) tyX5 tyX5_ok nmX5 hown hK hP hD hS 0 rfl rfl 3 (by decide) (hts (.fieldLink RX5 36 "KinkStreet$Lines" "ran" "I") (List.mem_of_getElem? (i := 3) rfl)) (fun _ h9 => h9) rfl (by decide +kernel) rfl rfl (Nat.le_of_ble_eq_true rfl) dX5_call_104 (fun H locs hP hD hS => ?_)
        have hP : va_P (dC, dI) vwCl [(h0, kO5 h1 n0_size h2 (n0_ran + 1)), (h1, kAi cint 50 f1), (h2, kAi cint 24 f2)] H := hP
        have hD : va_D A [(h0, kO5 h1 n0_size h2 (n0_ran + 1)), (h1, kAi cint 50 f1), (h2, kAi cint 24 f2)] := hD
        have hp_42 : kk_P f2 f2 n0_ran.toInt (n0_ran + 1 : Int32).toInt [11] := kk_P_out (by have := kk_add2 (x := n0_ran) (y := 1) (a := n0_ran.toInt) (b := 1) rfl rfl (by omega) (by omega); omega) (by have := kk_add2 (x := n0_ran) (y := 1) (a := n0_ran.toInt) (b := 1) rfl rfl (by omega) (by omega); omega)
        refine lv_iload hx hb dX5_call_107 (lv_at hl 1 rfl) ?_
        refine lv_if_ne (tgt := 128) hx hb dX5_call_109 (by decide) (fun c => absurd c (by decide)) (fun _ => ?_)
        refine lv_aload_n hx hb dX5_call_112 rfl (lv_at hl 2 rfl) ?_
        refine lv_iload_n hx hb dX5_call_113 rfl (lv_at hl 3 rfl) ?_
        refine lv_iload hx hb dX5_call_114 (lv_at hl 0 rfl) ?_
        refine lv_iload hx hb dX5_call_116 (lv_at hl 6 rfl) ?_
        refine lv_iload hx hb dX5_call_118 (lv_at hl 7 rfl) ?_
        refine lv_iconst (v := 1) hx hb dX5_call_120 kk_ic_1 ?_
        refine lv_iadd hx hb dX5_call_121 ?_
        obtain ⟨hPc, hDc, hFc⟩ := kk_cutout (wc := [(h0, kO5 h1 n0_size h2 (n0_ran + 1)), (h1, kAi cint 50 f1)]) hP hD hS hA [0, 1] (by decide) rfl
        have hKc := kk_Ks (tq := [(cint, .int)]) hK [0] rfl
        refine va_calli (va_runV (As := [.int p0, .int 11, .int p3, .int (p4 + 1)]) (rest := []) ⟨hx, hb, hml, hown, hts⟩ (g_X5_runLine_6 l dC dI h0 h1 h2 cint H.size p0 p3 (p4 + 1) (by show 0 ≤ ((p4 + 1) : Int32).toInt ∧ ((p4 + 1) : Int32).toInt ≤ 15; first | with_reducible assumption | (constructor <;> (have := kk_add2 (x := n0_ran) (y := 1) (a := n0_ran.toInt) (b := 1) rfl rfl (by omega) (by omega); have := kk_add2 (x := p4) (y := 1) (a := p4.toInt) (b := 1) rfl rfl (by omega) (by omega); omega))) n0_size (n0_ran + 1) f1 tn0_size (by show 0 ≤ ((n0_ran + 1) : Int32).toInt ∧ ((n0_ran + 1) : Int32).toInt ≤ 1000; first | with_reducible assumption | (constructor <;> (have := kk_add2 (x := n0_ran) (y := 1) (a := n0_ran.toInt) (b := 1) rfl rfl (by omega) (by omega); have := kk_add2 (x := p4) (y := 1) (a := p4.toInt) (b := 1) rfl rfl (by omega) (by omega); omega))) bf1 (by show (0 ≤ (p0 : Int32).toInt ∧ (p0 : Int32).toInt < (n0_size : Int32).toInt); first | with_reducible assumption | (have := kk_add2 (x := n0_ran) (y := 1) (a := n0_ran.toInt) (b := 1) rfl rfl (by omega) (by omega); have := kk_add2 (x := p4) (y := 1) (a := p4.toInt) (b := 1) rfl rfl (by omega) (by omega); omega))) (cwV 4 hts gX5_call_X5_runLine rfl rfl rfl ⟨rfl, kh_X5_runLine⟩ ⟨Nat.le_of_ble_eq_true rfl, Nat.le_of_ble_eq_true rfl⟩) ⟨fun a U g mk q => by obtain ⟨q0, q1, qP, qK, qD⟩ := q; exact ⟨q0, q1, qP, va_K.moved (u := U) (U := U.calling g mk a) (Vm.Alike.refl U.vm) qK, qD⟩, va_recv hKc hPc (ci := 5) (q0 := 0) rfl rfl, fun U hU hW => ⟨rfl, by rw [hU], by rw [hU]; exact hPc, va_K.moved hW.alike hKc, hDc.weaken (fun _ _ _ _ => trivial)⟩⟩ rfl rfl hl.1 rfl (lv_room (Nat.le_of_ble_eq_true rfl)) dX5_call_122 ⟨Nat.le_of_ble_eq_true rfl, Nat.le_of_ble_eq_true rfl⟩) hS (fun q _ h => hFc q h) hFc (fun r_43 u t H1 locs ht hvm hw hB hz1 hk1 hS => ?_)
        obtain ⟨hP1, hK1, hD1⟩ := hB
        rw [ht] at hP1
        have hK1 := va_K.moved hvm.symm hK1
        obtain ⟨hP, hD⟩ := va_join (wr := [(h2, kAi cint 24 f2)]) (w1 := [(h0, kO5 h1 n0_size h2 (n0_ran + 1)), (h1, kAi cint 50 f1)]) hP hD [0, 1] [2] rfl rfl (by decide) (by decide) hk1 hFc hP1 hD1
        generalize H1 = H at hP hS ⊢
        have hP : va_P (dC, dI) vwCl [(h2, kAi cint 24 f2), (h0, kO5 h1 n0_size h2 (n0_ran + 1)), (h1, kAi cint 50 f1)] H := hP
        have hD : va_D A [(h2, kAi cint 24 f2), (h0, kO5 h1 n0_size h2 (n0_ran + 1)), (h1, kAi cint 50 f1)] := hD
        rcases hw with ⟨t_43_0, _⟩
        · skip
          have t_43_0 : r_43 = kk_leads (f1 (p0 : Int32).toNatClampNeg) 0 p0 p3 := t_43_0
          obtain rfl : r_43 = (kk_leads (f1 (p0 : Int32).toNatClampNeg) 0 p0 p3) := t_43_0
          refine lv_goto (tgt := 143) hx hb dX5_call_125 (by decide) ?_
          obtain ⟨hP9, hD9⟩ := kk_leafout (wc := [(h0, kO5 h1 n0_size h2 (n0_ran + 1)), (h1, kAi cint 50 f1), (h2, kAi cint 24 f2)]) hP hD [1, 2, 0] (by decide) rfl
          have hK9 := kk_Ks (tq := []) hK [] rfl
          exact W.iret (v := (kk_leads (f1 (p0 : Int32).toNatClampNeg) 0 p0 p3)) hx hb hr (fun t ht hW => ⟨⟨(kk_leads (f1 (p0 : Int32).toNatClampNeg) 0 p0 p3), (), rfl, ⟨(by first | rfl | (unfold kk_leads; (repeat' split) <;> first | rfl | (exfalso; have : (0 : Int32).toInt = 0 := rfl; have : (1 : Int32).toInt = 1 := rfl; have : (2 : Int32).toInt = 2 := rfl; have : (3 : Int32).toInt = 3 := rfl; have : (4 : Int32).toInt = 4 := rfl; have : (5 : Int32).toInt = 5 := rfl; have : (6 : Int32).toInt = 6 := rfl; have : (7 : Int32).toInt = 7 := rfl; have := kk_add2 (x := n0_ran) (y := 1) (a := n0_ran.toInt) (b := 1) rfl rfl (by omega) (by omega); have := kk_add2 (x := p4) (y := 1) (a := p4.toInt) (b := 1) rfl rfl (by omega) (by omega); omega))), trivial⟩, (n0_ran + 1), f2, (by show 1 ≤ ((n0_ran + 1) : Int32).toInt ∧ ((n0_ran + 1) : Int32).toInt ≤ 1000; first | with_reducible assumption | (constructor <;> (have := kk_add2 (x := n0_ran) (y := 1) (a := n0_ran.toInt) (b := 1) rfl rfl (by omega) (by omega); have := kk_add2 (x := p4) (y := 1) (a := p4.toInt) (b := 1) rfl rfl (by omega) (by omega); omega))), (by show ((n0_ran + 1) : Int32).toInt ≤ (n0_ran : Int32).toInt + 6; first | with_reducible assumption | (have := kk_add2 (x := n0_ran) (y := 1) (a := n0_ran.toInt) (b := 1) rfl rfl (by omega) (by omega); have := kk_add2 (x := p4) (y := 1) (a := p4.toInt) (b := 1) rfl rfl (by omega) (by omega); omega)), (by first | exact kk_P_eq hp_42 rfl | (unfold kt_leads; (repeat' split) <;> first | exact kk_P_eq hp_42 rfl | (exfalso; have : (0 : Int32).toInt = 0 := rfl; have : (1 : Int32).toInt = 1 := rfl; have : (2 : Int32).toInt = 2 := rfl; have : (3 : Int32).toInt = 3 := rfl; have : (4 : Int32).toInt = 4 := rfl; have : (5 : Int32).toInt = 5 := rfl; have : (6 : Int32).toInt = 6 := rfl; have : (7 : Int32).toInt = 7 := rfl; have := kk_add2 (x := n0_ran) (y := 1) (a := n0_ran.toInt) (b := 1) rfl rfl (by omega) (by omega); have := kk_add2 (x := p4) (y := 1) (a := p4.toInt) (b := 1) rfl rfl (by omega) (by omega); omega))), by rw [ht]; exact hP9, va_K.moved hW.alike hK9, hD9⟩, hS.F ht⟩) hS.2.2 dX5_call_143
      · have t_41 : n0_ran.toInt < 24 := kk_nle c_41
        refine lv_aload_n hx hb dX5_call_86 rfl (lv_at hl 2 rfl) ?_
        refine va_get (D := (dC, dI)) (ci := 5) (v := .ref h2) (C := RX5) (T := TX5) (N := 4) hx hb hts (fun _ h => List.mem_cons_of_mem _ (List.mem_append_right _ h)) hown hK hP 0 rfl rfl 2 (by decide) (hts (.fieldLink RX5 15 "KinkStreet$Lines" "trace" "[I") (List.mem_of_getElem? (i := 4) rfl)) (fun _ h9 => h9) rfl dX5_call_87 ?_
        refine lv_aload_n hx hb dX5_call_90 rfl (lv_at hl 2 rfl) ?_
        refine va_get (D := (dC, dI)) (ci := 5) (v := .int n0_ran) (C := RX5) (T := TX5) (N := 4) hx hb hts (fun _ h => List.mem_cons_of_mem _ (List.mem_append_right _ h)) hown hK hP 0 rfl rfl 3 (by decide) (hts (.fieldLink RX5 36 "KinkStreet$Lines" "ran" "I") (List.mem_of_getElem? (i := 3) rfl)) (fun _ h9 => h9) rfl dX5_call_91 ?_
        refine lv_iload hx hb dX5_call_94 (lv_at hl 0 rfl) ?_
        refine va_iast hx hb hK hP hD hS 2 0 rfl rfl (vp_in_iff.mpr ⟨by omega, by omega⟩) dX5_call_96 (fun H locs hP hD hS => ?_)
        have w_44 : ((upd f2 (n0_ran : Int32).toNatClampNeg 11) (n0_ran : Int32).toNatClampNeg).toInt = (11 : Int32).toInt := by rw [kk_ups]
        have hP : va_P (dC, dI) vwCl [(h0, kO5 h1 n0_size h2 n0_ran), (h1, kAi cint 50 f1), (h2, kAi cint 24 (upd f2 (n0_ran : Int32).toNatClampNeg 11))] H := hP
        have hD : va_D A [(h0, kO5 h1 n0_size h2 n0_ran), (h1, kAi cint 50 f1), (h2, kAi cint 24 (upd f2 (n0_ran : Int32).toNatClampNeg 11))] := hD
        refine lv_aload_n hx hb dX5_call_97 rfl (lv_at hl 2 rfl) ?_
        refine lv_dup hx hb dX5_call_98 rfl ?_
        refine va_get (D := (dC, dI)) (ci := 5) (v := .int n0_ran) (C := RX5) (T := TX5) (N := 4) hx hb hts (fun _ h => List.mem_cons_of_mem _ (List.mem_append_right _ h)) hown hK hP 0 rfl rfl 3 (by decide) (hts (.fieldLink RX5 36 "KinkStreet$Lines" "ran" "I") (List.mem_of_getElem? (i := 3) rfl)) (fun _ h9 => h9) rfl dX5_call_99 ?_
        refine lv_iconst (v := 1) hx hb dX5_call_102 kk_ic_1 ?_
        refine lv_iadd hx hb dX5_call_103 ?_
        refine va_put (D := (dC, dI)) (ci := 5) (v := .int (n0_ran + 1)) (ty := .int) (C := RX5) (T := TX5) (N := 4) hx hb hts (fun _ h => List.mem_cons_of_mem _ (List.mem_append_right _ h)) tyX5 tyX5_ok nmX5 hown hK hP hD hS 0 rfl rfl 3 (by decide) (hts (.fieldLink RX5 36 "KinkStreet$Lines" "ran" "I") (List.mem_of_getElem? (i := 3) rfl)) (fun _ h9 => h9) rfl (by decide +kernel) rfl rfl (Nat.le_of_ble_eq_true rfl) dX5_call_104 (fun H locs hP hD hS => ?_)
        have hP : va_P (dC, dI) vwCl [(h0, kO5 h1 n0_size h2 (n0_ran + 1)), (h1, kAi cint 50 f1), (h2, kAi cint 24 (upd f2 (n0_ran : Int32).toNatClampNeg 11))] H := hP
        have hD : va_D A [(h0, kO5 h1 n0_size h2 (n0_ran + 1)), (h1, kAi cint 50 f1), (h2, kAi cint 24 (upd f2 (n0_ran : Int32).toNatClampNeg 11))] := hD
        have hp_45 : kk_P f2 (upd f2 (n0_ran : Int32).toNatClampNeg 11) n0_ran.toInt (n0_ran + 1 : Int32).toInt [11] := kk_P_one (by have := kk_add2 (x := n0_ran) (y := 1) (a := n0_ran.toInt) (b := 1) rfl rfl (by omega) (by omega); omega) (by have := kk_add2 (x := n0_ran) (y := 1) (a := n0_ran.toInt) (b := 1) rfl rfl (by omega) (by omega); omega)
        refine lv_iload hx hb dX5_call_107 (lv_at hl 1 rfl) ?_
        refine lv_if_ne (tgt := 128) hx hb dX5_call_109 (by decide) (fun c => absurd c (by decide)) (fun _ => ?_)
        refine lv_aload_n hx hb dX5_call_112 rfl (lv_at hl 2 rfl) ?_
        refine lv_iload_n hx hb dX5_call_113 rfl (lv_at hl 3 rfl) ?_
        refine lv_iload hx hb dX5_call_114 (lv_at hl 0 rfl) ?_
        refine lv_iload hx hb dX5_call_116 (lv_at hl 6 rfl) ?_
        refine lv_iload hx hb dX5_call_118 (lv_at hl 7 rfl) ?_
        refine lv_iconst (v := 1) hx hb dX5_call_120 kk_ic_1 ?_
        refine lv_iadd hx hb dX5_call_121 ?_
        obtain ⟨hPc, hDc, hFc⟩ := kk_cutout (wc := [(h0, kO5 h1 n0_size h2 (n0_ran + 1)), (h1, kAi cint 50 f1)]) hP hD hS hA [0, 1] (by decide) rfl
        have hKc := kk_Ks (tq := [(cint, .int)]) hK [0] rfl
        refine va_calli (va_runV (As := [.int p0, .int 11, .int p3, .int (p4 + 1)]) (rest := []) ⟨hx, hb, hml, hown, hts⟩ (g_X5_runLine_6 l dC dI h0 h1 h2 cint H.size p0 p3 (p4 + 1) (by show 0 ≤ ((p4 + 1) : Int32).toInt ∧ ((p4 + 1) : Int32).toInt ≤ 15; first | with_reducible assumption | (constructor <;> (have := kk_add2 (x := n0_ran) (y := 1) (a := n0_ran.toInt) (b := 1) rfl rfl (by omega) (by omega); have := kk_add2 (x := p4) (y := 1) (a := p4.toInt) (b := 1) rfl rfl (by omega) (by omega); omega))) n0_size (n0_ran + 1) f1 tn0_size (by show 0 ≤ ((n0_ran + 1) : Int32).toInt ∧ ((n0_ran + 1) : Int32).toInt ≤ 1000; first | with_reducible assumption | (constructor <;> (have := kk_add2 (x := n0_ran) (y := 1) (a := n0_ran.toInt) (b := 1) rfl rfl (by omega) (by omega); have := kk_add2 (x := p4) (y := 1) (a := p4.toInt) (b := 1) rfl rfl (by omega) (by omega); omega))) bf1 (by show (0 ≤ (p0 : Int32).toInt ∧ (p0 : Int32).toInt < (n0_size : Int32).toInt); first | with_reducible assumption | (have := kk_add2 (x := n0_ran) (y := 1) (a := n0_ran.toInt) (b := 1) rfl rfl (by omega) (by omega); have := kk_add2 (x := p4) (y := 1) (a := p4.toInt) (b := 1) rfl rfl (by omega) (by omega); omega))) (cwV 4 hts gX5_call_X5_runLine rfl rfl rfl ⟨rfl, kh_X5_runLine⟩ ⟨Nat.le_of_ble_eq_true rfl, Nat.le_of_ble_eq_true rfl⟩) ⟨fun a U g mk q => by obtain ⟨q0, q1, qP, qK, qD⟩ := q; exact ⟨q0, q1, qP, va_K.moved (u := U) (U := U.calling g mk a) (Vm.Alike.refl U.vm) qK, qD⟩, va_recv hKc hPc (ci := 5) (q0 := 0) rfl rfl, fun U hU hW => ⟨rfl, by rw [hU], by rw [hU]; exact hPc, va_K.moved hW.alike hKc, hDc.weaken (fun _ _ _ _ => trivial)⟩⟩ rfl rfl hl.1 rfl (lv_room (Nat.le_of_ble_eq_true rfl)) dX5_call_122 ⟨Nat.le_of_ble_eq_true rfl, Nat.le_of_ble_eq_true rfl⟩) hS (fun q _ h => hFc q h) hFc (fun r_46 u t H1 locs ht hvm hw hB hz1 hk1 hS => ?_)
        obtain ⟨hP1, hK1, hD1⟩ := hB
        rw [ht] at hP1
        have hK1 := va_K.moved hvm.symm hK1
        obtain ⟨hP, hD⟩ := va_join (wr := [(h2, kAi cint 24 (upd f2 (n0_ran : Int32).toNatClampNeg 11))]) (w1 := [(h0, kO5 h1 n0_size h2 (n0_ran + 1)), (h1, kAi cint 50 f1)]) hP hD [0, 1] [2] rfl rfl (by decide) (by decide) hk1 hFc hP1 hD1
        generalize H1 = H at hP hS ⊢
        have hP : va_P (dC, dI) vwCl [(h2, kAi cint 24 (upd f2 (n0_ran : Int32).toNatClampNeg 11)), (h0, kO5 h1 n0_size h2 (n0_ran + 1)), (h1, kAi cint 50 f1)] H := hP
        have hD : va_D A [(h2, kAi cint 24 (upd f2 (n0_ran : Int32).toNatClampNeg 11)), (h0, kO5 h1 n0_size h2 (n0_ran + 1)), (h1, kAi cint 50 f1)] := hD
        rcases hw with ⟨t_46_0, _⟩
        · skip
          have t_46_0 : r_46 = kk_leads (f1 (p0 : Int32).toNatClampNeg) 0 p0 p3 := t_46_0
          obtain rfl : r_46 = (kk_leads (f1 (p0 : Int32).toNatClampNeg) 0 p0 p3) := t_46_0
          refine lv_goto (tgt := 143) hx hb dX5_call_125 (by decide) ?_
          obtain ⟨hP9, hD9⟩ := kk_leafout (wc := [(h0, kO5 h1 n0_size h2 (n0_ran + 1)), (h1, kAi cint 50 f1), (h2, kAi cint 24 (upd f2 (n0_ran : Int32).toNatClampNeg 11))]) hP hD [1, 2, 0] (by decide) rfl
          have hK9 := kk_Ks (tq := []) hK [] rfl
          exact W.iret (v := (kk_leads (f1 (p0 : Int32).toNatClampNeg) 0 p0 p3)) hx hb hr (fun t ht hW => ⟨⟨(kk_leads (f1 (p0 : Int32).toNatClampNeg) 0 p0 p3), (), rfl, ⟨(by first | rfl | (unfold kk_leads; (repeat' split) <;> first | rfl | (exfalso; have : (0 : Int32).toInt = 0 := rfl; have : (1 : Int32).toInt = 1 := rfl; have : (2 : Int32).toInt = 2 := rfl; have : (3 : Int32).toInt = 3 := rfl; have : (4 : Int32).toInt = 4 := rfl; have : (5 : Int32).toInt = 5 := rfl; have : (6 : Int32).toInt = 6 := rfl; have : (7 : Int32).toInt = 7 := rfl; have := kk_add2 (x := n0_ran) (y := 1) (a := n0_ran.toInt) (b := 1) rfl rfl (by omega) (by omega); have := kk_add2 (x := p4) (y := 1) (a := p4.toInt) (b := 1) rfl rfl (by omega) (by omega); omega))), trivial⟩, (n0_ran + 1), (upd f2 (n0_ran : Int32).toNatClampNeg 11), (by show 1 ≤ ((n0_ran + 1) : Int32).toInt ∧ ((n0_ran + 1) : Int32).toInt ≤ 1000; first | with_reducible assumption | (constructor <;> (have := kk_add2 (x := n0_ran) (y := 1) (a := n0_ran.toInt) (b := 1) rfl rfl (by omega) (by omega); have := kk_add2 (x := p4) (y := 1) (a := p4.toInt) (b := 1) rfl rfl (by omega) (by omega); omega))), (by show ((n0_ran + 1) : Int32).toInt ≤ (n0_ran : Int32).toInt + 6; first | with_reducible assumption | (have := kk_add2 (x := n0_ran) (y := 1) (a := n0_ran.toInt) (b := 1) rfl rfl (by omega) (by omega); have := kk_add2 (x := p4) (y := 1) (a := p4.toInt) (b := 1) rfl rfl (by omega) (by omega); omega)), (by first | exact kk_P_eq hp_45 rfl | (unfold kt_leads; (repeat' split) <;> first | exact kk_P_eq hp_45 rfl | (exfalso; have : (0 : Int32).toInt = 0 := rfl; have : (1 : Int32).toInt = 1 := rfl; have : (2 : Int32).toInt = 2 := rfl; have : (3 : Int32).toInt = 3 := rfl; have : (4 : Int32).toInt = 4 := rfl; have : (5 : Int32).toInt = 5 := rfl; have : (6 : Int32).toInt = 6 := rfl; have : (7 : Int32).toInt = 7 := rfl; have := kk_add2 (x := n0_ran) (y := 1) (a := n0_ran.toInt) (b := 1) rfl rfl (by omega) (by omega); have := kk_add2 (x := p4) (y := 1) (a := p4.toInt) (b := 1) rfl rfl (by omega) (by omega); omega))), by rw [ht]; exact hP9, va_K.moved hW.alike hK9, hD9⟩, hS.F ht⟩) hS.2.2 dX5_call_143
    · have t_38 : 40 < p4.toInt := kk_nle c_38
      exfalso; omega
  · have t_1 : p1.toInt = 3 := by rw [e_1]; rfl
    subst e_1
    refine lv_iload_n hx hb dX5_call_0 rfl (lv_at hl 2 rfl) ?_
    refine lv_istore hx hb dX5_call_1 hl (by decide) (rfl : _ = ([(6, .int 3), (0, .ref h0), (1, .int p0), (2, .int 3), (3, .int 2), (4, .int p3), (5, .int p4)] : List (Nat × Value))) (fun ls hl => ?_)
    refine lv_iconst (v := 0) hx hb dX5_call_3 kk_ic_0 ?_
    refine lv_istore hx hb dX5_call_4 hl (by decide) (rfl : _ = ([(7, .int 0), (6, .int 3), (0, .ref h0), (1, .int p0), (2, .int 3), (3, .int 2), (4, .int p3), (5, .int p4)] : List (Nat × Value))) (fun ls hl => ?_)
    refine lv_iload hx hb dX5_call_6 (lv_at hl 0 rfl) ?_
    refine lv_bipush (v := 8) hx hb dX5_call_8 kk_bi_8 ?_
    refine lv_icmp_ge (tgt := 48) hx hb dX5_call_10 (by decide) (fun c => absurd c (by decide)) (fun _ => ?_)
    refine lv_iload hx hb dX5_call_13 (lv_at hl 1 rfl) ?_
    obtain ⟨hPc, hDc, hFc⟩ := kk_cutout (wc := []) hP hD hS hA [] (by decide) rfl
    have hKc := kk_Ks (tq := []) hK [] rfl
    refine va_calli (va_runS (As := [.int 3]) (rest := []) ⟨hx, hb, hml, hown, hts⟩ (g_X5_isKind_14 l dC dI s.heap.size) (va_cwS 1 hts gX5_call_X5_isKind rfl rfl rfl kh_X5_isKind ⟨Nat.le_of_ble_eq_true rfl, Nat.le_of_ble_eq_true rfl⟩) ⟨fun a U g mk q => by obtain ⟨q0, q1, qP, qK, qD⟩ := q; exact ⟨q0, q1, qP, va_K.moved (u := U) (U := U.calling g mk a) (Vm.Alike.refl U.vm) qK, qD⟩, fun U hU hW => ⟨rfl, by rw [hU], by rw [hU]; exact hPc, va_K.moved hW.alike hKc, hDc.weaken (fun _ _ _ _ => trivial)⟩⟩ rfl rfl hl.1 rfl (lv_room (Nat.le_of_ble_eq_true rfl)) dX5_call_15 ⟨Nat.le_of_ble_eq_true rfl, Nat.le_of_ble_eq_true rfl⟩) hS (fun q _ h => hFc q h) hFc (fun r_47 u t H1 locs ht hvm hw hB hz1 hk1 hS => ?_)
    obtain ⟨hP1, hK1, hD1⟩ := hB
    rw [ht] at hP1
    have hK1 := va_K.moved hvm.symm hK1
    obtain ⟨hP, hD⟩ := va_join (wr := [(h0, kO5 h1 n0_size h2 n0_ran), (h1, kAi cint 50 f1), (h2, kAi cint 24 f2)]) (w1 := []) hP hD [] [0, 1, 2] rfl rfl (by decide) (by decide) hk1 hFc hP1 hD1
    generalize H1 = H at hP hS ⊢
    have hP : va_P (dC, dI) vwCl [(h0, kO5 h1 n0_size h2 n0_ran), (h1, kAi cint 50 f1), (h2, kAi cint 24 f2)] H := hP
    have hD : va_D A [(h0, kO5 h1 n0_size h2 n0_ran), (h1, kAi cint 50 f1), (h2, kAi cint 24 f2)] := hD
    obtain rfl := hw
    refine lv_if_eq (tgt := 48) hx hb dX5_call_18 (by decide) (fun c => absurd c (by decide)) (fun _ => ?_)
    refine va_gets hx hb hZOWN_BODIES hS hown (hts (.fieldLink RX5 43 "KinkStreet$Lines" "OWN_BODIES" "[I") (List.mem_of_getElem? (i := 1) rfl)) (fun _ h9 => h9) dX5_call_21 ?_
    refine lv_iload hx hb dX5_call_24 (lv_at hl 1 rfl) ?_
    refine lv_iconst (v := 4) hx hb dX5_call_26 kk_ic_4 ?_
    refine lv_imul hx hb dX5_call_27 ?_
    refine lv_topi (fun y_48 e_48 => ?_)
    obtain rfl : y_48 = 12 := e_48.trans (by decide)
    refine lv_iload_n hx hb dX5_call_28 rfl (lv_at hl 5 rfl) ?_
    refine lv_iadd hx hb dX5_call_29 ?_
    refine lv_topi (fun y_49 e_49 => ?_)
    obtain rfl : y_49 = 14 := e_49.trans (by decide)
    refine va_ti (v := .int 40) hx hb hTOWN_BODIES hS (by unfold vp_in; decide) rfl dX5_call_30 ?_
    refine lv_if_ne (tgt := 48) hx hb dX5_call_31 (by decide) (fun _ => ?_) (fun c => absurd c (by decide))
    refine lv_iload hx hb dX5_call_48 (lv_at hl 1 rfl) ?_
    obtain ⟨hPc, hDc, hFc⟩ := kk_cutout (wc := []) hP hD hS hA [] (by decide) rfl
    have hKc := kk_Ks (tq := []) hK [] rfl
    refine va_calli (va_runS (As := [.int 3]) (rest := []) ⟨hx, hb, hml, hown, hts⟩ (g_X5_isKind_14 l dC dI H.size) (va_cwS 1 hts gX5_call_X5_isKind rfl rfl rfl kh_X5_isKind ⟨Nat.le_of_ble_eq_true rfl, Nat.le_of_ble_eq_true rfl⟩) ⟨fun a U g mk q => by obtain ⟨q0, q1, qP, qK, qD⟩ := q; exact ⟨q0, q1, qP, va_K.moved (u := U) (U := U.calling g mk a) (Vm.Alike.refl U.vm) qK, qD⟩, fun U hU hW => ⟨rfl, by rw [hU], by rw [hU]; exact hPc, va_K.moved hW.alike hKc, hDc.weaken (fun _ _ _ _ => trivial)⟩⟩ rfl rfl hl.1 rfl (lv_room (Nat.le_of_ble_eq_true rfl)) dX5_call_50 ⟨Nat.le_of_ble_eq_true rfl, Nat.le_of_ble_eq_true rfl⟩) hS (fun q _ h => hFc q h) hFc (fun r_50 u t H1 locs ht hvm hw hB hz1 hk1 hS => ?_)
    obtain ⟨hP1, hK1, hD1⟩ := hB
    rw [ht] at hP1
    have hK1 := va_K.moved hvm.symm hK1
    obtain ⟨hP, hD⟩ := va_join (wr := [(h0, kO5 h1 n0_size h2 n0_ran), (h1, kAi cint 50 f1), (h2, kAi cint 24 f2)]) (w1 := []) hP hD [] [0, 1, 2] rfl rfl (by decide) (by decide) hk1 hFc hP1 hD1
    generalize H1 = H at hP hS ⊢
    have hP : va_P (dC, dI) vwCl [(h0, kO5 h1 n0_size h2 n0_ran), (h1, kAi cint 50 f1), (h2, kAi cint 24 f2)] H := hP
    have hD : va_D A [(h0, kO5 h1 n0_size h2 n0_ran), (h1, kAi cint 50 f1), (h2, kAi cint 24 f2)] := hD
    obtain rfl := hw
    refine lv_if_eq (tgt := 63) hx hb dX5_call_53 (by decide) (fun c => absurd c (by decide)) (fun _ => ?_)
    refine lv_iload hx hb dX5_call_56 (lv_at hl 7 rfl) ?_
    refine lv_bipush (v := 40) hx hb dX5_call_58 kk_bi_40 ?_
    refine lv_icmp_le (tgt := 65) hx hb dX5_call_60 (by decide) (fun c_51 => ?_) (fun c_51 => ?_)
    · have t_51 : p4.toInt ≤ 40 := kk_le c_51
      refine va_gets hx hb hZOWN_BODIES hS hown (hts (.fieldLink RX5 43 "KinkStreet$Lines" "OWN_BODIES" "[I") (List.mem_of_getElem? (i := 1) rfl)) (fun _ h9 => h9) dX5_call_65 ?_
      refine lv_iload hx hb dX5_call_68 (lv_at hl 1 rfl) ?_
      refine lv_iconst (v := 4) hx hb dX5_call_70 kk_ic_4 ?_
      refine lv_imul hx hb dX5_call_71 ?_
      refine lv_topi (fun y_52 e_52 => ?_)
      obtain rfl : y_52 = 12 := e_52.trans (by decide)
      refine lv_iload_n hx hb dX5_call_72 rfl (lv_at hl 5 rfl) ?_
      refine lv_iadd hx hb dX5_call_73 ?_
      refine lv_topi (fun y_53 e_53 => ?_)
      obtain rfl : y_53 = 14 := e_53.trans (by decide)
      refine va_ti (v := .int 40) hx hb hTOWN_BODIES hS (by unfold vp_in; decide) rfl dX5_call_74 ?_
      refine lv_istore hx hb dX5_call_75 hl (by decide) (rfl : _ = ([(7, .int 40), (6, .int 3), (0, .ref h0), (1, .int p0), (2, .int 3), (3, .int 2), (4, .int p3), (5, .int p4)] : List (Nat × Value))) (fun ls hl => ?_)
      refine lv_aload_n hx hb dX5_call_77 rfl (lv_at hl 2 rfl) ?_
      refine va_get (D := (dC, dI)) (ci := 5) (v := .int n0_ran) (C := RX5) (T := TX5) (N := 4) hx hb hts (fun _ h => List.mem_cons_of_mem _ (List.mem_append_right _ h)) hown hK hP 0 rfl rfl 3 (by decide) (hts (.fieldLink RX5 36 "KinkStreet$Lines" "ran" "I") (List.mem_of_getElem? (i := 3) rfl)) (fun _ h9 => h9) rfl dX5_call_78 ?_
      refine lv_bipush (v := 24) hx hb dX5_call_81 kk_bi_24 ?_
      refine lv_icmp_ge (tgt := 97) hx hb dX5_call_83 (by decide) (fun c_54 => ?_) (fun c_54 => ?_)
      · have t_54 : 24 ≤ n0_ran.toInt := kk_le c_54
        refine lv_aload_n hx hb dX5_call_97 rfl (lv_at hl 2 rfl) ?_
        refine lv_dup hx hb dX5_call_98 rfl ?_
        refine va_get (D := (dC, dI)) (ci := 5) (v := .int n0_ran) (C := RX5) (T := TX5) (N := 4) hx hb hts (fun _ h => List.mem_cons_of_mem _ (List.mem_append_right _ h)) hown hK hP 0 rfl rfl 3 (by decide) (hts (.fieldLink RX5 36 "KinkStreet$Lines" "ran" "I") (List.mem_of_getElem? (i := 3) rfl)) (fun _ h9 => h9) rfl dX5_call_99 ?_
        refine lv_iconst (v := 1) hx hb dX5_call_102 kk_ic_1 ?_
        refine lv_iadd hx hb dX5_call_103 ?_
        refine va_put (D := (dC, dI)) (ci := 5) (v := .int (n0_ran + 1)) (ty := .int) (C := RX5) (T := TX5) (N := 4) hx hb hts (fun _ h => List.mem_cons_of_mem _ (List.mem_append_right _ h)) tyX5 tyX5_ok nmX5 hown hK hP hD hS 0 rfl rfl 3 (by decide) (hts (.fieldLink RX5 36 "KinkStreet$Lines" "ran" "I") (List.mem_of_getElem? (i := 3) rfl)) (fun _ h9 => h9) rfl (by decide +kernel) rfl rfl (Nat.le_of_ble_eq_true rfl) dX5_call_104 (fun H locs hP hD hS => ?_)
        have hP : va_P (dC, dI) vwCl [(h0, kO5 h1 n0_size h2 (n0_ran + 1)), (h1, kAi cint 50 f1), (h2, kAi cint 24 f2)] H := hP
        have hD : va_D A [(h0, kO5 h1 n0_size h2 (n0_ran + 1)), (h1, kAi cint 50 f1), (h2, kAi cint 24 f2)] := hD
        have hp_55 : kk_P f2 f2 n0_ran.toInt (n0_ran + 1 : Int32).toInt [40] := kk_P_out (by have := kk_add2 (x := n0_ran) (y := 1) (a := n0_ran.toInt) (b := 1) rfl rfl (by omega) (by omega); omega) (by have := kk_add2 (x := n0_ran) (y := 1) (a := n0_ran.toInt) (b := 1) rfl rfl (by omega) (by omega); omega)
        refine lv_iload hx hb dX5_call_107 (lv_at hl 1 rfl) ?_
        refine lv_if_ne (tgt := 128) hx hb dX5_call_109 (by decide) (fun _ => ?_) (fun c => absurd c (by decide))
        refine lv_aload_n hx hb dX5_call_128 rfl (lv_at hl 2 rfl) ?_
        refine lv_iload_n hx hb dX5_call_129 rfl (lv_at hl 3 rfl) ?_
        refine lv_iload hx hb dX5_call_130 (lv_at hl 1 rfl) ?_
        refine lv_iload hx hb dX5_call_132 (lv_at hl 0 rfl) ?_
        refine lv_iload hx hb dX5_call_134 (lv_at hl 6 rfl) ?_
        refine lv_iload hx hb dX5_call_136 (lv_at hl 7 rfl) ?_
        refine lv_iconst (v := 1) hx hb dX5_call_138 kk_ic_1 ?_
        refine lv_iadd hx hb dX5_call_139 ?_
        obtain ⟨hPc, hDc, hFc⟩ := kk_cutout (wc := [(h0, kO5 h1 n0_size h2 (n0_ran + 1)), (h1, kAi cint 50 f1), (h2, kAi cint 24 f2)]) hP hD hS hA [0, 1, 2] (by decide) rfl
        have hKc := kk_Ks (tq := [(cint, .int)]) hK [0] rfl
        refine va_calli (va_runV (As := [.int p0, .int 3, .int 40, .int p3, .int (p4 + 1)]) (rest := []) ⟨hx, hb, hml, hown, hts⟩ (g_X5_runUnder_13 l dC dI h0 h1 h2 cint H.size p0 p3 (p4 + 1) (by show 0 ≤ ((p4 + 1) : Int32).toInt ∧ ((p4 + 1) : Int32).toInt ≤ 14; first | with_reducible assumption | (constructor <;> (have := kk_add2 (x := n0_ran) (y := 1) (a := n0_ran.toInt) (b := 1) rfl rfl (by omega) (by omega); have := kk_add2 (x := p4) (y := 1) (a := p4.toInt) (b := 1) rfl rfl (by omega) (by omega); omega))) n0_size (n0_ran + 1) f1 f2 tn0_size (by show 0 ≤ ((n0_ran + 1) : Int32).toInt ∧ ((n0_ran + 1) : Int32).toInt ≤ 999; first | with_reducible assumption | (constructor <;> (have := kk_add2 (x := n0_ran) (y := 1) (a := n0_ran.toInt) (b := 1) rfl rfl (by omega) (by omega); have := kk_add2 (x := p4) (y := 1) (a := p4.toInt) (b := 1) rfl rfl (by omega) (by omega); omega))) bf1 (by show (0 ≤ (p0 : Int32).toInt ∧ (p0 : Int32).toInt < (n0_size : Int32).toInt); first | with_reducible assumption | (have := kk_add2 (x := n0_ran) (y := 1) (a := n0_ran.toInt) (b := 1) rfl rfl (by omega) (by omega); have := kk_add2 (x := p4) (y := 1) (a := p4.toInt) (b := 1) rfl rfl (by omega) (by omega); omega)) aABOVE aOWN_BODIES) (cwV 5 hts gX5_call_X5_runUnder rfl rfl rfl ⟨rfl, kh_X5_runUnder⟩ ⟨Nat.le_of_ble_eq_true rfl, Nat.le_of_ble_eq_true rfl⟩) ⟨fun a U g mk q => by obtain ⟨q0, q1, qP, qK, qD, qx0, qx1, qx2, qx3⟩ := q; exact ⟨q0, q1, qP, va_K.moved (u := U) (U := U.calling g mk a) (Vm.Alike.refl U.vm) qK, qD, va_Z.moved (u := U) (U := U.calling g mk a) (Vm.Alike.refl U.vm) qx0, va_T.moved (u := U) (U := U.calling g mk a) (Vm.Alike.refl U.vm) qx1, va_Z.moved (u := U) (U := U.calling g mk a) (Vm.Alike.refl U.vm) qx2, va_T.moved (u := U) (U := U.calling g mk a) (Vm.Alike.refl U.vm) qx3⟩, va_recv hKc hPc (ci := 5) (q0 := 0) rfl rfl, fun U hU hW => ⟨rfl, by rw [hU], by rw [hU]; exact hPc, va_K.moved hW.alike hKc, hDc.weaken (fun _ _ _ _ => trivial), by rw [hU]; exact ((hZABOVE.kept (fun a h1 h2 => hS.2.1 a h1 h2)).narrow hFc).moved hW.alike, by rw [hU]; exact ((hTABOVE.kept (fun a h1 h2 => hS.2.1 a h1 h2)).narrow hFc).moved hW.alike, by rw [hU]; exact ((hZOWN_BODIES.kept (fun a h1 h2 => hS.2.1 a h1 h2)).narrow hFc).moved hW.alike, by rw [hU]; exact ((hTOWN_BODIES.kept (fun a h1 h2 => hS.2.1 a h1 h2)).narrow hFc).moved hW.alike⟩⟩ rfl rfl hl.1 rfl (lv_room (Nat.le_of_ble_eq_true rfl)) dX5_call_140 ⟨Nat.le_of_ble_eq_true rfl, Nat.le_of_ble_eq_true rfl⟩) hS (fun q _ h => hFc q h) hFc (fun r_56 u t H1 locs ht hvm hw hB hz1 hk1 hS => ?_)
        obtain ⟨y_57, f_58, by_57, v_58_0, hn_58_0, hP1, hK1, hD1⟩ := hB
        have v_58_0 : y_57.toInt ≤ (n0_ran + 1).toInt + 1 := v_58_0
        have hn_58_0 : kk_P f2 f_58 (n0_ran + 1).toInt y_57.toInt ((kt_leads (f1 (p0 : Int32).toNatClampNeg) 3).tail) := hn_58_0
        rw [ht] at hP1
        have hK1 := va_K.moved hvm.symm hK1
        obtain ⟨hP, hD⟩ := va_join (wr := []) (w1 := [(h0, kO5 h1 n0_size h2 y_57), (h1, kAi cint 50 f1), (h2, kAi cint 24 f_58)]) hP hD [0, 1, 2] [] rfl rfl (by decide) (by decide) hk1 hFc hP1 hD1
        generalize H1 = H at hP hS ⊢
        have hP : va_P (dC, dI) vwCl [(h0, kO5 h1 n0_size h2 y_57), (h1, kAi cint 50 f1), (h2, kAi cint 24 f_58)] H := hP
        have hD : va_D A [(h0, kO5 h1 n0_size h2 y_57), (h1, kAi cint 50 f1), (h2, kAi cint 24 f_58)] := hD
        rcases hw with ⟨t_56_0, _⟩
        · skip
          have t_56_0 : r_56 = kk_leads (f1 (p0 : Int32).toNatClampNeg) 3 p0 p3 := t_56_0
          obtain rfl : r_56 = (kk_leads (f1 (p0 : Int32).toNatClampNeg) 3 p0 p3) := t_56_0
          obtain ⟨hP9, hD9⟩ := kk_leafout (wc := [(h0, kO5 h1 n0_size h2 y_57), (h1, kAi cint 50 f1), (h2, kAi cint 24 f_58)]) hP hD [0, 1, 2] (by decide) rfl
          have hK9 := kk_Ks (tq := []) hK [] rfl
          exact W.iret (v := (kk_leads (f1 (p0 : Int32).toNatClampNeg) 3 p0 p3)) hx hb hr (fun t ht hW => ⟨⟨(kk_leads (f1 (p0 : Int32).toNatClampNeg) 3 p0 p3), (), rfl, ⟨(by first | rfl | (unfold kk_leads; (repeat' split) <;> first | rfl | (exfalso; have : (0 : Int32).toInt = 0 := rfl; have : (1 : Int32).toInt = 1 := rfl; have : (2 : Int32).toInt = 2 := rfl; have : (3 : Int32).toInt = 3 := rfl; have : (4 : Int32).toInt = 4 := rfl; have : (5 : Int32).toInt = 5 := rfl; have : (6 : Int32).toInt = 6 := rfl; have : (7 : Int32).toInt = 7 := rfl; have := kk_add2 (x := n0_ran) (y := 1) (a := n0_ran.toInt) (b := 1) rfl rfl (by omega) (by omega); have := kk_add2 (x := p4) (y := 1) (a := p4.toInt) (b := 1) rfl rfl (by omega) (by omega); omega))), trivial⟩, y_57, f_58, (by show 1 ≤ (y_57 : Int32).toInt ∧ (y_57 : Int32).toInt ≤ 1000; first | with_reducible assumption | (constructor <;> (have := kk_add2 (x := n0_ran) (y := 1) (a := n0_ran.toInt) (b := 1) rfl rfl (by omega) (by omega); have := kk_add2 (x := p4) (y := 1) (a := p4.toInt) (b := 1) rfl rfl (by omega) (by omega); omega))), (by show (y_57 : Int32).toInt ≤ (n0_ran : Int32).toInt + 6; first | with_reducible assumption | (have := kk_add2 (x := n0_ran) (y := 1) (a := n0_ran.toInt) (b := 1) rfl rfl (by omega) (by omega); have := kk_add2 (x := p4) (y := 1) (a := p4.toInt) (b := 1) rfl rfl (by omega) (by omega); omega)), (by first | exact kk_P_eq (kk_P_trans hp_55 hn_58_0) rfl | (unfold kt_leads; (repeat' split) <;> first | exact kk_P_eq (kk_P_trans hp_55 hn_58_0) rfl | (exfalso; have : (0 : Int32).toInt = 0 := rfl; have : (1 : Int32).toInt = 1 := rfl; have : (2 : Int32).toInt = 2 := rfl; have : (3 : Int32).toInt = 3 := rfl; have : (4 : Int32).toInt = 4 := rfl; have : (5 : Int32).toInt = 5 := rfl; have : (6 : Int32).toInt = 6 := rfl; have : (7 : Int32).toInt = 7 := rfl; have := kk_add2 (x := n0_ran) (y := 1) (a := n0_ran.toInt) (b := 1) rfl rfl (by omega) (by omega); have := kk_add2 (x := p4) (y := 1) (a := p4.toInt) (b := 1) rfl rfl (by omega) (by omega); omega))), by rw [ht]; exact hP9, va_K.moved hW.alike hK9, hD9⟩, hS.F ht⟩) hS.2.2 dX5_call_143
      · have t_54 : n0_ran.toInt < 24 := kk_nle c_54
        refine lv_aload_n hx hb dX5_call_86 rfl (lv_at hl 2 rfl) ?_
        refine va_get (D := (dC, dI)) (ci := 5) (v := .ref h2) (C := RX5) (T := TX5) (N := 4) hx hb hts (fun _ h => List.mem_cons_of_mem _ (List.mem_append_right _ h)) hown hK hP 0 rfl rfl 2 (by decide) (hts (.fieldLink RX5 15 "KinkStreet$Lines" "trace" "[I") (List.mem_of_getElem? (i := 4) rfl)) (fun _ h9 => h9) rfl dX5_call_87 ?_
        refine lv_aload_n hx hb dX5_call_90 rfl (lv_at hl 2 rfl) ?_
        refine va_get (D := (dC, dI)) (ci := 5) (v := .int n0_ran) (C := RX5) (T := TX5) (N := 4) hx hb hts (fun _ h => List.mem_cons_of_mem _ (List.mem_append_right _ h)) hown hK hP 0 rfl rfl 3 (by decide) (hts (.fieldLink RX5 36 "KinkStreet$Lines" "ran" "I") (List.mem_of_getElem? (i := 3) rfl)) (fun _ h9 => h9) rfl dX5_call_91 ?_
        refine lv_iload hx hb dX5_call_94 (lv_at hl 0 rfl) ?_
        refine va_iast hx hb hK hP hD hS 2 0 rfl rfl (vp_in_iff.mpr ⟨by omega, by omega⟩) dX5_call_96 (fun H locs hP hD hS => ?_)
        have w_59 : ((upd f2 (n0_ran : Int32).toNatClampNeg 40) (n0_ran : Int32).toNatClampNeg).toInt = (40 : Int32).toInt := by rw [kk_ups]
        have hP : va_P (dC, dI) vwCl [(h0, kO5 h1 n0_size h2 n0_ran), (h1, kAi cint 50 f1), (h2, kAi cint 24 (upd f2 (n0_ran : Int32).toNatClampNeg 40))] H := hP
        have hD : va_D A [(h0, kO5 h1 n0_size h2 n0_ran), (h1, kAi cint 50 f1), (h2, kAi cint 24 (upd f2 (n0_ran : Int32).toNatClampNeg 40))] := hD
        refine lv_aload_n hx hb dX5_call_97 rfl (lv_at hl 2 rfl) ?_
        refine lv_dup hx hb dX5_call_98 rfl ?_
        refine va_get (D := (dC, dI)) (ci := 5) (v := .int n0_ran) (C := RX5) (T := TX5) (N := 4) hx hb hts (fun _ h => List.mem_cons_of_mem _ (List.mem_append_right _ h)) hown hK hP 0 rfl rfl 3 (by decide) (hts (.fieldLink RX5 36 "KinkStreet$Lines" "ran" "I") (List.mem_of_getElem? (i := 3) rfl)) (fun _ h9 => h9) rfl dX5_call_99 ?_
        refine lv_iconst (v := 1) hx hb dX5_call_102 kk_ic_1 ?_
        refine lv_iadd hx hb dX5_call_103 ?_
        refine va_put (D := (dC, dI)) (ci := 5) (v := .int (n0_ran + 1)) (ty := .int) (C := RX5) (T := TX5) (N := 4) hx hb hts (fun _ h => List.mem_cons_of_mem _ (List.mem_append_right _ h)) tyX5 tyX5_ok nmX5 hown hK hP hD hS 0 rfl rfl 3 (by decide) (hts (.fieldLink RX5 36 "KinkStreet$Lines" "ran" "I") (List.mem_of_getElem? (i := 3) rfl)) (fun _ h9 => h9) rfl (by decide +kernel) rfl rfl (Nat.le_of_ble_eq_true rfl) dX5_call_104 (fun H locs hP hD hS => ?_)
        have hP : va_P (dC, dI) vwCl [(h0, kO5 h1 n0_size h2 (n0_ran + 1)), (h1, kAi cint 50 f1), (h2, kAi cint 24 (upd f2 (n0_ran : Int32).toNatClampNeg 40))] H := hP
        have hD : va_D A [(h0, kO5 h1 n0_size h2 (n0_ran + 1)), (h1, kAi cint 50 f1), (h2, kAi cint 24 (upd f2 (n0_ran : Int32).toNatClampNeg 40))] := hD
        have hp_60 : kk_P f2 (upd f2 (n0_ran : Int32).toNatClampNeg 40) n0_ran.toInt (n0_ran + 1 : Int32).toInt [40] := kk_P_one (by have := kk_add2 (x := n0_ran) (y := 1) (a := n0_ran.toInt) (b := 1) rfl rfl (by omega) (by omega); omega) (by have := kk_add2 (x := n0_ran) (y := 1) (a := n0_ran.toInt) (b := 1) rfl rfl (by omega) (by omega); omega)
        refine lv_iload hx hb dX5_call_107 (lv_at hl 1 rfl) ?_
        refine lv_if_ne (tgt := 128) hx hb dX5_call_109 (by decide) (fun _ => ?_) (fun c => absurd c (by decide))
        refine lv_aload_n hx hb dX5_call_128 rfl (lv_at hl 2 rfl) ?_
        refine lv_iload_n hx hb dX5_call_129 rfl (lv_at hl 3 rfl) ?_
        refine lv_iload hx hb dX5_call_130 (lv_at hl 1 rfl) ?_
        refine lv_iload hx hb dX5_call_132 (lv_at hl 0 rfl) ?_
        refine lv_iload hx hb dX5_call_134 (lv_at hl 6 rfl) ?_
        refine lv_iload hx hb dX5_call_136 (lv_at hl 7 rfl) ?_
        refine lv_iconst (v := 1) hx hb dX5_call_138 kk_ic_1 ?_
        refine lv_iadd hx hb dX5_call_139 ?_
        obtain ⟨hPc, hDc, hFc⟩ := kk_cutout (wc := [(h0, kO5 h1 n0_size h2 (n0_ran + 1)), (h1, kAi cint 50 f1), (h2, kAi cint 24 (upd f2 (n0_ran : Int32).toNatClampNeg 40))]) hP hD hS hA [0, 1, 2] (by decide) rfl
        have hKc := kk_Ks (tq := [(cint, .int)]) hK [0] rfl
        refine va_calli (va_runV (As := [.int p0, .int 3, .int 40, .int p3, .int (p4 + 1)]) (rest := []) ⟨hx, hb, hml, hown, hts⟩ (g_X5_runUnder_13 l dC dI h0 h1 h2 cint H.size p0 p3 (p4 + 1) (by show 0 ≤ ((p4 + 1) : Int32).toInt ∧ ((p4 + 1) : Int32).toInt ≤ 14; first | with_reducible assumption | (constructor <;> (have := kk_add2 (x := n0_ran) (y := 1) (a := n0_ran.toInt) (b := 1) rfl rfl (by omega) (by omega); have := kk_add2 (x := p4) (y := 1) (a := p4.toInt) (b := 1) rfl rfl (by omega) (by omega); omega))) n0_size (n0_ran + 1) f1 (upd f2 (n0_ran : Int32).toNatClampNeg 40) tn0_size (by show 0 ≤ ((n0_ran + 1) : Int32).toInt ∧ ((n0_ran + 1) : Int32).toInt ≤ 999; first | with_reducible assumption | (constructor <;> (have := kk_add2 (x := n0_ran) (y := 1) (a := n0_ran.toInt) (b := 1) rfl rfl (by omega) (by omega); have := kk_add2 (x := p4) (y := 1) (a := p4.toInt) (b := 1) rfl rfl (by omega) (by omega); omega))) bf1 (by show (0 ≤ (p0 : Int32).toInt ∧ (p0 : Int32).toInt < (n0_size : Int32).toInt); first | with_reducible assumption | (have := kk_add2 (x := n0_ran) (y := 1) (a := n0_ran.toInt) (b := 1) rfl rfl (by omega) (by omega); have := kk_add2 (x := p4) (y := 1) (a := p4.toInt) (b := 1) rfl rfl (by omega) (by omega); omega)) aABOVE aOWN_BODIES) (cwV 5 hts gX5_call_X5_runUnder rfl rfl rfl ⟨rfl, kh_X5_runUnder⟩ ⟨Nat.le_of_ble_eq_true rfl, Nat.le_of_ble_eq_true rfl⟩) ⟨fun a U g mk q => by obtain ⟨q0, q1, qP, qK, qD, qx0, qx1, qx2, qx3⟩ := q; exact ⟨q0, q1, qP, va_K.moved (u := U) (U := U.calling g mk a) (Vm.Alike.refl U.vm) qK, qD, va_Z.moved (u := U) (U := U.calling g mk a) (Vm.Alike.refl U.vm) qx0, va_T.moved (u := U) (U := U.calling g mk a) (Vm.Alike.refl U.vm) qx1, va_Z.moved (u := U) (U := U.calling g mk a) (Vm.Alike.refl U.vm) qx2, va_T.moved (u := U) (U := U.calling g mk a) (Vm.Alike.refl U.vm) qx3⟩, va_recv hKc hPc (ci := 5) (q0 := 0) rfl rfl, fun U hU hW => ⟨rfl, by rw [hU], by rw [hU]; exact hPc, va_K.moved hW.alike hKc, hDc.weaken (fun _ _ _ _ => trivial), by rw [hU]; exact ((hZABOVE.kept (fun a h1 h2 => hS.2.1 a h1 h2)).narrow hFc).moved hW.alike, by rw [hU]; exact ((hTABOVE.kept (fun a h1 h2 => hS.2.1 a h1 h2)).narrow hFc).moved hW.alike, by rw [hU]; exact ((hZOWN_BODIES.kept (fun a h1 h2 => hS.2.1 a h1 h2)).narrow hFc).moved hW.alike, by rw [hU]; exact ((hTOWN_BODIES.kept (fun a h1 h2 => hS.2.1 a h1 h2)).narrow hFc).moved hW.alike⟩⟩ rfl rfl hl.1 rfl (lv_room (Nat.le_of_ble_eq_true rfl)) dX5_call_140 ⟨Nat.le_of_ble_eq_true rfl, Nat.le_of_ble_eq_true rfl⟩) hS (fun q _ h => hFc q h) hFc (fun r_61 u t H1 locs ht hvm hw hB hz1 hk1 hS => ?_)
        obtain ⟨y_62, f_63, by_62, v_63_0, hn_63_0, hP1, hK1, hD1⟩ := hB
        have v_63_0 : y_62.toInt ≤ (n0_ran + 1).toInt + 1 := v_63_0
        have hn_63_0 : kk_P (upd f2 (n0_ran : Int32).toNatClampNeg 40) f_63 (n0_ran + 1).toInt y_62.toInt ((kt_leads (f1 (p0 : Int32).toNatClampNeg) 3).tail) := hn_63_0
        rw [ht] at hP1
        have hK1 := va_K.moved hvm.symm hK1
        obtain ⟨hP, hD⟩ := va_join (wr := []) (w1 := [(h0, kO5 h1 n0_size h2 y_62), (h1, kAi cint 50 f1), (h2, kAi cint 24 f_63)]) hP hD [0, 1, 2] [] rfl rfl (by decide) (by decide) hk1 hFc hP1 hD1
        generalize H1 = H at hP hS ⊢
        have hP : va_P (dC, dI) vwCl [(h0, kO5 h1 n0_size h2 y_62), (h1, kAi cint 50 f1), (h2, kAi cint 24 f_63)] H := hP
        have hD : va_D A [(h0, kO5 h1 n0_size h2 y_62), (h1, kAi cint 50 f1), (h2, kAi cint 24 f_63)] := hD
        rcases hw with ⟨t_61_0, _⟩
        · skip
          have t_61_0 : r_61 = kk_leads (f1 (p0 : Int32).toNatClampNeg) 3 p0 p3 := t_61_0
          obtain rfl : r_61 = (kk_leads (f1 (p0 : Int32).toNatClampNeg) 3 p0 p3) := t_61_0
          obtain ⟨hP9, hD9⟩ := kk_leafout (wc := [(h0, kO5 h1 n0_size h2 y_62), (h1, kAi cint 50 f1), (h2, kAi cint 24 f_63)]) hP hD [0, 1, 2] (by decide) rfl
          have hK9 := kk_Ks (tq := []) hK [] rfl
          exact W.iret (v := (kk_leads (f1 (p0 : Int32).toNatClampNeg) 3 p0 p3)) hx hb hr (fun t ht hW => ⟨⟨(kk_leads (f1 (p0 : Int32).toNatClampNeg) 3 p0 p3), (), rfl, ⟨(by first | rfl | (unfold kk_leads; (repeat' split) <;> first | rfl | (exfalso; have : (0 : Int32).toInt = 0 := rfl; have : (1 : Int32).toInt = 1 := rfl; have : (2 : Int32).toInt = 2 := rfl; have : (3 : Int32).toInt = 3 := rfl; have : (4 : Int32).toInt = 4 := rfl; have : (5 : Int32).toInt = 5 := rfl; have : (6 : Int32).toInt = 6 := rfl; have : (7 : Int32).toInt = 7 := rfl; have := kk_add2 (x := n0_ran) (y := 1) (a := n0_ran.toInt) (b := 1) rfl rfl (by omega) (by omega); have := kk_add2 (x := p4) (y := 1) (a := p4.toInt) (b := 1) rfl rfl (by omega) (by omega); omega))), trivial⟩, y_62, f_63, (by show 1 ≤ (y_62 : Int32).toInt ∧ (y_62 : Int32).toInt ≤ 1000; first | with_reducible assumption | (constructor <;> (have := kk_add2 (x := n0_ran) (y := 1) (a := n0_ran.toInt) (b := 1) rfl rfl (by omega) (by omega); have := kk_add2 (x := p4) (y := 1) (a := p4.toInt) (b := 1) rfl rfl (by omega) (by omega); omega))), (by show (y_62 : Int32).toInt ≤ (n0_ran : Int32).toInt + 6; first | with_reducible assumption | (have := kk_add2 (x := n0_ran) (y := 1) (a := n0_ran.toInt) (b := 1) rfl rfl (by omega) (by omega); have := kk_add2 (x := p4) (y := 1) (a := p4.toInt) (b := 1) rfl rfl (by omega) (by omega); omega)), (by first | exact kk_P_eq (kk_P_trans hp_60 hn_63_0) rfl | (unfold kt_leads; (repeat' split) <;> first | exact kk_P_eq (kk_P_trans hp_60 hn_63_0) rfl | (exfalso; have : (0 : Int32).toInt = 0 := rfl; have : (1 : Int32).toInt = 1 := rfl; have : (2 : Int32).toInt = 2 := rfl; have : (3 : Int32).toInt = 3 := rfl; have : (4 : Int32).toInt = 4 := rfl; have : (5 : Int32).toInt = 5 := rfl; have : (6 : Int32).toInt = 6 := rfl; have : (7 : Int32).toInt = 7 := rfl; have := kk_add2 (x := n0_ran) (y := 1) (a := n0_ran.toInt) (b := 1) rfl rfl (by omega) (by omega); have := kk_add2 (x := p4) (y := 1) (a := p4.toInt) (b := 1) rfl rfl (by omega) (by omega); omega))), by rw [ht]; exact hP9, va_K.moved hW.alike hK9, hD9⟩, hS.F ht⟩) hS.2.2 dX5_call_143
    · have t_51 : 40 < p4.toInt := kk_nle c_51
      exfalso; omega
  · have t_1 : p1.toInt = 4 := by rw [e_1]; rfl
    subst e_1
    refine lv_iload_n hx hb dX5_call_0 rfl (lv_at hl 2 rfl) ?_
    refine lv_istore hx hb dX5_call_1 hl (by decide) (rfl : _ = ([(6, .int 4), (0, .ref h0), (1, .int p0), (2, .int 4), (3, .int 2), (4, .int p3), (5, .int p4)] : List (Nat × Value))) (fun ls hl => ?_)
    refine lv_iconst (v := 0) hx hb dX5_call_3 kk_ic_0 ?_
    refine lv_istore hx hb dX5_call_4 hl (by decide) (rfl : _ = ([(7, .int 0), (6, .int 4), (0, .ref h0), (1, .int p0), (2, .int 4), (3, .int 2), (4, .int p3), (5, .int p4)] : List (Nat × Value))) (fun ls hl => ?_)
    refine lv_iload hx hb dX5_call_6 (lv_at hl 0 rfl) ?_
    refine lv_bipush (v := 8) hx hb dX5_call_8 kk_bi_8 ?_
    refine lv_icmp_ge (tgt := 48) hx hb dX5_call_10 (by decide) (fun c => absurd c (by decide)) (fun _ => ?_)
    refine lv_iload hx hb dX5_call_13 (lv_at hl 1 rfl) ?_
    obtain ⟨hPc, hDc, hFc⟩ := kk_cutout (wc := []) hP hD hS hA [] (by decide) rfl
    have hKc := kk_Ks (tq := []) hK [] rfl
    refine va_calli (va_runS (As := [.int 4]) (rest := []) ⟨hx, hb, hml, hown, hts⟩ (g_X5_isKind_15 l dC dI s.heap.size) (va_cwS 1 hts gX5_call_X5_isKind rfl rfl rfl kh_X5_isKind ⟨Nat.le_of_ble_eq_true rfl, Nat.le_of_ble_eq_true rfl⟩) ⟨fun a U g mk q => by obtain ⟨q0, q1, qP, qK, qD⟩ := q; exact ⟨q0, q1, qP, va_K.moved (u := U) (U := U.calling g mk a) (Vm.Alike.refl U.vm) qK, qD⟩, fun U hU hW => ⟨rfl, by rw [hU], by rw [hU]; exact hPc, va_K.moved hW.alike hKc, hDc.weaken (fun _ _ _ _ => trivial)⟩⟩ rfl rfl hl.1 rfl (lv_room (Nat.le_of_ble_eq_true rfl)) dX5_call_15 ⟨Nat.le_of_ble_eq_true rfl, Nat.le_of_ble_eq_true rfl⟩) hS (fun q _ h => hFc q h) hFc (fun r_64 u t H1 locs ht hvm hw hB hz1 hk1 hS => ?_)
    obtain ⟨hP1, hK1, hD1⟩ := hB
    rw [ht] at hP1
    have hK1 := va_K.moved hvm.symm hK1
    obtain ⟨hP, hD⟩ := va_join (wr := [(h0, kO5 h1 n0_size h2 n0_ran), (h1, kAi cint 50 f1), (h2, kAi cint 24 f2)]) (w1 := []) hP hD [] [0, 1, 2] rfl rfl (by decide) (by decide) hk1 hFc hP1 hD1
    generalize H1 = H at hP hS ⊢
    have hP : va_P (dC, dI) vwCl [(h0, kO5 h1 n0_size h2 n0_ran), (h1, kAi cint 50 f1), (h2, kAi cint 24 f2)] H := hP
    have hD : va_D A [(h0, kO5 h1 n0_size h2 n0_ran), (h1, kAi cint 50 f1), (h2, kAi cint 24 f2)] := hD
    obtain rfl := hw
    refine lv_if_eq (tgt := 48) hx hb dX5_call_18 (by decide) (fun c => absurd c (by decide)) (fun _ => ?_)
    refine va_gets hx hb hZOWN_BODIES hS hown (hts (.fieldLink RX5 43 "KinkStreet$Lines" "OWN_BODIES" "[I") (List.mem_of_getElem? (i := 1) rfl)) (fun _ h9 => h9) dX5_call_21 ?_
    refine lv_iload hx hb dX5_call_24 (lv_at hl 1 rfl) ?_
    refine lv_iconst (v := 4) hx hb dX5_call_26 kk_ic_4 ?_
    refine lv_imul hx hb dX5_call_27 ?_
    refine lv_topi (fun y_65 e_65 => ?_)
    obtain rfl : y_65 = 16 := e_65.trans (by decide)
    refine lv_iload_n hx hb dX5_call_28 rfl (lv_at hl 5 rfl) ?_
    refine lv_iadd hx hb dX5_call_29 ?_
    refine lv_topi (fun y_66 e_66 => ?_)
    obtain rfl : y_66 = 18 := e_66.trans (by decide)
    refine va_ti (v := .int 50) hx hb hTOWN_BODIES hS (by unfold vp_in; decide) rfl dX5_call_30 ?_
    refine lv_if_ne (tgt := 48) hx hb dX5_call_31 (by decide) (fun _ => ?_) (fun c => absurd c (by decide))
    refine lv_iload hx hb dX5_call_48 (lv_at hl 1 rfl) ?_
    obtain ⟨hPc, hDc, hFc⟩ := kk_cutout (wc := []) hP hD hS hA [] (by decide) rfl
    have hKc := kk_Ks (tq := []) hK [] rfl
    refine va_calli (va_runS (As := [.int 4]) (rest := []) ⟨hx, hb, hml, hown, hts⟩ (g_X5_isKind_15 l dC dI H.size) (va_cwS 1 hts gX5_call_X5_isKind rfl rfl rfl kh_X5_isKind ⟨Nat.le_of_ble_eq_true rfl, Nat.le_of_ble_eq_true rfl⟩) ⟨fun a U g mk q => by obtain ⟨q0, q1, qP, qK, qD⟩ := q; exact ⟨q0, q1, qP, va_K.moved (u := U) (U := U.calling g mk a) (Vm.Alike.refl U.vm) qK, qD⟩, fun U hU hW => ⟨rfl, by rw [hU], by rw [hU]; exact hPc, va_K.moved hW.alike hKc, hDc.weaken (fun _ _ _ _ => trivial)⟩⟩ rfl rfl hl.1 rfl (lv_room (Nat.le_of_ble_eq_true rfl)) dX5_call_50 ⟨Nat.le_of_ble_eq_true rfl, Nat.le_of_ble_eq_true rfl⟩) hS (fun q _ h => hFc q h) hFc (fun r_67 u t H1 locs ht hvm hw hB hz1 hk1 hS => ?_)
    obtain ⟨hP1, hK1, hD1⟩ := hB
    rw [ht] at hP1
    have hK1 := va_K.moved hvm.symm hK1
    obtain ⟨hP, hD⟩ := va_join (wr := [(h0, kO5 h1 n0_size h2 n0_ran), (h1, kAi cint 50 f1), (h2, kAi cint 24 f2)]) (w1 := []) hP hD [] [0, 1, 2] rfl rfl (by decide) (by decide) hk1 hFc hP1 hD1
    generalize H1 = H at hP hS ⊢
    have hP : va_P (dC, dI) vwCl [(h0, kO5 h1 n0_size h2 n0_ran), (h1, kAi cint 50 f1), (h2, kAi cint 24 f2)] H := hP
    have hD : va_D A [(h0, kO5 h1 n0_size h2 n0_ran), (h1, kAi cint 50 f1), (h2, kAi cint 24 f2)] := hD
    obtain rfl := hw
    refine lv_if_eq (tgt := 63) hx hb dX5_call_53 (by decide) (fun c => absurd c (by decide)) (fun _ => ?_)
    refine lv_iload hx hb dX5_call_56 (lv_at hl 7 rfl) ?_
    refine lv_bipush (v := 40) hx hb dX5_call_58 kk_bi_40 ?_
    refine lv_icmp_le (tgt := 65) hx hb dX5_call_60 (by decide) (fun c_68 => ?_) (fun c_68 => ?_)
    · have t_68 : p4.toInt ≤ 40 := kk_le c_68
      refine va_gets hx hb hZOWN_BODIES hS hown (hts (.fieldLink RX5 43 "KinkStreet$Lines" "OWN_BODIES" "[I") (List.mem_of_getElem? (i := 1) rfl)) (fun _ h9 => h9) dX5_call_65 ?_
      refine lv_iload hx hb dX5_call_68 (lv_at hl 1 rfl) ?_
      refine lv_iconst (v := 4) hx hb dX5_call_70 kk_ic_4 ?_
      refine lv_imul hx hb dX5_call_71 ?_
      refine lv_topi (fun y_69 e_69 => ?_)
      obtain rfl : y_69 = 16 := e_69.trans (by decide)
      refine lv_iload_n hx hb dX5_call_72 rfl (lv_at hl 5 rfl) ?_
      refine lv_iadd hx hb dX5_call_73 ?_
      refine lv_topi (fun y_70 e_70 => ?_)
      obtain rfl : y_70 = 18 := e_70.trans (by decide)
      refine va_ti (v := .int 50) hx hb hTOWN_BODIES hS (by unfold vp_in; decide) rfl dX5_call_74 ?_
      refine lv_istore hx hb dX5_call_75 hl (by decide) (rfl : _ = ([(7, .int 50), (6, .int 4), (0, .ref h0), (1, .int p0), (2, .int 4), (3, .int 2), (4, .int p3), (5, .int p4)] : List (Nat × Value))) (fun ls hl => ?_)
      refine lv_aload_n hx hb dX5_call_77 rfl (lv_at hl 2 rfl) ?_
      refine va_get (D := (dC, dI)) (ci := 5) (v := .int n0_ran) (C := RX5) (T := TX5) (N := 4) hx hb hts (fun _ h => List.mem_cons_of_mem _ (List.mem_append_right _ h)) hown hK hP 0 rfl rfl 3 (by decide) (hts (.fieldLink RX5 36 "KinkStreet$Lines" "ran" "I") (List.mem_of_getElem? (i := 3) rfl)) (fun _ h9 => h9) rfl dX5_call_78 ?_
      refine lv_bipush (v := 24) hx hb dX5_call_81 kk_bi_24 ?_
      refine lv_icmp_ge (tgt := 97) hx hb dX5_call_83 (by decide) (fun c_71 => ?_) (fun c_71 => ?_)
      · have t_71 : 24 ≤ n0_ran.toInt := kk_le c_71
        refine lv_aload_n hx hb dX5_call_97 rfl (lv_at hl 2 rfl) ?_
        refine lv_dup hx hb dX5_call_98 rfl ?_
        refine va_get (D := (dC, dI)) (ci := 5) (v := .int n0_ran) (C := RX5) (T := TX5) (N := 4) hx hb hts (fun _ h => List.mem_cons_of_mem _ (List.mem_append_right _ h)) hown hK hP 0 rfl rfl 3 (by decide) (hts (.fieldLink RX5 36 "KinkStreet$Lines" "ran" "I") (List.mem_of_getElem? (i := 3) rfl)) (fun _ h9 => h9) rfl dX5_call_99 ?_
        refine lv_iconst (v := 1) hx hb dX5_call_102 kk_ic_1 ?_
        refine lv_iadd hx hb dX5_call_103 ?_
        refine va_put (D := (dC, dI)) (ci := 5) (v := .int (n0_ran + 1)) (ty := .int) (C := RX5) (T := TX5) (N := 4) hx hb hts (fun _ h => List.mem_cons_of_mem _ (List.mem_append_right _ h)) tyX5 tyX5_ok nmX5 hown hK hP hD hS 0 rfl rfl 3 (by decide) (hts (.fieldLink RX5 36 "KinkStreet$Lines" "ran" "I") (List.mem_of_getElem? (i := 3) rfl)) (fun _ h9 => h9) rfl (by decide +kernel) rfl rfl (Nat.le_of_ble_eq_true rfl) dX5_call_104 (fun H locs hP hD hS => ?_)
        have hP : va_P (dC, dI) vwCl [(h0, kO5 h1 n0_size h2 (n0_ran + 1)), (h1, kAi cint 50 f1), (h2, kAi cint 24 f2)] H := hP
        have hD : va_D A [(h0, kO5 h1 n0_size h2 (n0_ran + 1)), (h1, kAi cint 50 f1), (h2, kAi cint 24 f2)] := hD
        have hp_72 : kk_P f2 f2 n0_ran.toInt (n0_ran + 1 : Int32).toInt [50] := kk_P_out (by have := kk_add2 (x := n0_ran) (y := 1) (a := n0_ran.toInt) (b := 1) rfl rfl (by omega) (by omega); omega) (by have := kk_add2 (x := n0_ran) (y := 1) (a := n0_ran.toInt) (b := 1) rfl rfl (by omega) (by omega); omega)
        refine lv_iload hx hb dX5_call_107 (lv_at hl 1 rfl) ?_
        refine lv_if_ne (tgt := 128) hx hb dX5_call_109 (by decide) (fun _ => ?_) (fun c => absurd c (by decide))
        refine lv_aload_n hx hb dX5_call_128 rfl (lv_at hl 2 rfl) ?_
        refine lv_iload_n hx hb dX5_call_129 rfl (lv_at hl 3 rfl) ?_
        refine lv_iload hx hb dX5_call_130 (lv_at hl 1 rfl) ?_
        refine lv_iload hx hb dX5_call_132 (lv_at hl 0 rfl) ?_
        refine lv_iload hx hb dX5_call_134 (lv_at hl 6 rfl) ?_
        refine lv_iload hx hb dX5_call_136 (lv_at hl 7 rfl) ?_
        refine lv_iconst (v := 1) hx hb dX5_call_138 kk_ic_1 ?_
        refine lv_iadd hx hb dX5_call_139 ?_
        obtain ⟨hPc, hDc, hFc⟩ := kk_cutout (wc := [(h0, kO5 h1 n0_size h2 (n0_ran + 1)), (h1, kAi cint 50 f1), (h2, kAi cint 24 f2)]) hP hD hS hA [0, 1, 2] (by decide) rfl
        have hKc := kk_Ks (tq := [(cint, .int)]) hK [0] rfl
        refine va_calli (va_runV (As := [.int p0, .int 4, .int 50, .int p3, .int (p4 + 1)]) (rest := []) ⟨hx, hb, hml, hown, hts⟩ (g_X5_runUnder_14 l dC dI h0 h1 h2 cint H.size p0 p3 (p4 + 1) (by show 0 ≤ ((p4 + 1) : Int32).toInt ∧ ((p4 + 1) : Int32).toInt ≤ 13; first | with_reducible assumption | (constructor <;> (have := kk_add2 (x := n0_ran) (y := 1) (a := n0_ran.toInt) (b := 1) rfl rfl (by omega) (by omega); have := kk_add2 (x := p4) (y := 1) (a := p4.toInt) (b := 1) rfl rfl (by omega) (by omega); omega))) n0_size (n0_ran + 1) f1 f2 tn0_size (by show 0 ≤ ((n0_ran + 1) : Int32).toInt ∧ ((n0_ran + 1) : Int32).toInt ≤ 995; first | with_reducible assumption | (constructor <;> (have := kk_add2 (x := n0_ran) (y := 1) (a := n0_ran.toInt) (b := 1) rfl rfl (by omega) (by omega); have := kk_add2 (x := p4) (y := 1) (a := p4.toInt) (b := 1) rfl rfl (by omega) (by omega); omega))) bf1 (by show (0 ≤ (p0 : Int32).toInt ∧ (p0 : Int32).toInt < (n0_size : Int32).toInt); first | with_reducible assumption | (have := kk_add2 (x := n0_ran) (y := 1) (a := n0_ran.toInt) (b := 1) rfl rfl (by omega) (by omega); have := kk_add2 (x := p4) (y := 1) (a := p4.toInt) (b := 1) rfl rfl (by omega) (by omega); omega)) aABOVE aOWN_BODIES) (cwV 5 hts gX5_call_X5_runUnder rfl rfl rfl ⟨rfl, kh_X5_runUnder⟩ ⟨Nat.le_of_ble_eq_true rfl, Nat.le_of_ble_eq_true rfl⟩) ⟨fun a U g mk q => by obtain ⟨q0, q1, qP, qK, qD, qx0, qx1, qx2, qx3⟩ := q; exact ⟨q0, q1, qP, va_K.moved (u := U) (U := U.calling g mk a) (Vm.Alike.refl U.vm) qK, qD, va_Z.moved (u := U) (U := U.calling g mk a) (Vm.Alike.refl U.vm) qx0, va_T.moved (u := U) (U := U.calling g mk a) (Vm.Alike.refl U.vm) qx1, va_Z.moved (u := U) (U := U.calling g mk a) (Vm.Alike.refl U.vm) qx2, va_T.moved (u := U) (U := U.calling g mk a) (Vm.Alike.refl U.vm) qx3⟩, va_recv hKc hPc (ci := 5) (q0 := 0) rfl rfl, fun U hU hW => ⟨rfl, by rw [hU], by rw [hU]; exact hPc, va_K.moved hW.alike hKc, hDc.weaken (fun _ _ _ _ => trivial), by rw [hU]; exact ((hZABOVE.kept (fun a h1 h2 => hS.2.1 a h1 h2)).narrow hFc).moved hW.alike, by rw [hU]; exact ((hTABOVE.kept (fun a h1 h2 => hS.2.1 a h1 h2)).narrow hFc).moved hW.alike, by rw [hU]; exact ((hZOWN_BODIES.kept (fun a h1 h2 => hS.2.1 a h1 h2)).narrow hFc).moved hW.alike, by rw [hU]; exact ((hTOWN_BODIES.kept (fun a h1 h2 => hS.2.1 a h1 h2)).narrow hFc).moved hW.alike⟩⟩ rfl rfl hl.1 rfl (lv_room (Nat.le_of_ble_eq_true rfl)) dX5_call_140 ⟨Nat.le_of_ble_eq_true rfl, Nat.le_of_ble_eq_true rfl⟩) hS (fun q _ h => hFc q h) hFc (fun r_73 u t H1 locs ht hvm hw hB hz1 hk1 hS => ?_)
        obtain ⟨y_74, f_75, by_74, v_75_0, hn_75_0, hP1, hK1, hD1⟩ := hB
        have v_75_0 : y_74.toInt ≤ (n0_ran + 1).toInt + 5 := v_75_0
        have hn_75_0 : kk_P f2 f_75 (n0_ran + 1).toInt y_74.toInt ((kt_leads (f1 (p0 : Int32).toNatClampNeg) 4).tail) := hn_75_0
        rw [ht] at hP1
        have hK1 := va_K.moved hvm.symm hK1
        obtain ⟨hP, hD⟩ := va_join (wr := []) (w1 := [(h0, kO5 h1 n0_size h2 y_74), (h1, kAi cint 50 f1), (h2, kAi cint 24 f_75)]) hP hD [0, 1, 2] [] rfl rfl (by decide) (by decide) hk1 hFc hP1 hD1
        generalize H1 = H at hP hS ⊢
        have hP : va_P (dC, dI) vwCl [(h0, kO5 h1 n0_size h2 y_74), (h1, kAi cint 50 f1), (h2, kAi cint 24 f_75)] H := hP
        have hD : va_D A [(h0, kO5 h1 n0_size h2 y_74), (h1, kAi cint 50 f1), (h2, kAi cint 24 f_75)] := hD
        rcases hw with ⟨t_73_0, _⟩
        · skip
          have t_73_0 : r_73 = kk_leads (f1 (p0 : Int32).toNatClampNeg) 4 p0 p3 := t_73_0
          obtain rfl : r_73 = (kk_leads (f1 (p0 : Int32).toNatClampNeg) 4 p0 p3) := t_73_0
          obtain ⟨hP9, hD9⟩ := kk_leafout (wc := [(h0, kO5 h1 n0_size h2 y_74), (h1, kAi cint 50 f1), (h2, kAi cint 24 f_75)]) hP hD [0, 1, 2] (by decide) rfl
          have hK9 := kk_Ks (tq := []) hK [] rfl
          exact W.iret (v := (kk_leads (f1 (p0 : Int32).toNatClampNeg) 4 p0 p3)) hx hb hr (fun t ht hW => ⟨⟨(kk_leads (f1 (p0 : Int32).toNatClampNeg) 4 p0 p3), (), rfl, ⟨(by first | rfl | (unfold kk_leads; (repeat' split) <;> first | rfl | (exfalso; have : (0 : Int32).toInt = 0 := rfl; have : (1 : Int32).toInt = 1 := rfl; have : (2 : Int32).toInt = 2 := rfl; have : (3 : Int32).toInt = 3 := rfl; have : (4 : Int32).toInt = 4 := rfl; have : (5 : Int32).toInt = 5 := rfl; have : (6 : Int32).toInt = 6 := rfl; have : (7 : Int32).toInt = 7 := rfl; have := kk_add2 (x := n0_ran) (y := 1) (a := n0_ran.toInt) (b := 1) rfl rfl (by omega) (by omega); have := kk_add2 (x := p4) (y := 1) (a := p4.toInt) (b := 1) rfl rfl (by omega) (by omega); omega))), trivial⟩, y_74, f_75, (by show 1 ≤ (y_74 : Int32).toInt ∧ (y_74 : Int32).toInt ≤ 1000; first | with_reducible assumption | (constructor <;> (have := kk_add2 (x := n0_ran) (y := 1) (a := n0_ran.toInt) (b := 1) rfl rfl (by omega) (by omega); have := kk_add2 (x := p4) (y := 1) (a := p4.toInt) (b := 1) rfl rfl (by omega) (by omega); omega))), (by show (y_74 : Int32).toInt ≤ (n0_ran : Int32).toInt + 6; first | with_reducible assumption | (have := kk_add2 (x := n0_ran) (y := 1) (a := n0_ran.toInt) (b := 1) rfl rfl (by omega) (by omega); have := kk_add2 (x := p4) (y := 1) (a := p4.toInt) (b := 1) rfl rfl (by omega) (by omega); omega)), (by first | exact kk_P_eq (kk_P_trans hp_72 hn_75_0) rfl | (unfold kt_leads; (repeat' split) <;> first | exact kk_P_eq (kk_P_trans hp_72 hn_75_0) rfl | (exfalso; have : (0 : Int32).toInt = 0 := rfl; have : (1 : Int32).toInt = 1 := rfl; have : (2 : Int32).toInt = 2 := rfl; have : (3 : Int32).toInt = 3 := rfl; have : (4 : Int32).toInt = 4 := rfl; have : (5 : Int32).toInt = 5 := rfl; have : (6 : Int32).toInt = 6 := rfl; have : (7 : Int32).toInt = 7 := rfl; have := kk_add2 (x := n0_ran) (y := 1) (a := n0_ran.toInt) (b := 1) rfl rfl (by omega) (by omega); have := kk_add2 (x := p4) (y := 1) (a := p4.toInt) (b := 1) rfl rfl (by omega) (by omega); omega))), by rw [ht]; exact hP9, va_K.moved hW.alike hK9, hD9⟩, hS.F ht⟩) hS.2.2 dX5_call_143
      · have t_71 : n0_ran.toInt < 24 := kk_nle c_71
        refine lv_aload_n hx hb dX5_call_86 rfl (lv_at hl 2 rfl) ?_
        refine va_get (D := (dC, dI)) (ci := 5) (v := .ref h2) (C := RX5) (T := TX5) (N := 4) hx hb hts (fun _ h => List.mem_cons_of_mem _ (List.mem_append_right _ h)) hown hK hP 0 rfl rfl 2 (by decide) (hts (.fieldLink RX5 15 "KinkStreet$Lines" "trace" "[I") (List.mem_of_getElem? (i := 4) rfl)) (fun _ h9 => h9) rfl dX5_call_87 ?_
        refine lv_aload_n hx hb dX5_call_90 rfl (lv_at hl 2 rfl) ?_
        refine va_get (D := (dC, dI)) (ci := 5) (v := .int n0_ran) (C := RX5) (T := TX5) (N := 4) hx hb hts (fun _ h => List.mem_cons_of_mem _ (List.mem_append_right _ h)) hown hK hP 0 rfl rfl 3 (by decide) (hts (.fieldLink RX5 36 "KinkStreet$Lines" "ran" "I") (List.mem_of_getElem? (i := 3) rfl)) (fun _ h9 => h9) rfl dX5_call_91 ?_
        refine lv_iload hx hb dX5_call_94 (lv_at hl 0 rfl) ?_
        refine va_iast hx hb hK hP hD hS 2 0 rfl rfl (vp_in_iff.mpr ⟨by omega, by omega⟩) dX5_call_96 (fun H locs hP hD hS => ?_)
        have w_76 : ((upd f2 (n0_ran : Int32).toNatClampNeg 50) (n0_ran : Int32).toNatClampNeg).toInt = (50 : Int32).toInt := by rw [kk_ups]
        have hP : va_P (dC, dI) vwCl [(h0, kO5 h1 n0_size h2 n0_ran), (h1, kAi cint 50 f1), (h2, kAi cint 24 (upd f2 (n0_ran : Int32).toNatClampNeg 50))] H := hP
        have hD : va_D A [(h0, kO5 h1 n0_size h2 n0_ran), (h1, kAi cint 50 f1), (h2, kAi cint 24 (upd f2 (n0_ran : Int32).toNatClampNeg 50))] := hD
        refine lv_aload_n hx hb dX5_call_97 rfl (lv_at hl 2 rfl) ?_
        refine lv_dup hx hb dX5_call_98 rfl ?_
        refine va_get (D := (dC, dI)) (ci := 5) (v := .int n0_ran) (C := RX5) (T := TX5) (N := 4) hx hb hts (fun _ h => List.mem_cons_of_mem _ (List.mem_append_right _ h)) hown hK hP 0 rfl rfl 3 (by decide) (hts (.fieldLink RX5 36 "KinkStreet$Lines" "ran" "I") (List.mem_of_getElem? (i := 3) rfl)) (fun _ h9 => h9) rfl dX5_call_99 ?_
        refine lv_iconst (v := 1) hx hb dX5_call_102 kk_ic_1 ?_
        refine lv_iadd hx hb dX5_call_103 ?_
        refine va_put (D := (dC, dI)) (ci := 5) (v := .int (n0_ran + 1)) (ty := .int) (C := RX5) (T := TX5) (N := 4) hx hb hts (fun _ h => List.mem_cons_of_mem _ (List.mem_append_right _ h)) tyX5 tyX5_ok nmX5 hown hK hP hD hS 0 rfl rfl 3 (by decide) (hts (.fieldLink RX5 36 "KinkStreet$Lines" "ran" "I") (List.mem_of_getElem? (i := 3) rfl)) (fun _ h9 => h9) rfl (by decide +kernel) rfl rfl (Nat.le_of_ble_eq_true rfl) dX5_call_104 (fun H locs hP hD hS => ?_)
        have hP : va_P (dC, dI) vwCl [(h0, kO5 h1 n0_size h2 (n0_ran + 1)), (h1, kAi cint 50 f1), (h2, kAi cint 24 (upd f2 (n0_ran : Int32).toNatClampNeg 50))] H := hP
        have hD : va_D A [(h0, kO5 h1 n0_size h2 (n0_ran + 1)), (h1, kAi cint 50 f1), (h2, kAi cint 24 (upd f2 (n0_ran : Int32).toNatClampNeg 50))] := hD
        have hp_77 : kk_P f2 (upd f2 (n0_ran : Int32).toNatClampNeg 50) n0_ran.toInt (n0_ran + 1 : Int32).toInt [50] := kk_P_one (by have := kk_add2 (x := n0_ran) (y := 1) (a := n0_ran.toInt) (b := 1) rfl rfl (by omega) (by omega); omega) (by have := kk_add2 (x := n0_ran) (y := 1) (a := n0_ran.toInt) (b := 1) rfl rfl (by omega) (by omega); omega)
        refine lv_iload hx hb dX5_call_107 (lv_at hl 1 rfl) ?_
        refine lv_if_ne (tgt := 128) hx hb dX5_call_109 (by decide) (fun _ => ?_) (fun c => absurd c (by decide))
        refine lv_aload_n hx hb dX5_call_128 rfl (lv_at hl 2 rfl) ?_
        refine lv_iload_n hx hb dX5_call_129 rfl (lv_at hl 3 rfl) ?_
        refine lv_iload hx hb dX5_call_130 (lv_at hl 1 rfl) ?_
        refine lv_iload hx hb dX5_call_132 (lv_at hl 0 rfl) ?_
        refine lv_iload hx hb dX5_call_134 (lv_at hl 6 rfl) ?_
        refine lv_iload hx hb dX5_call_136 (lv_at hl 7 rfl) ?_
        refine lv_iconst (v := 1) hx hb dX5_call_138 kk_ic_1 ?_
        refine lv_iadd hx hb dX5_call_139 ?_
        obtain ⟨hPc, hDc, hFc⟩ := kk_cutout (wc := [(h0, kO5 h1 n0_size h2 (n0_ran + 1)), (h1, kAi cint 50 f1), (h2, kAi cint 24 (upd f2 (n0_ran : Int32).toNatClampNeg 50))]) hP hD hS hA [0, 1, 2] (by decide) rfl
        have hKc := kk_Ks (tq := [(cint, .int)]) hK [0] rfl
        refine va_calli (va_runV (As := [.int p0, .int 4, .int 50, .int p3, .int (p4 + 1)]) (rest := []) ⟨hx, hb, hml, hown, hts⟩ (g_X5_runUnder_14 l dC dI h0 h1 h2 cint H.size p0 p3 (p4 + 1) (by show 0 ≤ ((p4 + 1) : Int32).toInt ∧ ((p4 + 1) : Int32).toInt ≤ 13; first | with_reducible assumption | (constructor <;> (have := kk_add2 (x := n0_ran) (y := 1) (a := n0_ran.toInt) (b := 1) rfl rfl (by omega) (by omega); have := kk_add2 (x := p4) (y := 1) (a := p4.toInt) (b := 1) rfl rfl (by omega) (by omega); omega))) n0_size (n0_ran + 1) f1 (upd f2 (n0_ran : Int32).toNatClampNeg 50) tn0_size (by show 0 ≤ ((n0_ran + 1) : Int32).toInt ∧ ((n0_ran + 1) : Int32).toInt ≤ 995; first | with_reducible assumption | (constructor <;> (have := kk_add2 (x := n0_ran) (y := 1) (a := n0_ran.toInt) (b := 1) rfl rfl (by omega) (by omega); have := kk_add2 (x := p4) (y := 1) (a := p4.toInt) (b := 1) rfl rfl (by omega) (by omega); omega))) bf1 (by show (0 ≤ (p0 : Int32).toInt ∧ (p0 : Int32).toInt < (n0_size : Int32).toInt); first | with_reducible assumption | (have := kk_add2 (x := n0_ran) (y := 1) (a := n0_ran.toInt) (b := 1) rfl rfl (by omega) (by omega); have := kk_add2 (x := p4) (y := 1) (a := p4.toInt) (b := 1) rfl rfl (by omega) (by omega); omega)) aABOVE aOWN_BODIES) (cwV 5 hts gX5_call_X5_runUnder rfl rfl rfl ⟨rfl, kh_X5_runUnder⟩ ⟨Nat.le_of_ble_eq_true rfl, Nat.le_of_ble_eq_true rfl⟩) ⟨fun a U g mk q => by obtain ⟨q0, q1, qP, qK, qD, qx0, qx1, qx2, qx3⟩ := q; exact ⟨q0, q1, qP, va_K.moved (u := U) (U := U.calling g mk a) (Vm.Alike.refl U.vm) qK, qD, va_Z.moved (u := U) (U := U.calling g mk a) (Vm.Alike.refl U.vm) qx0, va_T.moved (u := U) (U := U.calling g mk a) (Vm.Alike.refl U.vm) qx1, va_Z.moved (u := U) (U := U.calling g mk a) (Vm.Alike.refl U.vm) qx2, va_T.moved (u := U) (U := U.calling g mk a) (Vm.Alike.refl U.vm) qx3⟩, va_recv hKc hPc (ci := 5) (q0 := 0) rfl rfl, fun U hU hW => ⟨rfl, by rw [hU], by rw [hU]; exact hPc, va_K.moved hW.alike hKc, hDc.weaken (fun _ _ _ _ => trivial), by rw [hU]; exact ((hZABOVE.kept (fun a h1 h2 => hS.2.1 a h1 h2)).narrow hFc).moved hW.alike, by rw [hU]; exact ((hTABOVE.kept (fun a h1 h2 => hS.2.1 a h1 h2)).narrow hFc).moved hW.alike, by rw [hU]; exact ((hZOWN_BODIES.kept (fun a h1 h2 => hS.2.1 a h1 h2)).narrow hFc).moved hW.alike, by rw [hU]; exact ((hTOWN_BODIES.kept (fun a h1 h2 => hS.2.1 a h1 h2)).narrow hFc).moved hW.alike⟩⟩ rfl rfl hl.1 rfl (lv_room (Nat.le_of_ble_eq_true rfl)) dX5_call_140 ⟨Nat.le_of_ble_eq_true rfl, Nat.le_of_ble_eq_true rfl⟩) hS (fun q _ h => hFc q h) hFc (fun r_78 u t H1 locs ht hvm hw hB hz1 hk1 hS => ?_)
        obtain ⟨y_79, f_80, by_79, v_80_0, hn_80_0, hP1, hK1, hD1⟩ := hB
        have v_80_0 : y_79.toInt ≤ (n0_ran + 1).toInt + 5 := v_80_0
        have hn_80_0 : kk_P (upd f2 (n0_ran : Int32).toNatClampNeg 50) f_80 (n0_ran + 1).toInt y_79.toInt ((kt_leads (f1 (p0 : Int32).toNatClampNeg) 4).tail) := hn_80_0
        rw [ht] at hP1
        have hK1 := va_K.moved hvm.symm hK1
        obtain ⟨hP, hD⟩ := va_join (wr := []) (w1 := [(h0, kO5 h1 n0_size h2 y_79), (h1, kAi cint 50 f1), (h2, kAi cint 24 f_80)]) hP hD [0, 1, 2] [] rfl rfl (by decide) (by decide) hk1 hFc hP1 hD1
        generalize H1 = H at hP hS ⊢
        have hP : va_P (dC, dI) vwCl [(h0, kO5 h1 n0_size h2 y_79), (h1, kAi cint 50 f1), (h2, kAi cint 24 f_80)] H := hP
        have hD : va_D A [(h0, kO5 h1 n0_size h2 y_79), (h1, kAi cint 50 f1), (h2, kAi cint 24 f_80)] := hD
        rcases hw with ⟨t_78_0, _⟩
        · skip
          have t_78_0 : r_78 = kk_leads (f1 (p0 : Int32).toNatClampNeg) 4 p0 p3 := t_78_0
          obtain rfl : r_78 = (kk_leads (f1 (p0 : Int32).toNatClampNeg) 4 p0 p3) := t_78_0
          obtain ⟨hP9, hD9⟩ := kk_leafout (wc := [(h0, kO5 h1 n0_size h2 y_79), (h1, kAi cint 50 f1), (h2, kAi cint 24 f_80)]) hP hD [0, 1, 2] (by decide) rfl
          have hK9 := kk_Ks (tq := []) hK [] rfl
          exact W.iret (v := (kk_leads (f1 (p0 : Int32).toNatClampNeg) 4 p0 p3)) hx hb hr (fun t ht hW => ⟨⟨(kk_leads (f1 (p0 : Int32).toNatClampNeg) 4 p0 p3), (), rfl, ⟨(by first | rfl | (unfold kk_leads; (repeat' split) <;> first | rfl | (exfalso; have : (0 : Int32).toInt = 0 := rfl; have : (1 : Int32).toInt = 1 := rfl; have : (2 : Int32).toInt = 2 := rfl; have : (3 : Int32).toInt = 3 := rfl; have : (4 : Int32).toInt = 4 := rfl; have : (5 : Int32).toInt = 5 := rfl; have : (6 : Int32).toInt = 6 := rfl; have : (7 : Int32).toInt = 7 := rfl; have := kk_add2 (x := n0_ran) (y := 1) (a := n0_ran.toInt) (b := 1) rfl rfl (by omega) (by omega); have := kk_add2 (x := p4) (y := 1) (a := p4.toInt) (b := 1) rfl rfl (by omega) (by omega); omega))), trivial⟩, y_79, f_80, (by show 1 ≤ (y_79 : Int32).toInt ∧ (y_79 : Int32).toInt ≤ 1000; first | with_reducible assumption | (constructor <;> (have := kk_add2 (x := n0_ran) (y := 1) (a := n0_ran.toInt) (b := 1) rfl rfl (by omega) (by omega); have := kk_add2 (x := p4) (y := 1) (a := p4.toInt) (b := 1) rfl rfl (by omega) (by omega); omega))), (by show (y_79 : Int32).toInt ≤ (n0_ran : Int32).toInt + 6; first | with_reducible assumption | (have := kk_add2 (x := n0_ran) (y := 1) (a := n0_ran.toInt) (b := 1) rfl rfl (by omega) (by omega); have := kk_add2 (x := p4) (y := 1) (a := p4.toInt) (b := 1) rfl rfl (by omega) (by omega); omega)), (by first | exact kk_P_eq (kk_P_trans hp_77 hn_80_0) rfl | (unfold kt_leads; (repeat' split) <;> first | exact kk_P_eq (kk_P_trans hp_77 hn_80_0) rfl | (exfalso; have : (0 : Int32).toInt = 0 := rfl; have : (1 : Int32).toInt = 1 := rfl; have : (2 : Int32).toInt = 2 := rfl; have : (3 : Int32).toInt = 3 := rfl; have : (4 : Int32).toInt = 4 := rfl; have : (5 : Int32).toInt = 5 := rfl; have : (6 : Int32).toInt = 6 := rfl; have : (7 : Int32).toInt = 7 := rfl; have := kk_add2 (x := n0_ran) (y := 1) (a := n0_ran.toInt) (b := 1) rfl rfl (by omega) (by omega); have := kk_add2 (x := p4) (y := 1) (a := p4.toInt) (b := 1) rfl rfl (by omega) (by omega); omega))), by rw [ht]; exact hP9, va_K.moved hW.alike hK9, hD9⟩, hS.F ht⟩) hS.2.2 dX5_call_143
    · have t_68 : 40 < p4.toInt := kk_nle c_68
      exfalso; omega
  · have t_1 : p1.toInt = 5 := by rw [e_1]; rfl
    subst e_1
    refine lv_iload_n hx hb dX5_call_0 rfl (lv_at hl 2 rfl) ?_
    refine lv_istore hx hb dX5_call_1 hl (by decide) (rfl : _ = ([(6, .int 5), (0, .ref h0), (1, .int p0), (2, .int 5), (3, .int 2), (4, .int p3), (5, .int p4)] : List (Nat × Value))) (fun ls hl => ?_)
    refine lv_iconst (v := 0) hx hb dX5_call_3 kk_ic_0 ?_
    refine lv_istore hx hb dX5_call_4 hl (by decide) (rfl : _ = ([(7, .int 0), (6, .int 5), (0, .ref h0), (1, .int p0), (2, .int 5), (3, .int 2), (4, .int p3), (5, .int p4)] : List (Nat × Value))) (fun ls hl => ?_)
    refine lv_iload hx hb dX5_call_6 (lv_at hl 0 rfl) ?_
    refine lv_bipush (v := 8) hx hb dX5_call_8 kk_bi_8 ?_
    refine lv_icmp_ge (tgt := 48) hx hb dX5_call_10 (by decide) (fun c => absurd c (by decide)) (fun _ => ?_)
    refine lv_iload hx hb dX5_call_13 (lv_at hl 1 rfl) ?_
    obtain ⟨hPc, hDc, hFc⟩ := kk_cutout (wc := []) hP hD hS hA [] (by decide) rfl
    have hKc := kk_Ks (tq := []) hK [] rfl
    refine va_calli (va_runS (As := [.int 5]) (rest := []) ⟨hx, hb, hml, hown, hts⟩ (g_X5_isKind_16 l dC dI s.heap.size) (va_cwS 1 hts gX5_call_X5_isKind rfl rfl rfl kh_X5_isKind ⟨Nat.le_of_ble_eq_true rfl, Nat.le_of_ble_eq_true rfl⟩) ⟨fun a U g mk q => by obtain ⟨q0, q1, qP, qK, qD⟩ := q; exact ⟨q0, q1, qP, va_K.moved (u := U) (U := U.calling g mk a) (Vm.Alike.refl U.vm) qK, qD⟩, fun U hU hW => ⟨rfl, by rw [hU], by rw [hU]; exact hPc, va_K.moved hW.alike hKc, hDc.weaken (fun _ _ _ _ => trivial)⟩⟩ rfl rfl hl.1 rfl (lv_room (Nat.le_of_ble_eq_true rfl)) dX5_call_15 ⟨Nat.le_of_ble_eq_true rfl, Nat.le_of_ble_eq_true rfl⟩) hS (fun q _ h => hFc q h) hFc (fun r_81 u t H1 locs ht hvm hw hB hz1 hk1 hS => ?_)
    obtain ⟨hP1, hK1, hD1⟩ := hB
    rw [ht] at hP1
    have hK1 := va_K.moved hvm.symm hK1
    obtain ⟨hP, hD⟩ := va_join (wr := [(h0, kO5 h1 n0_size h2 n0_ran), (h1, kAi cint 50 f1), (h2, kAi cint 24 f2)]) (w1 := []) hP hD [] [0, 1, 2] rfl rfl (by decide) (by decide) hk1 hFc hP1 hD1
    generalize H1 = H at hP hS ⊢
    have hP : va_P (dC, dI) vwCl [(h0, kO5 h1 n0_size h2 n0_ran), (h1, kAi cint 50 f1), (h2, kAi cint 24 f2)] H := hP
    have hD : va_D A [(h0, kO5 h1 n0_size h2 n0_ran), (h1, kAi cint 50 f1), (h2, kAi cint 24 f2)] := hD
    obtain rfl := hw
    refine lv_if_eq (tgt := 48) hx hb dX5_call_18 (by decide) (fun c => absurd c (by decide)) (fun _ => ?_)
    refine va_gets hx hb hZOWN_BODIES hS hown (hts (.fieldLink RX5 43 "KinkStreet$Lines" "OWN_BODIES" "[I") (List.mem_of_getElem? (i := 1) rfl)) (fun _ h9 => h9) dX5_call_21 ?_
    refine lv_iload hx hb dX5_call_24 (lv_at hl 1 rfl) ?_
    refine lv_iconst (v := 4) hx hb dX5_call_26 kk_ic_4 ?_
    refine lv_imul hx hb dX5_call_27 ?_
    refine lv_topi (fun y_82 e_82 => ?_)
    obtain rfl : y_82 = 20 := e_82.trans (by decide)
    refine lv_iload_n hx hb dX5_call_28 rfl (lv_at hl 5 rfl) ?_
    refine lv_iadd hx hb dX5_call_29 ?_
    refine lv_topi (fun y_83 e_83 => ?_)
    obtain rfl : y_83 = 22 := e_83.trans (by decide)
    refine va_ti (v := .int 0) hx hb hTOWN_BODIES hS (by unfold vp_in; decide) rfl dX5_call_30 ?_
    refine lv_if_ne (tgt := 48) hx hb dX5_call_31 (by decide) (fun c => absurd c (by decide)) (fun _ => ?_)
    refine va_gets hx hb hZABOVE hS hown (hts (.fieldLink RX5 22 "KinkStreet$Lines" "ABOVE" "[I") (List.mem_of_getElem? (i := 2) rfl)) (fun _ h9 => h9) dX5_call_34 ?_
    refine lv_iload hx hb dX5_call_37 (lv_at hl 1 rfl) ?_
    refine va_ti (v := .int 1) hx hb hTABOVE hS (by unfold vp_in; decide) rfl dX5_call_39 ?_
    refine lv_istore hx hb dX5_call_40 hl (by decide) (rfl : _ = ([(6, .int 1), (7, .int 0), (0, .ref h0), (1, .int p0), (2, .int 5), (3, .int 2), (4, .int p3), (5, .int p4)] : List (Nat × Value))) (fun ls hl => ?_)
    refine lv_iinc (v := 1) hx hb dX5_call_42 hl (k := 1) rfl (by first | rfl | decide) (by decide) (rfl : _ = ([(7, .int 1), (6, .int 1), (0, .ref h0), (1, .int p0), (2, .int 5), (3, .int 2), (4, .int p3), (5, .int p4)] : List (Nat × Value))) (fun ls hl => ?_)
    refine lv_goto (tgt := 6) hx hb dX5_call_45 (by decide) ?_
    refine lv_iload hx hb dX5_call_6 (lv_at hl 0 rfl) ?_
    refine lv_bipush (v := 8) hx hb dX5_call_8 kk_bi_8 ?_
    refine lv_icmp_ge (tgt := 48) hx hb dX5_call_10 (by decide) (fun c => absurd c (by decide)) (fun _ => ?_)
    refine lv_iload hx hb dX5_call_13 (lv_at hl 1 rfl) ?_
    obtain ⟨hPc, hDc, hFc⟩ := kk_cutout (wc := []) hP hD hS hA [] (by decide) rfl
    have hKc := kk_Ks (tq := []) hK [] rfl
    refine va_calli (va_runS (As := [.int 1]) (rest := []) ⟨hx, hb, hml, hown, hts⟩ (g_X5_isKind_12 l dC dI H.size) (va_cwS 1 hts gX5_call_X5_isKind rfl rfl rfl kh_X5_isKind ⟨Nat.le_of_ble_eq_true rfl, Nat.le_of_ble_eq_true rfl⟩) ⟨fun a U g mk q => by obtain ⟨q0, q1, qP, qK, qD⟩ := q; exact ⟨q0, q1, qP, va_K.moved (u := U) (U := U.calling g mk a) (Vm.Alike.refl U.vm) qK, qD⟩, fun U hU hW => ⟨rfl, by rw [hU], by rw [hU]; exact hPc, va_K.moved hW.alike hKc, hDc.weaken (fun _ _ _ _ => trivial)⟩⟩ rfl rfl hl.1 rfl (lv_room (Nat.le_of_ble_eq_true rfl)) dX5_call_15 ⟨Nat.le_of_ble_eq_true rfl, Nat.le_of_ble_eq_true rfl⟩) hS (fun q _ h => hFc q h) hFc (fun r_84 u t H1 locs ht hvm hw hB hz1 hk1 hS => ?_)
    obtain ⟨hP1, hK1, hD1⟩ := hB
    rw [ht] at hP1
    have hK1 := va_K.moved hvm.symm hK1
    obtain ⟨hP, hD⟩ := va_join (wr := [(h0, kO5 h1 n0_size h2 n0_ran), (h1, kAi cint 50 f1), (h2, kAi cint 24 f2)]) (w1 := []) hP hD [] [0, 1, 2] rfl rfl (by decide) (by decide) hk1 hFc hP1 hD1
    generalize H1 = H at hP hS ⊢
    have hP : va_P (dC, dI) vwCl [(h0, kO5 h1 n0_size h2 n0_ran), (h1, kAi cint 50 f1), (h2, kAi cint 24 f2)] H := hP
    have hD : va_D A [(h0, kO5 h1 n0_size h2 n0_ran), (h1, kAi cint 50 f1), (h2, kAi cint 24 f2)] := hD
    obtain rfl := hw
    refine lv_if_eq (tgt := 48) hx hb dX5_call_18 (by decide) (fun c => absurd c (by decide)) (fun _ => ?_)
    refine va_gets hx hb hZOWN_BODIES hS hown (hts (.fieldLink RX5 43 "KinkStreet$Lines" "OWN_BODIES" "[I") (List.mem_of_getElem? (i := 1) rfl)) (fun _ h9 => h9) dX5_call_21 ?_
    refine lv_iload hx hb dX5_call_24 (lv_at hl 1 rfl) ?_
    refine lv_iconst (v := 4) hx hb dX5_call_26 kk_ic_4 ?_
    refine lv_imul hx hb dX5_call_27 ?_
    refine lv_topi (fun y_85 e_85 => ?_)
    obtain rfl : y_85 = 4 := e_85.trans (by decide)
    refine lv_iload_n hx hb dX5_call_28 rfl (lv_at hl 5 rfl) ?_
    refine lv_iadd hx hb dX5_call_29 ?_
    refine lv_topi (fun y_86 e_86 => ?_)
    obtain rfl : y_86 = 6 := e_86.trans (by decide)
    refine va_ti (v := .int 0) hx hb hTOWN_BODIES hS (by unfold vp_in; decide) rfl dX5_call_30 ?_
    refine lv_if_ne (tgt := 48) hx hb dX5_call_31 (by decide) (fun c => absurd c (by decide)) (fun _ => ?_)
    refine va_gets hx hb hZABOVE hS hown (hts (.fieldLink RX5 22 "KinkStreet$Lines" "ABOVE" "[I") (List.mem_of_getElem? (i := 2) rfl)) (fun _ h9 => h9) dX5_call_34 ?_
    refine lv_iload hx hb dX5_call_37 (lv_at hl 1 rfl) ?_
    refine va_ti (v := .int 0) hx hb hTABOVE hS (by unfold vp_in; decide) rfl dX5_call_39 ?_
    refine lv_istore hx hb dX5_call_40 hl (by decide) (rfl : _ = ([(6, .int 0), (7, .int 1), (0, .ref h0), (1, .int p0), (2, .int 5), (3, .int 2), (4, .int p3), (5, .int p4)] : List (Nat × Value))) (fun ls hl => ?_)
    refine lv_iinc (v := 2) hx hb dX5_call_42 hl (k := 1) rfl (by first | rfl | decide) (by decide) (rfl : _ = ([(7, .int 2), (6, .int 0), (0, .ref h0), (1, .int p0), (2, .int 5), (3, .int 2), (4, .int p3), (5, .int p4)] : List (Nat × Value))) (fun ls hl => ?_)
    refine lv_goto (tgt := 6) hx hb dX5_call_45 (by decide) ?_
    refine lv_iload hx hb dX5_call_6 (lv_at hl 0 rfl) ?_
    refine lv_bipush (v := 8) hx hb dX5_call_8 kk_bi_8 ?_
    refine lv_icmp_ge (tgt := 48) hx hb dX5_call_10 (by decide) (fun c => absurd c (by decide)) (fun _ => ?_)
    refine lv_iload hx hb dX5_call_13 (lv_at hl 1 rfl) ?_
    obtain ⟨hPc, hDc, hFc⟩ := kk_cutout (wc := []) hP hD hS hA [] (by decide) rfl
    have hKc := kk_Ks (tq := []) hK [] rfl
    refine va_calli (va_runS (As := [.int 0]) (rest := []) ⟨hx, hb, hml, hown, hts⟩ (g_X5_isKind_11 l dC dI H.size) (va_cwS 1 hts gX5_call_X5_isKind rfl rfl rfl kh_X5_isKind ⟨Nat.le_of_ble_eq_true rfl, Nat.le_of_ble_eq_true rfl⟩) ⟨fun a U g mk q => by obtain ⟨q0, q1, qP, qK, qD⟩ := q; exact ⟨q0, q1, qP, va_K.moved (u := U) (U := U.calling g mk a) (Vm.Alike.refl U.vm) qK, qD⟩, fun U hU hW => ⟨rfl, by rw [hU], by rw [hU]; exact hPc, va_K.moved hW.alike hKc, hDc.weaken (fun _ _ _ _ => trivial)⟩⟩ rfl rfl hl.1 rfl (lv_room (Nat.le_of_ble_eq_true rfl)) dX5_call_15 ⟨Nat.le_of_ble_eq_true rfl, Nat.le_of_ble_eq_true rfl⟩) hS (fun q _ h => hFc q h) hFc (fun r_87 u t H1 locs ht hvm hw hB hz1 hk1 hS => ?_)
    obtain ⟨hP1, hK1, hD1⟩ := hB
    rw [ht] at hP1
    have hK1 := va_K.moved hvm.symm hK1
    obtain ⟨hP, hD⟩ := va_join (wr := [(h0, kO5 h1 n0_size h2 n0_ran), (h1, kAi cint 50 f1), (h2, kAi cint 24 f2)]) (w1 := []) hP hD [] [0, 1, 2] rfl rfl (by decide) (by decide) hk1 hFc hP1 hD1
    generalize H1 = H at hP hS ⊢
    have hP : va_P (dC, dI) vwCl [(h0, kO5 h1 n0_size h2 n0_ran), (h1, kAi cint 50 f1), (h2, kAi cint 24 f2)] H := hP
    have hD : va_D A [(h0, kO5 h1 n0_size h2 n0_ran), (h1, kAi cint 50 f1), (h2, kAi cint 24 f2)] := hD
    obtain rfl := hw
    refine lv_if_eq (tgt := 48) hx hb dX5_call_18 (by decide) (fun c => absurd c (by decide)) (fun _ => ?_)
    refine va_gets hx hb hZOWN_BODIES hS hown (hts (.fieldLink RX5 43 "KinkStreet$Lines" "OWN_BODIES" "[I") (List.mem_of_getElem? (i := 1) rfl)) (fun _ h9 => h9) dX5_call_21 ?_
    refine lv_iload hx hb dX5_call_24 (lv_at hl 1 rfl) ?_
    refine lv_iconst (v := 4) hx hb dX5_call_26 kk_ic_4 ?_
    refine lv_imul hx hb dX5_call_27 ?_
    refine lv_topi (fun y_88 e_88 => ?_)
    obtain rfl : y_88 = 0 := e_88.trans (by decide)
    refine lv_iload_n hx hb dX5_call_28 rfl (lv_at hl 5 rfl) ?_
    refine lv_iadd hx hb dX5_call_29 ?_
    refine lv_topi (fun y_89 e_89 => ?_)
    obtain rfl : y_89 = 2 := e_89.trans (by decide)
    refine va_ti (v := .int 11) hx hb hTOWN_BODIES hS (by unfold vp_in; decide) rfl dX5_call_30 ?_
    refine lv_if_ne (tgt := 48) hx hb dX5_call_31 (by decide) (fun _ => ?_) (fun c => absurd c (by decide))
    refine lv_iload hx hb dX5_call_48 (lv_at hl 1 rfl) ?_
    obtain ⟨hPc, hDc, hFc⟩ := kk_cutout (wc := []) hP hD hS hA [] (by decide) rfl
    have hKc := kk_Ks (tq := []) hK [] rfl
    refine va_calli (va_runS (As := [.int 0]) (rest := []) ⟨hx, hb, hml, hown, hts⟩ (g_X5_isKind_11 l dC dI H.size) (va_cwS 1 hts gX5_call_X5_isKind rfl rfl rfl kh_X5_isKind ⟨Nat.le_of_ble_eq_true rfl, Nat.le_of_ble_eq_true rfl⟩) ⟨fun a U g mk q => by obtain ⟨q0, q1, qP, qK, qD⟩ := q; exact ⟨q0, q1, qP, va_K.moved (u := U) (U := U.calling g mk a) (Vm.Alike.refl U.vm) qK, qD⟩, fun U hU hW => ⟨rfl, by rw [hU], by rw [hU]; exact hPc, va_K.moved hW.alike hKc, hDc.weaken (fun _ _ _ _ => trivial)⟩⟩ rfl rfl hl.1 rfl (lv_room (Nat.le_of_ble_eq_true rfl)) dX5_call_50 ⟨Nat.le_of_ble_eq_true rfl, Nat.le_of_ble_eq_true rfl⟩) hS (fun q _ h => hFc q h) hFc (fun r_90 u t H1 locs ht hvm hw hB hz1 hk1 hS => ?_)
    obtain ⟨hP1, hK1, hD1⟩ := hB
    rw [ht] at hP1
    have hK1 := va_K.moved hvm.symm hK1
    obtain ⟨hP, hD⟩ := va_join (wr := [(h0, kO5 h1 n0_size h2 n0_ran), (h1, kAi cint 50 f1), (h2, kAi cint 24 f2)]) (w1 := []) hP hD [] [0, 1, 2] rfl rfl (by decide) (by decide) hk1 hFc hP1 hD1
    generalize H1 = H at hP hS ⊢
    have hP : va_P (dC, dI) vwCl [(h0, kO5 h1 n0_size h2 n0_ran), (h1, kAi cint 50 f1), (h2, kAi cint 24 f2)] H := hP
    have hD : va_D A [(h0, kO5 h1 n0_size h2 n0_ran), (h1, kAi cint 50 f1), (h2, kAi cint 24 f2)] := hD
    obtain rfl := hw
    refine lv_if_eq (tgt := 63) hx hb dX5_call_53 (by decide) (fun c => absurd c (by decide)) (fun _ => ?_)
    refine lv_iload hx hb dX5_call_56 (lv_at hl 7 rfl) ?_
    refine lv_bipush (v := 40) hx hb dX5_call_58 kk_bi_40 ?_
    refine lv_icmp_le (tgt := 65) hx hb dX5_call_60 (by decide) (fun c_91 => ?_) (fun c_91 => ?_)
    · have t_91 : p4.toInt ≤ 40 := kk_le c_91
      refine va_gets hx hb hZOWN_BODIES hS hown (hts (.fieldLink RX5 43 "KinkStreet$Lines" "OWN_BODIES" "[I") (List.mem_of_getElem? (i := 1) rfl)) (fun _ h9 => h9) dX5_call_65 ?_
      refine lv_iload hx hb dX5_call_68 (lv_at hl 1 rfl) ?_
      refine lv_iconst (v := 4) hx hb dX5_call_70 kk_ic_4 ?_
      refine lv_imul hx hb dX5_call_71 ?_
      refine lv_topi (fun y_92 e_92 => ?_)
      obtain rfl : y_92 = 0 := e_92.trans (by decide)
      refine lv_iload_n hx hb dX5_call_72 rfl (lv_at hl 5 rfl) ?_
      refine lv_iadd hx hb dX5_call_73 ?_
      refine lv_topi (fun y_93 e_93 => ?_)
      obtain rfl : y_93 = 2 := e_93.trans (by decide)
      refine va_ti (v := .int 11) hx hb hTOWN_BODIES hS (by unfold vp_in; decide) rfl dX5_call_74 ?_
      refine lv_istore hx hb dX5_call_75 hl (by decide) (rfl : _ = ([(7, .int 11), (6, .int 0), (0, .ref h0), (1, .int p0), (2, .int 5), (3, .int 2), (4, .int p3), (5, .int p4)] : List (Nat × Value))) (fun ls hl => ?_)
      refine lv_aload_n hx hb dX5_call_77 rfl (lv_at hl 2 rfl) ?_
      refine va_get (D := (dC, dI)) (ci := 5) (v := .int n0_ran) (C := RX5) (T := TX5) (N := 4) hx hb hts (fun _ h => List.mem_cons_of_mem _ (List.mem_append_right _ h)) hown hK hP 0 rfl rfl 3 (by decide) (hts (.fieldLink RX5 36 "KinkStreet$Lines" "ran" "I") (List.mem_of_getElem? (i := 3) rfl)) (fun _ h9 => h9) rfl dX5_call_78 ?_
      refine lv_bipush (v := 24) hx hb dX5_call_81 kk_bi_24 ?_
      refine lv_icmp_ge (tgt := 97) hx hb dX5_call_83 (by decide) (fun c_94 => ?_) (fun c_94 => ?_)
      · have t_94 : 24 ≤ n0_ran.toInt := kk_le c_94
        refine lv_aload_n hx hb dX5_call_97 rfl (lv_at hl 2 rfl) ?_
        refine lv_dup hx hb dX5_call_98 rfl ?_
        refine va_get (D := (dC, dI)) (ci := 5) (v := .int n0_ran) (C := RX5) (T := TX5) (N := 4) hx hb hts (fun _ h => List.mem_cons_of_mem _ (List.mem_append_right _ h)) hown hK hP 0 rfl rfl 3 (by decide) (hts (.fieldLink RX5 36 "KinkStreet$Lines" "ran" "I") (List.mem_of_getElem? (i := 3) rfl)) (fun _ h9 => h9) rfl dX5_call_99 ?_
        refine lv_iconst (v := 1) hx hb dX5_call_102 kk_ic_1 ?_
        refine lv_iadd hx hb dX5_call_103 ?_
        refine va_put (D := (dC, dI)) (ci := 5) (v := .int (n0_ran + 1)) (ty := .int) (C := RX5) (T := TX5) (N := 4) hx hb hts (fun _ h => List.mem_cons_of_mem _ (List.mem_append_right _ h)) tyX5 tyX5_ok nmX5 hown hK hP hD hS 0 rfl rfl 3 (by decide) (hts (.fieldLink RX5 36 "KinkStreet$Lines" "ran" "I") (List.mem_of_getElem? (i := 3) rfl)) (fun _ h9 => h9) rfl (by decide +kernel) rfl rfl (Nat.le_of_ble_eq_true rfl) dX5_call_104 (fun H locs hP hD hS => ?_)
        have hP : va_P (dC, dI) vwCl [(h0, kO5 h1 n0_size h2 (n0_ran + 1)), (h1, kAi cint 50 f1), (h2, kAi cint 24 f2)] H := hP
        have hD : va_D A [(h0, kO5 h1 n0_size h2 (n0_ran + 1)), (h1, kAi cint 50 f1), (h2, kAi cint 24 f2)] := hD
        have hp_95 : kk_P f2 f2 n0_ran.toInt (n0_ran + 1 : Int32).toInt [11] := kk_P_out (by have := kk_add2 (x := n0_ran) (y := 1) (a := n0_ran.toInt) (b := 1) rfl rfl (by omega) (by omega); omega) (by have := kk_add2 (x := n0_ran) (y := 1) (a := n0_ran.toInt) (b := 1) rfl rfl (by omega) (by omega); omega)
        refine lv_iload hx hb dX5_call_107 (lv_at hl 1 rfl) ?_
        refine lv_if_ne (tgt := 128) hx hb dX5_call_109 (by decide) (fun c => absurd c (by decide)) (fun _ => ?_)
        refine lv_aload_n hx hb dX5_call_112 rfl (lv_at hl 2 rfl) ?_
        refine lv_iload_n hx hb dX5_call_113 rfl (lv_at hl 3 rfl) ?_
        refine lv_iload hx hb dX5_call_114 (lv_at hl 0 rfl) ?_
        refine lv_iload hx hb dX5_call_116 (lv_at hl 6 rfl) ?_
        refine lv_iload hx hb dX5_call_118 (lv_at hl 7 rfl) ?_
        refine lv_iconst (v := 1) hx hb dX5_call_120 kk_ic_1 ?_
        refine lv_iadd hx hb dX5_call_121 ?_
        obtain ⟨hPc, hDc, hFc⟩ := kk_cutout (wc := [(h0, kO5 h1 n0_size h2 (n0_ran + 1)), (h1, kAi cint 50 f1)]) hP hD hS hA [0, 1] (by decide) rfl
        have hKc := kk_Ks (tq := [(cint, .int)]) hK [0] rfl
        refine va_calli (va_runV (As := [.int p0, .int 11, .int p3, .int (p4 + 1)]) (rest := []) ⟨hx, hb, hml, hown, hts⟩ (g_X5_runLine_6 l dC dI h0 h1 h2 cint H.size p0 p3 (p4 + 1) (by show 0 ≤ ((p4 + 1) : Int32).toInt ∧ ((p4 + 1) : Int32).toInt ≤ 15; first | with_reducible assumption | (constructor <;> (have := kk_add2 (x := n0_ran) (y := 1) (a := n0_ran.toInt) (b := 1) rfl rfl (by omega) (by omega); have := kk_add2 (x := p4) (y := 1) (a := p4.toInt) (b := 1) rfl rfl (by omega) (by omega); omega))) n0_size (n0_ran + 1) f1 tn0_size (by show 0 ≤ ((n0_ran + 1) : Int32).toInt ∧ ((n0_ran + 1) : Int32).toInt ≤ 1000; first | with_reducible assumption | (constructor <;> (have := kk_add2 (x := n0_ran) (y := 1) (a := n0_ran.toInt) (b := 1) rfl rfl (by omega) (by omega); have := kk_add2 (x := p4) (y := 1) (a := p4.toInt) (b := 1) rfl rfl (by omega) (by omega); omega))) bf1 (by show (0 ≤ (p0 : Int32).toInt ∧ (p0 : Int32).toInt < (n0_size : Int32).toInt); first | with_reducible assumption | (have := kk_add2 (x := n0_ran) (y := 1) (a := n0_ran.toInt) (b := 1) rfl rfl (by omega) (by omega); have := kk_add2 (x := p4) (y := 1) (a := p4.toInt) (b := 1) rfl rfl (by omega) (by omega); omega))) (cwV 4 hts gX5_call_X5_runLine rfl rfl rfl ⟨rfl, kh_X5_runLine⟩ ⟨Nat.le_of_ble_eq_true rfl, Nat.le_of_ble_eq_true rfl⟩) ⟨fun a U g mk q => by obtain ⟨q0, q1, qP, qK, qD⟩ := q; exact ⟨q0, q1, qP, va_K.moved (u := U) (U := U.calling g mk a) (Vm.Alike.refl U.vm) qK, qD⟩, va_recv hKc hPc (ci := 5) (q0 := 0) rfl rfl, fun U hU hW => ⟨rfl, by rw [hU], by rw [hU]; exact hPc, va_K.moved hW.alike hKc, hDc.weaken (fun _ _ _ _ => trivial)⟩⟩ rfl rfl hl.1 rfl (lv_room (Nat.le_of_ble_eq_true rfl)) dX5_call_122 ⟨Nat.le_of_ble_eq_true rfl, Nat.le_of_ble_eq_true rfl⟩) hS (fun q _ h => hFc q h) hFc (fun r_96 u t H1 locs ht hvm hw hB hz1 hk1 hS => ?_)
        obtain ⟨hP1, hK1, hD1⟩ := hB
        rw [ht] at hP1
        have hK1 := va_K.moved hvm.symm hK1
        obtain ⟨hP, hD⟩ := va_join (wr := [(h2, kAi cint 24 f2)]) (w1 := [(h0, kO5 h1 n0_size h2 (n0_ran + 1)), (h1, kAi cint 50 f1)]) hP hD [0, 1] [2] rfl rfl (by decide) (by decide) hk1 hFc hP1 hD1
        generalize H1 = H at hP hS ⊢
        have hP : va_P (dC, dI) vwCl [(h2, kAi cint 24 f2), (h0, kO5 h1 n0_size h2 (n0_ran + 1)), (h1, kAi cint 50 f1)] H := hP
        have hD : va_D A [(h2, kAi cint 24 f2), (h0, kO5 h1 n0_size h2 (n0_ran + 1)), (h1, kAi cint 50 f1)] := hD
        rcases hw with ⟨t_96_0, _⟩
        · skip
          have t_96_0 : r_96 = kk_leads (f1 (p0 : Int32).toNatClampNeg) 0 p0 p3 := t_96_0
          obtain rfl : r_96 = (kk_leads (f1 (p0 : Int32).toNatClampNeg) 0 p0 p3) := t_96_0
          refine lv_goto (tgt := 143) hx hb dX5_call_125 (by decide) ?_
          obtain ⟨hP9, hD9⟩ := kk_leafout (wc := [(h0, kO5 h1 n0_size h2 (n0_ran + 1)), (h1, kAi cint 50 f1), (h2, kAi cint 24 f2)]) hP hD [1, 2, 0] (by decide) rfl
          have hK9 := kk_Ks (tq := []) hK [] rfl
          exact W.iret (v := (kk_leads (f1 (p0 : Int32).toNatClampNeg) 0 p0 p3)) hx hb hr (fun t ht hW => ⟨⟨(kk_leads (f1 (p0 : Int32).toNatClampNeg) 0 p0 p3), (), rfl, ⟨(by first | rfl | (unfold kk_leads; (repeat' split) <;> first | rfl | (exfalso; have : (0 : Int32).toInt = 0 := rfl; have : (1 : Int32).toInt = 1 := rfl; have : (2 : Int32).toInt = 2 := rfl; have : (3 : Int32).toInt = 3 := rfl; have : (4 : Int32).toInt = 4 := rfl; have : (5 : Int32).toInt = 5 := rfl; have : (6 : Int32).toInt = 6 := rfl; have : (7 : Int32).toInt = 7 := rfl; have := kk_add2 (x := n0_ran) (y := 1) (a := n0_ran.toInt) (b := 1) rfl rfl (by omega) (by omega); have := kk_add2 (x := p4) (y := 1) (a := p4.toInt) (b := 1) rfl rfl (by omega) (by omega); omega))), trivial⟩, (n0_ran + 1), f2, (by show 1 ≤ ((n0_ran + 1) : Int32).toInt ∧ ((n0_ran + 1) : Int32).toInt ≤ 1000; first | with_reducible assumption | (constructor <;> (have := kk_add2 (x := n0_ran) (y := 1) (a := n0_ran.toInt) (b := 1) rfl rfl (by omega) (by omega); have := kk_add2 (x := p4) (y := 1) (a := p4.toInt) (b := 1) rfl rfl (by omega) (by omega); omega))), (by show ((n0_ran + 1) : Int32).toInt ≤ (n0_ran : Int32).toInt + 6; first | with_reducible assumption | (have := kk_add2 (x := n0_ran) (y := 1) (a := n0_ran.toInt) (b := 1) rfl rfl (by omega) (by omega); have := kk_add2 (x := p4) (y := 1) (a := p4.toInt) (b := 1) rfl rfl (by omega) (by omega); omega)), (by first | exact kk_P_eq hp_95 rfl | (unfold kt_leads; (repeat' split) <;> first | exact kk_P_eq hp_95 rfl | (exfalso; have : (0 : Int32).toInt = 0 := rfl; have : (1 : Int32).toInt = 1 := rfl; have : (2 : Int32).toInt = 2 := rfl; have : (3 : Int32).toInt = 3 := rfl; have : (4 : Int32).toInt = 4 := rfl; have : (5 : Int32).toInt = 5 := rfl; have : (6 : Int32).toInt = 6 := rfl; have : (7 : Int32).toInt = 7 := rfl; have := kk_add2 (x := n0_ran) (y := 1) (a := n0_ran.toInt) (b := 1) rfl rfl (by omega) (by omega); have := kk_add2 (x := p4) (y := 1) (a := p4.toInt) (b := 1) rfl rfl (by omega) (by omega); omega))), by rw [ht]; exact hP9, va_K.moved hW.alike hK9, hD9⟩, hS.F ht⟩) hS.2.2 dX5_call_143
      · have t_94 : n0_ran.toInt < 24 := kk_nle c_94
        refine lv_aload_n hx hb dX5_call_86 rfl (lv_at hl 2 rfl) ?_
        refine va_get (D := (dC, dI)) (ci := 5) (v := .ref h2) (C := RX5) (T := TX5) (N := 4) hx hb hts (fun _ h => List.mem_cons_of_mem _ (List.mem_append_right _ h)) hown hK hP 0 rfl rfl 2 (by decide) (hts (.fieldLink RX5 15 "KinkStreet$Lines" "trace" "[I") (List.mem_of_getElem? (i := 4) rfl)) (fun _ h9 => h9) rfl dX5_call_87 ?_
        refine lv_aload_n hx hb dX5_call_90 rfl (lv_at hl 2 rfl) ?_
        refine va_get (D := (dC, dI)) (ci := 5) (v := .int n0_ran) (C := RX5) (T := TX5) (N := 4) hx hb hts (fun _ h => List.mem_cons_of_mem _ (List.mem_append_right _ h)) hown hK hP 0 rfl rfl 3 (by decide) (hts (.fieldLink RX5 36 "KinkStreet$Lines" "ran" "I") (List.mem_of_getElem? (i := 3) rfl)) (fun _ h9 => h9) rfl dX5_call_91 ?_
        refine lv_iload hx hb dX5_call_94 (lv_at hl 0 rfl) ?_
        refine va_iast hx hb hK hP hD hS 2 0 rfl rfl (vp_in_iff.mpr ⟨by omega, by omega⟩) dX5_call_96 (fun H locs hP hD hS => ?_)
        have w_97 : ((upd f2 (n0_ran : Int32).toNatClampNeg 11) (n0_ran : Int32).toNatClampNeg).toInt = (11 : Int32).toInt := by rw [kk_ups]
        have hP : va_P (dC, dI) vwCl [(h0, kO5 h1 n0_size h2 n0_ran), (h1, kAi cint 50 f1), (h2, kAi cint 24 (upd f2 (n0_ran : Int32).toNatClampNeg 11))] H := hP
        have hD : va_D A [(h0, kO5 h1 n0_size h2 n0_ran), (h1, kAi cint 50 f1), (h2, kAi cint 24 (upd f2 (n0_ran : Int32).toNatClampNeg 11))] := hD
        refine lv_aload_n hx hb dX5_call_97 rfl (lv_at hl 2 rfl) ?_
        refine lv_dup hx hb dX5_call_98 rfl ?_
        refine va_get (D := (dC, dI)) (ci := 5) (v := .int n0_ran) (C := RX5) (T := TX5) (N := 4) hx hb hts (fun _ h => List.mem_cons_of_mem _ (List.mem_append_right _ h)) hown hK hP 0 rfl rfl 3 (by decide) (hts (.fieldLink RX5 36 "KinkStreet$Lines" "ran" "I") (List.mem_of_getElem? (i := 3) rfl)) (fun _ h9 => h9) rfl dX5_call_99 ?_
        refine lv_iconst (v := 1) hx hb dX5_call_102 kk_ic_1 ?_
        refine lv_iadd hx hb dX5_call_103 ?_
        refine va_put (D := (dC, dI)) (ci := 5) (v := .int (n0_ran + 1)) (ty := .int) (C := RX5) (T := TX5) (N := 4) hx hb hts (fun _ h => List.mem_cons_of_mem _ (List.mem_append_right _ h)) tyX5 tyX5_ok nmX5 hown hK hP hD hS 0 rfl rfl 3 (by decide) (hts (.fieldLink RX5 36 "KinkStreet$Lines" "ran" "I") (List.mem_of_getElem? (i := 3) rfl)) (fun _ h9 => h9) rfl (by decide +kernel) rfl rfl (Nat.le_of_ble_eq_true rfl) dX5_call_104 (fun H locs hP hD hS => ?_)
        have hP : va_P (dC, dI) vwCl [(h0, kO5 h1 n0_size h2 (n0_ran + 1)), (h1, kAi cint 50 f1), (h2, kAi cint 24 (upd f2 (n0_ran : Int32).toNatClampNeg 11))] H := hP
        have hD : va_D A [(h0, kO5 h1 n0_size h2 (n0_ran + 1)), (h1, kAi cint 50 f1), (h2, kAi cint 24 (upd f2 (n0_ran : Int32).toNatClampNeg 11))] := hD
        have hp_98 : kk_P f2 (upd f2 (n0_ran : Int32).toNatClampNeg 11) n0_ran.toInt (n0_ran + 1 : Int32).toInt [11] := kk_P_one (by have := kk_add2 (x := n0_ran) (y := 1) (a := n0_ran.toInt) (b := 1) rfl rfl (by omega) (by omega); omega) (by have := kk_add2 (x := n0_ran) (y := 1) (a := n0_ran.toInt) (b := 1) rfl rfl (by omega) (by omega); omega)
        refine lv_iload hx hb dX5_call_107 (lv_at hl 1 rfl) ?_
        refine lv_if_ne (tgt := 128) hx hb dX5_call_109 (by decide) (fun c => absurd c (by decide)) (fun _ => ?_)
        refine lv_aload_n hx hb dX5_call_112 rfl (lv_at hl 2 rfl) ?_
        refine lv_iload_n hx hb dX5_call_113 rfl (lv_at hl 3 rfl) ?_
        refine lv_iload hx hb dX5_call_114 (lv_at hl 0 rfl) ?_
        refine lv_iload hx hb dX5_call_116 (lv_at hl 6 rfl) ?_
        refine lv_iload hx hb dX5_call_118 (lv_at hl 7 rfl) ?_
        refine lv_iconst (v := 1) hx hb dX5_call_120 kk_ic_1 ?_
        refine lv_iadd hx hb dX5_call_121 ?_
        obtain ⟨hPc, hDc, hFc⟩ := kk_cutout (wc := [(h0, kO5 h1 n0_size h2 (n0_ran + 1)), (h1, kAi cint 50 f1)]) hP hD hS hA [0, 1] (by decide) rfl
        have hKc := kk_Ks (tq := [(cint, .int)]) hK [0] rfl
        refine va_calli (va_runV (As := [.int p0, .int 11, .int p3, .int (p4 + 1)]) (rest := []) ⟨hx, hb, hml, hown, hts⟩ (g_X5_runLine_6 l dC dI h0 h1 h2 cint H.size p0 p3 (p4 + 1) (by show 0 ≤ ((p4 + 1) : Int32).toInt ∧ ((p4 + 1) : Int32).toInt ≤ 15; first | with_reducible assumption | (constructor <;> (have := kk_add2 (x := n0_ran) (y := 1) (a := n0_ran.toInt) (b := 1) rfl rfl (by omega) (by omega); have := kk_add2 (x := p4) (y := 1) (a := p4.toInt) (b := 1) rfl rfl (by omega) (by omega); omega))) n0_size (n0_ran + 1) f1 tn0_size (by show 0 ≤ ((n0_ran + 1) : Int32).toInt ∧ ((n0_ran + 1) : Int32).toInt ≤ 1000; first | with_reducible assumption | (constructor <;> (have := kk_add2 (x := n0_ran) (y := 1) (a := n0_ran.toInt) (b := 1) rfl rfl (by omega) (by omega); have := kk_add2 (x := p4) (y := 1) (a := p4.toInt) (b := 1) rfl rfl (by omega) (by omega); omega))) bf1 (by show (0 ≤ (p0 : Int32).toInt ∧ (p0 : Int32).toInt < (n0_size : Int32).toInt); first | with_reducible assumption | (have := kk_add2 (x := n0_ran) (y := 1) (a := n0_ran.toInt) (b := 1) rfl rfl (by omega) (by omega); have := kk_add2 (x := p4) (y := 1) (a := p4.toInt) (b := 1) rfl rfl (by omega) (by omega); omega))) (cwV 4 hts gX5_call_X5_runLine rfl rfl rfl ⟨rfl, kh_X5_runLine⟩ ⟨Nat.le_of_ble_eq_true rfl, Nat.le_of_ble_eq_true rfl⟩) ⟨fun a U g mk q => by obtain ⟨q0, q1, qP, qK, qD⟩ := q; exact ⟨q0, q1, qP, va_K.moved (u := U) (U := U.calling g mk a) (Vm.Alike.refl U.vm) qK, qD⟩, va_recv hKc hPc (ci := 5) (q0 := 0) rfl rfl, fun U hU hW => ⟨rfl, by rw [hU], by rw [hU]; exact hPc, va_K.moved hW.alike hKc, hDc.weaken (fun _ _ _ _ => trivial)⟩⟩ rfl rfl hl.1 rfl (lv_room (Nat.le_of_ble_eq_true rfl)) dX5_call_122 ⟨Nat.le_of_ble_eq_true rfl, Nat.le_of_ble_eq_true rfl⟩) hS (fun q _ h => hFc q h) hFc (fun r_99 u t H1 locs ht hvm hw hB hz1 hk1 hS => ?_)
        obtain ⟨hP1, hK1, hD1⟩ := hB
        rw [ht] at hP1
        have hK1 := va_K.moved hvm.symm hK1
        obtain ⟨hP, hD⟩ := va_join (wr := [(h2, kAi cint 24 (upd f2 (n0_ran : Int32).toNatClampNeg 11))]) (w1 := [(h0, kO5 h1 n0_size h2 (n0_ran + 1)), (h1, kAi cint 50 f1)]) hP hD [0, 1] [2] rfl rfl (by decide) (by decide) hk1 hFc hP1 hD1
        generalize H1 = H at hP hS ⊢
        have hP : va_P (dC, dI) vwCl [(h2, kAi cint 24 (upd f2 (n0_ran : Int32).toNatClampNeg 11)), (h0, kO5 h1 n0_size h2 (n0_ran + 1)), (h1, kAi cint 50 f1)] H := hP
        have hD : va_D A [(h2, kAi cint 24 (upd f2 (n0_ran : Int32).toNatClampNeg 11)), (h0, kO5 h1 n0_size h2 (n0_ran + 1)), (h1, kAi cint 50 f1)] := hD
        rcases hw with ⟨t_99_0, _⟩
        · skip
          have t_99_0 : r_99 = kk_leads (f1 (p0 : Int32).toNatClampNeg) 0 p0 p3 := t_99_0
          obtain rfl : r_99 = (kk_leads (f1 (p0 : Int32).toNatClampNeg) 0 p0 p3) := t_99_0
          refine lv_goto (tgt := 143) hx hb dX5_call_125 (by decide) ?_
          obtain ⟨hP9, hD9⟩ := kk_leafout (wc := [(h0, kO5 h1 n0_size h2 (n0_ran + 1)), (h1, kAi cint 50 f1), (h2, kAi cint 24 (upd f2 (n0_ran : Int32).toNatClampNeg 11))]) hP hD [1, 2, 0] (by decide) rfl
          have hK9 := kk_Ks (tq := []) hK [] rfl
          exact W.iret (v := (kk_leads (f1 (p0 : Int32).toNatClampNeg) 0 p0 p3)) hx hb hr (fun t ht hW => ⟨⟨(kk_leads (f1 (p0 : Int32).toNatClampNeg) 0 p0 p3), (), rfl, ⟨(by first | rfl | (unfold kk_leads; (repeat' split) <;> first | rfl | (exfalso; have : (0 : Int32).toInt = 0 := rfl; have : (1 : Int32).toInt = 1 := rfl; have : (2 : Int32).toInt = 2 := rfl; have : (3 : Int32).toInt = 3 := rfl; have : (4 : Int32).toInt = 4 := rfl; have : (5 : Int32).toInt = 5 := rfl; have : (6 : Int32).toInt = 6 := rfl; have : (7 : Int32).toInt = 7 := rfl; have := kk_add2 (x := n0_ran) (y := 1) (a := n0_ran.toInt) (b := 1) rfl rfl (by omega) (by omega); have := kk_add2 (x := p4) (y := 1) (a := p4.toInt) (b := 1) rfl rfl (by omega) (by omega); omega))), trivial⟩, (n0_ran + 1), (upd f2 (n0_ran : Int32).toNatClampNeg 11), (by show 1 ≤ ((n0_ran + 1) : Int32).toInt ∧ ((n0_ran + 1) : Int32).toInt ≤ 1000; first | with_reducible assumption | (constructor <;> (have := kk_add2 (x := n0_ran) (y := 1) (a := n0_ran.toInt) (b := 1) rfl rfl (by omega) (by omega); have := kk_add2 (x := p4) (y := 1) (a := p4.toInt) (b := 1) rfl rfl (by omega) (by omega); omega))), (by show ((n0_ran + 1) : Int32).toInt ≤ (n0_ran : Int32).toInt + 6; first | with_reducible assumption | (have := kk_add2 (x := n0_ran) (y := 1) (a := n0_ran.toInt) (b := 1) rfl rfl (by omega) (by omega); have := kk_add2 (x := p4) (y := 1) (a := p4.toInt) (b := 1) rfl rfl (by omega) (by omega); omega)), (by first | exact kk_P_eq hp_98 rfl | (unfold kt_leads; (repeat' split) <;> first | exact kk_P_eq hp_98 rfl | (exfalso; have : (0 : Int32).toInt = 0 := rfl; have : (1 : Int32).toInt = 1 := rfl; have : (2 : Int32).toInt = 2 := rfl; have : (3 : Int32).toInt = 3 := rfl; have : (4 : Int32).toInt = 4 := rfl; have : (5 : Int32).toInt = 5 := rfl; have : (6 : Int32).toInt = 6 := rfl; have : (7 : Int32).toInt = 7 := rfl; have := kk_add2 (x := n0_ran) (y := 1) (a := n0_ran.toInt) (b := 1) rfl rfl (by omega) (by omega); have := kk_add2 (x := p4) (y := 1) (a := p4.toInt) (b := 1) rfl rfl (by omega) (by omega); omega))), by rw [ht]; exact hP9, va_K.moved hW.alike hK9, hD9⟩, hS.F ht⟩) hS.2.2 dX5_call_143
    · have t_91 : 40 < p4.toInt := kk_nle c_91
      exfalso; omega
  · have t_1 : p1.toInt = 6 := by rw [e_1]; rfl
    subst e_1
    refine lv_iload_n hx hb dX5_call_0 rfl (lv_at hl 2 rfl) ?_
    refine lv_istore hx hb dX5_call_1 hl (by decide) (rfl : _ = ([(6, .int 6), (0, .ref h0), (1, .int p0), (2, .int 6), (3, .int 2), (4, .int p3), (5, .int p4)] : List (Nat × Value))) (fun ls hl => ?_)
    refine lv_iconst (v := 0) hx hb dX5_call_3 kk_ic_0 ?_
    refine lv_istore hx hb dX5_call_4 hl (by decide) (rfl : _ = ([(7, .int 0), (6, .int 6), (0, .ref h0), (1, .int p0), (2, .int 6), (3, .int 2), (4, .int p3), (5, .int p4)] : List (Nat × Value))) (fun ls hl => ?_)
    refine lv_iload hx hb dX5_call_6 (lv_at hl 0 rfl) ?_
    refine lv_bipush (v := 8) hx hb dX5_call_8 kk_bi_8 ?_
    refine lv_icmp_ge (tgt := 48) hx hb dX5_call_10 (by decide) (fun c => absurd c (by decide)) (fun _ => ?_)
    refine lv_iload hx hb dX5_call_13 (lv_at hl 1 rfl) ?_
    obtain ⟨hPc, hDc, hFc⟩ := kk_cutout (wc := []) hP hD hS hA [] (by decide) rfl
    have hKc := kk_Ks (tq := []) hK [] rfl
    refine va_calli (va_runS (As := [.int 6]) (rest := []) ⟨hx, hb, hml, hown, hts⟩ (g_X5_isKind_17 l dC dI s.heap.size) (va_cwS 1 hts gX5_call_X5_isKind rfl rfl rfl kh_X5_isKind ⟨Nat.le_of_ble_eq_true rfl, Nat.le_of_ble_eq_true rfl⟩) ⟨fun a U g mk q => by obtain ⟨q0, q1, qP, qK, qD⟩ := q; exact ⟨q0, q1, qP, va_K.moved (u := U) (U := U.calling g mk a) (Vm.Alike.refl U.vm) qK, qD⟩, fun U hU hW => ⟨rfl, by rw [hU], by rw [hU]; exact hPc, va_K.moved hW.alike hKc, hDc.weaken (fun _ _ _ _ => trivial)⟩⟩ rfl rfl hl.1 rfl (lv_room (Nat.le_of_ble_eq_true rfl)) dX5_call_15 ⟨Nat.le_of_ble_eq_true rfl, Nat.le_of_ble_eq_true rfl⟩) hS (fun q _ h => hFc q h) hFc (fun r_100 u t H1 locs ht hvm hw hB hz1 hk1 hS => ?_)
    obtain ⟨hP1, hK1, hD1⟩ := hB
    rw [ht] at hP1
    have hK1 := va_K.moved hvm.symm hK1
    obtain ⟨hP, hD⟩ := va_join (wr := [(h0, kO5 h1 n0_size h2 n0_ran), (h1, kAi cint 50 f1), (h2, kAi cint 24 f2)]) (w1 := []) hP hD [] [0, 1, 2] rfl rfl (by decide) (by decide) hk1 hFc hP1 hD1
    generalize H1 = H at hP hS ⊢
    have hP : va_P (dC, dI) vwCl [(h0, kO5 h1 n0_size h2 n0_ran), (h1, kAi cint 50 f1), (h2, kAi cint 24 f2)] H := hP
    have hD : va_D A [(h0, kO5 h1 n0_size h2 n0_ran), (h1, kAi cint 50 f1), (h2, kAi cint 24 f2)] := hD
    obtain rfl := hw
    refine lv_if_eq (tgt := 48) hx hb dX5_call_18 (by decide) (fun c => absurd c (by decide)) (fun _ => ?_)
    refine va_gets hx hb hZOWN_BODIES hS hown (hts (.fieldLink RX5 43 "KinkStreet$Lines" "OWN_BODIES" "[I") (List.mem_of_getElem? (i := 1) rfl)) (fun _ h9 => h9) dX5_call_21 ?_
    refine lv_iload hx hb dX5_call_24 (lv_at hl 1 rfl) ?_
    refine lv_iconst (v := 4) hx hb dX5_call_26 kk_ic_4 ?_
    refine lv_imul hx hb dX5_call_27 ?_
    refine lv_topi (fun y_101 e_101 => ?_)
    obtain rfl : y_101 = 24 := e_101.trans (by decide)
    refine lv_iload_n hx hb dX5_call_28 rfl (lv_at hl 5 rfl) ?_
    refine lv_iadd hx hb dX5_call_29 ?_
    refine lv_topi (fun y_102 e_102 => ?_)
    obtain rfl : y_102 = 26 := e_102.trans (by decide)
    refine va_ti (v := .int 0) hx hb hTOWN_BODIES hS (by unfold vp_in; decide) rfl dX5_call_30 ?_
    refine lv_if_ne (tgt := 48) hx hb dX5_call_31 (by decide) (fun c => absurd c (by decide)) (fun _ => ?_)
    refine va_gets hx hb hZABOVE hS hown (hts (.fieldLink RX5 22 "KinkStreet$Lines" "ABOVE" "[I") (List.mem_of_getElem? (i := 2) rfl)) (fun _ h9 => h9) dX5_call_34 ?_
    refine lv_iload hx hb dX5_call_37 (lv_at hl 1 rfl) ?_
    refine va_ti (v := .int 0) hx hb hTABOVE hS (by unfold vp_in; decide) rfl dX5_call_39 ?_
    refine lv_istore hx hb dX5_call_40 hl (by decide) (rfl : _ = ([(6, .int 0), (7, .int 0), (0, .ref h0), (1, .int p0), (2, .int 6), (3, .int 2), (4, .int p3), (5, .int p4)] : List (Nat × Value))) (fun ls hl => ?_)
    refine lv_iinc (v := 1) hx hb dX5_call_42 hl (k := 1) rfl (by first | rfl | decide) (by decide) (rfl : _ = ([(7, .int 1), (6, .int 0), (0, .ref h0), (1, .int p0), (2, .int 6), (3, .int 2), (4, .int p3), (5, .int p4)] : List (Nat × Value))) (fun ls hl => ?_)
    refine lv_goto (tgt := 6) hx hb dX5_call_45 (by decide) ?_
    refine lv_iload hx hb dX5_call_6 (lv_at hl 0 rfl) ?_
    refine lv_bipush (v := 8) hx hb dX5_call_8 kk_bi_8 ?_
    refine lv_icmp_ge (tgt := 48) hx hb dX5_call_10 (by decide) (fun c => absurd c (by decide)) (fun _ => ?_)
    refine lv_iload hx hb dX5_call_13 (lv_at hl 1 rfl) ?_
    obtain ⟨hPc, hDc, hFc⟩ := kk_cutout (wc := []) hP hD hS hA [] (by decide) rfl
    have hKc := kk_Ks (tq := []) hK [] rfl
    refine va_calli (va_runS (As := [.int 0]) (rest := []) ⟨hx, hb, hml, hown, hts⟩ (g_X5_isKind_11 l dC dI H.size) (va_cwS 1 hts gX5_call_X5_isKind rfl rfl rfl kh_X5_isKind ⟨Nat.le_of_ble_eq_true rfl, Nat.le_of_ble_eq_true rfl⟩) ⟨fun a U g mk q => by obtain ⟨q0, q1, qP, qK, qD⟩ := q; exact ⟨q0, q1, qP, va_K.moved (u := U) (U := U.calling g mk a) (Vm.Alike.refl U.vm) qK, qD⟩, fun U hU hW => ⟨rfl, by rw [hU], by rw [hU]; exact hPc, va_K.moved hW.alike hKc, hDc.weaken (fun _ _ _ _ => trivial)⟩⟩ rfl rfl hl.1 rfl (lv_room (Nat.le_of_ble_eq_true rfl)) dX5_call_15 ⟨Nat.le_of_ble_eq_true rfl, Nat.le_of_ble_eq_true rfl⟩) hS (fun q _ h => hFc q h) hFc (fun r_103 u t H1 locs ht hvm hw hB hz1 hk1 hS => ?_)
    obtain ⟨hP1, hK1, hD1⟩ := hB
    rw [ht] at hP1
    have hK1 := va_K.moved hvm.symm hK1
    obtain ⟨hP, hD⟩ := va_join (wr := [(h0, kO5 h1 n0_size h2 n0_ran), (h1, kAi cint 50 f1), (h2, kAi cint 24 f2)]) (w1 := []) hP hD [] [0, 1, 2] rfl rfl (by decide) (by decide) hk1 hFc hP1 hD1
    generalize H1 = H at hP hS ⊢
    have hP : va_P (dC, dI) vwCl [(h0, kO5 h1 n0_size h2 n0_ran), (h1, kAi cint 50 f1), (h2, kAi cint 24 f2)] H := hP
    have hD : va_D A [(h0, kO5 h1 n0_size h2 n0_ran), (h1, kAi cint 50 f1), (h2, kAi cint 24 f2)] := hD
    obtain rfl := hw
    refine lv_if_eq (tgt := 48) hx hb dX5_call_18 (by decide) (fun c => absurd c (by decide)) (fun _ => ?_)
    refine va_gets hx hb hZOWN_BODIES hS hown (hts (.fieldLink RX5 43 "KinkStreet$Lines" "OWN_BODIES" "[I") (List.mem_of_getElem? (i := 1) rfl)) (fun _ h9 => h9) dX5_call_21 ?_
    refine lv_iload hx hb dX5_call_24 (lv_at hl 1 rfl) ?_
    refine lv_iconst (v := 4) hx hb dX5_call_26 kk_ic_4 ?_
    refine lv_imul hx hb dX5_call_27 ?_
    refine lv_topi (fun y_104 e_104 => ?_)
    obtain rfl : y_104 = 0 := e_104.trans (by decide)
    refine lv_iload_n hx hb dX5_call_28 rfl (lv_at hl 5 rfl) ?_
    refine lv_iadd hx hb dX5_call_29 ?_
    refine lv_topi (fun y_105 e_105 => ?_)
    obtain rfl : y_105 = 2 := e_105.trans (by decide)
    refine va_ti (v := .int 11) hx hb hTOWN_BODIES hS (by unfold vp_in; decide) rfl dX5_call_30 ?_
    refine lv_if_ne (tgt := 48) hx hb dX5_call_31 (by decide) (fun _ => ?_) (fun c => absurd c (by decide))
    refine lv_iload hx hb dX5_call_48 (lv_at hl 1 rfl) ?_
    obtain ⟨hPc, hDc, hFc⟩ := kk_cutout (wc := []) hP hD hS hA [] (by decide) rfl
    have hKc := kk_Ks (tq := []) hK [] rfl
    refine va_calli (va_runS (As := [.int 0]) (rest := []) ⟨hx, hb, hml, hown, hts⟩ (g_X5_isKind_11 l dC dI H.size) (va_cwS 1 hts gX5_call_X5_isKind rfl rfl rfl kh_X5_isKind ⟨Nat.le_of_ble_eq_true rfl, Nat.le_of_ble_eq_true rfl⟩) ⟨fun a U g mk q => by obtain ⟨q0, q1, qP, qK, qD⟩ := q; exact ⟨q0, q1, qP, va_K.moved (u := U) (U := U.calling g mk a) (Vm.Alike.refl U.vm) qK, qD⟩, fun U hU hW => ⟨rfl, by rw [hU], by rw [hU]; exact hPc, va_K.moved hW.alike hKc, hDc.weaken (fun _ _ _ _ => trivial)⟩⟩ rfl rfl hl.1 rfl (lv_room (Nat.le_of_ble_eq_true rfl)) dX5_call_50 ⟨Nat.le_of_ble_eq_true rfl, Nat.le_of_ble_eq_true rfl⟩) hS (fun q _ h => hFc q h) hFc (fun r_106 u t H1 locs ht hvm hw hB hz1 hk1 hS => ?_)
    obtain ⟨hP1, hK1, hD1⟩ := hB
    rw [ht] at hP1
    have hK1 := va_K.moved hvm.symm hK1
    obtain ⟨hP, hD⟩ := va_join (wr := [(h0, kO5 h1 n0_size h2 n0_ran), (h1, kAi cint 50 f1), (h2, kAi cint 24 f2)]) (w1 := []) hP hD [] [0, 1, 2] rfl rfl (by decide) (by decide) hk1 hFc hP1 hD1
    generalize H1 = H at hP hS ⊢
    have hP : va_P (dC, dI) vwCl [(h0, kO5 h1 n0_size h2 n0_ran), (h1, kAi cint 50 f1), (h2, kAi cint 24 f2)] H := hP
    have hD : va_D A [(h0, kO5 h1 n0_size h2 n0_ran), (h1, kAi cint 50 f1), (h2, kAi cint 24 f2)] := hD
    obtain rfl := hw
    refine lv_if_eq (tgt := 63) hx hb dX5_call_53 (by decide) (fun c => absurd c (by decide)) (fun _ => ?_)
    refine lv_iload hx hb dX5_call_56 (lv_at hl 7 rfl) ?_
    refine lv_bipush (v := 40) hx hb dX5_call_58 kk_bi_40 ?_
    refine lv_icmp_le (tgt := 65) hx hb dX5_call_60 (by decide) (fun c_107 => ?_) (fun c_107 => ?_)
    · have t_107 : p4.toInt ≤ 40 := kk_le c_107
      refine va_gets hx hb hZOWN_BODIES hS hown (hts (.fieldLink RX5 43 "KinkStreet$Lines" "OWN_BODIES" "[I") (List.mem_of_getElem? (i := 1) rfl)) (fun _ h9 => h9) dX5_call_65 ?_
      refine lv_iload hx hb dX5_call_68 (lv_at hl 1 rfl) ?_
      refine lv_iconst (v := 4) hx hb dX5_call_70 kk_ic_4 ?_
      refine lv_imul hx hb dX5_call_71 ?_
      refine lv_topi (fun y_108 e_108 => ?_)
      obtain rfl : y_108 = 0 := e_108.trans (by decide)
      refine lv_iload_n hx hb dX5_call_72 rfl (lv_at hl 5 rfl) ?_
      refine lv_iadd hx hb dX5_call_73 ?_
      refine lv_topi (fun y_109 e_109 => ?_)
      obtain rfl : y_109 = 2 := e_109.trans (by decide)
      refine va_ti (v := .int 11) hx hb hTOWN_BODIES hS (by unfold vp_in; decide) rfl dX5_call_74 ?_
      refine lv_istore hx hb dX5_call_75 hl (by decide) (rfl : _ = ([(7, .int 11), (6, .int 0), (0, .ref h0), (1, .int p0), (2, .int 6), (3, .int 2), (4, .int p3), (5, .int p4)] : List (Nat × Value))) (fun ls hl => ?_)
      refine lv_aload_n hx hb dX5_call_77 rfl (lv_at hl 2 rfl) ?_
      refine va_get (D := (dC, dI)) (ci := 5) (v := .int n0_ran) (C := RX5) (T := TX5) (N := 4) hx hb hts (fun _ h => List.mem_cons_of_mem _ (List.mem_append_right _ h)) hown hK hP 0 rfl rfl 3 (by decide) (hts (.fieldLink RX5 36 "KinkStreet$Lines" "ran" "I") (List.mem_of_getElem? (i := 3) rfl)) (fun _ h9 => h9) rfl dX5_call_78 ?_
      refine lv_bipush (v := 24) hx hb dX5_call_81 kk_bi_24 ?_
      refine lv_icmp_ge (tgt := 97) hx hb dX5_call_83 (by decide) (fun c_110 => ?_) (fun c_110 => ?_)
      · have t_110 : 24 ≤ n0_ran.toInt := kk_le c_110
        refine lv_aload_n hx hb dX5_call_97 rfl (lv_at hl 2 rfl) ?_
        refine lv_dup hx hb dX5_call_98 rfl ?_
        refine va_get (D := (dC, dI)) (ci := 5) (v := .int n0_ran) (C := RX5) (T := TX5) (N := 4) hx hb hts (fun _ h => List.mem_cons_of_mem _ (List.mem_append_right _ h)) hown hK hP 0 rfl rfl 3 (by decide) (hts (.fieldLink RX5 36 "KinkStreet$Lines" "ran" "I") (List.mem_of_getElem? (i := 3) rfl)) (fun _ h9 => h9) rfl dX5_call_99 ?_
        refine lv_iconst (v := 1) hx hb dX5_call_102 kk_ic_1 ?_
        refine lv_iadd hx hb dX5_call_103 ?_
        refine va_put (D := (dC, dI)) (ci := 5) (v := .int (n0_ran + 1)) (ty := .int) (C := RX5) (T := TX5) (N := 4) hx hb hts (fun _ h => List.mem_cons_of_mem _ (List.mem_append_right _ h)) tyX5 tyX5_ok nmX5 hown hK hP hD hS 0 rfl rfl 3 (by decide) (hts (.fieldLink RX5 36 "KinkStreet$Lines" "ran" "I") (List.mem_of_getElem? (i := 3) rfl)) (fun _ h9 => h9) rfl (by decide +kernel) rfl rfl (Nat.le_of_ble_eq_true rfl) dX5_call_104 (fun H locs hP hD hS => ?_)
        have hP : va_P (dC, dI) vwCl [(h0, kO5 h1 n0_size h2 (n0_ran + 1)), (h1, kAi cint 50 f1), (h2, kAi cint 24 f2)] H := hP
        have hD : va_D A [(h0, kO5 h1 n0_size h2 (n0_ran + 1)), (h1, kAi cint 50 f1), (h2, kAi cint 24 f2)] := hD
        have hp_111 : kk_P f2 f2 n0_ran.toInt (n0_ran + 1 : Int32).toInt [11] := kk_P_out (by have := kk_add2 (x := n0_ran) (y := 1) (a := n0_ran.toInt) (b := 1) rfl rfl (by omega) (by omega); omega) (by have := kk_add2 (x := n0_ran) (y := 1) (a := n0_ran.toInt) (b := 1) rfl rfl (by omega) (by omega); omega)
        refine lv_iload hx hb dX5_call_107 (lv_at hl 1 rfl) ?_
        refine lv_if_ne (tgt := 128) hx hb dX5_call_109 (by decide) (fun c => absurd c (by decide)) (fun _ => ?_)
        refine lv_aload_n hx hb dX5_call_112 rfl (lv_at hl 2 rfl) ?_
        refine lv_iload_n hx hb dX5_call_113 rfl (lv_at hl 3 rfl) ?_
        refine lv_iload hx hb dX5_call_114 (lv_at hl 0 rfl) ?_
        refine lv_iload hx hb dX5_call_116 (lv_at hl 6 rfl) ?_
        refine lv_iload hx hb dX5_call_118 (lv_at hl 7 rfl) ?_
        refine lv_iconst (v := 1) hx hb dX5_call_120 kk_ic_1 ?_
        refine lv_iadd hx hb dX5_call_121 ?_
        obtain ⟨hPc, hDc, hFc⟩ := kk_cutout (wc := [(h0, kO5 h1 n0_size h2 (n0_ran + 1)), (h1, kAi cint 50 f1)]) hP hD hS hA [0, 1] (by decide) rfl
        have hKc := kk_Ks (tq := [(cint, .int)]) hK [0] rfl
        refine va_calli (va_runV (As := [.int p0, .int 11, .int p3, .int (p4 + 1)]) (rest := []) ⟨hx, hb, hml, hown, hts⟩ (g_X5_runLine_6 l dC dI h0 h1 h2 cint H.size p0 p3 (p4 + 1) (by show 0 ≤ ((p4 + 1) : Int32).toInt ∧ ((p4 + 1) : Int32).toInt ≤ 15; first | with_reducible assumption | (constructor <;> (have := kk_add2 (x := n0_ran) (y := 1) (a := n0_ran.toInt) (b := 1) rfl rfl (by omega) (by omega); have := kk_add2 (x := p4) (y := 1) (a := p4.toInt) (b := 1) rfl rfl (by omega) (by omega); omega))) n0_size (n0_ran + 1) f1 tn0_size (by show 0 ≤ ((n0_ran + 1) : Int32).toInt ∧ ((n0_ran + 1) : Int32).toInt ≤ 1000; first | with_reducible assumption | (constructor <;> (have := kk_add2 (x := n0_ran) (y := 1) (a := n0_ran.toInt) (b := 1) rfl rfl (by omega) (by omega); have := kk_add2 (x := p4) (y := 1) (a := p4.toInt) (b := 1) rfl rfl (by omega) (by omega); omega))) bf1 (by show (0 ≤ (p0 : Int32).toInt ∧ (p0 : Int32).toInt < (n0_size : Int32).toInt); first | with_reducible assumption | (have := kk_add2 (x := n0_ran) (y := 1) (a := n0_ran.toInt) (b := 1) rfl rfl (by omega) (by omega); have := kk_add2 (x := p4) (y := 1) (a := p4.toInt) (b := 1) rfl rfl (by omega) (by omega); omega))) (cwV 4 hts gX5_call_X5_runLine rfl rfl rfl ⟨rfl, kh_X5_runLine⟩ ⟨Nat.le_of_ble_eq_true rfl, Nat.le_of_ble_eq_true rfl⟩) ⟨fun a U g mk q => by obtain ⟨q0, q1, qP, qK, qD⟩ := q; exact ⟨q0, q1, qP, va_K.moved (u := U) (U := U.calling g mk a) (Vm.Alike.refl U.vm) qK, qD⟩, va_recv hKc hPc (ci := 5) (q0 := 0) rfl rfl, fun U hU hW => ⟨rfl, by rw [hU], by rw [hU]; exact hPc, va_K.moved hW.alike hKc, hDc.weaken (fun _ _ _ _ => trivial)⟩⟩ rfl rfl hl.1 rfl (lv_room (Nat.le_of_ble_eq_true rfl)) dX5_call_122 ⟨Nat.le_of_ble_eq_true rfl, Nat.le_of_ble_eq_true rfl⟩) hS (fun q _ h => hFc q h) hFc (fun r_112 u t H1 locs ht hvm hw hB hz1 hk1 hS => ?_)
        obtain ⟨hP1, hK1, hD1⟩ := hB
        rw [ht] at hP1
        have hK1 := va_K.moved hvm.symm hK1
        obtain ⟨hP, hD⟩ := va_join (wr := [(h2, kAi cint 24 f2)]) (w1 := [(h0, kO5 h1 n0_size h2 (n0_ran + 1)), (h1, kAi cint 50 f1)]) hP hD [0, 1] [2] rfl rfl (by decide) (by decide) hk1 hFc hP1 hD1
        generalize H1 = H at hP hS ⊢
        have hP : va_P (dC, dI) vwCl [(h2, kAi cint 24 f2), (h0, kO5 h1 n0_size h2 (n0_ran + 1)), (h1, kAi cint 50 f1)] H := hP
        have hD : va_D A [(h2, kAi cint 24 f2), (h0, kO5 h1 n0_size h2 (n0_ran + 1)), (h1, kAi cint 50 f1)] := hD
        rcases hw with ⟨t_112_0, _⟩
        · skip
          have t_112_0 : r_112 = kk_leads (f1 (p0 : Int32).toNatClampNeg) 0 p0 p3 := t_112_0
          obtain rfl : r_112 = (kk_leads (f1 (p0 : Int32).toNatClampNeg) 0 p0 p3) := t_112_0
          refine lv_goto (tgt := 143) hx hb dX5_call_125 (by decide) ?_
          obtain ⟨hP9, hD9⟩ := kk_leafout (wc := [(h0, kO5 h1 n0_size h2 (n0_ran + 1)), (h1, kAi cint 50 f1), (h2, kAi cint 24 f2)]) hP hD [1, 2, 0] (by decide) rfl
          have hK9 := kk_Ks (tq := []) hK [] rfl
          exact W.iret (v := (kk_leads (f1 (p0 : Int32).toNatClampNeg) 0 p0 p3)) hx hb hr (fun t ht hW => ⟨⟨(kk_leads (f1 (p0 : Int32).toNatClampNeg) 0 p0 p3), (), rfl, ⟨(by first | rfl | (unfold kk_leads; (repeat' split) <;> first | rfl | (exfalso; have : (0 : Int32).toInt = 0 := rfl; have : (1 : Int32).toInt = 1 := rfl; have : (2 : Int32).toInt = 2 := rfl; have : (3 : Int32).toInt = 3 := rfl; have : (4 : Int32).toInt = 4 := rfl; have : (5 : Int32).toInt = 5 := rfl; have : (6 : Int32).toInt = 6 := rfl; have : (7 : Int32).toInt = 7 := rfl; have := kk_add2 (x := n0_ran) (y := 1) (a := n0_ran.toInt) (b := 1) rfl rfl (by omega) (by omega); have := kk_add2 (x := p4) (y := 1) (a := p4.toInt) (b := 1) rfl rfl (by omega) (by omega); omega))), trivial⟩, (n0_ran + 1), f2, (by show 1 ≤ ((n0_ran + 1) : Int32).toInt ∧ ((n0_ran + 1) : Int32).toInt ≤ 1000; first | with_reducible assumption | (constructor <;> (have := kk_add2 (x := n0_ran) (y := 1) (a := n0_ran.toInt) (b := 1) rfl rfl (by omega) (by omega); have := kk_add2 (x := p4) (y := 1) (a := p4.toInt) (b := 1) rfl rfl (by omega) (by omega); omega))), (by show ((n0_ran + 1) : Int32).toInt ≤ (n0_ran : Int32).toInt + 6; first | with_reducible assumption | (have := kk_add2 (x := n0_ran) (y := 1) (a := n0_ran.toInt) (b := 1) rfl rfl (by omega) (by omega); have := kk_add2 (x := p4) (y := 1) (a := p4.toInt) (b := 1) rfl rfl (by omega) (by omega); omega)), (by first | exact kk_P_eq hp_111 rfl | (unfold kt_leads; (repeat' split) <;> first | exact kk_P_eq hp_111 rfl | (exfalso; have : (0 : Int32).toInt = 0 := rfl; have : (1 : Int32).toInt = 1 := rfl; have : (2 : Int32).toInt = 2 := rfl; have : (3 : Int32).toInt = 3 := rfl; have : (4 : Int32).toInt = 4 := rfl; have : (5 : Int32).toInt = 5 := rfl; have : (6 : Int32).toInt = 6 := rfl; have : (7 : Int32).toInt = 7 := rfl; have := kk_add2 (x := n0_ran) (y := 1) (a := n0_ran.toInt) (b := 1) rfl rfl (by omega) (by omega); have := kk_add2 (x := p4) (y := 1) (a := p4.toInt) (b := 1) rfl rfl (by omega) (by omega); omega))), by rw [ht]; exact hP9, va_K.moved hW.alike hK9, hD9⟩, hS.F ht⟩) hS.2.2 dX5_call_143
      · have t_110 : n0_ran.toInt < 24 := kk_nle c_110
        refine lv_aload_n hx hb dX5_call_86 rfl (lv_at hl 2 rfl) ?_
        refine va_get (D := (dC, dI)) (ci := 5) (v := .ref h2) (C := RX5) (T := TX5) (N := 4) hx hb hts (fun _ h => List.mem_cons_of_mem _ (List.mem_append_right _ h)) hown hK hP 0 rfl rfl 2 (by decide) (hts (.fieldLink RX5 15 "KinkStreet$Lines" "trace" "[I") (List.mem_of_getElem? (i := 4) rfl)) (fun _ h9 => h9) rfl dX5_call_87 ?_
        refine lv_aload_n hx hb dX5_call_90 rfl (lv_at hl 2 rfl) ?_
        refine va_get (D := (dC, dI)) (ci := 5) (v := .int n0_ran) (C := RX5) (T := TX5) (N := 4) hx hb hts (fun _ h => List.mem_cons_of_mem _ (List.mem_append_right _ h)) hown hK hP 0 rfl rfl 3 (by decide) (hts (.fieldLink RX5 36 "KinkStreet$Lines" "ran" "I") (List.mem_of_getElem? (i := 3) rfl)) (fun _ h9 => h9) rfl dX5_call_91 ?_
        refine lv_iload hx hb dX5_call_94 (lv_at hl 0 rfl) ?_
        refine va_iast hx hb hK hP hD hS 2 0 rfl rfl (vp_in_iff.mpr ⟨by omega, by omega⟩) dX5_call_96 (fun H locs hP hD hS => ?_)
        have w_113 : ((upd f2 (n0_ran : Int32).toNatClampNeg 11) (n0_ran : Int32).toNatClampNeg).toInt = (11 : Int32).toInt := by rw [kk_ups]
        have hP : va_P (dC, dI) vwCl [(h0, kO5 h1 n0_size h2 n0_ran), (h1, kAi cint 50 f1), (h2, kAi cint 24 (upd f2 (n0_ran : Int32).toNatClampNeg 11))] H := hP
        have hD : va_D A [(h0, kO5 h1 n0_size h2 n0_ran), (h1, kAi cint 50 f1), (h2, kAi cint 24 (upd f2 (n0_ran : Int32).toNatClampNeg 11))] := hD
        refine lv_aload_n hx hb dX5_call_97 rfl (lv_at hl 2 rfl) ?_
        refine lv_dup hx hb dX5_call_98 rfl ?_
        refine va_get (D := (dC, dI)) (ci := 5) (v := .int n0_ran) (C := RX5) (T := TX5) (N := 4) hx hb hts (fun _ h => List.mem_cons_of_mem _ (List.mem_append_right _ h)) hown hK hP 0 rfl rfl 3 (by decide) (hts (.fieldLink RX5 36 "KinkStreet$Lines" "ran" "I") (List.mem_of_getElem? (i := 3) rfl)) (fun _ h9 => h9) rfl dX5_call_99 ?_
        refine lv_iconst (v := 1) hx hb dX5_call_102 kk_ic_1 ?_
        refine lv_iadd hx hb dX5_call_103 ?_
        refine va_put (D := (dC, dI)) (ci := 5) (v := .int (n0_ran + 1)) (ty := .int) (C := RX5) (T := TX5) (N := 4) hx hb hts (fun _ h => List.mem_cons_of_mem _ (List.mem_append_right _ h)) tyX5 tyX5_ok nmX5 hown hK hP hD hS 0 rfl rfl 3 (by decide) (hts (.fieldLink RX5 36 "KinkStreet$Lines" "ran" "I") (List.mem_of_getElem? (i := 3) rfl)) (fun _ h9 => h9) rfl (by decide +kernel) rfl rfl (Nat.le_of_ble_eq_true rfl) dX5_call_104 (fun H locs hP hD hS => ?_)
        have hP : va_P (dC, dI) vwCl [(h0, kO5 h1 n0_size h2 (n0_ran + 1)), (h1, kAi cint 50 f1), (h2, kAi cint 24 (upd f2 (n0_ran : Int32).toNatClampNeg 11))] H := hP
        have hD : va_D A [(h0, kO5 h1 n0_size h2 (n0_ran + 1)), (h1, kAi cint 50 f1), (h2, kAi cint 24 (upd f2 (n0_ran : Int32).toNatClampNeg 11))] := hD
        have hp_114 : kk_P f2 (upd f2 (n0_ran : Int32).toNatClampNeg 11) n0_ran.toInt (n0_ran + 1 : Int32).toInt [11] := kk_P_one (by have := kk_add2 (x := n0_ran) (y := 1) (a := n0_ran.toInt) (b := 1) rfl rfl (by omega) (by omega); omega) (by have := kk_add2 (x := n0_ran) (y := 1) (a := n0_ran.toInt) (b := 1) rfl rfl (by omega) (by omega); omega)
        refine lv_iload hx hb dX5_call_107 (lv_at hl 1 rfl) ?_
        refine lv_if_ne (tgt := 128) hx hb dX5_call_109 (by decide) (fun c => absurd c (by decide)) (fun _ => ?_)
        refine lv_aload_n hx hb dX5_call_112 rfl (lv_at hl 2 rfl) ?_
        refine lv_iload_n hx hb dX5_call_113 rfl (lv_at hl 3 rfl) ?_
        refine lv_iload hx hb dX5_call_114 (lv_at hl 0 rfl) ?_
        refine lv_iload hx hb dX5_call_116 (lv_at hl 6 rfl) ?_
        refine lv_iload hx hb dX5_call_118 (lv_at hl 7 rfl) ?_
        refine lv_iconst (v := 1) hx hb dX5_call_120 kk_ic_1 ?_
        refine lv_iadd hx hb dX5_call_121 ?_
        obtain ⟨hPc, hDc, hFc⟩ := kk_cutout (wc := [(h0, kO5 h1 n0_size h2 (n0_ran + 1)), (h1, kAi cint 50 f1)]) hP hD hS hA [0, 1] (by decide) rfl
        have hKc := kk_Ks (tq := [(cint, .int)]) hK [0] rfl
        refine va_calli (va_runV (As := [.int p0, .int 11, .int p3, .int (p4 + 1)]) (rest := []) ⟨hx, hb, hml, hown, hts⟩ (g_X5_runLine_6 l dC dI h0 h1 h2 cint H.size p0 p3 (p4 + 1) (by show 0 ≤ ((p4 + 1) : Int32).toInt ∧ ((p4 + 1) : Int32).toInt ≤ 15; first | with_reducible assumption | (constructor <;> (have := kk_add2 (x := n0_ran) (y := 1) (a := n0_ran.toInt) (b := 1) rfl rfl (by omega) (by omega); have := kk_add2 (x := p4) (y := 1) (a := p4.toInt) (b := 1) rfl rfl (by omega) (by omega); omega))) n0_size (n0_ran + 1) f1 tn0_size (by show 0 ≤ ((n0_ran + 1) : Int32).toInt ∧ ((n0_ran + 1) : Int32).toInt ≤ 1000; first | with_reducible assumption | (constructor <;> (have := kk_add2 (x := n0_ran) (y := 1) (a := n0_ran.toInt) (b := 1) rfl rfl (by omega) (by omega); have := kk_add2 (x := p4) (y := 1) (a := p4.toInt) (b := 1) rfl rfl (by omega) (by omega); omega))) bf1 (by show (0 ≤ (p0 : Int32).toInt ∧ (p0 : Int32).toInt < (n0_size : Int32).toInt); first | with_reducible assumption | (have := kk_add2 (x := n0_ran) (y := 1) (a := n0_ran.toInt) (b := 1) rfl rfl (by omega) (by omega); have := kk_add2 (x := p4) (y := 1) (a := p4.toInt) (b := 1) rfl rfl (by omega) (by omega); omega))) (cwV 4 hts gX5_call_X5_runLine rfl rfl rfl ⟨rfl, kh_X5_runLine⟩ ⟨Nat.le_of_ble_eq_true rfl, Nat.le_of_ble_eq_true rfl⟩) ⟨fun a U g mk q => by obtain ⟨q0, q1, qP, qK, qD⟩ := q; exact ⟨q0, q1, qP, va_K.moved (u := U) (U := U.calling g mk a) (Vm.Alike.refl U.vm) qK, qD⟩, va_recv hKc hPc (ci := 5) (q0 := 0) rfl rfl, fun U hU hW => ⟨rfl, by rw [hU], by rw [hU]; exact hPc, va_K.moved hW.alike hKc, hDc.weaken (fun _ _ _ _ => trivial)⟩⟩ rfl rfl hl.1 rfl (lv_room (Nat.le_of_ble_eq_true rfl)) dX5_call_122 ⟨Nat.le_of_ble_eq_true rfl, Nat.le_of_ble_eq_true rfl⟩) hS (fun q _ h => hFc q h) hFc (fun r_115 u t H1 locs ht hvm hw hB hz1 hk1 hS => ?_)
        obtain ⟨hP1, hK1, hD1⟩ := hB
        rw [ht] at hP1
        have hK1 := va_K.moved hvm.symm hK1
        obtain ⟨hP, hD⟩ := va_join (wr := [(h2, kAi cint 24 (upd f2 (n0_ran : Int32).toNatClampNeg 11))]) (w1 := [(h0, kO5 h1 n0_size h2 (n0_ran + 1)), (h1, kAi cint 50 f1)]) hP hD [0, 1] [2] rfl rfl (by decide) (by decide) hk1 hFc hP1 hD1
        generalize H1 = H at hP hS ⊢
        have hP : va_P (dC, dI) vwCl [(h2, kAi cint 24 (upd f2 (n0_ran : Int32).toNatClampNeg 11)), (h0, kO5 h1 n0_size h2 (n0_ran + 1)), (h1, kAi cint 50 f1)] H := hP
        have hD : va_D A [(h2, kAi cint 24 (upd f2 (n0_ran : Int32).toNatClampNeg 11)), (h0, kO5 h1 n0_size h2 (n0_ran + 1)), (h1, kAi cint 50 f1)] := hD
        rcases hw with ⟨t_115_0, _⟩
        · skip
          have t_115_0 : r_115 = kk_leads (f1 (p0 : Int32).toNatClampNeg) 0 p0 p3 := t_115_0
          obtain rfl : r_115 = (kk_leads (f1 (p0 : Int32).toNatClampNeg) 0 p0 p3) := t_115_0
          refine lv_goto (tgt := 143) hx hb dX5_call_125 (by decide) ?_
          obtain ⟨hP9, hD9⟩ := kk_leafout (wc := [(h0, kO5 h1 n0_size h2 (n0_ran + 1)), (h1, kAi cint 50 f1), (h2, kAi cint 24 (upd f2 (n0_ran : Int32).toNatClampNeg 11))]) hP hD [1, 2, 0] (by decide) rfl
          have hK9 := kk_Ks (tq := []) hK [] rfl
          exact W.iret (v := (kk_leads (f1 (p0 : Int32).toNatClampNeg) 0 p0 p3)) hx hb hr (fun t ht hW => ⟨⟨(kk_leads (f1 (p0 : Int32).toNatClampNeg) 0 p0 p3), (), rfl, ⟨(by first | rfl | (unfold kk_leads; (repeat' split) <;> first | rfl | (exfalso; have : (0 : Int32).toInt = 0 := rfl; have : (1 : Int32).toInt = 1 := rfl; have : (2 : Int32).toInt = 2 := rfl; have : (3 : Int32).toInt = 3 := rfl; have : (4 : Int32).toInt = 4 := rfl; have : (5 : Int32).toInt = 5 := rfl; have : (6 : Int32).toInt = 6 := rfl; have : (7 : Int32).toInt = 7 := rfl; have := kk_add2 (x := n0_ran) (y := 1) (a := n0_ran.toInt) (b := 1) rfl rfl (by omega) (by omega); have := kk_add2 (x := p4) (y := 1) (a := p4.toInt) (b := 1) rfl rfl (by omega) (by omega); omega))), trivial⟩, (n0_ran + 1), (upd f2 (n0_ran : Int32).toNatClampNeg 11), (by show 1 ≤ ((n0_ran + 1) : Int32).toInt ∧ ((n0_ran + 1) : Int32).toInt ≤ 1000; first | with_reducible assumption | (constructor <;> (have := kk_add2 (x := n0_ran) (y := 1) (a := n0_ran.toInt) (b := 1) rfl rfl (by omega) (by omega); have := kk_add2 (x := p4) (y := 1) (a := p4.toInt) (b := 1) rfl rfl (by omega) (by omega); omega))), (by show ((n0_ran + 1) : Int32).toInt ≤ (n0_ran : Int32).toInt + 6; first | with_reducible assumption | (have := kk_add2 (x := n0_ran) (y := 1) (a := n0_ran.toInt) (b := 1) rfl rfl (by omega) (by omega); have := kk_add2 (x := p4) (y := 1) (a := p4.toInt) (b := 1) rfl rfl (by omega) (by omega); omega)), (by first | exact kk_P_eq hp_114 rfl | (unfold kt_leads; (repeat' split) <;> first | exact kk_P_eq hp_114 rfl | (exfalso; have : (0 : Int32).toInt = 0 := rfl; have : (1 : Int32).toInt = 1 := rfl; have : (2 : Int32).toInt = 2 := rfl; have : (3 : Int32).toInt = 3 := rfl; have : (4 : Int32).toInt = 4 := rfl; have : (5 : Int32).toInt = 5 := rfl; have : (6 : Int32).toInt = 6 := rfl; have : (7 : Int32).toInt = 7 := rfl; have := kk_add2 (x := n0_ran) (y := 1) (a := n0_ran.toInt) (b := 1) rfl rfl (by omega) (by omega); have := kk_add2 (x := p4) (y := 1) (a := p4.toInt) (b := 1) rfl rfl (by omega) (by omega); omega))), by rw [ht]; exact hP9, va_K.moved hW.alike hK9, hD9⟩, hS.F ht⟩) hS.2.2 dX5_call_143
    · have t_107 : 40 < p4.toInt := kk_nle c_107
      exfalso; omega
  · have t_1 : p1.toInt = 7 := by rw [e_1]; rfl
    subst e_1
    refine lv_iload_n hx hb dX5_call_0 rfl (lv_at hl 2 rfl) ?_
    refine lv_istore hx hb dX5_call_1 hl (by decide) (rfl : _ = ([(6, .int 7), (0, .ref h0), (1, .int p0), (2, .int 7), (3, .int 2), (4, .int p3), (5, .int p4)] : List (Nat × Value))) (fun ls hl => ?_)
    refine lv_iconst (v := 0) hx hb dX5_call_3 kk_ic_0 ?_
    refine lv_istore hx hb dX5_call_4 hl (by decide) (rfl : _ = ([(7, .int 0), (6, .int 7), (0, .ref h0), (1, .int p0), (2, .int 7), (3, .int 2), (4, .int p3), (5, .int p4)] : List (Nat × Value))) (fun ls hl => ?_)
    refine lv_iload hx hb dX5_call_6 (lv_at hl 0 rfl) ?_
    refine lv_bipush (v := 8) hx hb dX5_call_8 kk_bi_8 ?_
    refine lv_icmp_ge (tgt := 48) hx hb dX5_call_10 (by decide) (fun c => absurd c (by decide)) (fun _ => ?_)
    refine lv_iload hx hb dX5_call_13 (lv_at hl 1 rfl) ?_
    obtain ⟨hPc, hDc, hFc⟩ := kk_cutout (wc := []) hP hD hS hA [] (by decide) rfl
    have hKc := kk_Ks (tq := []) hK [] rfl
    refine va_calli (va_runS (As := [.int 7]) (rest := []) ⟨hx, hb, hml, hown, hts⟩ (g_X5_isKind_18 l dC dI s.heap.size) (va_cwS 1 hts gX5_call_X5_isKind rfl rfl rfl kh_X5_isKind ⟨Nat.le_of_ble_eq_true rfl, Nat.le_of_ble_eq_true rfl⟩) ⟨fun a U g mk q => by obtain ⟨q0, q1, qP, qK, qD⟩ := q; exact ⟨q0, q1, qP, va_K.moved (u := U) (U := U.calling g mk a) (Vm.Alike.refl U.vm) qK, qD⟩, fun U hU hW => ⟨rfl, by rw [hU], by rw [hU]; exact hPc, va_K.moved hW.alike hKc, hDc.weaken (fun _ _ _ _ => trivial)⟩⟩ rfl rfl hl.1 rfl (lv_room (Nat.le_of_ble_eq_true rfl)) dX5_call_15 ⟨Nat.le_of_ble_eq_true rfl, Nat.le_of_ble_eq_true rfl⟩) hS (fun q _ h => hFc q h) hFc (fun r_116 u t H1 locs ht hvm hw hB hz1 hk1 hS => ?_)
    obtain ⟨hP1, hK1, hD1⟩ := hB
    rw [ht] at hP1
    have hK1 := va_K.moved hvm.symm hK1
    obtain ⟨hP, hD⟩ := va_join (wr := [(h0, kO5 h1 n0_size h2 n0_ran), (h1, kAi cint 50 f1), (h2, kAi cint 24 f2)]) (w1 := []) hP hD [] [0, 1, 2] rfl rfl (by decide) (by decide) hk1 hFc hP1 hD1
    generalize H1 = H at hP hS ⊢
    have hP : va_P (dC, dI) vwCl [(h0, kO5 h1 n0_size h2 n0_ran), (h1, kAi cint 50 f1), (h2, kAi cint 24 f2)] H := hP
    have hD : va_D A [(h0, kO5 h1 n0_size h2 n0_ran), (h1, kAi cint 50 f1), (h2, kAi cint 24 f2)] := hD
    obtain rfl := hw
    refine lv_if_eq (tgt := 48) hx hb dX5_call_18 (by decide) (fun c => absurd c (by decide)) (fun _ => ?_)
    refine va_gets hx hb hZOWN_BODIES hS hown (hts (.fieldLink RX5 43 "KinkStreet$Lines" "OWN_BODIES" "[I") (List.mem_of_getElem? (i := 1) rfl)) (fun _ h9 => h9) dX5_call_21 ?_
    refine lv_iload hx hb dX5_call_24 (lv_at hl 1 rfl) ?_
    refine lv_iconst (v := 4) hx hb dX5_call_26 kk_ic_4 ?_
    refine lv_imul hx hb dX5_call_27 ?_
    refine lv_topi (fun y_117 e_117 => ?_)
    obtain rfl : y_117 = 28 := e_117.trans (by decide)
    refine lv_iload_n hx hb dX5_call_28 rfl (lv_at hl 5 rfl) ?_
    refine lv_iadd hx hb dX5_call_29 ?_
    refine lv_topi (fun y_118 e_118 => ?_)
    obtain rfl : y_118 = 30 := e_118.trans (by decide)
    refine va_ti (v := .int 81) hx hb hTOWN_BODIES hS (by unfold vp_in; decide) rfl dX5_call_30 ?_
    refine lv_if_ne (tgt := 48) hx hb dX5_call_31 (by decide) (fun _ => ?_) (fun c => absurd c (by decide))
    refine lv_iload hx hb dX5_call_48 (lv_at hl 1 rfl) ?_
    obtain ⟨hPc, hDc, hFc⟩ := kk_cutout (wc := []) hP hD hS hA [] (by decide) rfl
    have hKc := kk_Ks (tq := []) hK [] rfl
    refine va_calli (va_runS (As := [.int 7]) (rest := []) ⟨hx, hb, hml, hown, hts⟩ (g_X5_isKind_18 l dC dI H.size) (va_cwS 1 hts gX5_call_X5_isKind rfl rfl rfl kh_X5_isKind ⟨Nat.le_of_ble_eq_true rfl, Nat.le_of_ble_eq_true rfl⟩) ⟨fun a U g mk q => by obtain ⟨q0, q1, qP, qK, qD⟩ := q; exact ⟨q0, q1, qP, va_K.moved (u := U) (U := U.calling g mk a) (Vm.Alike.refl U.vm) qK, qD⟩, fun U hU hW => ⟨rfl, by rw [hU], by rw [hU]; exact hPc, va_K.moved hW.alike hKc, hDc.weaken (fun _ _ _ _ => trivial)⟩⟩ rfl rfl hl.1 rfl (lv_room (Nat.le_of_ble_eq_true rfl)) dX5_call_50 ⟨Nat.le_of_ble_eq_true rfl, Nat.le_of_ble_eq_true rfl⟩) hS (fun q _ h => hFc q h) hFc (fun r_119 u t H1 locs ht hvm hw hB hz1 hk1 hS => ?_)
    obtain ⟨hP1, hK1, hD1⟩ := hB
    rw [ht] at hP1
    have hK1 := va_K.moved hvm.symm hK1
    obtain ⟨hP, hD⟩ := va_join (wr := [(h0, kO5 h1 n0_size h2 n0_ran), (h1, kAi cint 50 f1), (h2, kAi cint 24 f2)]) (w1 := []) hP hD [] [0, 1, 2] rfl rfl (by decide) (by decide) hk1 hFc hP1 hD1
    generalize H1 = H at hP hS ⊢
    have hP : va_P (dC, dI) vwCl [(h0, kO5 h1 n0_size h2 n0_ran), (h1, kAi cint 50 f1), (h2, kAi cint 24 f2)] H := hP
    have hD : va_D A [(h0, kO5 h1 n0_size h2 n0_ran), (h1, kAi cint 50 f1), (h2, kAi cint 24 f2)] := hD
    obtain rfl := hw
    refine lv_if_eq (tgt := 63) hx hb dX5_call_53 (by decide) (fun c => absurd c (by decide)) (fun _ => ?_)
    refine lv_iload hx hb dX5_call_56 (lv_at hl 7 rfl) ?_
    refine lv_bipush (v := 40) hx hb dX5_call_58 kk_bi_40 ?_
    refine lv_icmp_le (tgt := 65) hx hb dX5_call_60 (by decide) (fun c_120 => ?_) (fun c_120 => ?_)
    · have t_120 : p4.toInt ≤ 40 := kk_le c_120
      refine va_gets hx hb hZOWN_BODIES hS hown (hts (.fieldLink RX5 43 "KinkStreet$Lines" "OWN_BODIES" "[I") (List.mem_of_getElem? (i := 1) rfl)) (fun _ h9 => h9) dX5_call_65 ?_
      refine lv_iload hx hb dX5_call_68 (lv_at hl 1 rfl) ?_
      refine lv_iconst (v := 4) hx hb dX5_call_70 kk_ic_4 ?_
      refine lv_imul hx hb dX5_call_71 ?_
      refine lv_topi (fun y_121 e_121 => ?_)
      obtain rfl : y_121 = 28 := e_121.trans (by decide)
      refine lv_iload_n hx hb dX5_call_72 rfl (lv_at hl 5 rfl) ?_
      refine lv_iadd hx hb dX5_call_73 ?_
      refine lv_topi (fun y_122 e_122 => ?_)
      obtain rfl : y_122 = 30 := e_122.trans (by decide)
      refine va_ti (v := .int 81) hx hb hTOWN_BODIES hS (by unfold vp_in; decide) rfl dX5_call_74 ?_
      refine lv_istore hx hb dX5_call_75 hl (by decide) (rfl : _ = ([(7, .int 81), (6, .int 7), (0, .ref h0), (1, .int p0), (2, .int 7), (3, .int 2), (4, .int p3), (5, .int p4)] : List (Nat × Value))) (fun ls hl => ?_)
      refine lv_aload_n hx hb dX5_call_77 rfl (lv_at hl 2 rfl) ?_
      refine va_get (D := (dC, dI)) (ci := 5) (v := .int n0_ran) (C := RX5) (T := TX5) (N := 4) hx hb hts (fun _ h => List.mem_cons_of_mem _ (List.mem_append_right _ h)) hown hK hP 0 rfl rfl 3 (by decide) (hts (.fieldLink RX5 36 "KinkStreet$Lines" "ran" "I") (List.mem_of_getElem? (i := 3) rfl)) (fun _ h9 => h9) rfl dX5_call_78 ?_
      refine lv_bipush (v := 24) hx hb dX5_call_81 kk_bi_24 ?_
      refine lv_icmp_ge (tgt := 97) hx hb dX5_call_83 (by decide) (fun c_123 => ?_) (fun c_123 => ?_)
      · have t_123 : 24 ≤ n0_ran.toInt := kk_le c_123
        refine lv_aload_n hx hb dX5_call_97 rfl (lv_at hl 2 rfl) ?_
        refine lv_dup hx hb dX5_call_98 rfl ?_
        refine va_get (D := (dC, dI)) (ci := 5) (v := .int n0_ran) (C := RX5) (T := TX5) (N := 4) hx hb hts (fun _ h => List.mem_cons_of_mem _ (List.mem_append_right _ h)) hown hK hP 0 rfl rfl 3 (by decide) (hts (.fieldLink RX5 36 "KinkStreet$Lines" "ran" "I") (List.mem_of_getElem? (i := 3) rfl)) (fun _ h9 => h9) rfl dX5_call_99 ?_
        refine lv_iconst (v := 1) hx hb dX5_call_102 kk_ic_1 ?_
        refine lv_iadd hx hb dX5_call_103 ?_
        refine va_put (D := (dC, dI)) (ci := 5) (v := .int (n0_ran + 1)) (ty := .int) (C := RX5) (T := TX5) (N := 4) hx hb hts (fun _ h => List.mem_cons_of_mem _ (List.mem_append_right _ h)) tyX5 tyX5_ok nmX5 hown hK hP hD hS 0 rfl rfl 3 (by decide) (hts (.fieldLink RX5 36 "KinkStreet$Lines" "ran" "I") (List.mem_of_getElem? (i := 3) rfl)) (fun _ h9 => h9) rfl (by decide +kernel) rfl rfl (Nat.le_of_ble_eq_true rfl) dX5_call_104 (fun H locs hP hD hS => ?_)
        have hP : va_P (dC, dI) vwCl [(h0, kO5 h1 n0_size h2 (n0_ran + 1)), (h1, kAi cint 50 f1), (h2, kAi cint 24 f2)] H := hP
        have hD : va_D A [(h0, kO5 h1 n0_size h2 (n0_ran + 1)), (h1, kAi cint 50 f1), (h2, kAi cint 24 f2)] := hD
        have hp_124 : kk_P f2 f2 n0_ran.toInt (n0_ran + 1 : Int32).toInt [81] := kk_P_out (by have := kk_add2 (x := n0_ran) (y := 1) (a := n0_ran.toInt) (b := 1) rfl rfl (by omega) (by omega); omega) (by have := kk_add2 (x := n0_ran) (y := 1) (a := n0_ran.toInt) (b := 1) rfl rfl (by omega) (by omega); omega)
        refine lv_iload hx hb dX5_call_107 (lv_at hl 1 rfl) ?_
        refine lv_if_ne (tgt := 128) hx hb dX5_call_109 (by decide) (fun _ => ?_) (fun c => absurd c (by decide))
        refine lv_aload_n hx hb dX5_call_128 rfl (lv_at hl 2 rfl) ?_
        refine lv_iload_n hx hb dX5_call_129 rfl (lv_at hl 3 rfl) ?_
        refine lv_iload hx hb dX5_call_130 (lv_at hl 1 rfl) ?_
        refine lv_iload hx hb dX5_call_132 (lv_at hl 0 rfl) ?_
        refine lv_iload hx hb dX5_call_134 (lv_at hl 6 rfl) ?_
        refine lv_iload hx hb dX5_call_136 (lv_at hl 7 rfl) ?_
        refine lv_iconst (v := 1) hx hb dX5_call_138 kk_ic_1 ?_
        refine lv_iadd hx hb dX5_call_139 ?_
        obtain ⟨hPc, hDc, hFc⟩ := kk_cutout (wc := [(h0, kO5 h1 n0_size h2 (n0_ran + 1)), (h1, kAi cint 50 f1), (h2, kAi cint 24 f2)]) hP hD hS hA [0, 1, 2] (by decide) rfl
        have hKc := kk_Ks (tq := [(cint, .int)]) hK [0] rfl
        refine va_calli (va_runV (As := [.int p0, .int 7, .int 81, .int p3, .int (p4 + 1)]) (rest := []) ⟨hx, hb, hml, hown, hts⟩ (g_X5_runUnder_15 l dC dI h0 h1 h2 cint H.size p0 p3 (p4 + 1) (by show 0 ≤ ((p4 + 1) : Int32).toInt ∧ ((p4 + 1) : Int32).toInt ≤ 13; first | with_reducible assumption | (constructor <;> (have := kk_add2 (x := n0_ran) (y := 1) (a := n0_ran.toInt) (b := 1) rfl rfl (by omega) (by omega); have := kk_add2 (x := p4) (y := 1) (a := p4.toInt) (b := 1) rfl rfl (by omega) (by omega); omega))) n0_size (n0_ran + 1) f1 f2 tn0_size (by show 0 ≤ ((n0_ran + 1) : Int32).toInt ∧ ((n0_ran + 1) : Int32).toInt ≤ 999; first | with_reducible assumption | (constructor <;> (have := kk_add2 (x := n0_ran) (y := 1) (a := n0_ran.toInt) (b := 1) rfl rfl (by omega) (by omega); have := kk_add2 (x := p4) (y := 1) (a := p4.toInt) (b := 1) rfl rfl (by omega) (by omega); omega))) bf1 (by show (0 ≤ (p0 : Int32).toInt ∧ (p0 : Int32).toInt < (n0_size : Int32).toInt); first | with_reducible assumption | (have := kk_add2 (x := n0_ran) (y := 1) (a := n0_ran.toInt) (b := 1) rfl rfl (by omega) (by omega); have := kk_add2 (x := p4) (y := 1) (a := p4.toInt) (b := 1) rfl rfl (by omega) (by omega); omega)) aABOVE aOWN_BODIES) (cwV 5 hts gX5_call_X5_runUnder rfl rfl rfl ⟨rfl, kh_X5_runUnder⟩ ⟨Nat.le_of_ble_eq_true rfl, Nat.le_of_ble_eq_true rfl⟩) ⟨fun a U g mk q => by obtain ⟨q0, q1, qP, qK, qD, qx0, qx1, qx2, qx3⟩ := q; exact ⟨q0, q1, qP, va_K.moved (u := U) (U := U.calling g mk a) (Vm.Alike.refl U.vm) qK, qD, va_Z.moved (u := U) (U := U.calling g mk a) (Vm.Alike.refl U.vm) qx0, va_T.moved (u := U) (U := U.calling g mk a) (Vm.Alike.refl U.vm) qx1, va_Z.moved (u := U) (U := U.calling g mk a) (Vm.Alike.refl U.vm) qx2, va_T.moved (u := U) (U := U.calling g mk a) (Vm.Alike.refl U.vm) qx3⟩, va_recv hKc hPc (ci := 5) (q0 := 0) rfl rfl, fun U hU hW => ⟨rfl, by rw [hU], by rw [hU]; exact hPc, va_K.moved hW.alike hKc, hDc.weaken (fun _ _ _ _ => trivial), by rw [hU]; exact ((hZABOVE.kept (fun a h1 h2 => hS.2.1 a h1 h2)).narrow hFc).moved hW.alike, by rw [hU]; exact ((hTABOVE.kept (fun a h1 h2 => hS.2.1 a h1 h2)).narrow hFc).moved hW.alike, by rw [hU]; exact ((hZOWN_BODIES.kept (fun a h1 h2 => hS.2.1 a h1 h2)).narrow hFc).moved hW.alike, by rw [hU]; exact ((hTOWN_BODIES.kept (fun a h1 h2 => hS.2.1 a h1 h2)).narrow hFc).moved hW.alike⟩⟩ rfl rfl hl.1 rfl (lv_room (Nat.le_of_ble_eq_true rfl)) dX5_call_140 ⟨Nat.le_of_ble_eq_true rfl, Nat.le_of_ble_eq_true rfl⟩) hS (fun q _ h => hFc q h) hFc (fun r_125 u t H1 locs ht hvm hw hB hz1 hk1 hS => ?_)
        obtain ⟨y_126, f_127, by_126, v_127_0, hn_127_0, hP1, hK1, hD1⟩ := hB
        have v_127_0 : y_126.toInt ≤ (n0_ran + 1).toInt + 1 := v_127_0
        have hn_127_0 : kk_P f2 f_127 (n0_ran + 1).toInt y_126.toInt ((kt_leads (f1 (p0 : Int32).toNatClampNeg) 7).tail) := hn_127_0
        rw [ht] at hP1
        have hK1 := va_K.moved hvm.symm hK1
        obtain ⟨hP, hD⟩ := va_join (wr := []) (w1 := [(h0, kO5 h1 n0_size h2 y_126), (h1, kAi cint 50 f1), (h2, kAi cint 24 f_127)]) hP hD [0, 1, 2] [] rfl rfl (by decide) (by decide) hk1 hFc hP1 hD1
        generalize H1 = H at hP hS ⊢
        have hP : va_P (dC, dI) vwCl [(h0, kO5 h1 n0_size h2 y_126), (h1, kAi cint 50 f1), (h2, kAi cint 24 f_127)] H := hP
        have hD : va_D A [(h0, kO5 h1 n0_size h2 y_126), (h1, kAi cint 50 f1), (h2, kAi cint 24 f_127)] := hD
        rcases hw with ⟨t_125_0, _⟩
        · skip
          have t_125_0 : r_125 = kk_leads (f1 (p0 : Int32).toNatClampNeg) 7 p0 p3 := t_125_0
          obtain rfl : r_125 = (kk_leads (f1 (p0 : Int32).toNatClampNeg) 7 p0 p3) := t_125_0
          obtain ⟨hP9, hD9⟩ := kk_leafout (wc := [(h0, kO5 h1 n0_size h2 y_126), (h1, kAi cint 50 f1), (h2, kAi cint 24 f_127)]) hP hD [0, 1, 2] (by decide) rfl
          have hK9 := kk_Ks (tq := []) hK [] rfl
          exact W.iret (v := (kk_leads (f1 (p0 : Int32).toNatClampNeg) 7 p0 p3)) hx hb hr (fun t ht hW => ⟨⟨(kk_leads (f1 (p0 : Int32).toNatClampNeg) 7 p0 p3), (), rfl, ⟨(by first | rfl | (unfold kk_leads; (repeat' split) <;> first | rfl | (exfalso; have : (0 : Int32).toInt = 0 := rfl; have : (1 : Int32).toInt = 1 := rfl; have : (2 : Int32).toInt = 2 := rfl; have : (3 : Int32).toInt = 3 := rfl; have : (4 : Int32).toInt = 4 := rfl; have : (5 : Int32).toInt = 5 := rfl; have : (6 : Int32).toInt = 6 := rfl; have : (7 : Int32).toInt = 7 := rfl; have := kk_add2 (x := n0_ran) (y := 1) (a := n0_ran.toInt) (b := 1) rfl rfl (by omega) (by omega); have := kk_add2 (x := p4) (y := 1) (a := p4.toInt) (b := 1) rfl rfl (by omega) (by omega); omega))), trivial⟩, y_126, f_127, (by show 1 ≤ (y_126 : Int32).toInt ∧ (y_126 : Int32).toInt ≤ 1000; first | with_reducible assumption | (constructor <;> (have := kk_add2 (x := n0_ran) (y := 1) (a := n0_ran.toInt) (b := 1) rfl rfl (by omega) (by omega); have := kk_add2 (x := p4) (y := 1) (a := p4.toInt) (b := 1) rfl rfl (by omega) (by omega); omega))), (by show (y_126 : Int32).toInt ≤ (n0_ran : Int32).toInt + 6; first | with_reducible assumption | (have := kk_add2 (x := n0_ran) (y := 1) (a := n0_ran.toInt) (b := 1) rfl rfl (by omega) (by omega); have := kk_add2 (x := p4) (y := 1) (a := p4.toInt) (b := 1) rfl rfl (by omega) (by omega); omega)), (by first | exact kk_P_eq (kk_P_trans hp_124 hn_127_0) rfl | (unfold kt_leads; (repeat' split) <;> first | exact kk_P_eq (kk_P_trans hp_124 hn_127_0) rfl | (exfalso; have : (0 : Int32).toInt = 0 := rfl; have : (1 : Int32).toInt = 1 := rfl; have : (2 : Int32).toInt = 2 := rfl; have : (3 : Int32).toInt = 3 := rfl; have : (4 : Int32).toInt = 4 := rfl; have : (5 : Int32).toInt = 5 := rfl; have : (6 : Int32).toInt = 6 := rfl; have : (7 : Int32).toInt = 7 := rfl; have := kk_add2 (x := n0_ran) (y := 1) (a := n0_ran.toInt) (b := 1) rfl rfl (by omega) (by omega); have := kk_add2 (x := p4) (y := 1) (a := p4.toInt) (b := 1) rfl rfl (by omega) (by omega); omega))), by rw [ht]; exact hP9, va_K.moved hW.alike hK9, hD9⟩, hS.F ht⟩) hS.2.2 dX5_call_143
      · have t_123 : n0_ran.toInt < 24 := kk_nle c_123
        refine lv_aload_n hx hb dX5_call_86 rfl (lv_at hl 2 rfl) ?_
        refine va_get (D := (dC, dI)) (ci := 5) (v := .ref h2) (C := RX5) (T := TX5) (N := 4) hx hb hts (fun _ h => List.mem_cons_of_mem _ (List.mem_append_right _ h)) hown hK hP 0 rfl rfl 2 (by decide) (hts (.fieldLink RX5 15 "KinkStreet$Lines" "trace" "[I") (List.mem_of_getElem? (i := 4) rfl)) (fun _ h9 => h9) rfl dX5_call_87 ?_
        refine lv_aload_n hx hb dX5_call_90 rfl (lv_at hl 2 rfl) ?_
        refine va_get (D := (dC, dI)) (ci := 5) (v := .int n0_ran) (C := RX5) (T := TX5) (N := 4) hx hb hts (fun _ h => List.mem_cons_of_mem _ (List.mem_append_right _ h)) hown hK hP 0 rfl rfl 3 (by decide) (hts (.fieldLink RX5 36 "KinkStreet$Lines" "ran" "I") (List.mem_of_getElem? (i := 3) rfl)) (fun _ h9 => h9) rfl dX5_call_91 ?_
        refine lv_iload hx hb dX5_call_94 (lv_at hl 0 rfl) ?_
        refine va_iast hx hb hK hP hD hS 2 0 rfl rfl (vp_in_iff.mpr ⟨by omega, by omega⟩) dX5_call_96 (fun H locs hP hD hS => ?_)
        have w_128 : ((upd f2 (n0_ran : Int32).toNatClampNeg 81) (n0_ran : Int32).toNatClampNeg).toInt = (81 : Int32).toInt := by rw [kk_ups]
        have hP : va_P (dC, dI) vwCl [(h0, kO5 h1 n0_size h2 n0_ran), (h1, kAi cint 50 f1), (h2, kAi cint 24 (upd f2 (n0_ran : Int32).toNatClampNeg 81))] H := hP
        have hD : va_D A [(h0, kO5 h1 n0_size h2 n0_ran), (h1, kAi cint 50 f1), (h2, kAi cint 24 (upd f2 (n0_ran : Int32).toNatClampNeg 81))] := hD
        refine lv_aload_n hx hb dX5_call_97 rfl (lv_at hl 2 rfl) ?_
        refine lv_dup hx hb dX5_call_98 rfl ?_
        refine va_get (D := (dC, dI)) (ci := 5) (v := .int n0_ran) (C := RX5) (T := TX5) (N := 4) hx hb hts (fun _ h => List.mem_cons_of_mem _ (List.mem_append_right _ h)) hown hK hP 0 rfl rfl 3 (by decide) (hts (.fieldLink RX5 36 "KinkStreet$Lines" "ran" "I") (List.mem_of_getElem? (i := 3) rfl)) (fun _ h9 => h9) rfl dX5_call_99 ?_
        refine lv_iconst (v := 1) hx hb dX5_call_102 kk_ic_1 ?_
        refine lv_iadd hx hb dX5_call_103 ?_
        refine va_put (D := (dC, dI)) (ci := 5) (v := .int (n0_ran + 1)) (ty := .int) (C := RX5) (T := TX5) (N := 4) hx hb hts (fun _ h => List.mem_cons_of_mem _ (List.mem_append_right _ h)) tyX5 tyX5_ok nmX5 hown hK hP hD hS 0 rfl rfl 3 (by decide) (hts (.fieldLink RX5 36 "KinkStreet$Lines" "ran" "I") (List.mem_of_getElem? (i := 3) rfl)) (fun _ h9 => h9) rfl (by decide +kernel) rfl rfl (Nat.le_of_ble_eq_true rfl) dX5_call_104 (fun H locs hP hD hS => ?_)
        have hP : va_P (dC, dI) vwCl [(h0, kO5 h1 n0_size h2 (n0_ran + 1)), (h1, kAi cint 50 f1), (h2, kAi cint 24 (upd f2 (n0_ran : Int32).toNatClampNeg 81))] H := hP
        have hD : va_D A [(h0, kO5 h1 n0_size h2 (n0_ran + 1)), (h1, kAi cint 50 f1), (h2, kAi cint 24 (upd f2 (n0_ran : Int32).toNatClampNeg 81))] := hD
        have hp_129 : kk_P f2 (upd f2 (n0_ran : Int32).toNatClampNeg 81) n0_ran.toInt (n0_ran + 1 : Int32).toInt [81] := kk_P_one (by have := kk_add2 (x := n0_ran) (y := 1) (a := n0_ran.toInt) (b := 1) rfl rfl (by omega) (by omega); omega) (by have := kk_add2 (x := n0_ran) (y := 1) (a := n0_ran.toInt) (b := 1) rfl rfl (by omega) (by omega); omega)
        refine lv_iload hx hb dX5_call_107 (lv_at hl 1 rfl) ?_
        refine lv_if_ne (tgt := 128) hx hb dX5_call_109 (by decide) (fun _ => ?_) (fun c => absurd c (by decide))
        refine lv_aload_n hx hb dX5_call_128 rfl (lv_at hl 2 rfl) ?_
        refine lv_iload_n hx hb dX5_call_129 rfl (lv_at hl 3 rfl) ?_
        refine lv_iload hx hb dX5_call_130 (lv_at hl 1 rfl) ?_
        refine lv_iload hx hb dX5_call_132 (lv_at hl 0 rfl) ?_
        refine lv_iload hx hb dX5_call_134 (lv_at hl 6 rfl) ?_
        refine lv_iload hx hb dX5_call_136 (lv_at hl 7 rfl) ?_
        refine lv_iconst (v := 1) hx hb dX5_call_138 kk_ic_1 ?_
        refine lv_iadd hx hb dX5_call_139 ?_
        obtain ⟨hPc, hDc, hFc⟩ := kk_cutout (wc := [(h0, kO5 h1 n0_size h2 (n0_ran + 1)), (h1, kAi cint 50 f1), (h2, kAi cint 24 (upd f2 (n0_ran : Int32).toNatClampNeg 81))]) hP hD hS hA [0, 1, 2] (by decide) rfl
        have hKc := kk_Ks (tq := [(cint, .int)]) hK [0] rfl
        refine va_calli (va_runV (As := [.int p0, .int 7, .int 81, .int p3, .int (p4 + 1)]) (rest := []) ⟨hx, hb, hml, hown, hts⟩ (g_X5_runUnder_15 l dC dI h0 h1 h2 cint H.size p0 p3 (p4 + 1) (by show 0 ≤ ((p4 + 1) : Int32).toInt ∧ ((p4 + 1) : Int32).toInt ≤ 13; first | with_reducible assumption | (constructor <;> (have := kk_add2 (x := n0_ran) (y := 1) (a := n0_ran.toInt) (b := 1) rfl rfl (by omega) (by omega); have := kk_add2 (x := p4) (y := 1) (a := p4.toInt) (b := 1) rfl rfl (by omega) (by omega); omega))) n0_size (n0_ran + 1) f1 (upd f2 (n0_ran : Int32).toNatClampNeg 81) tn0_size (by show 0 ≤ ((n0_ran + 1) : Int32).toInt ∧ ((n0_ran + 1) : Int32).toInt ≤ 999; first | with_reducible assumption | (constructor <;> (have := kk_add2 (x := n0_ran) (y := 1) (a := n0_ran.toInt) (b := 1) rfl rfl (by omega) (by omega); have := kk_add2 (x := p4) (y := 1) (a := p4.toInt) (b := 1) rfl rfl (by omega) (by omega); omega))) bf1 (by show (0 ≤ (p0 : Int32).toInt ∧ (p0 : Int32).toInt < (n0_size : Int32).toInt); first | with_reducible assumption | (have := kk_add2 (x := n0_ran) (y := 1) (a := n0_ran.toInt) (b := 1) rfl rfl (by omega) (by omega); have := kk_add2 (x := p4) (y := 1) (a := p4.toInt) (b := 1) rfl rfl (by omega) (by omega); omega)) aABOVE aOWN_BODIES) (cwV 5 hts gX5_call_X5_runUnder rfl rfl rfl ⟨rfl, kh_X5_runUnder⟩ ⟨Nat.le_of_ble_eq_true rfl, Nat.le_of_ble_eq_true rfl⟩) ⟨fun a U g mk q => by obtain ⟨q0, q1, qP, qK, qD, qx0, qx1, qx2, qx3⟩ := q; exact ⟨q0, q1, qP, va_K.moved (u := U) (U := U.calling g mk a) (Vm.Alike.refl U.vm) qK, qD, va_Z.moved (u := U) (U := U.calling g mk a) (Vm.Alike.refl U.vm) qx0, va_T.moved (u := U) (U := U.calling g mk a) (Vm.Alike.refl U.vm) qx1, va_Z.moved (u := U) (U := U.calling g mk a) (Vm.Alike.refl U.vm) qx2, va_T.moved (u := U) (U := U.calling g mk a) (Vm.Alike.refl U.vm) qx3⟩, va_recv hKc hPc (ci := 5) (q0 := 0) rfl rfl, fun U hU hW => ⟨rfl, by rw [hU], by rw [hU]; exact hPc, va_K.moved hW.alike hKc, hDc.weaken (fun _ _ _ _ => trivial), by rw [hU]; exact ((hZABOVE.kept (fun a h1 h2 => hS.2.1 a h1 h2)).narrow hFc).moved hW.alike, by rw [hU]; exact ((hTABOVE.kept (fun a h1 h2 => hS.2.1 a h1 h2)).narrow hFc).moved hW.alike, by rw [hU]; exact ((hZOWN_BODIES.kept (fun a h1 h2 => hS.2.1 a h1 h2)).narrow hFc).moved hW.alike, by rw [hU]; exact ((hTOWN_BODIES.kept (fun a h1 h2 => hS.2.1 a h1 h2)).narrow hFc).moved hW.alike⟩⟩ rfl rfl hl.1 rfl (lv_room (Nat.le_of_ble_eq_true rfl)) dX5_call_140 ⟨Nat.le_of_ble_eq_true rfl, Nat.le_of_ble_eq_true rfl⟩) hS (fun q _ h => hFc q h) hFc (fun r_130 u t H1 locs ht hvm hw hB hz1 hk1 hS => ?_)
        obtain ⟨y_131, f_132, by_131, v_132_0, hn_132_0, hP1, hK1, hD1⟩ := hB
        have v_132_0 : y_131.toInt ≤ (n0_ran + 1).toInt + 1 := v_132_0
        have hn_132_0 : kk_P (upd f2 (n0_ran : Int32).toNatClampNeg 81) f_132 (n0_ran + 1).toInt y_131.toInt ((kt_leads (f1 (p0 : Int32).toNatClampNeg) 7).tail) := hn_132_0
        rw [ht] at hP1
        have hK1 := va_K.moved hvm.symm hK1
        obtain ⟨hP, hD⟩ := va_join (wr := []) (w1 := [(h0, kO5 h1 n0_size h2 y_131), (h1, kAi cint 50 f1), (h2, kAi cint 24 f_132)]) hP hD [0, 1, 2] [] rfl rfl (by decide) (by decide) hk1 hFc hP1 hD1
        generalize H1 = H at hP hS ⊢
        have hP : va_P (dC, dI) vwCl [(h0, kO5 h1 n0_size h2 y_131), (h1, kAi cint 50 f1), (h2, kAi cint 24 f_132)] H := hP
        have hD : va_D A [(h0, kO5 h1 n0_size h2 y_131), (h1, kAi cint 50 f1), (h2, kAi cint 24 f_132)] := hD
        rcases hw with ⟨t_130_0, _⟩
        · skip
          have t_130_0 : r_130 = kk_leads (f1 (p0 : Int32).toNatClampNeg) 7 p0 p3 := t_130_0
          obtain rfl : r_130 = (kk_leads (f1 (p0 : Int32).toNatClampNeg) 7 p0 p3) := t_130_0
          obtain ⟨hP9, hD9⟩ := kk_leafout (wc := [(h0, kO5 h1 n0_size h2 y_131), (h1, kAi cint 50 f1), (h2, kAi cint 24 f_132)]) hP hD [0, 1, 2] (by decide) rfl
          have hK9 := kk_Ks (tq := []) hK [] rfl
          exact W.iret (v := (kk_leads (f1 (p0 : Int32).toNatClampNeg) 7 p0 p3)) hx hb hr (fun t ht hW => ⟨⟨(kk_leads (f1 (p0 : Int32).toNatClampNeg) 7 p0 p3), (), rfl, ⟨(by first | rfl | (unfold kk_leads; (repeat' split) <;> first | rfl | (exfalso; have : (0 : Int32).toInt = 0 := rfl; have : (1 : Int32).toInt = 1 := rfl; have : (2 : Int32).toInt = 2 := rfl; have : (3 : Int32).toInt = 3 := rfl; have : (4 : Int32).toInt = 4 := rfl; have : (5 : Int32).toInt = 5 := rfl; have : (6 : Int32).toInt = 6 := rfl; have : (7 : Int32).toInt = 7 := rfl; have := kk_add2 (x := n0_ran) (y := 1) (a := n0_ran.toInt) (b := 1) rfl rfl (by omega) (by omega); have := kk_add2 (x := p4) (y := 1) (a := p4.toInt) (b := 1) rfl rfl (by omega) (by omega); omega))), trivial⟩, y_131, f_132, (by show 1 ≤ (y_131 : Int32).toInt ∧ (y_131 : Int32).toInt ≤ 1000; first | with_reducible assumption | (constructor <;> (have := kk_add2 (x := n0_ran) (y := 1) (a := n0_ran.toInt) (b := 1) rfl rfl (by omega) (by omega); have := kk_add2 (x := p4) (y := 1) (a := p4.toInt) (b := 1) rfl rfl (by omega) (by omega); omega))), (by show (y_131 : Int32).toInt ≤ (n0_ran : Int32).toInt + 6; first | with_reducible assumption | (have := kk_add2 (x := n0_ran) (y := 1) (a := n0_ran.toInt) (b := 1) rfl rfl (by omega) (by omega); have := kk_add2 (x := p4) (y := 1) (a := p4.toInt) (b := 1) rfl rfl (by omega) (by omega); omega)), (by first | exact kk_P_eq (kk_P_trans hp_129 hn_132_0) rfl | (unfold kt_leads; (repeat' split) <;> first | exact kk_P_eq (kk_P_trans hp_129 hn_132_0) rfl | (exfalso; have : (0 : Int32).toInt = 0 := rfl; have : (1 : Int32).toInt = 1 := rfl; have : (2 : Int32).toInt = 2 := rfl; have : (3 : Int32).toInt = 3 := rfl; have : (4 : Int32).toInt = 4 := rfl; have : (5 : Int32).toInt = 5 := rfl; have : (6 : Int32).toInt = 6 := rfl; have : (7 : Int32).toInt = 7 := rfl; have := kk_add2 (x := n0_ran) (y := 1) (a := n0_ran.toInt) (b := 1) rfl rfl (by omega) (by omega); have := kk_add2 (x := p4) (y := 1) (a := p4.toInt) (b := 1) rfl rfl (by omega) (by omega); omega))), by rw [ht]; exact hP9, va_K.moved hW.alike hK9, hD9⟩, hS.F ht⟩) hS.2.2 dX5_call_143
    · have t_120 : 40 < p4.toInt := kk_nle c_120
      exfalso; omega
