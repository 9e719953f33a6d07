set_option maxHeartbeats 4000000 in
set_option maxRecDepth 100000 in
theorem g_X5_runUnder_16 (l : Launch) (dC : Nat → ClassId) (dI : Nat → Nat → Nat) (h0 : Nat) (h1 : Nat) (h2 : Nat) (cint : ClassId) (sz : Nat) (p0 : Int32) (p3 : Int32) (p4 : Int32) (tp4 : 0 ≤ p4.toInt ∧ p4.toInt ≤ 7) (n0_size : Int32) (n0_ran : Int32) (f1 : Nat → Int32) (f2 : Nat → Int32) (tn0_size : 0 ≤ n0_size.toInt ∧ n0_size.toInt ≤ 50) (tn0_ran : 0 ≤ n0_ran.toInt ∧ n0_ran.toInt ≤ 990) (bf1 : ∀ j, j < 50 → 0 ≤ (f1 j).toInt ∧ (f1 j).toInt ≤ 7) (pr0 : (0 ≤ p0.toInt ∧ p0.toInt < n0_size.toInt)) (aABOVE : Nat) (aOWN_BODIES : Nat) : Met l yX5_runUnder wsX5_runUnder ({ frames := 10, cells := 0, slots := 0, locals := 256 }) (va_Pc [.ref h0, .int p0, .int 5, .int 60, .int p3, .int p4] (fun U => U.heap.size = sz ∧ va_P (dC, dI) vwCl [(h0, kO5 h1 n0_size h2 n0_ran), (h1, kAi cint 50 f1), (h2, kAi cint 24 f2)] U.heap ∧ va_K (dC, dI) vwCl [(cint, .int)] U ∧ va_D (fun _ => True) [(h0, kO5 h1 n0_size h2 n0_ran), (h1, kAi cint 50 f1), (h2, kAi cint 24 f2)] ∧ va_Z "KinkStreet$Lines" "ABOVE" "[I" (.ref aABOVE) (va_A [(h0, kO5 h1 n0_size h2 n0_ran), (h1, kAi cint 50 f1), (h2, kAi cint 24 f2)] sz) U U.heap ∧ va_T .int aABOVE 8 tb_ABOVE (va_A [(h0, kO5 h1 n0_size h2 n0_ran), (h1, kAi cint 50 f1), (h2, kAi cint 24 f2)] sz) U U.heap ∧ va_Z "KinkStreet$Lines" "OWN_BODIES" "[I" (.ref aOWN_BODIES) (va_A [(h0, kO5 h1 n0_size h2 n0_ran), (h1, kAi cint 50 f1), (h2, kAi cint 24 f2)] sz) U U.heap ∧ va_T .int aOWN_BODIES 32 tb_OWN_BODIES (va_A [(h0, kO5 h1 n0_size h2 n0_ran), (h1, kAi cint 50 f1), (h2, kAi cint 24 f2)] sz) U U.heap)) (va_Qi (fun (r : Int32) (_ : Unit) => r = kk_breaks (f1 (p0 : Int32).toNatClampNeg) 5 p0 p3 ∧ True) (fun (_ : Unit) t => ∃ (m0_ran : Int32) (g2 : Nat → Int32), (1 ≤ m0_ran.toInt ∧ m0_ran.toInt ≤ 1000) ∧ (m0_ran.toInt ≤ n0_ran.toInt + 10) ∧ (kk_P f2 g2 n0_ran.toInt m0_ran.toInt ((kt_breaks (f1 (p0 : Int32).toNatClampNeg) 5).tail)) ∧ va_P (dC, dI) vwCl [(h0, kO5 h1 n0_size h2 m0_ran), (h1, kAi cint 50 f1), (h2, kAi cint 24 g2)] t.heap ∧ va_K (dC, dI) vwCl [] t ∧ va_D (va_A [(h0, kO5 h1 n0_size h2 n0_ran), (h1, kAi cint 50 f1), (h2, kAi cint 24 f2)] sz) [(h0, kO5 h1 n0_size h2 m0_ran), (h1, kAi cint 50 f1), (h2, kAi cint 24 g2)]) (va_A [(h0, kO5 h1 n0_size h2 n0_ran), (h1, kAi cint 50 f1), (h2, kAi cint 24 f2)] sz)) 0 0 (va_A [(h0, kO5 h1 n0_size h2 n0_ran), (h1, kAi cint 50 f1), (h2, kAi cint 24 f2)] sz) := by
  refine Met.ofW (cc := cX5_runUnder) (maxL := 8) (ret := (some .int)) (by decide) rfl ?_
  intro p e s m args below meth c s₁ B hml hv
  obtain ⟨rfl, hsz, hP, hK, hD0, hZABOVE, hTABOVE, hZOWN_BODIES, hTOWN_BODIES⟩ := hv
  have hx := B.exec
  have hb := B.bytes
  have hr := B.returns
  have hts := atoms_spec (ws := wsX5_runUnder) B.pre
  have hown : s.vm.findClass RX5 = some m.cls := findClass_of_methodNamed B.named
  have hlocks := B.notSynchronized
  subst hsz
  have hD := hD0.self (sz := s.heap.size)
  generalize hAe : va_A [(h0, kO5 h1 n0_size h2 n0_ran), (h1, kAi cint 50 f1), (h2, kAi cint 24 f2)] s.heap.size = A at hD hZABOVE hTABOVE hZOWN_BODIES hTOWN_BODIES ⊢
  have hA : ∀ q : Nat, s.heap.size ≤ q → A q := fun q h => by rw [← hAe]; exact Or.inr h
  have hS : va_S A s.heap s.heap [] := va_S.rf
  have hP : va_P (dC, dI) vwCl [(h0, kO5 h1 n0_size h2 n0_ran), (h1, kAi cint 50 f1), (h2, kAi cint 24 f2)] s.heap := hP
  have hl := lv_entry ([.ref h0, .int p0, .int 5, .int 60, .int p3, .int p4]) (n := 8) (Nat.le_of_ble_eq_true rfl)
  rw [lg_entry_eq]
  generalize (lg_sl ([.ref h0, .int p0, .int 5, .int 60, .int p3, .int p4]) ++ List.replicate (8 - (lg_sl ([.ref h0, .int p0, .int 5, .int 60, .int p3, .int p4])).length) Slot.unset).toArray = ls at hl ⊢
  have hl : lv_has ls 8 [(0, .ref h0), (1, .int p0), (2, .int 5), (3, .int 60), (4, .int p3), (5, .int p4)] := hl
  refine lv_aload_n hx hb dX5_runUnder_0 rfl (lv_at hl 0 rfl) ?_
  refine lv_iload_n hx hb dX5_runUnder_1 rfl (lv_at hl 1 rfl) ?_
  obtain ⟨hPc, hDc, hFc⟩ := kk_cutout (wc := [(h0, kO5 h1 n0_size h2 n0_ran), (h1, kAi cint 50 f1)]) hP hD hS hA [0, 1] (by decide) rfl
  have hKc := kk_Ks (tq := [(cint, .int)]) hK [0] rfl
  refine va_calli (va_runV (As := [.int p0]) (rest := []) ⟨hx, hb, hml, hown, hts⟩ (g_X5_kindOf_1 l dC dI h0 h1 h2 cint s.heap.size p0 n0_size n0_ran f1 tn0_size (by show 0 ≤ (n0_ran : Int32).toInt ∧ (n0_ran : Int32).toInt ≤ 1000; first | with_reducible assumption | (constructor <;> (omega))) bf1) (cwV 1 hts gX5_runUnder_X5_kindOf rfl rfl rfl ⟨rfl, kh_X5_kindOf⟩ ⟨Nat.le_of_ble_eq_true rfl, Nat.le_of_ble_eq_true rfl⟩) ⟨fun a U g mk q => by obtain ⟨q0, q1, qP, qK, qD⟩ := q; exact ⟨q0, q1, qP, va_K.moved (u := U) (U := U.calling g mk a) (Vm.Alike.refl U.vm) qK, qD⟩, va_recv hKc hPc (ci := 5) (q0 := 0) rfl rfl, fun U hU hW => ⟨rfl, by rw [hU], by rw [hU]; exact hPc, va_K.moved hW.alike hKc, hDc.weaken (fun _ _ _ _ => trivial)⟩⟩ rfl rfl hl.1 rfl (lv_room (Nat.le_of_ble_eq_true rfl)) dX5_runUnder_2 ⟨Nat.le_of_ble_eq_true rfl, Nat.le_of_ble_eq_true rfl⟩) hS (fun q _ h => hFc q h) hFc (fun r_1 u t H1 locs ht hvm hw hB hz1 hk1 hS => ?_)
  obtain ⟨hP1, hK1, hD1⟩ := hB
  rw [ht] at hP1
  have hK1 := va_K.moved hvm.symm hK1
  obtain ⟨hP, hD⟩ := va_join (wr := [(h2, kAi cint 24 f2)]) (w1 := [(h0, kO5 h1 n0_size h2 n0_ran), (h1, kAi cint 50 f1)]) hP hD [0, 1] [2] rfl rfl (by decide) (by decide) hk1 hFc hP1 hD1
  generalize H1 = H at hP hS ⊢
  have hP : va_P (dC, dI) vwCl [(h2, kAi cint 24 f2), (h0, kO5 h1 n0_size h2 n0_ran), (h1, kAi cint 50 f1)] H := hP
  have hD : va_D A [(h2, kAi cint 24 f2), (h0, kO5 h1 n0_size h2 n0_ran), (h1, kAi cint 50 f1)] := hD
  rcases hw with ⟨t_1_0, t_1_1, t_1_any⟩
  · skip
    have t_1_0 : ((0 ≤ p0.toInt ∧ p0.toInt < n0_size.toInt → r_1.toInt = (f1 (p0 : Int32).toNatClampNeg).toInt ∧ 0 ≤ (f1 (p0 : Int32).toNatClampNeg).toInt) ∧ (¬ (0 ≤ p0.toInt ∧ p0.toInt < n0_size.toInt) → r_1.toInt = -1)) := t_1_0
    have t_1_1 : (0 ≤ p0.toInt ∧ p0.toInt < n0_size.toInt → r_1 = (f1 (p0 : Int32).toNatClampNeg)) := t_1_1
    obtain rfl : r_1 = (f1 (p0 : Int32).toNatClampNeg) := t_1_1 (by omega)
    refine lv_istore hx hb dX5_runUnder_5 hl (by decide) (rfl : _ = ([(6, .int (f1 (p0 : Int32).toNatClampNeg)), (0, .ref h0), (1, .int p0), (2, .int 5), (3, .int 60), (4, .int p3), (5, .int p4)] : List (Nat × Value))) (fun ls hl => ?_)
    refine lv_iload_n hx hb dX5_runUnder_7 rfl (lv_at hl 3 rfl) ?_
    obtain ⟨hPc, hDc, hFc⟩ := kk_cutout (wc := []) hP hD hS hA [] (by decide) rfl
    have hKc := kk_Ks (tq := []) hK [] rfl
    refine va_calli (va_runS (As := [.int 5]) (rest := []) ⟨hx, hb, hml, hown, hts⟩ (g_X5_isKind_16 l dC dI H.size) (va_cwS 1 hts gX5_runUnder_X5_isKind rfl rfl rfl kh_X5_isKind ⟨Nat.le_of_ble_eq_true rfl, Nat.le_of_ble_eq_true rfl⟩) ⟨fun a U g mk q => by obtain ⟨q0, q1, qP, qK, qD⟩ := q; exact ⟨q0, q1, qP, va_K.moved (u := U) (U := U.calling g mk a) (Vm.Alike.refl U.vm) qK, qD⟩, fun U hU hW => ⟨rfl, by rw [hU], by rw [hU]; exact hPc, va_K.moved hW.alike hKc, hDc.weaken (fun _ _ _ _ => trivial)⟩⟩ rfl rfl hl.1 rfl (lv_room (Nat.le_of_ble_eq_true rfl)) dX5_runUnder_8 ⟨Nat.le_of_ble_eq_true rfl, Nat.le_of_ble_eq_true rfl⟩) hS (fun q _ h => hFc q h) hFc (fun r_2 u t H1 locs ht hvm hw hB hz1 hk1 hS => ?_)
    obtain ⟨hP1, hK1, hD1⟩ := hB
    rw [ht] at hP1
    have hK1 := va_K.moved hvm.symm hK1
    obtain ⟨hP, hD⟩ := va_join (wr := [(h2, kAi cint 24 f2), (h0, kO5 h1 n0_size h2 n0_ran), (h1, kAi cint 50 f1)]) (w1 := []) hP hD [] [0, 1, 2] rfl rfl (by decide) (by decide) hk1 hFc hP1 hD1
    generalize H1 = H at hP hS ⊢
    have hP : va_P (dC, dI) vwCl [(h2, kAi cint 24 f2), (h0, kO5 h1 n0_size h2 n0_ran), (h1, kAi cint 50 f1)] H := hP
    have hD : va_D A [(h2, kAi cint 24 f2), (h0, kO5 h1 n0_size h2 n0_ran), (h1, kAi cint 50 f1)] := hD
    obtain rfl := hw
    refine lv_if_eq (tgt := 22) hx hb dX5_runUnder_11 (by decide) (fun c => absurd c (by decide)) (fun _ => ?_)
    refine va_gets hx hb hZABOVE hS hown (hts (.fieldLink RX5 22 "KinkStreet$Lines" "ABOVE" "[I") (List.mem_of_getElem? (i := 1) rfl)) (fun _ h9 => h9) dX5_runUnder_14 ?_
    refine lv_iload_n hx hb dX5_runUnder_17 rfl (lv_at hl 3 rfl) ?_
    refine va_ti (v := .int 1) hx hb hTABOVE hS (by unfold vp_in; decide) rfl dX5_runUnder_18 ?_
    refine lv_goto (tgt := 23) hx hb dX5_runUnder_19 (by decide) ?_
    refine lv_istore hx hb dX5_runUnder_23 hl (by decide) (rfl : _ = ([(7, .int 1), (6, .int (f1 (p0 : Int32).toNatClampNeg)), (0, .ref h0), (1, .int p0), (2, .int 5), (3, .int 60), (4, .int p3), (5, .int p4)] : List (Nat × Value))) (fun ls hl => ?_)
    refine lv_iload_n hx hb dX5_runUnder_25 rfl (lv_at hl 5 rfl) ?_
    refine lv_lookup (tgt := 184) (off := 158) hx hb dX5_runUnder_26 (by decide) (by decide) (by decide) ?_
    refine lv_aload_n hx hb dX5_runUnder_184 rfl (lv_at hl 2 rfl) ?_
    refine lv_iload_n hx hb dX5_runUnder_185 rfl (lv_at hl 3 rfl) ?_
    refine lv_iload hx hb dX5_runUnder_186 (lv_at hl 0 rfl) ?_
    refine lv_iconst (v := 1) hx hb dX5_runUnder_188 kk_ic_1 ?_
    refine lv_iload hx hb dX5_runUnder_189 (lv_at hl 6 rfl) ?_
    refine lv_iload hx hb dX5_runUnder_191 (lv_at hl 7 rfl) ?_
    obtain ⟨hPc, hDc, hFc⟩ := kk_cutout (wc := [(h0, kO5 h1 n0_size h2 n0_ran), (h1, kAi cint 50 f1), (h2, kAi cint 24 f2)]) hP hD hS hA [1, 2, 0] (by decide) rfl
    have hKc := kk_Ks (tq := [(cint, .int)]) hK [0] rfl
    refine va_calli (va_runV (As := [.int p0, .int 1, .int 1, .int p3, .int p4]) (rest := []) ⟨hx, hb, hml, hown, hts⟩ (g_X5_call_16 l dC dI h0 h1 h2 cint H.size p0 p3 p4 tp4 n0_size n0_ran f1 f2 tn0_size (by show 0 ≤ (n0_ran : Int32).toInt ∧ (n0_ran : Int32).toInt ≤ 996; first | with_reducible assumption | (constructor <;> (omega))) bf1 (by show (0 ≤ (p0 : Int32).toInt ∧ (p0 : Int32).toInt < (n0_size : Int32).toInt); first | with_reducible assumption | (omega)) aOWN_BODIES aABOVE) (cwV 5 hts gX5_runUnder_X5_call rfl rfl rfl ⟨rfl, kh_X5_call⟩ ⟨Nat.le_of_ble_eq_true rfl, Nat.le_of_ble_eq_true rfl⟩) ⟨fun a U g mk q => by obtain ⟨q0, q1, qP, qK, qD, qx0, qx1, qx2, qx3⟩ := q; exact ⟨q0, q1, qP, va_K.moved (u := U) (U := U.calling g mk a) (Vm.Alike.refl U.vm) qK, qD, va_Z.moved (u := U) (U := U.calling g mk a) (Vm.Alike.refl U.vm) qx0, va_T.moved (u := U) (U := U.calling g mk a) (Vm.Alike.refl U.vm) qx1, va_Z.moved (u := U) (U := U.calling g mk a) (Vm.Alike.refl U.vm) qx2, va_T.moved (u := U) (U := U.calling g mk a) (Vm.Alike.refl U.vm) qx3⟩, va_recv hKc hPc (ci := 5) (q0 := 0) rfl rfl, fun U hU hW => ⟨rfl, by rw [hU], by rw [hU]; exact hPc, va_K.moved hW.alike hKc, hDc.weaken (fun _ _ _ _ => trivial), by rw [hU]; exact ((hZOWN_BODIES.kept (fun a h1 h2 => hS.2.1 a h1 h2)).narrow hFc).moved hW.alike, by rw [hU]; exact ((hTOWN_BODIES.kept (fun a h1 h2 => hS.2.1 a h1 h2)).narrow hFc).moved hW.alike, by rw [hU]; exact ((hZABOVE.kept (fun a h1 h2 => hS.2.1 a h1 h2)).narrow hFc).moved hW.alike, by rw [hU]; exact ((hTABOVE.kept (fun a h1 h2 => hS.2.1 a h1 h2)).narrow hFc).moved hW.alike⟩⟩ rfl rfl hl.1 rfl (lv_room (Nat.le_of_ble_eq_true rfl)) dX5_runUnder_193 ⟨Nat.le_of_ble_eq_true rfl, Nat.le_of_ble_eq_true rfl⟩) hS (fun q _ h => hFc q h) hFc (fun r_3 u t H1 locs ht hvm hw hB hz1 hk1 hS => ?_)
    obtain ⟨y_4, f_5, by_4, v_5_0, hn_5_0, hP1, hK1, hD1⟩ := hB
    have v_5_0 : y_4.toInt ≤ n0_ran.toInt + 4 := v_5_0
    have hn_5_0 : kk_P f2 f_5 n0_ran.toInt y_4.toInt (kt_breaks (f1 (p0 : Int32).toNatClampNeg) 1) := hn_5_0
    rw [ht] at hP1
    have hK1 := va_K.moved hvm.symm hK1
    obtain ⟨hP, hD⟩ := va_join (wr := []) (w1 := [(h0, kO5 h1 n0_size h2 y_4), (h1, kAi cint 50 f1), (h2, kAi cint 24 f_5)]) hP hD [1, 2, 0] [] rfl rfl (by decide) (by decide) hk1 hFc hP1 hD1
    generalize H1 = H at hP hS ⊢
    have hP : va_P (dC, dI) vwCl [(h0, kO5 h1 n0_size h2 y_4), (h1, kAi cint 50 f1), (h2, kAi cint 24 f_5)] H := hP
    have hD : va_D A [(h0, kO5 h1 n0_size h2 y_4), (h1, kAi cint 50 f1), (h2, kAi cint 24 f_5)] := hD
    rcases hw with ⟨t_3_0, _⟩
    · skip
      have t_3_0 : r_3 = kk_breaks (f1 (p0 : Int32).toNatClampNeg) 1 p0 p3 := t_3_0
      obtain rfl : r_3 = (kk_breaks (f1 (p0 : Int32).toNatClampNeg) 1 p0 p3) := t_3_0
      refine lv_aload_n hx hb dX5_runUnder_196 rfl (lv_at hl 2 rfl) ?_
      refine lv_iload_n hx hb dX5_runUnder_197 rfl (lv_at hl 3 rfl) ?_
      refine lv_iload hx hb dX5_runUnder_198 (lv_at hl 1 rfl) ?_
      refine lv_iconst (v := 2) hx hb dX5_runUnder_200 kk_ic_2 ?_
      refine lv_iconst (v := 2) hx hb dX5_runUnder_201 kk_ic_2 ?_
      refine lv_iload hx hb dX5_runUnder_202 (lv_at hl 7 rfl) ?_
      obtain ⟨hPc, hDc, hFc⟩ := kk_cutout (wc := [(h0, kO5 h1 n0_size h2 y_4), (h1, kAi cint 50 f1), (h2, kAi cint 24 f_5)]) hP hD hS hA [0, 1, 2] (by decide) rfl
      have hKc := kk_Ks (tq := [(cint, .int)]) hK [0] rfl
      refine va_calli (va_runV (As := [.int p0, .int (f1 (p0 : Int32).toNatClampNeg), .int 2, .int 2, .int p4]) (rest := [.int (kk_breaks (f1 (p0 : Int32).toNatClampNeg) 1 p0 p3)]) ⟨hx, hb, hml, hown, hts⟩ (g_X5_call_20 l dC dI h0 h1 h2 cint H.size p0 (f1 (p0 : Int32).toNatClampNeg) 2 p4 (by show 0 ≤ ((f1 (p0 : Int32).toNatClampNeg) : Int32).toInt ∧ ((f1 (p0 : Int32).toNatClampNeg) : Int32).toInt ≤ 7; first | with_reducible assumption | (constructor <;> (omega))) (by show 0 ≤ (p4 : Int32).toInt ∧ (p4 : Int32).toInt ≤ 12; first | with_reducible assumption | (constructor <;> (omega))) n0_size y_4 f1 f_5 tn0_size (by show 0 ≤ (y_4 : Int32).toInt ∧ (y_4 : Int32).toInt ≤ 994; first | with_reducible assumption | (constructor <;> (omega))) bf1 (by show (0 ≤ (p0 : Int32).toInt ∧ (p0 : Int32).toInt < (n0_size : Int32).toInt); first | with_reducible assumption | (omega)) aOWN_BODIES aABOVE) (cwV 5 hts gX5_runUnder_X5_call rfl rfl rfl ⟨rfl, kh_X5_call⟩ ⟨Nat.le_of_ble_eq_true rfl, Nat.le_of_ble_eq_true rfl⟩) ⟨fun a U g mk q => by obtain ⟨q0, q1, qP, qK, qD, qx0, qx1, qx2, qx3⟩ := q; exact ⟨q0, q1, qP, va_K.moved (u := U) (U := U.calling g mk a) (Vm.Alike.refl U.vm) qK, qD, va_Z.moved (u := U) (U := U.calling g mk a) (Vm.Alike.refl U.vm) qx0, va_T.moved (u := U) (U := U.calling g mk a) (Vm.Alike.refl U.vm) qx1, va_Z.moved (u := U) (U := U.calling g mk a) (Vm.Alike.refl U.vm) qx2, va_T.moved (u := U) (U := U.calling g mk a) (Vm.Alike.refl U.vm) qx3⟩, va_recv hKc hPc (ci := 5) (q0 := 0) rfl rfl, fun U hU hW => ⟨rfl, by rw [hU], by rw [hU]; exact hPc, va_K.moved hW.alike hKc, hDc.weaken (fun _ _ _ _ => trivial), by rw [hU]; exact ((hZOWN_BODIES.kept (fun a h1 h2 => hS.2.1 a h1 h2)).narrow hFc).moved hW.alike, by rw [hU]; exact ((hTOWN_BODIES.kept (fun a h1 h2 => hS.2.1 a h1 h2)).narrow hFc).moved hW.alike, by rw [hU]; exact ((hZABOVE.kept (fun a h1 h2 => hS.2.1 a h1 h2)).narrow hFc).moved hW.alike, by rw [hU]; exact ((hTABOVE.kept (fun a h1 h2 => hS.2.1 a h1 h2)).narrow hFc).moved hW.alike⟩⟩ rfl rfl hl.1 rfl (lv_room (Nat.le_of_ble_eq_true rfl)) dX5_runUnder_204 ⟨Nat.le_of_ble_eq_true rfl, Nat.le_of_ble_eq_true rfl⟩) hS (fun q _ h => hFc q h) hFc (fun r_6 u t H1 locs ht hvm hw hB hz1 hk1 hS => ?_)
      obtain ⟨y_7, f_8, by_7, v_8_0, hn_8_0, hP1, hK1, hD1⟩ := hB
      have v_8_0 : y_7.toInt ≤ y_4.toInt + 6 := v_8_0
      have hn_8_0 : kk_P f_5 f_8 y_4.toInt y_7.toInt (kt_leads (f1 (p0 : Int32).toNatClampNeg) (f1 (p0 : Int32).toNatClampNeg)) := hn_8_0
      rw [ht] at hP1
      have hK1 := va_K.moved hvm.symm hK1
      obtain ⟨hP, hD⟩ := va_join (wr := []) (w1 := [(h0, kO5 h1 n0_size h2 y_7), (h1, kAi cint 50 f1), (h2, kAi cint 24 f_8)]) hP hD [0, 1, 2] [] rfl rfl (by decide) (by decide) hk1 hFc hP1 hD1
      generalize H1 = H at hP hS ⊢
      have hP : va_P (dC, dI) vwCl [(h0, kO5 h1 n0_size h2 y_7), (h1, kAi cint 50 f1), (h2, kAi cint 24 f_8)] H := hP
      have hD : va_D A [(h0, kO5 h1 n0_size h2 y_7), (h1, kAi cint 50 f1), (h2, kAi cint 24 f_8)] := hD
      rcases hw with ⟨t_6_0, _⟩
      · skip
        have t_6_0 : r_6 = kk_leads (f1 (p0 : Int32).toNatClampNeg) (f1 (p0 : Int32).toNatClampNeg) p0 2 := t_6_0
        obtain rfl : r_6 = (kk_leads (f1 (p0 : Int32).toNatClampNeg) (f1 (p0 : Int32).toNatClampNeg) p0 2) := t_6_0
        refine lv_iadd hx hb dX5_runUnder_207 ?_
        obtain ⟨hP9, hD9⟩ := kk_leafout (wc := [(h0, kO5 h1 n0_size h2 y_7), (h1, kAi cint 50 f1), (h2, kAi cint 24 f_8)]) hP hD [0, 1, 2] (by decide) rfl
        have hK9 := kk_Ks (tq := []) hK [] rfl
        exact W.iret (v := ((kk_breaks (f1 (p0 : Int32).toNatClampNeg) 1 p0 p3) + (kk_leads (f1 (p0 : Int32).toNatClampNeg) (f1 (p0 : Int32).toNatClampNeg) p0 2))) hx hb hr (fun t ht hW => ⟨⟨((kk_breaks (f1 (p0 : Int32).toNatClampNeg) 1 p0 p3) + (kk_leads (f1 (p0 : Int32).toNatClampNeg) (f1 (p0 : Int32).toNatClampNeg) p0 2)), (), rfl, ⟨(by first | rfl | (unfold kk_breaks; (repeat' split) <;> first | rfl | (exfalso; have : (0 : Int32).toInt = 0 := rfl; have : (1 : Int32).toInt = 1 := rfl; have : (2 : Int32).toInt = 2 := rfl; have : (3 : Int32).toInt = 3 := rfl; have : (4 : Int32).toInt = 4 := rfl; have : (5 : Int32).toInt = 5 := rfl; have : (6 : Int32).toInt = 6 := rfl; have : (7 : Int32).toInt = 7 := rfl; omega))), trivial⟩, y_7, f_8, (by show 1 ≤ (y_7 : Int32).toInt ∧ (y_7 : Int32).toInt ≤ 1000; first | with_reducible assumption | (constructor <;> (omega))), (by show (y_7 : Int32).toInt ≤ (n0_ran : Int32).toInt + 10; first | with_reducible assumption | (omega)), (by first | exact kk_P_eq (kk_P_trans hn_5_0 hn_8_0) rfl | (unfold kt_breaks; (repeat' split) <;> first | exact kk_P_eq (kk_P_trans hn_5_0 hn_8_0) rfl | (exfalso; have : (0 : Int32).toInt = 0 := rfl; have : (1 : Int32).toInt = 1 := rfl; have : (2 : Int32).toInt = 2 := rfl; have : (3 : Int32).toInt = 3 := rfl; have : (4 : Int32).toInt = 4 := rfl; have : (5 : Int32).toInt = 5 := rfl; have : (6 : Int32).toInt = 6 := rfl; have : (7 : Int32).toInt = 7 := rfl; omega))), by rw [ht]; exact hP9, va_K.moved hW.alike hK9, hD9⟩, hS.F ht⟩) hS.2.2 dX5_runUnder_208
set_option maxHeartbeats 4000000 in
set_option maxRecDepth 100000 in
theorem g_X5_call_21 (l : Launch) (dC : Nat → ClassId) (dI : Nat → Nat → Nat) (h0 : Nat) (h1 : Nat) (h2 : Nat) (cint : ClassId) (sz : Nat) (p0 : Int32) (p1 : Int32) (p3 : Int32) (p4 : Int32) (tp1 : 0 ≤ p1.toInt ∧ p1.toInt ≤ 7) (tp4 : 0 ≤ p4.toInt ∧ p4.toInt ≤ 6) (n0_size : Int32) (n0_ran : Int32) (f1 : Nat → Int32) (f2 : Nat → Int32) (tn0_size : 0 ≤ n0_size.toInt ∧ n0_size.toInt ≤ 50) (tn0_ran : 0 ≤ n0_ran.toInt ∧ n0_ran.toInt ≤ 989) (bf1 : ∀ j, j < 50 → 0 ≤ (f1 j).toInt ∧ (f1 j).toInt ≤ 7) (pr0 : (0 ≤ p0.toInt ∧ p0.toInt < n0_size.toInt)) (aOWN_BODIES : Nat) (aABOVE : Nat) : Met l yX5_call wsX5_call ({ frames := 11, cells := 0, slots := 0, locals := 283 }) (va_Pc [.ref h0, .int p0, .int p1, .int 1, .int p3, .int p4] (fun U => U.heap.size = sz ∧ va_P (dC, dI) vwCl [(h0, kO5 h1 n0_size h2 n0_ran), (h1, kAi cint 50 f1), (h2, kAi cint 24 f2)] U.heap ∧ va_K (dC, dI) vwCl [(cint, .int)] U ∧ va_D (fun _ => True) [(h0, kO5 h1 n0_size h2 n0_ran), (h1, kAi cint 50 f1), (h2, kAi cint 24 f2)] ∧ va_Z "KinkStreet$Lines" "OWN_BODIES" "[I" (.ref aOWN_BODIES) (va_A [(h0, kO5 h1 n0_size h2 n0_ran), (h1, kAi cint 50 f1), (h2, kAi cint 24 f2)] sz) U U.heap ∧ va_T .int aOWN_BODIES 32 tb_OWN_BODIES (va_A [(h0, kO5 h1 n0_size h2 n0_ran), (h1, kAi cint 50 f1), (h2, kAi cint 24 f2)] sz) U U.heap ∧ va_Z "KinkStreet$Lines" "ABOVE" "[I" (.ref aABOVE) (va_A [(h0, kO5 h1 n0_size h2 n0_ran), (h1, kAi cint 50 f1), (h2, kAi cint 24 f2)] sz) U U.heap ∧ va_T .int aABOVE 8 tb_ABOVE (va_A [(h0, kO5 h1 n0_size h2 n0_ran), (h1, kAi cint 50 f1), (h2, kAi cint 24 f2)] sz) U U.heap)) (va_Qi (fun (r : Int32) (_ : Unit) => r = kk_breaks (f1 (p0 : Int32).toNatClampNeg) p1 p0 p3 ∧ True) (fun (_ : Unit) t => ∃ (m0_ran : Int32) (g2 : Nat → Int32), (1 ≤ m0_ran.toInt ∧ m0_ran.toInt ≤ 1000) ∧ (m0_ran.toInt ≤ n0_ran.toInt + 11) ∧ (kk_P f2 g2 n0_ran.toInt m0_ran.toInt (kt_breaks (f1 (p0 : Int32).toNatClampNeg) p1)) ∧ va_P (dC, dI) vwCl [(h0, kO5 h1 n0_size h2 m0_ran), (h1, kAi cint 50 f1), (h2, kAi cint 24 g2)] t.heap ∧ va_K (dC, dI) vwCl [] t ∧ va_D (va_A [(h0, kO5 h1 n0_size h2 n0_ran), (h1, kAi cint 50 f1), (h2, kAi cint 24 f2)] sz) [(h0, kO5 h1 n0_size h2 m0_ran), (h1, kAi cint 50 f1), (h2, kAi cint 24 g2)]) (va_A [(h0, kO5 h1 n0_size h2 n0_ran), (h1, kAi cint 50 f1), (h2, kAi cint 24 f2)] sz)) 0 0 (va_A [(h0, kO5 h1 n0_size h2 n0_ran), (h1, kAi cint 50 f1), (h2, kAi cint 24 f2)] sz) := by
  refine Met.ofW (cc := cX5_call) (maxL := 8) (ret := (some .int)) (by decide) rfl ?_
  intro p e s m args below meth c s₁ B hml hv
  obtain ⟨rfl, hsz, hP, hK, hD0, hZOWN_BODIES, hTOWN_BODIES, hZABOVE, hTABOVE⟩ := hv
  have hx := B.exec
  have hb := B.bytes
  have hr := B.returns
  have hts := atoms_spec (ws := wsX5_call) B.pre
  have hown : s.vm.findClass RX5 = some m.cls := findClass_of_methodNamed B.named
  have hlocks := B.notSynchronized
  subst hsz
  have hD := hD0.self (sz := s.heap.size)
  generalize hAe : va_A [(h0, kO5 h1 n0_size h2 n0_ran), (h1, kAi cint 50 f1), (h2, kAi cint 24 f2)] s.heap.size = A at hD hZOWN_BODIES hTOWN_BODIES hZABOVE hTABOVE ⊢
  have hA : ∀ q : Nat, s.heap.size ≤ q → A q := fun q h => by rw [← hAe]; exact Or.inr h
  have hS : va_S A s.heap s.heap [] := va_S.rf
  have hP : va_P (dC, dI) vwCl [(h0, kO5 h1 n0_size h2 n0_ran), (h1, kAi cint 50 f1), (h2, kAi cint 24 f2)] s.heap := hP
  have hl := lv_entry ([.ref h0, .int p0, .int p1, .int 1, .int p3, .int p4]) (n := 8) (Nat.le_of_ble_eq_true rfl)
  rw [lg_entry_eq]
  generalize (lg_sl ([.ref h0, .int p0, .int p1, .int 1, .int p3, .int p4]) ++ List.replicate (8 - (lg_sl ([.ref h0, .int p0, .int p1, .int 1, .int p3, .int p4])).length) Slot.unset).toArray = ls at hl ⊢
  have hl : lv_has ls 8 [(0, .ref h0), (1, .int p0), (2, .int p1), (3, .int 1), (4, .int p3), (5, .int p4)] := hl
  rcases (show p1 = 0 ∨ p1 = 1 ∨ p1 = 2 ∨ p1 = 3 ∨ p1 = 4 ∨ p1 = 5 ∨ p1 = 6 ∨ p1 = 7 from by simp only [← Int32.toInt_inj]; simp; omega) with e_1 | e_1 | e_1 | e_1 | e_1 | e_1 | e_1 | e_1
  · have t_1 : p1.toInt = 0 := by rw [e_1]; rfl
    subst e_1
    refine lv_iload_n hx hb dX5_call_0 rfl (lv_at hl 2 rfl) ?_
    refine lv_istore hx hb dX5_call_1 hl (by decide) (rfl : _ = ([(6, .int 0), (0, .ref h0), (1, .int p0), (2, .int 0), (3, .int 1), (4, .int p3), (5, .int p4)] : List (Nat × Value))) (fun ls hl => ?_)
    refine lv_iconst (v := 0) hx hb dX5_call_3 kk_ic_0 ?_
    refine lv_istore hx hb dX5_call_4 hl (by decide) (rfl : _ = ([(7, .int 0), (6, .int 0), (0, .ref h0), (1, .int p0), (2, .int 0), (3, .int 1), (4, .int p3), (5, .int p4)] : List (Nat × Value))) (fun ls hl => ?_)
    refine lv_iload hx hb dX5_call_6 (lv_at hl 0 rfl) ?_
    refine lv_bipush (v := 8) hx hb dX5_call_8 kk_bi_8 ?_
    refine lv_icmp_ge (tgt := 48) hx hb dX5_call_10 (by decide) (fun c => absurd c (by decide)) (fun _ => ?_)
    refine lv_iload hx hb dX5_call_13 (lv_at hl 1 rfl) ?_
    obtain ⟨hPc, hDc, hFc⟩ := kk_cutout (wc := []) hP hD hS hA [] (by decide) rfl
    have hKc := kk_Ks (tq := []) hK [] rfl
    refine va_calli (va_runS (As := [.int 0]) (rest := []) ⟨hx, hb, hml, hown, hts⟩ (g_X5_isKind_11 l dC dI s.heap.size) (va_cwS 1 hts gX5_call_X5_isKind rfl rfl rfl kh_X5_isKind ⟨Nat.le_of_ble_eq_true rfl, Nat.le_of_ble_eq_true rfl⟩) ⟨fun a U g mk q => by obtain ⟨q0, q1, qP, qK, qD⟩ := q; exact ⟨q0, q1, qP, va_K.moved (u := U) (U := U.calling g mk a) (Vm.Alike.refl U.vm) qK, qD⟩, fun U hU hW => ⟨rfl, by rw [hU], by rw [hU]; exact hPc, va_K.moved hW.alike hKc, hDc.weaken (fun _ _ _ _ => trivial)⟩⟩ rfl rfl hl.1 rfl (lv_room (Nat.le_of_ble_eq_true rfl)) dX5_call_15 ⟨Nat.le_of_ble_eq_true rfl, Nat.le_of_ble_eq_true rfl⟩) hS (fun q _ h => hFc q h) hFc (fun r_2 u t H1 locs ht hvm hw hB hz1 hk1 hS => ?_)
    obtain ⟨hP1, hK1, hD1⟩ := hB
    rw [ht] at hP1
    have hK1 := va_K.moved hvm.symm hK1
    obtain ⟨hP, hD⟩ := va_join (wr := [(h0, kO5 h1 n0_size h2 n0_ran), (h1, kAi cint 50 f1), (h2, kAi cint 24 f2)]) (w1 := []) hP hD [] [0, 1, 2] rfl rfl (by decide) (by decide) hk1 hFc hP1 hD1
    generalize H1 = H at hP hS ⊢
    have hP : va_P (dC, dI) vwCl [(h0, kO5 h1 n0_size h2 n0_ran), (h1, kAi cint 50 f1), (h2, kAi cint 24 f2)] H := hP
    have hD : va_D A [(h0, kO5 h1 n0_size h2 n0_ran), (h1, kAi cint 50 f1), (h2, kAi cint 24 f2)] := hD
    obtain rfl := hw
    refine lv_if_eq (tgt := 48) hx hb dX5_call_18 (by decide) (fun c => absurd c (by decide)) (fun _ => ?_)
    refine va_gets hx hb hZOWN_BODIES hS hown (hts (.fieldLink RX5 43 "KinkStreet$Lines" "OWN_BODIES" "[I") (List.mem_of_getElem? (i := 1) rfl)) (fun _ h9 => h9) dX5_call_21 ?_
    refine lv_iload hx hb dX5_call_24 (lv_at hl 1 rfl) ?_
    refine lv_iconst (v := 4) hx hb dX5_call_26 kk_ic_4 ?_
    refine lv_imul hx hb dX5_call_27 ?_
    refine lv_topi (fun y_3 e_3 => ?_)
    obtain rfl : y_3 = 0 := e_3.trans (by decide)
    refine lv_iload_n hx hb dX5_call_28 rfl (lv_at hl 5 rfl) ?_
    refine lv_iadd hx hb dX5_call_29 ?_
    refine lv_topi (fun y_4 e_4 => ?_)
    obtain rfl : y_4 = 1 := e_4.trans (by decide)
    refine va_ti (v := .int 10) hx hb hTOWN_BODIES hS (by unfold vp_in; decide) rfl dX5_call_30 ?_
    refine lv_if_ne (tgt := 48) hx hb dX5_call_31 (by decide) (fun _ => ?_) (fun c => absurd c (by decide))
    refine lv_iload hx hb dX5_call_48 (lv_at hl 1 rfl) ?_
    obtain ⟨hPc, hDc, hFc⟩ := kk_cutout (wc := []) hP hD hS hA [] (by decide) rfl
    have hKc := kk_Ks (tq := []) hK [] rfl
    refine va_calli (va_runS (As := [.int 0]) (rest := []) ⟨hx, hb, hml, hown, hts⟩ (g_X5_isKind_11 l dC dI H.size) (va_cwS 1 hts gX5_call_X5_isKind rfl rfl rfl kh_X5_isKind ⟨Nat.le_of_ble_eq_true rfl, Nat.le_of_ble_eq_true rfl⟩) ⟨fun a U g mk q => by obtain ⟨q0, q1, qP, qK, qD⟩ := q; exact ⟨q0, q1, qP, va_K.moved (u := U) (U := U.calling g mk a) (Vm.Alike.refl U.vm) qK, qD⟩, fun U hU hW => ⟨rfl, by rw [hU], by rw [hU]; exact hPc, va_K.moved hW.alike hKc, hDc.weaken (fun _ _ _ _ => trivial)⟩⟩ rfl rfl hl.1 rfl (lv_room (Nat.le_of_ble_eq_true rfl)) dX5_call_50 ⟨Nat.le_of_ble_eq_true rfl, Nat.le_of_ble_eq_true rfl⟩) hS (fun q _ h => hFc q h) hFc (fun r_5 u t H1 locs ht hvm hw hB hz1 hk1 hS => ?_)
    obtain ⟨hP1, hK1, hD1⟩ := hB
    rw [ht] at hP1
    have hK1 := va_K.moved hvm.symm hK1
    obtain ⟨hP, hD⟩ := va_join (wr := [(h0, kO5 h1 n0_size h2 n0_ran), (h1, kAi cint 50 f1), (h2, kAi cint 24 f2)]) (w1 := []) hP hD [] [0, 1, 2] rfl rfl (by decide) (by decide) hk1 hFc hP1 hD1
    generalize H1 = H at hP hS ⊢
    have hP : va_P (dC, dI) vwCl [(h0, kO5 h1 n0_size h2 n0_ran), (h1, kAi cint 50 f1), (h2, kAi cint 24 f2)] H := hP
    have hD : va_D A [(h0, kO5 h1 n0_size h2 n0_ran), (h1, kAi cint 50 f1), (h2, kAi cint 24 f2)] := hD
    obtain rfl := hw
    refine lv_if_eq (tgt := 63) hx hb dX5_call_53 (by decide) (fun c => absurd c (by decide)) (fun _ => ?_)
    refine lv_iload hx hb dX5_call_56 (lv_at hl 7 rfl) ?_
    refine lv_bipush (v := 40) hx hb dX5_call_58 kk_bi_40 ?_
    refine lv_icmp_le (tgt := 65) hx hb dX5_call_60 (by decide) (fun c_6 => ?_) (fun c_6 => ?_)
    · have t_6 : p4.toInt ≤ 40 := kk_le c_6
      refine va_gets hx hb hZOWN_BODIES hS hown (hts (.fieldLink RX5 43 "KinkStreet$Lines" "OWN_BODIES" "[I") (List.mem_of_getElem? (i := 1) rfl)) (fun _ h9 => h9) dX5_call_65 ?_
      refine lv_iload hx hb dX5_call_68 (lv_at hl 1 rfl) ?_
      refine lv_iconst (v := 4) hx hb dX5_call_70 kk_ic_4 ?_
      refine lv_imul hx hb dX5_call_71 ?_
      refine lv_topi (fun y_7 e_7 => ?_)
      obtain rfl : y_7 = 0 := e_7.trans (by decide)
      refine lv_iload_n hx hb dX5_call_72 rfl (lv_at hl 5 rfl) ?_
      refine lv_iadd hx hb dX5_call_73 ?_
      refine lv_topi (fun y_8 e_8 => ?_)
      obtain rfl : y_8 = 1 := e_8.trans (by decide)
      refine va_ti (v := .int 10) hx hb hTOWN_BODIES hS (by unfold vp_in; decide) rfl dX5_call_74 ?_
      refine lv_istore hx hb dX5_call_75 hl (by decide) (rfl : _ = ([(7, .int 10), (6, .int 0), (0, .ref h0), (1, .int p0), (2, .int 0), (3, .int 1), (4, .int p3), (5, .int p4)] : List (Nat × Value))) (fun ls hl => ?_)
      refine lv_aload_n hx hb dX5_call_77 rfl (lv_at hl 2 rfl) ?_
      refine va_get (D := (dC, dI)) (ci := 5) (v := .int n0_ran) (C := RX5) (T := TX5) (N := 4) hx hb hts (fun _ h => List.mem_cons_of_mem _ (List.mem_append_right _ h)) hown hK hP 0 rfl rfl 3 (by decide) (hts (.fieldLink RX5 36 "KinkStreet$Lines" "ran" "I") (List.mem_of_getElem? (i := 3) rfl)) (fun _ h9 => h9) rfl dX5_call_78 ?_
      refine lv_bipush (v := 24) hx hb dX5_call_81 kk_bi_24 ?_
      refine lv_icmp_ge (tgt := 97) hx hb dX5_call_83 (by decide) (fun c_9 => ?_) (fun c_9 => ?_)
      · have t_9 : 24 ≤ n0_ran.toInt := kk_le c_9
        refine lv_aload_n hx hb dX5_call_97 rfl (lv_at hl 2 rfl) ?_
        refine lv_dup hx hb dX5_call_98 rfl ?_
        refine va_get (D := (dC, dI)) (ci := 5) (v := .int n0_ran) (C := RX5) (T := TX5) (N := 4) hx hb hts (fun _ h => List.mem_cons_of_mem _ (List.mem_append_right _ h)) hown hK hP 0 rfl rfl 3 (by decide) (hts (.fieldLink RX5 36 "KinkStreet$Lines" "ran" "I") (List.mem_of_getElem? (i := 3) rfl)) (fun _ h9 => h9) rfl dX5_call_99 ?_
        refine lv_iconst (v := 1) hx hb dX5_call_102 kk_ic_1 ?_
        refine lv_iadd hx hb dX5_call_103 ?_
        refine va_put (D := (dC, dI)) (ci := 5) (v := .int (n0_ran + 1)) (ty := .int) (C := RX5) (T := TX5) (N := 4) hx hb hts (fun _ h => List.mem_cons_of_mem _ (List.mem_append_right _ h)) tyX5 tyX5_ok nmX5 hown hK hP hD hS 0 rfl rfl 3 (by decide) (hts (.fieldLink RX5 36 "KinkStreet$Lines" "ran" "I") (List.mem_of_getElem? (i := 3) rfl)) (fun _ h9 => h9) rfl (by decide +kernel) rfl rfl (Nat.le_of_ble_eq_true rfl) dX5_call_104 (fun H locs hP hD hS => ?_)
        have hP : va_P (dC, dI) vwCl [(h0, kO5 h1 n0_size h2 (n0_ran + 1)), (h1, kAi cint 50 f1), (h2, kAi cint 24 f2)] H := hP
        have hD : va_D A [(h0, kO5 h1 n0_size h2 (n0_ran + 1)), (h1, kAi cint 50 f1), (h2, kAi cint 24 f2)] := hD
        have hp_10 : kk_P f2 f2 n0_ran.toInt (n0_ran + 1 : Int32).toInt [10] := kk_P_out (by have := kk_add2 (x := n0_ran) (y := 1) (a := n0_ran.toInt) (b := 1) rfl rfl (by omega) (by omega); omega) (by have := kk_add2 (x := n0_ran) (y := 1) (a := n0_ran.toInt) (b := 1) rfl rfl (by omega) (by omega); omega)
        refine lv_iload hx hb dX5_call_107 (lv_at hl 1 rfl) ?_
        refine lv_if_ne (tgt := 128) hx hb dX5_call_109 (by decide) (fun c => absurd c (by decide)) (fun _ => ?_)
        refine lv_aload_n hx hb dX5_call_112 rfl (lv_at hl 2 rfl) ?_
        refine lv_iload_n hx hb dX5_call_113 rfl (lv_at hl 3 rfl) ?_
        refine lv_iload hx hb dX5_call_114 (lv_at hl 0 rfl) ?_
        refine lv_iload hx hb dX5_call_116 (lv_at hl 6 rfl) ?_
        refine lv_iload hx hb dX5_call_118 (lv_at hl 7 rfl) ?_
        refine lv_iconst (v := 1) hx hb dX5_call_120 kk_ic_1 ?_
        refine lv_iadd hx hb dX5_call_121 ?_
        obtain ⟨hPc, hDc, hFc⟩ := kk_cutout (wc := [(h0, kO5 h1 n0_size h2 (n0_ran + 1)), (h1, kAi cint 50 f1), (h2, kAi cint 24 f2)]) hP hD hS hA [0, 1, 2] (by decide) rfl
        have hKc := kk_Ks (tq := [(cint, .int)]) hK [0] rfl
        refine va_calli (va_runV (As := [.int p0, .int 10, .int p3, .int (p4 + 1)]) (rest := []) ⟨hx, hb, hml, hown, hts⟩ (g_X5_runLine_5 l dC dI h0 h1 h2 cint H.size p0 p3 (p4 + 1) (by show 0 ≤ ((p4 + 1) : Int32).toInt ∧ ((p4 + 1) : Int32).toInt ≤ 9; first | with_reducible assumption | (constructor <;> (have := kk_add2 (x := n0_ran) (y := 1) (a := n0_ran.toInt) (b := 1) rfl rfl (by omega) (by omega); have := kk_add2 (x := p4) (y := 1) (a := p4.toInt) (b := 1) rfl rfl (by omega) (by omega); omega))) n0_size (n0_ran + 1) f1 f2 tn0_size (by show 0 ≤ ((n0_ran + 1) : Int32).toInt ∧ ((n0_ran + 1) : Int32).toInt ≤ 997; first | with_reducible assumption | (constructor <;> (have := kk_add2 (x := n0_ran) (y := 1) (a := n0_ran.toInt) (b := 1) rfl rfl (by omega) (by omega); have := kk_add2 (x := p4) (y := 1) (a := p4.toInt) (b := 1) rfl rfl (by omega) (by omega); omega))) bf1 (by show (0 ≤ (p0 : Int32).toInt ∧ (p0 : Int32).toInt < (n0_size : Int32).toInt); first | with_reducible assumption | (have := kk_add2 (x := n0_ran) (y := 1) (a := n0_ran.toInt) (b := 1) rfl rfl (by omega) (by omega); have := kk_add2 (x := p4) (y := 1) (a := p4.toInt) (b := 1) rfl rfl (by omega) (by omega); omega)) aOWN_BODIES aABOVE) (cwV 4 hts gX5_call_X5_runLine rfl rfl rfl ⟨rfl, kh_X5_runLine⟩ ⟨Nat.le_of_ble_eq_true rfl, Nat.le_of_ble_eq_true rfl⟩) ⟨fun a U g mk q => by obtain ⟨q0, q1, qP, qK, qD, qx0, qx1, qx2, qx3⟩ := q; exact ⟨q0, q1, qP, va_K.moved (u := U) (U := U.calling g mk a) (Vm.Alike.refl U.vm) qK, qD, va_Z.moved (u := U) (U := U.calling g mk a) (Vm.Alike.refl U.vm) qx0, va_T.moved (u := U) (U := U.calling g mk a) (Vm.Alike.refl U.vm) qx1, va_Z.moved (u := U) (U := U.calling g mk a) (Vm.Alike.refl U.vm) qx2, va_T.moved (u := U) (U := U.calling g mk a) (Vm.Alike.refl U.vm) qx3⟩, va_recv hKc hPc (ci := 5) (q0 := 0) rfl rfl, fun U hU hW => ⟨rfl, by rw [hU], by rw [hU]; exact hPc, va_K.moved hW.alike hKc, hDc.weaken (fun _ _ _ _ => trivial), by rw [hU]; exact ((hZOWN_BODIES.kept (fun a h1 h2 => hS.2.1 a h1 h2)).narrow hFc).moved hW.alike, by rw [hU]; exact ((hTOWN_BODIES.kept (fun a h1 h2 => hS.2.1 a h1 h2)).narrow hFc).moved hW.alike, by rw [hU]; exact ((hZABOVE.kept (fun a h1 h2 => hS.2.1 a h1 h2)).narrow hFc).moved hW.alike, by rw [hU]; exact ((hTABOVE.kept (fun a h1 h2 => hS.2.1 a h1 h2)).narrow hFc).moved hW.alike⟩⟩ rfl rfl hl.1 rfl (lv_room (Nat.le_of_ble_eq_true rfl)) dX5_call_122 ⟨Nat.le_of_ble_eq_true rfl, Nat.le_of_ble_eq_true rfl⟩) hS (fun q _ h => hFc q h) hFc (fun r_11 u t H1 locs ht hvm hw hB hz1 hk1 hS => ?_)
        obtain ⟨y_12, f_13, by_12, v_13_0, hn_13_0, hP1, hK1, hD1⟩ := hB
        have v_13_0 : y_12.toInt ≤ (n0_ran + 1).toInt + 3 := v_13_0
        have hn_13_0 : kk_P f2 f_13 (n0_ran + 1).toInt y_12.toInt ((kt_breaks (f1 (p0 : Int32).toNatClampNeg) 0).tail) := hn_13_0
        rw [ht] at hP1
        have hK1 := va_K.moved hvm.symm hK1
        obtain ⟨hP, hD⟩ := va_join (wr := []) (w1 := [(h0, kO5 h1 n0_size h2 y_12), (h1, kAi cint 50 f1), (h2, kAi cint 24 f_13)]) hP hD [0, 1, 2] [] rfl rfl (by decide) (by decide) hk1 hFc hP1 hD1
        generalize H1 = H at hP hS ⊢
        have hP : va_P (dC, dI) vwCl [(h0, kO5 h1 n0_size h2 y_12), (h1, kAi cint 50 f1), (h2, kAi cint 24 f_13)] H := hP
        have hD : va_D A [(h0, kO5 h1 n0_size h2 y_12), (h1, kAi cint 50 f1), (h2, kAi cint 24 f_13)] := hD
        rcases hw with ⟨t_11_0, _⟩
        · skip
          have t_11_0 : r_11 = kk_breaks (f1 (p0 : Int32).toNatClampNeg) 0 p0 p3 := t_11_0
          obtain rfl : r_11 = (kk_breaks (f1 (p0 : Int32).toNatClampNeg) 0 p0 p3) := t_11_0
          refine lv_goto (tgt := 143) hx hb dX5_call_125 (by decide) ?_
          obtain ⟨hP9, hD9⟩ := kk_leafout (wc := [(h0, kO5 h1 n0_size h2 y_12), (h1, kAi cint 50 f1), (h2, kAi cint 24 f_13)]) hP hD [0, 1, 2] (by decide) rfl
          have hK9 := kk_Ks (tq := []) hK [] rfl
          exact W.iret (v := (kk_breaks (f1 (p0 : Int32).toNatClampNeg) 0 p0 p3)) hx hb hr (fun t ht hW => ⟨⟨(kk_breaks (f1 (p0 : Int32).toNatClampNeg) 0 p0 p3), (), rfl, ⟨(by first | rfl | (unfold kk_breaks; (repeat' split) <;> first | rfl | (exfalso; have : (0 : Int32).toInt = 0 := rfl; have : (1 : Int32).toInt = 1 := rfl; have : (2 : Int32).toInt = 2 := rfl; have : (3 : Int32).toInt = 3 := rfl; have : (4 : Int32).toInt = 4 := rfl; have : (5 : Int32).toInt = 5 := rfl; have : (6 : Int32).toInt = 6 := rfl; have : (7 : Int32).toInt = 7 := rfl; have := kk_add2 (x := n0_ran) (y := 1) (a := n0_ran.toInt) (b := 1) rfl rfl (by omega) (by omega); have := kk_add2 (x := p4) (y := 1) (a := p4.toInt) (b := 1) rfl rfl (by omega) (by omega); omega))), trivial⟩, y_12, f_13, (by show 1 ≤ (y_12 : Int32).toInt ∧ (y_12 : Int32).toInt ≤ 1000; first | with_reducible assumption | (constructor <;> (have := kk_add2 (x := n0_ran) (y := 1) (a := n0_ran.toInt) (b := 1) rfl rfl (by omega) (by omega); have := kk_add2 (x := p4) (y := 1) (a := p4.toInt) (b := 1) rfl rfl (by omega) (by omega); omega))), (by show (y_12 : Int32).toInt ≤ (n0_ran : Int32).toInt + 11; first | with_reducible assumption | (have := kk_add2 (x := n0_ran) (y := 1) (a := n0_ran.toInt) (b := 1) rfl rfl (by omega) (by omega); have := kk_add2 (x := p4) (y := 1) (a := p4.toInt) (b := 1) rfl rfl (by omega) (by omega); omega)), (by first | exact kk_P_eq (kk_P_trans hp_10 hn_13_0) rfl | (unfold kt_breaks; (repeat' split) <;> first | exact kk_P_eq (kk_P_trans hp_10 hn_13_0) rfl | (exfalso; have : (0 : Int32).toInt = 0 := rfl; have : (1 : Int32).toInt = 1 := rfl; have : (2 : Int32).toInt = 2 := rfl; have : (3 : Int32).toInt = 3 := rfl; have : (4 : Int32).toInt = 4 := rfl; have : (5 : Int32).toInt = 5 := rfl; have : (6 : Int32).toInt = 6 := rfl; have : (7 : Int32).toInt = 7 := rfl; have := kk_add2 (x := n0_ran) (y := 1) (a := n0_ran.toInt) (b := 1) rfl rfl (by omega) (by omega); have := kk_add2 (x := p4) (y := 1) (a := p4.toInt) (b := 1) rfl rfl (by omega) (by omega); omega))), by rw [ht]; exact hP9, va_K.moved hW.alike hK9, hD9⟩, hS.F ht⟩) hS.2.2 dX5_call_143
      · have t_9 : n0_ran.toInt < 24 := kk_nle c_9
        refine lv_aload_n hx hb dX5_call_86 rfl (lv_at hl 2 rfl) ?_
        refine va_get (D := (dC, dI)) (ci := 5) (v := .ref h2) (C := RX5) (T := TX5) (N := 4) hx hb hts (fun _ h => List.mem_cons_of_mem _ (List.mem_append_right _ h)) hown hK hP 0 rfl rfl 2 (by decide) (hts (.fieldLink RX5 15 "KinkStreet$Lines" "trace" "[I") (List.mem_of_getElem? (i := 4) rfl)) (fun _ h9 => h9) rfl dX5_call_87 ?_
        refine lv_aload_n hx hb dX5_call_90 rfl (lv_at hl 2 rfl) ?_
        refine va_get (D := (dC, dI)) (ci := 5) (v := .int n0_ran) (C := RX5) (T := TX5) (N := 4) hx hb hts (fun _ h => List.mem_cons_of_mem _ (List.mem_append_right _ h)) hown hK hP 0 rfl rfl 3 (by decide) (hts (.fieldLink RX5 36 "KinkStreet$Lines" "ran" "I") (List.mem_of_getElem? (i := 3) rfl)) (fun _ h9 => h9) rfl dX5_call_91 ?_
        refine lv_iload hx hb dX5_call_94 (lv_at hl 0 rfl) ?_
        refine va_iast hx hb hK hP hD hS 2 0 rfl rfl (vp_in_iff.mpr ⟨by omega, by omega⟩) dX5_call_96 (fun H locs hP hD hS => ?_)
        have w_14 : ((upd f2 (n0_ran : Int32).toNatClampNeg 10) (n0_ran : Int32).toNatClampNeg).toInt = (10 : Int32).toInt := by rw [kk_ups]
        have hP : va_P (dC, dI) vwCl [(h0, kO5 h1 n0_size h2 n0_ran), (h1, kAi cint 50 f1), (h2, kAi cint 24 (upd f2 (n0_ran : Int32).toNatClampNeg 10))] H := hP
        have hD : va_D A [(h0, kO5 h1 n0_size h2 n0_ran), (h1, kAi cint 50 f1), (h2, kAi cint 24 (upd f2 (n0_ran : Int32).toNatClampNeg 10))] := hD
        refine lv_aload_n hx hb dX5_call_97 rfl (lv_at hl 2 rfl) ?_
        refine lv_dup hx hb dX5_call_98 rfl ?_
        refine va_get (D := (dC, dI)) (ci := 5) (v := .int n0_ran) (C := RX5) (T := TX5) (N := 4) hx hb hts (fun _ h => List.mem_cons_of_mem _ (List.mem_append_right _ h)) hown hK hP 0 rfl rfl 3 (by decide) (hts (.fieldLink RX5 36 "KinkStreet$Lines" "ran" "I") (List.mem_of_getElem? (i := 3) rfl)) (fun _ h9 => h9) rfl dX5_call_99 ?_
        refine lv_iconst (v := 1) hx hb dX5_call_102 kk_ic_1 ?_
        refine lv_iadd hx hb dX5_call_103 ?_
        refine va_put (D := (dC, dI)) (ci := 5) (v := .int (n0_ran + 1)) (ty := .int) (C := RX5) (T := TX5) (N := 4) hx hb hts (fun _ h => List.mem_cons_of_mem _ (List.mem_append_right _ h)) tyX5 tyX5_ok nmX5 hown hK hP hD hS 0 rfl rfl 3 (by decide) (hts (.fieldLink RX5 36 "KinkStreet$Lines" "ran" "I") (List.mem_of_getElem? (i := 3) rfl)) (fun _ h9 => h9) rfl (by decide +kernel) rfl rfl (Nat.le_of_ble_eq_true rfl) dX5_call_104 (fun H locs hP hD hS => ?_)
        have hP : va_P (dC, dI) vwCl [(h0, kO5 h1 n0_size h2 (n0_ran + 1)), (h1, kAi cint 50 f1), (h2, kAi cint 24 (upd f2 (n0_ran : Int32).toNatClampNeg 10))] H := hP
        have hD : va_D A [(h0, kO5 h1 n0_size h2 (n0_ran + 1)), (h1, kAi cint 50 f1), (h2, kAi cint 24 (upd f2 (n0_ran : Int32).toNatClampNeg 10))] := hD
        have hp_15 : kk_P f2 (upd f2 (n0_ran : Int32).toNatClampNeg 10) n0_ran.toInt (n0_ran + 1 : Int32).toInt [10] := kk_P_one (by have := kk_add2 (x := n0_ran) (y := 1) (a := n0_ran.toInt) (b := 1) rfl rfl (by omega) (by omega); omega) (by have := kk_add2 (x := n0_ran) (y := 1) (a := n0_ran.toInt) (b := 1) rfl rfl (by omega) (by omega); omega)
        refine lv_iload hx hb dX5_call_107 (lv_at hl 1 rfl) ?_
        refine lv_if_ne (tgt := 128) hx hb dX5_call_109 (by decide) (fun c => absurd c (by decide)) (fun _ => ?_)
        refine lv_aload_n hx hb dX5_call_112 rfl (lv_at hl 2 rfl) ?_
        refine lv_iload_n hx hb dX5_call_113 rfl (lv_at hl 3 rfl) ?_
        refine lv_iload hx hb dX5_call_114 (lv_at hl 0 rfl) ?_
        refine lv_iload hx hb dX5_call_116 (lv_at hl 6 rfl) ?_
        refine lv_iload hx hb dX5_call_118 (lv_at hl 7 rfl) ?_
        refine lv_iconst (v := 1) hx hb dX5_call_120 kk_ic_1 ?_
        refine lv_iadd hx hb dX5_call_121 ?_
        obtain ⟨hPc, hDc, hFc⟩ := kk_cutout (wc := [(h0, kO5 h1 n0_size h2 (n0_ran + 1)), (h1, kAi cint 50 f1), (h2, kAi cint 24 (upd f2 (n0_ran : Int32).toNatClampNeg 10))]) hP hD hS hA [0, 1, 2] (by decide) rfl
        have hKc := kk_Ks (tq := [(cint, .int)]) hK [0] rfl
        refine va_calli (va_runV (As := [.int p0, .int 10, .int p3, .int (p4 + 1)]) (rest := []) ⟨hx, hb, hml, hown, hts⟩ (g_X5_runLine_5 l dC dI h0 h1 h2 cint H.size p0 p3 (p4 + 1) (by show 0 ≤ ((p4 + 1) : Int32).toInt ∧ ((p4 + 1) : Int32).toInt ≤ 9; first | with_reducible assumption | (constructor <;> (have := kk_add2 (x := n0_ran) (y := 1) (a := n0_ran.toInt) (b := 1) rfl rfl (by omega) (by omega); have := kk_add2 (x := p4) (y := 1) (a := p4.toInt) (b := 1) rfl rfl (by omega) (by omega); omega))) n0_size (n0_ran + 1) f1 (upd f2 (n0_ran : Int32).toNatClampNeg 10) tn0_size (by show 0 ≤ ((n0_ran + 1) : Int32).toInt ∧ ((n0_ran + 1) : Int32).toInt ≤ 997; first | with_reducible assumption | (constructor <;> (have := kk_add2 (x := n0_ran) (y := 1) (a := n0_ran.toInt) (b := 1) rfl rfl (by omega) (by omega); have := kk_add2 (x := p4) (y := 1) (a := p4.toInt) (b := 1) rfl rfl (by omega) (by omega); omega))) bf1 (by show (0 ≤ (p0 : Int32).toInt ∧ (p0 : Int32).toInt < (n0_size : Int32).toInt); first | with_reducible assumption | (have := kk_add2 (x := n0_ran) (y := 1) (a := n0_ran.toInt) (b := 1) rfl rfl (by omega) (by omega); have := kk_add2 (x := p4) (y := 1) (a := p4.toInt) (b := 1) rfl rfl (by omega) (by omega); omega)) aOWN_BODIES aABOVE) (cwV 4 hts gX5_call_X5_runLine rfl rfl rfl ⟨rfl, kh_X5_runLine⟩ ⟨Nat.le_of_ble_eq_true rfl, Nat.le_of_ble_eq_true rfl⟩) ⟨fun a U g mk q => by obtain ⟨q0, q1, qP, qK, qD, qx0, qx1, qx2, qx3⟩ := q; exact ⟨q0, q1, qP, va_K.moved (u := U) (U := U.calling g mk a) (Vm.Alike.refl U.vm) qK, qD, va_Z.moved (u := U) (U := U.calling g mk a) (Vm.Alike.refl U.vm) qx0, va_T.moved (u := U) (U := U.calling g mk a) (Vm.Alike.refl U.vm) qx1, va_Z.moved (u := U) (U := U.calling g mk a) (Vm.Alike.refl U.vm) qx2, va_T.moved (u := U) (U := U.calling g mk a) (Vm.Alike.refl U.vm) qx3⟩, va_recv hKc hPc (ci := 5) (q0 := 0) rfl rfl, fun U hU hW => ⟨rfl, by rw [hU], by rw [hU]; exact hPc, va_K.moved hW.alike hKc, hDc.weaken (fun _ _ _ _ => trivial), by rw [hU]; exact ((hZOWN_BODIES.kept (fun a h1 h2 => hS.2.1 a h1 h2)).narrow hFc).moved hW.alike, by rw [hU]; exact ((hTOWN_BODIES.kept (fun a h1 h2 => hS.2.1 a h1 h2)).narrow hFc).moved hW.alike, by rw [hU]; exact ((hZABOVE.kept (fun a h1 h2 => hS.2.1 a h1 h2)).narrow hFc).moved hW.alike, by rw [hU]; exact ((hTABOVE.kept (fun a h1 h2 => hS.2.1 a h1 h2)).narrow hFc).moved hW.alike⟩⟩ rfl rfl hl.1 rfl (lv_room (Nat.le_of_ble_eq_true rfl)) dX5_call_122 ⟨Nat.le_of_ble_eq_true rfl, Nat.le_of_ble_eq_true rfl⟩) hS (fun q _ h => hFc q h) hFc (fun r_16 u t H1 locs ht hvm hw hB hz1 hk1 hS => ?_)
        obtain ⟨y_17, f_18, by_17, v_18_0, hn_18_0, hP1, hK1, hD1⟩ := hB
        have v_18_0 : y_17.toInt ≤ (n0_ran + 1).toInt + 3 := v_18_0
        have hn_18_0 : kk_P (upd f2 (n0_ran : Int32).toNatClampNeg 10) f_18 (n0_ran + 1).toInt y_17.toInt ((kt_breaks (f1 (p0 : Int32).toNatClampNeg) 0).tail) := hn_18_0
        rw [ht] at hP1
        have hK1 := va_K.moved hvm.symm hK1
        obtain ⟨hP, hD⟩ := va_join (wr := []) (w1 := [(h0, kO5 h1 n0_size h2 y_17), (h1, kAi cint 50 f1), (h2, kAi cint 24 f_18)]) hP hD [0, 1, 2] [] rfl rfl (by decide) (by decide) hk1 hFc hP1 hD1
        generalize H1 = H at hP hS ⊢
        have hP : va_P (dC, dI) vwCl [(h0, kO5 h1 n0_size h2 y_17), (h1, kAi cint 50 f1), (h2, kAi cint 24 f_18)] H := hP
        have hD : va_D A [(h0, kO5 h1 n0_size h2 y_17), (h1, kAi cint 50 f1), (h2, kAi cint 24 f_18)] := hD
        rcases hw with ⟨t_16_0, _⟩
        · skip
          have t_16_0 : r_16 = kk_breaks (f1 (p0 : Int32).toNatClampNeg) 0 p0 p3 := t_16_0
          obtain rfl : r_16 = (kk_breaks (f1 (p0 : Int32).toNatClampNeg) 0 p0 p3) := t_16_0
          refine lv_goto (tgt := 143) hx hb dX5_call_125 (by decide) ?_
          obtain ⟨hP9, hD9⟩ := kk_leafout (wc := [(h0, kO5 h1 n0_size h2 y_17), (h1, kAi cint 50 f1), (h2, kAi cint 24 f_18)]) hP hD [0, 1, 2] (by decide) rfl
          have hK9 := kk_Ks (tq := []) hK [] rfl
          exact W.iret (v := (kk_breaks (f1 (p0 : Int32).toNatClampNeg) 0 p0 p3)) hx hb hr (fun t ht hW => ⟨⟨(kk_breaks (f1 (p0 : Int32).toNatClampNeg) 0 p0 p3), (), rfl, ⟨(by first | rfl | (unfold kk_breaks; (repeat' split) <;> first | rfl | (exfalso; have : (0 : Int32).toInt = 0 := rfl; have : (1 : Int32).toInt = 1 := rfl; have : (2 : Int32).toInt = 2 := rfl; have : (3 : Int32).toInt = 3 := rfl; have : (4 : Int32).toInt = 4 := rfl; have : (5 : Int32).toInt = 5 := rfl; have : (6 : Int32).toInt = 6 := rfl; have : (7 : Int32).toInt = 7 := rfl; have := kk_add2 (x := n0_ran) (y := 1) (a := n0_ran.toInt) (b := 1) rfl rfl (by omega) (by omega); have := kk_add2 (x := p4) (y := 1) (a := p4.toInt) (b := 1) rfl rfl (by omega) (by omega); omega))), trivial⟩, y_17, f_18, (by show 1 ≤ (y_17 : Int32).toInt ∧ (y_17 : Int32).toInt ≤ 1000; first | with_reducible assumption | (constructor <;> (have := kk_add2 (x := n0_ran) (y := 1) (a := n0_ran.toInt) (b := 1) rfl rfl (by omega) (by omega); have := kk_add2 (x := p4) (y := 1) (a := p4.toInt) (b := 1) rfl rfl (by omega) (by omega); omega))), (by show (y_17 : Int32).toInt ≤ (n0_ran : Int32).toInt + 11; first | with_reducible assumption | (have := kk_add2 (x := n0_ran) (y := 1) (a := n0_ran.toInt) (b := 1) rfl rfl (by omega) (by omega); have := kk_add2 (x := p4) (y := 1) (a := p4.toInt) (b := 1) rfl rfl (by omega) (by omega); omega)), (by first | exact kk_P_eq (kk_P_trans hp_15 hn_18_0) rfl | (unfold kt_breaks; (repeat' split) <;> first | exact kk_P_eq (kk_P_trans hp_15 hn_18_0) rfl | (exfalso; have : (0 : Int32).toInt = 0 := rfl; have : (1 : Int32).toInt = 1 := rfl; have : (2 : Int32).toInt = 2 := rfl; have : (3 : Int32).toInt = 3 := rfl; have : (4 : Int32).toInt = 4 := rfl; have : (5 : Int32).toInt = 5 := rfl; have : (6 : Int32).toInt = 6 := rfl; have : (7 : Int32).toInt = 7 := rfl; have := kk_add2 (x := n0_ran) (y := 1) (a := n0_ran.toInt) (b := 1) rfl rfl (by omega) (by omega); have := kk_add2 (x := p4) (y := 1) (a := p4.toInt) (b := 1) rfl rfl (by omega) (by omega); omega))), by rw [ht]; exact hP9, va_K.moved hW.alike hK9, hD9⟩, hS.F ht⟩) hS.2.2 dX5_call_143
    · have t_6 : 40 < p4.toInt := kk_nle c_6
      exfalso; omega
  · have t_1 : p1.toInt = 1 := by rw [e_1]; rfl
    subst e_1
    refine lv_iload_n hx hb dX5_call_0 rfl (lv_at hl 2 rfl) ?_
    refine lv_istore hx hb dX5_call_1 hl (by decide) (rfl : _ = ([(6, .int 1), (0, .ref h0), (1, .int p0), (2, .int 1), (3, .int 1), (4, .int p3), (5, .int p4)] : List (Nat × Value))) (fun ls hl => ?_)
    refine lv_iconst (v := 0) hx hb dX5_call_3 kk_ic_0 ?_
    refine lv_istore hx hb dX5_call_4 hl (by decide) (rfl : _ = ([(7, .int 0), (6, .int 1), (0, .ref h0), (1, .int p0), (2, .int 1), (3, .int 1), (4, .int p3), (5, .int p4)] : List (Nat × Value))) (fun ls hl => ?_)
    refine lv_iload hx hb dX5_call_6 (lv_at hl 0 rfl) ?_
    refine lv_bipush (v := 8) hx hb dX5_call_8 kk_bi_8 ?_
    refine lv_icmp_ge (tgt := 48) hx hb dX5_call_10 (by decide) (fun c => absurd c (by decide)) (fun _ => ?_)
    refine lv_iload hx hb dX5_call_13 (lv_at hl 1 rfl) ?_
    obtain ⟨hPc, hDc, hFc⟩ := kk_cutout (wc := []) hP hD hS hA [] (by decide) rfl
    have hKc := kk_Ks (tq := []) hK [] rfl
    refine va_calli (va_runS (As := [.int 1]) (rest := []) ⟨hx, hb, hml, hown, hts⟩ (g_X5_isKind_12 l dC dI s.heap.size) (va_cwS 1 hts gX5_call_X5_isKind rfl rfl rfl kh_X5_isKind ⟨Nat.le_of_ble_eq_true rfl, Nat.le_of_ble_eq_true rfl⟩) ⟨fun a U g mk q => by obtain ⟨q0, q1, qP, qK, qD⟩ := q; exact ⟨q0, q1, qP, va_K.moved (u := U) (U := U.calling g mk a) (Vm.Alike.refl U.vm) qK, qD⟩, fun U hU hW => ⟨rfl, by rw [hU], by rw [hU]; exact hPc, va_K.moved hW.alike hKc, hDc.weaken (fun _ _ _ _ => trivial)⟩⟩ rfl rfl hl.1 rfl (lv_room (Nat.le_of_ble_eq_true rfl)) dX5_call_15 ⟨Nat.le_of_ble_eq_true rfl, Nat.le_of_ble_eq_true rfl⟩) hS (fun q _ h => hFc q h) hFc (fun r_19 u t H1 locs ht hvm hw hB hz1 hk1 hS => ?_)
    obtain ⟨hP1, hK1, hD1⟩ := hB
    rw [ht] at hP1
    have hK1 := va_K.moved hvm.symm hK1
    obtain ⟨hP, hD⟩ := va_join (wr := [(h0, kO5 h1 n0_size h2 n0_ran), (h1, kAi cint 50 f1), (h2, kAi cint 24 f2)]) (w1 := []) hP hD [] [0, 1, 2] rfl rfl (by decide) (by decide) hk1 hFc hP1 hD1
    generalize H1 = H at hP hS ⊢
    have hP : va_P (dC, dI) vwCl [(h0, kO5 h1 n0_size h2 n0_ran), (h1, kAi cint 50 f1), (h2, kAi cint 24 f2)] H := hP
    have hD : va_D A [(h0, kO5 h1 n0_size h2 n0_ran), (h1, kAi cint 50 f1), (h2, kAi cint 24 f2)] := hD
    obtain rfl := hw
    refine lv_if_eq (tgt := 48) hx hb dX5_call_18 (by decide) (fun c => absurd c (by decide)) (fun _ => ?_)
    refine va_gets hx hb hZOWN_BODIES hS hown (hts (.fieldLink RX5 43 "KinkStreet$Lines" "OWN_BODIES" "[I") (List.mem_of_getElem? (i := 1) rfl)) (fun _ h9 => h9) dX5_call_21 ?_
    refine lv_iload hx hb dX5_call_24 (lv_at hl 1 rfl) ?_
    refine lv_iconst (v := 4) hx hb dX5_call_26 kk_ic_4 ?_
    refine lv_imul hx hb dX5_call_27 ?_
    refine lv_topi (fun y_20 e_20 => ?_)
    obtain rfl : y_20 = 4 := e_20.trans (by decide)
    refine lv_iload_n hx hb dX5_call_28 rfl (lv_at hl 5 rfl) ?_
    refine lv_iadd hx hb dX5_call_29 ?_
    refine lv_topi (fun y_21 e_21 => ?_)
    obtain rfl : y_21 = 5 := e_21.trans (by decide)
    refine va_ti (v := .int 0) hx hb hTOWN_BODIES hS (by unfold vp_in; decide) rfl dX5_call_30 ?_
    refine lv_if_ne (tgt := 48) hx hb dX5_call_31 (by decide) (fun c => absurd c (by decide)) (fun _ => ?_)
    refine va_gets hx hb hZABOVE hS hown (hts (.fieldLink RX5 22 "KinkStreet$Lines" "ABOVE" "[I") (List.mem_of_getElem? (i := 2) rfl)) (fun _ h9 => h9) dX5_call_34 ?_
    refine lv_iload hx hb dX5_call_37 (lv_at hl 1 rfl) ?_
    refine va_ti (v := .int 0) hx hb hTABOVE hS (by unfold vp_in; decide) rfl dX5_call_39 ?_
    refine lv_istore hx hb dX5_call_40 hl (by decide) (rfl : _ = ([(6, .int 0), (7, .int 0), (0, .ref h0), (1, .int p0), (2, .int 1), (3, .int 1), (4, .int p3), (5, .int p4)] : List (Nat × Value))) (fun ls hl => ?_)
    refine lv_iinc (v := 1) hx hb dX5_call_42 hl (k := 1) rfl (by first | rfl | decide) (by decide) (rfl : _ = ([(7, .int 1), (6, .int 0), (0, .ref h0), (1, .int p0), (2, .int 1), (3, .int 1), (4, .int p3), (5, .int p4)] : List (Nat × Value))) (fun ls hl => ?_)
    refine lv_goto (tgt := 6) hx hb dX5_call_45 (by decide) ?_
    refine lv_iload hx hb dX5_call_6 (lv_at hl 0 rfl) ?_
    refine lv_bipush (v := 8) hx hb dX5_call_8 kk_bi_8 ?_
    refine lv_icmp_ge (tgt := 48) hx hb dX5_call_10 (by decide) (fun c => absurd c (by decide)) (fun _ => ?_)
    refine lv_iload hx hb dX5_call_13 (lv_at hl 1 rfl) ?_
    obtain ⟨hPc, hDc, hFc⟩ := kk_cutout (wc := []) hP hD hS hA [] (by decide) rfl
    have hKc := kk_Ks (tq := []) hK [] rfl
    refine va_calli (va_runS (As := [.int 0]) (rest := []) ⟨hx, hb, hml, hown, hts⟩ (g_X5_isKind_11 l dC dI H.size) (va_cwS 1 hts gX5_call_X5_isKind rfl rfl rfl kh_X5_isKind ⟨Nat.le_of_ble_eq_true rfl, Nat.le_of_ble_eq_true rfl⟩) ⟨fun a U g mk q => by obtain ⟨q0, q1, qP, qK, qD⟩ := q; exact ⟨q0, q1, qP, va_K.moved (u := U) (U := U.calling g mk a) (Vm.Alike.refl U.vm) qK, qD⟩, fun U hU hW => ⟨rfl, by rw [hU], by rw [hU]; exact hPc, va_K.moved hW.alike hKc, hDc.weaken (fun _ _ _ _ => trivial)⟩⟩ rfl rfl hl.1 rfl (lv_room (Nat.le_of_ble_eq_true rfl)) dX5_call_15 ⟨Nat.le_of_ble_eq_true rfl, Nat.le_of_ble_eq_true rfl⟩) hS (fun q _ h => hFc q h) hFc (fun r_22 u t H1 locs ht hvm hw hB hz1 hk1 hS => ?_)
    obtain ⟨hP1, hK1, hD1⟩ := hB
    rw [ht] at hP1
    have hK1 := va_K.moved hvm.symm hK1
    obtain ⟨hP, hD⟩ := va_join (wr := [(h0, kO5 h1 n0_size h2 n0_ran), (h1, kAi cint 50 f1), (h2, kAi cint 24 f2)]) (w1 := []) hP hD [] [0, 1, 2] rfl rfl (by decide) (by decide) hk1 hFc hP1 hD1
    generalize H1 = H at hP hS ⊢
    have hP : va_P (dC, dI) vwCl [(h0, kO5 h1 n0_size h2 n0_ran), (h1, kAi cint 50 f1), (h2, kAi cint 24 f2)] H := hP
    have hD : va_D A [(h0, kO5 h1 n0_size h2 n0_ran), (h1, kAi cint 50 f1), (h2, kAi cint 24 f2)] := hD
    obtain rfl := hw
    refine lv_if_eq (tgt := 48) hx hb dX5_call_18 (by decide) (fun c => absurd c (by decide)) (fun _ => ?_)
    refine va_gets hx hb hZOWN_BODIES hS hown (hts (.fieldLink RX5 43 "KinkStreet$Lines" "OWN_BODIES" "[I") (List.mem_of_getElem? (i := 1) rfl)) (fun _ h9 => h9) dX5_call_21 ?_
    refine lv_iload hx hb dX5_call_24 (lv_at hl 1 rfl) ?_
    refine lv_iconst (v := 4) hx hb dX5_call_26 kk_ic_4 ?_
    refine lv_imul hx hb dX5_call_27 ?_
    refine lv_topi (fun y_23 e_23 => ?_)
    obtain rfl : y_23 = 0 := e_23.trans (by decide)
    refine lv_iload_n hx hb dX5_call_28 rfl (lv_at hl 5 rfl) ?_
    refine lv_iadd hx hb dX5_call_29 ?_
    refine lv_topi (fun y_24 e_24 => ?_)
    obtain rfl : y_24 = 1 := e_24.trans (by decide)
    refine va_ti (v := .int 10) hx hb hTOWN_BODIES hS (by unfold vp_in; decide) rfl dX5_call_30 ?_
    refine lv_if_ne (tgt := 48) hx hb dX5_call_31 (by decide) (fun _ => ?_) (fun c => absurd c (by decide))
    refine lv_iload hx hb dX5_call_48 (lv_at hl 1 rfl) ?_
    obtain ⟨hPc, hDc, hFc⟩ := kk_cutout (wc := []) hP hD hS hA [] (by decide) rfl
    have hKc := kk_Ks (tq := []) hK [] rfl
    refine va_calli (va_runS (As := [.int 0]) (rest := []) ⟨hx, hb, hml, hown, hts⟩ (g_X5_isKind_11 l dC dI H.size) (va_cwS 1 hts gX5_call_X5_isKind rfl rfl rfl kh_X5_isKind ⟨Nat.le_of_ble_eq_true rfl, Nat.le_of_ble_eq_true rfl⟩) ⟨fun a U g mk q => by obtain ⟨q0, q1, qP, qK, qD⟩ := q; exact ⟨q0, q1, qP, va_K.moved (u := U) (U := U.calling g mk a) (Vm.Alike.refl U.vm) qK, qD⟩, fun U hU hW => ⟨rfl, by rw [hU], by rw [hU]; exact hPc, va_K.moved hW.alike hKc, hDc.weaken (fun _ _ _ _ => trivial)⟩⟩ rfl rfl hl.1 rfl (lv_room (Nat.le_of_ble_eq_true rfl)) dX5_call_50 ⟨Nat.le_of_ble_eq_true rfl, Nat.le_of_ble_eq_true rfl⟩) hS (fun q _ h => hFc q h) hFc (fun r_25 u t H1 locs ht hvm hw hB hz1 hk1 hS => ?_)
    obtain ⟨hP1, hK1, hD1⟩ := hB
    rw [ht] at hP1
    have hK1 := va_K.moved hvm.symm hK1
    obtain ⟨hP, hD⟩ := va_join (wr := [(h0, kO5 h1 n0_size h2 n0_ran), (h1, kAi cint 50 f1), (h2, kAi cint 24 f2)]) (w1 := []) hP hD [] [0, 1, 2] rfl rfl (by decide) (by decide) hk1 hFc hP1 hD1
    generalize H1 = H at hP hS ⊢
    have hP : va_P (dC, dI) vwCl [(h0, kO5 h1 n0_size h2 n0_ran), (h1, kAi cint 50 f1), (h2, kAi cint 24 f2)] H := hP
    have hD : va_D A [(h0, kO5 h1 n0_size h2 n0_ran), (h1, kAi cint 50 f1), (h2, kAi cint 24 f2)] := hD
    obtain rfl := hw
    refine lv_if_eq (tgt := 63) hx hb dX5_call_53 (by decide) (fun c => absurd c (by decide)) (fun _ => ?_)
    refine lv_iload hx hb dX5_call_56 (lv_at hl 7 rfl) ?_
    refine lv_bipush (v := 40) hx hb dX5_call_58 kk_bi_40 ?_
    refine lv_icmp_le (tgt := 65) hx hb dX5_call_60 (by decide) (fun c_26 => ?_) (fun c_26 => ?_)
    · have t_26 : p4.toInt ≤ 40 := kk_le c_26
      refine va_gets hx hb hZOWN_BODIES hS hown (hts (.fieldLink RX5 43 "KinkStreet$Lines" "OWN_BODIES" "[I") (List.mem_of_getElem? (i := 1) rfl)) (fun _ h9 => h9) dX5_call_65 ?_
      refine lv_iload hx hb dX5_call_68 (lv_at hl 1 rfl) ?_
      refine lv_iconst (v := 4) hx hb dX5_call_70 kk_ic_4 ?_
      refine lv_imul hx hb dX5_call_71 ?_
      refine lv_topi (fun y_27 e_27 => ?_)
      obtain rfl : y_27 = 0 := e_27.trans (by decide)
      refine lv_iload_n hx hb dX5_call_72 rfl (lv_at hl 5 rfl) ?_
      refine lv_iadd hx hb dX5_call_73 ?_
      refine lv_topi (fun y_28 e_28 => ?_)
      obtain rfl : y_28 = 1 := e_28.trans (by decide)
      refine va_ti (v := .int 10) hx hb hTOWN_BODIES hS (by unfold vp_in; decide) rfl dX5_call_74 ?_
      refine lv_istore hx hb dX5_call_75 hl (by decide) (rfl : _ = ([(7, .int 10), (6, .int 0), (0, .ref h0), (1, .int p0), (2, .int 1), (3, .int 1), (4, .int p3), (5, .int p4)] : List (Nat × Value))) (fun ls hl => ?_)
      refine lv_aload_n hx hb dX5_call_77 rfl (lv_at hl 2 rfl) ?_
      refine va_get (D := (dC, dI)) (ci := 5) (v := .int n0_ran) (C := RX5) (T := TX5) (N := 4) hx hb hts (fun _ h => List.mem_cons_of_mem _ (List.mem_append_right _ h)) hown hK hP 0 rfl rfl 3 (by decide) (hts (.fieldLink RX5 36 "KinkStreet$Lines" "ran" "I") (List.mem_of_getElem? (i := 3) rfl)) (fun _ h9 => h9) rfl dX5_call_78 ?_
      refine lv_bipush (v := 24) hx hb dX5_call_81 kk_bi_24 ?_
      refine lv_icmp_ge (tgt := 97) hx hb dX5_call_83 (by decide) (fun c_29 => ?_) (fun c_29 => ?_)
      · have t_29 : 24 ≤ n0_ran.toInt := kk_le c_29
        refine lv_aload_n hx hb dX5_call_97 rfl (lv_at hl 2 rfl) ?_
        refine lv_dup hx hb dX5_call_98 rfl ?_
        refine va_get (D := (dC, dI)) (ci := 5) (v := .int n0_ran) (C := RX5) (T := TX5) (N := 4) hx hb hts (fun _ h => List.mem_cons_of_mem _ (List.mem_append_right _ h)) hown hK hP 0 rfl rfl 3 (by decide) (hts (.fieldLink RX5 36 "KinkStreet$Lines" "ran" "I") (List.mem_of_getElem? (i := 3) rfl)) (fun _ h9 => h9) rfl dX5_call_99 ?_
        refine lv_iconst (v := 1) hx hb dX5_call_102 kk_ic_1 ?_
        refine lv_iadd hx hb dX5_call_103 ?_
        refine va_put (D := (dC, dI)) (ci := 5) (v := .int (n0_ran + 1)) (ty := .int) (C := RX5) (T := TX5) (N := 4) hx hb hts (fun _ h => List.mem_cons_of_mem _ (List.mem_append_right _ h)) tyX5 tyX5_ok nmX5 hown hK hP hD hS 0 rfl rfl 3 (by decide) (hts (.fieldLink RX5 36 "KinkStreet$Lines" "ran" "I") (List.mem_of_getElem? (i := 3) rfl)) (fun _ h9 => h9) rfl (by decide +kernel) rfl rfl (Nat.le_of_ble_eq_true rfl) dX5_call_104 (fun H locs hP hD hS => ?_)
        have hP : va_P (dC, dI) vwCl [(h0, kO5 h1 n0_size h2 (n0_ran + 1)), (h1, kAi cint 50 f1), (h2, kAi cint 24 f2)] H := hP
        have hD : va_D A [(h0, kO5 h1 n0_size h2 (n0_ran + 1)), (h1, kAi cint 50 f1), (h2, kAi cint 24 f2)] := hD
        have hp_30 : kk_P f2 f2 n0_ran.toInt (n0_ran + 1 : Int32).toInt [10] := kk_P_out (by have := kk_add2 (x := n0_ran) (y := 1) (a := n0_ran.toInt) (b := 1) rfl rfl (by omega) (by omega); omega) (by have := kk_add2 (x := n0_ran) (y := 1) (a := n0_ran.toInt) (b := 1) rfl rfl (by omega) (by omega); omega)
        refine lv_iload hx hb dX5_call_107 (lv_at hl 1 rfl) ?_
        refine lv_if_ne (tgt := 128) hx hb dX5_call_109 (by decide) (fun c => absurd c (by decide)) (fun _ => ?_)
        refine lv_aload_n hx hb dX5_call_112 rfl (lv_at hl 2 rfl) ?_
        refine lv_iload_n hx hb dX5_call_113 rfl (lv_at hl 3 rfl) ?_
        refine lv_iload hx hb dX5_call_114 (lv_at hl 0 rfl) ?_
        refine lv_iload hx hb dX5_call_116 (lv_at hl 6 rfl) ?_
        refine lv_iload hx hb dX5_call_118 (lv_at hl 7 rfl) ?_
        refine lv_iconst (v := 1) hx hb dX5_call_120 kk_ic_1 ?_
        refine lv_iadd hx hb dX5_call_121 ?_
        obtain ⟨hPc, hDc, hFc⟩ := kk_cutout (wc := [(h0, kO5 h1 n0_size h2 (n0_ran + 1)), (h1, kAi cint 50 f1), (h2, kAi cint 24 f2)]) hP hD hS hA [0, 1, 2] (by decide) rfl
        have hKc := kk_Ks (tq := [(cint, .int)]) hK [0] rfl
        refine va_calli (va_runV (As := [.int p0, .int 10, .int p3, .int (p4 + 1)]) (rest := []) ⟨hx, hb, hml, hown, hts⟩ (g_X5_runLine_5 l dC dI h0 h1 h2 cint H.size p0 p3 (p4 + 1) (by show 0 ≤ ((p4 + 1) : Int32).toInt ∧ ((p4 + 1) : Int32).toInt ≤ 9; first | with_reducible assumption | (constructor <;> (have := kk_add2 (x := n0_ran) (y := 1) (a := n0_ran.toInt) (b := 1) rfl rfl (by omega) (by omega); have := kk_add2 (x := p4) (y := 1) (a := p4.toInt) (b := 1) rfl rfl (by omega) (by omega); omega))) n0_size (n0_ran + 1) f1 f2 tn0_size (by show 0 ≤ ((n0_ran + 1) : Int32).toInt ∧ ((n0_ran + 1) : Int32).toInt ≤ 997; first | with_reducible assumption | (constructor <;> (have := kk_add2 (x := n0_ran) (y := 1) (a := n0_ran.toInt) (b := 1) rfl rfl (by omega) (by omega); have := kk_add2 (x := p4) (y := 1) (a := p4.toInt) (b := 1) rfl rfl (by omega) (by omega); omega))) bf1 (by show (0 ≤ (p0 : Int32).toInt ∧ (p0 : Int32).toInt < (n0_size : Int32).toInt); first | with_reducible assumption | (have := kk_add2 (x := n0_ran) (y := 1) (a := n0_ran.toInt) (b := 1) rfl rfl (by omega) (by omega); have := kk_add2 (x := p4) (y := 1) (a := p4.toInt) (b := 1) rfl rfl (by omega) (by omega); omega)) aOWN_BODIES aABOVE) (cwV 4 hts gX5_call_X5_runLine rfl rfl rfl ⟨rfl, kh_X5_runLine⟩ ⟨Nat.le_of_ble_eq_true rfl, Nat.le_of_ble_eq_true rfl⟩) ⟨fun a U g mk q => by obtain ⟨q0, q1, qP, qK, qD, qx0, qx1, qx2, qx3⟩ := q; exact ⟨q0, q1, qP, va_K.moved (u := U) (U := U.calling g mk a) (Vm.Alike.refl U.vm) qK, qD, va_Z.moved (u := U) (U := U.calling g mk a) (Vm.Alike.refl U.vm) qx0, va_T.moved (u := U) (U := U.calling g mk a) (Vm.Alike.refl U.vm) qx1, va_Z.moved (u := U) (U := U.calling g mk a) (Vm.Alike.refl U.vm) qx2, va_T.moved (u := U) (U := U.calling g mk a) (Vm.Alike.refl U.vm) qx3⟩, va_recv hKc hPc (ci := 5) (q0 := 0) rfl rfl, fun U hU hW => ⟨rfl, by rw [hU], by rw [hU]; exact hPc, va_K.moved hW.alike hKc, hDc.weaken (fun _ _ _ _ => trivial), by rw [hU]; exact ((hZOWN_BODIES.kept (fun a h1 h2 => hS.2.1 a h1 h2)).narrow hFc).moved hW.alike, by rw [hU]; exact ((hTOWN_BODIES.kept (fun a h1 h2 => hS.2.1 a h1 h2)).narrow hFc).moved hW.alike, by rw [hU]; exact ((hZABOVE.kept (fun a h1 h2 => hS.2.1 a h1 h2)).narrow hFc).moved hW.alike, by rw [hU]; exact ((hTABOVE.kept (fun a h1 h2 => hS.2.1 a h1 h2)).narrow hFc).moved hW.alike⟩⟩ rfl rfl hl.1 rfl (lv_room (Nat.le_of_ble_eq_true rfl)) dX5_call_122 ⟨Nat.le_of_ble_eq_true rfl, Nat.le_of_ble_eq_true rfl⟩) hS (fun q _ h => hFc q h) hFc (fun r_31 u t H1 locs ht hvm hw hB hz1 hk1 hS => ?_)
        obtain ⟨y_32, f_33, by_32, v_33_0, hn_33_0, hP1, hK1, hD1⟩ := hB
        have v_33_0 : y_32.toInt ≤ (n0_ran + 1).toInt + 3 := v_33_0
        have hn_33_0 : kk_P f2 f_33 (n0_ran + 1).toInt y_32.toInt ((kt_breaks (f1 (p0 : Int32).toNatClampNeg) 0).tail) := hn_33_0
        rw [ht] at hP1
        have hK1 := va_K.moved hvm.symm hK1
        obtain ⟨hP, hD⟩ := va_join (wr := []) (w1 := [(h0, kO5 h1 n0_size h2 y_32), (h1, kAi cint 50 f1), (h2, kAi cint 24 f_33)]) hP hD [0, 1, 2] [] rfl rfl (by decide) (by decide) hk1 hFc hP1 hD1
        generalize H1 = H at hP hS ⊢
        have hP : va_P (dC, dI) vwCl [(h0, kO5 h1 n0_size h2 y_32), (h1, kAi cint 50 f1), (h2, kAi cint 24 f_33)] H := hP
        have hD : va_D A [(h0, kO5 h1 n0_size h2 y_32), (h1, kAi cint 50 f1), (h2, kAi cint 24 f_33)] := hD
        rcases hw with ⟨t_31_0, _⟩
        · skip
          have t_31_0 : r_31 = kk_breaks (f1 (p0 : Int32).toNatClampNeg) 0 p0 p3 := t_31_0
          obtain rfl : r_31 = (kk_breaks (f1 (p0 : Int32).toNatClampNeg) 0 p0 p3) := t_31_0
          refine lv_goto (tgt := 143) hx hb dX5_call_125 (by decide) ?_
          obtain ⟨hP9, hD9⟩ := kk_leafout (wc := [(h0, kO5 h1 n0_size h2 y_32), (h1, kAi cint 50 f1), (h2, kAi cint 24 f_33)]) hP hD [0, 1, 2] (by decide) rfl
          have hK9 := kk_Ks (tq := []) hK [] rfl
          exact W.iret (v := (kk_breaks (f1 (p0 : Int32).toNatClampNeg) 0 p0 p3)) hx hb hr (fun t ht hW => ⟨⟨(kk_breaks (f1 (p0 : Int32).toNatClampNeg) 0 p0 p3), (), rfl, ⟨(by first | rfl | (unfold kk_breaks; (repeat' split) <;> first | rfl | (exfalso; have : (0 : Int32).toInt = 0 := rfl; have : (1 : Int32).toInt = 1 := rfl; have : (2 : Int32).toInt = 2 := rfl; have : (3 : Int32).toInt = 3 := rfl; have : (4 : Int32).toInt = 4 := rfl; have : (5 : Int32).toInt = 5 := rfl; have : (6 : Int32).toInt = 6 := rfl; have : (7 : Int32).toInt = 7 := rfl; have := kk_add2 (x := n0_ran) (y := 1) (a := n0_ran.toInt) (b := 1) rfl rfl (by omega) (by omega); have := kk_add2 (x := p4) (y := 1) (a := p4.toInt) (b := 1) rfl rfl (by omega) (by omega); omega))), trivial⟩, y_32, f_33, (by show 1 ≤ (y_32 : Int32).toInt ∧ (y_32 : Int32).toInt ≤ 1000; first | with_reducible assumption | (constructor <;> (have := kk_add2 (x := n0_ran) (y := 1) (a := n0_ran.toInt) (b := 1) rfl rfl (by omega) (by omega); have := kk_add2 (x := p4) (y := 1) (a := p4.toInt) (b := 1) rfl rfl (by omega) (by omega); omega))), (by show (y_32 : Int32).toInt ≤ (n0_ran : Int32).toInt + 11; first | with_reducible assumption | (have := kk_add2 (x := n0_ran) (y := 1) (a := n0_ran.toInt) (b := 1) rfl rfl (by omega) (by omega); have := kk_add2 (x := p4) (y := 1) (a := p4.toInt) (b := 1) rfl rfl (by omega) (by omega); omega)), (by first | exact kk_P_eq (kk_P_trans hp_30 hn_33_0) rfl | (unfold kt_breaks; (repeat' split) <;> first | exact kk_P_eq (kk_P_trans hp_30 hn_33_0) rfl | (exfalso; have : (0 : Int32).toInt = 0 := rfl; have : (1 : Int32).toInt = 1 := rfl; have : (2 : Int32).toInt = 2 := rfl; have : (3 : Int32).toInt = 3 := rfl; have : (4 : Int32).toInt = 4 := rfl; have : (5 : Int32).toInt = 5 := rfl; have : (6 : Int32).toInt = 6 := rfl; have : (7 : Int32).toInt = 7 := rfl; have := kk_add2 (x := n0_ran) (y := 1) (a := n0_ran.toInt) (b := 1) rfl rfl (by omega) (by omega); have := kk_add2 (x := p4) (y := 1) (a := p4.toInt) (b := 1) rfl rfl (by omega) (by omega); omega))), by rw [ht]; exact hP9, va_K.moved hW.alike hK9, hD9⟩, hS.F ht⟩) hS.2.2 dX5_call_143
      · have t_29 : n0_ran.toInt < 24 := kk_nle c_29
        refine lv_aload_n hx hb dX5_call_86 rfl (lv_at hl 2 rfl) ?_
        refine va_get (D := (dC, dI)) (ci := 5) (v := .ref h2) (C := RX5) (T := TX5) (N := 4) hx hb hts (fun _ h => List.mem_cons_of_mem _ (List.mem_append_right _ h)) hown hK hP 0 rfl rfl 2 (by decide) (hts (.fieldLink RX5 15 "KinkStreet$Lines" "trace" "[I") (List.mem_of_getElem? (i := 4) rfl)) (fun _ h9 => h9) rfl dX5_call_87 ?_
        refine lv_aload_n hx hb dX5_call_90 rfl (lv_at hl 2 rfl) ?_
        refine va_get (D := (dC, dI)) (ci := 5) (v := .int n0_ran) (C := RX5) (T := TX5) (N := 4) hx hb hts (fun _ h => List.mem_cons_of_mem _ (List.mem_append_right _ h)) hown hK hP 0 rfl rfl 3 (by decide) (hts (.fieldLink RX5 36 "KinkStreet$Lines" "ran" "I") (List.mem_of_getElem? (i := 3) rfl)) (fun _ h9 => h9) rfl dX5_call_91 ?_
        refine lv_iload hx hb dX5_call_94 (lv_at hl 0 rfl) ?_
        refine va_iast hx hb hK hP hD hS 2 0 rfl rfl (vp_in_iff.mpr ⟨by omega, by omega⟩) dX5_call_96 (fun H locs hP hD hS => ?_)
        have w_34 : ((upd f2 (n0_ran : Int32).toNatClampNeg 10) (n0_ran : Int32).toNatClampNeg).toInt = (10 : Int32).toInt := by rw [kk_ups]
        have hP : va_P (dC, dI) vwCl [(h0, kO5 h1 n0_size h2 n0_ran), (h1, kAi cint 50 f1), (h2, kAi cint 24 (upd f2 (n0_ran : Int32).toNatClampNeg 10))] H := hP
        have hD : va_D A [(h0, kO5 h1 n0_size h2 n0_ran), (h1, kAi cint 50 f1), (h2, kAi cint 24 (upd f2 (n0_ran : Int32).toNatClampNeg 10))] := hD
        refine lv_aload_n hx hb dX5_call_97 rfl (lv_at hl 2 rfl) ?_
        refine lv_dup hx hb dX5_call_98 rfl ?_
        refine va_get (D := (dC, dI)) (ci := 5) (v := .int n0_ran) (C := RX5) (T := TX5) (N := 4) hx hb hts (fun _ h => List.mem_cons_of_mem _ (List.mem_append_right _ h)) hown hK hP 0 rfl rfl 3 (by decide) (hts (.fieldLink RX5 36 "KinkStreet$Lines" "ran" "I") (List.mem_of_getElem? (i := 3) rfl)) (fun _ h9 => h9) rfl dX5_call_99 ?_
        refine lv_iconst (v := 1) hx hb dX5_call_102 kk_ic_1 ?_
        refine lv_iadd hx hb dX5_call_103 ?_
        refine va_put (D := (dC, dI)) (ci := 5) (v := .int (n0_ran + 1)) (ty := .int) (C := RX5) (T := TX5) (N := 4) hx hb hts (fun _ h => List.mem_cons_of_mem _ (List.mem_append_right _ h)) tyX5 tyX5_ok nmX5 hown hK hP hD hS 0 rfl rfl 3 (by decide) (hts (.fieldLink RX5 36 "KinkStreet$Lines" "ran" "I") (List.mem_of_getElem? (i := 3) rfl)) (fun _ h9 => h9) rfl (by decide +kernel) rfl rfl (Nat.le_of_ble_eq_true rfl) dX5_call_104 (fun H locs hP hD hS => ?_)
        have hP : va_P (dC, dI) vwCl [(h0, kO5 h1 n0_size h2 (n0_ran + 1)), (h1, kAi cint 50 f1), (h2, kAi cint 24 (upd f2 (n0_ran : Int32).toNatClampNeg 10))] H := hP
        have hD : va_D A [(h0, kO5 h1 n0_size h2 (n0_ran + 1)), (h1, kAi cint 50 f1), (h2, kAi cint 24 (upd f2 (n0_ran : Int32).toNatClampNeg 10))] := hD
        have hp_35 : kk_P f2 (upd f2 (n0_ran : Int32).toNatClampNeg 10) n0_ran.toInt (n0_ran + 1 : Int32).toInt [10] := kk_P_one (by have := kk_add2 (x := n0_ran) (y := 1) (a := n0_ran.toInt) (b := 1) rfl rfl (by omega) (by omega); omega) (by have := kk_add2 (x := n0_ran) (y := 1) (a := n0_ran.toInt) (b := 1) rfl rfl (by omega) (by omega); omega)
        refine lv_iload hx hb dX5_call_107 (lv_at hl 1 rfl) ?_
        refine lv_if_ne (tgt := 128) hx hb dX5_call_109 (by decide) (fun c => absurd c (by decide)) (fun _ => ?_)
        refine lv_aload_n hx hb dX5_call_112 rfl (lv_at hl 2 rfl) ?_
        refine lv_iload_n hx hb dX5_call_113 rfl (lv_at hl 3 rfl) ?_
        refine lv_iload hx hb dX5_call_114 (lv_at hl 0 rfl) ?_
        refine lv_iload hx hb dX5_call_116 (lv_at hl 6 rfl) ?_
        refine lv_iload hx hb dX5_call_118 (lv_at hl 7 rfl) ?_
        refine lv_iconst (v := 1) hx hb dX5_call_120 kk_ic_1 ?_
        refine lv_iadd hx hb dX5_call_121 ?_
        obtain ⟨hPc, hDc, hFc⟩ := kk_cutout (wc := [(h0, kO5 h1 n0_size h2 (n0_ran + 1)), (h1, kAi cint 50 f1), (h2, kAi cint 24 (upd f2 (n0_ran : Int32).toNatClampNeg 10))]) hP hD hS hA [0, 1, 2] (by decide) rfl
        have hKc := kk_Ks (tq := [(cint, .int)]) hK [0] rfl
        refine va_calli (va_runV (As := [.int p0, .int 10, .int p3, .int (p4 + 1)]) (rest := []) ⟨hx, hb, hml, hown, hts⟩ (g_X5_runLine_5 l dC dI h0 h1 h2 cint H.size p0 p3 (p4 + 1) (by show 0 ≤ ((p4 + 1) : Int32).toInt ∧ ((p4 + 1) : Int32).toInt ≤ 9; first | with_reducible assumption | (constructor <;> (have := kk_add2 (x := n0_ran) (y := 1) (a := n0_ran.toInt) (b := 1) rfl rfl (by omega) (by omega); have := kk_add2 (x := p4) (y := 1) (a := p4.toInt) (b := 1) rfl rfl (by omega) (by omega); omega))) n0_size (n0_ran + 1) f1 (upd f2 (n0_ran : Int32).toNatClampNeg 10) tn0_size (by show 0 ≤ ((n0_ran + 1) : Int32).toInt ∧ ((n0_ran + 1) : Int32).toInt ≤ 997; first | with_reducible assumption | (constructor <;> (have := kk_add2 (x := n0_ran) (y := 1) (a := n0_ran.toInt) (b := 1) rfl rfl (by omega) (by omega); have := kk_add2 (x := p4) (y := 1) (a := p4.toInt) (b := 1) rfl rfl (by omega) (by omega); omega))) bf1 (by show (0 ≤ (p0 : Int32).toInt ∧ (p0 : Int32).toInt < (n0_size : Int32).toInt); first | with_reducible assumption | (have := kk_add2 (x := n0_ran) (y := 1) (a := n0_ran.toInt) (b := 1) rfl rfl (by omega) (by omega); have := kk_add2 (x := p4) (y := 1) (a := p4.toInt) (b := 1) rfl rfl (by omega) (by omega); omega)) aOWN_BODIES aABOVE) (cwV 4 hts gX5_call_X5_runLine rfl rfl rfl ⟨rfl, kh_X5_runLine⟩ ⟨Nat.le_of_ble_eq_true rfl, Nat.le_of_ble_eq_true rfl⟩) ⟨fun a U g mk q => by obtain ⟨q0, q1, qP, qK, qD, qx0, qx1, qx2, qx3⟩ := q; exact ⟨q0, q1, qP, va_K.moved (u := U) (U := U.calling g mk a) (Vm.Alike.refl U.vm) qK, qD, va_Z.moved (u := U) (U := U.calling g mk a) (Vm.Alike.refl U.vm) qx0, va_T.moved (u := U) (U := U.calling g mk a) (Vm.Alike.refl U.vm) qx1, va_Z.moved (u := U) (U := U.calling g mk a) (Vm.Alike.refl U.vm) qx2, va_T.moved (u := U) (U := U.calling g mk a) (Vm.Alike.refl U.vm) qx3⟩, va_recv hKc hPc (ci := 5) (q0 := 0) rfl rfl, fun U hU hW => ⟨rfl, by rw [hU], by rw [hU]; exact hPc, va_K.moved hW.alike hKc, hDc.weaken (fun _ _ _ _ => trivial), by rw [hU]; exact ((hZOWN_BODIES.kept (fun a h1 h2 => hS.2.1 a h1 h2)).narrow hFc).moved hW.alike, by rw [hU]; exact ((hTOWN_BODIES.kept (fun a h1 h2 => hS.2.1 a h1 h2)).narrow hFc).moved hW.alike, by rw [hU]; exact ((hZABOVE.kept (fun a h1 h2 => hS.2.1 a h1 h2)).narrow hFc).moved hW.alike, by rw [hU]; exact ((hTABOVE.kept (fun a h1 h2 => hS.2.1 a h1 h2)).narrow hFc).moved hW.alike⟩⟩ rfl rfl hl.1 rfl (lv_room (Nat.le_of_ble_eq_true rfl)) dX5_call_122 ⟨Nat.le_of_ble_eq_true rfl, Nat.le_of_ble_eq_true rfl⟩) hS (fun q _ h => hFc q h) hFc (fun r_36 u t H1 locs ht hvm hw hB hz1 hk1 hS => ?_)
        obtain ⟨y_37, f_38, by_37, v_38_0, hn_38_0, hP1, hK1, hD1⟩ := hB
        have v_38_0 : y_37.toInt ≤ (n0_ran + 1).toInt + 3 := v_38_0
        have hn_38_0 : kk_P (upd f2 (n0_ran : Int32).toNatClampNeg 10) f_38 (n0_ran + 1).toInt y_37.toInt ((kt_breaks (f1 (p0 : Int32).toNatClampNeg) 0).tail) := hn_38_0
        rw [ht] at hP1
        have hK1 := va_K.moved hvm.symm hK1
        obtain ⟨hP, hD⟩ := va_join (wr := []) (w1 := [(h0, kO5 h1 n0_size h2 y_37), (h1, kAi cint 50 f1), (h2, kAi cint 24 f_38)]) hP hD [0, 1, 2] [] rfl rfl (by decide) (by decide) hk1 hFc hP1 hD1
        generalize H1 = H at hP hS ⊢
        have hP : va_P (dC, dI) vwCl [(h0, kO5 h1 n0_size h2 y_37), (h1, kAi cint 50 f1), (h2, kAi cint 24 f_38)] H := hP
        have hD : va_D A [(h0, kO5 h1 n0_size h2 y_37), (h1, kAi cint 50 f1), (h2, kAi cint 24 f_38)] := hD
        rcases hw with ⟨t_36_0, _⟩
        · skip
          have t_36_0 : r_36 = kk_breaks (f1 (p0 : Int32).toNatClampNeg) 0 p0 p3 := t_36_0
          obtain rfl : r_36 = (kk_breaks (f1 (p0 : Int32).toNatClampNeg) 0 p0 p3) := t_36_0
          refine lv_goto (tgt := 143) hx hb dX5_call_125 (by decide) ?_
          obtain ⟨hP9, hD9⟩ := kk_leafout (wc := [(h0, kO5 h1 n0_size h2 y_37), (h1, kAi cint 50 f1), (h2, kAi cint 24 f_38)]) hP hD [0, 1, 2] (by decide) rfl
          have hK9 := kk_Ks (tq := []) hK [] rfl
          exact W.iret (v := (kk_breaks (f1 (p0 : Int32).toNatClampNeg) 0 p0 p3)) hx hb hr (fun t ht hW => ⟨⟨(kk_breaks (f1 (p0 : Int32).toNatClampNeg) 0 p0 p3), (), rfl, ⟨(by first | rfl | (unfold kk_breaks; (repeat' split) <;> first | rfl | (exfalso; have : (0 : Int32).toInt = 0 := rfl; have : (1 : Int32).toInt = 1 := rfl; have : (2 : Int32).toInt = 2 := rfl; have : (3 : Int32).toInt = 3 := rfl; have : (4 : Int32).toInt = 4 := rfl; have : (5 : Int32).toInt = 5 := rfl; have : (6 : Int32).toInt = 6 := rfl; have : (7 : Int32).toInt = 7 := rfl; have := kk_add2 (x := n0_ran) (y := 1) (a := n0_ran.toInt) (b := 1) rfl rfl (by omega) (by omega); have := kk_add2 (x := p4) (y := 1) (a := p4.toInt) (b := 1) rfl rfl (by omega) (by omega); omega))), trivial⟩, y_37, f_38, (by show 1 ≤ (y_37 : Int32).toInt ∧ (y_37 : Int32).toInt ≤ 1000; first | with_reducible assumption | (constructor <;> (have := kk_add2 (x := n0_ran) (y := 1) (a := n0_ran.toInt) (b := 1) rfl rfl (by omega) (by omega); have := kk_add2 (x := p4) (y := 1) (a := p4.toInt) (b := 1) rfl rfl (by omega) (by omega); omega))), (by show (y_37 : Int32).toInt ≤ (n0_ran : Int32).toInt + 11; first | with_reducible assumption | (have := kk_add2 (x := n0_ran) (y := 1) (a := n0_ran.toInt) (b := 1) rfl rfl (by omega) (by omega); have := kk_add2 (x := p4) (y := 1) (a := p4.toInt) (b := 1) rfl rfl (by omega) (by omega); omega)), (by first | exact kk_P_eq (kk_P_trans hp_35 hn_38_0) rfl | (unfold kt_breaks; (repeat' split) <;> first | exact kk_P_eq (kk_P_trans hp_35 hn_38_0) rfl | (exfalso; have : (0 : Int32).toInt = 0 := rfl; have : (1 : Int32).toInt = 1 := rfl; have : (2 : Int32).toInt = 2 := rfl; have : (3 : Int32).toInt = 3 := rfl; have : (4 : Int32).toInt = 4 := rfl; have : (5 : Int32).toInt = 5 := rfl; have : (6 : Int32).toInt = 6 := rfl; have : (7 : Int32).toInt = 7 := rfl; have := kk_add2 (x := n0_ran) (y := 1) (a := n0_ran.toInt) (b := 1) rfl rfl (by omega) (by omega); have := kk_add2 (x := p4) (y := 1) (a := p4.toInt) (b := 1) rfl rfl (by omega) (by omega); omega))), by rw [ht]; exact hP9, va_K.moved hW.alike hK9, hD9⟩, hS.F ht⟩) hS.2.2 dX5_call_143
    · have t_26 : 40 < p4.toInt := kk_nle c_26
      exfalso; omega
  · have t_1 : p1.toInt = 2 := by rw [e_1]; rfl
    subst e_1
    refine lv_iload_n hx hb dX5_call_0 rfl (lv_at hl 2 rfl) ?_
    refine lv_istore hx hb dX5_call_1 hl (by decide) (rfl : _ = ([(6, .int 2), (0, .ref h0), (1, .int p0), (2, .int 2), (3, .int 1), (4, .int p3), (5, .int p4)] : List (Nat × Value))) (fun ls hl => ?_)
    refine lv_iconst (v := 0) hx hb dX5_call_3 kk_ic_0 ?_
    refine lv_istore hx hb dX5_call_4 hl (by decide) (rfl : _ = ([(7, .int 0), (6, .int 2), (0, .ref h0), (1, .int p0), (2, .int 2), (3, .int 1), (4, .int p3), (5, .int p4)] : List (Nat × Value))) (fun ls hl => ?_)
    refine lv_iload hx hb dX5_call_6 (lv_at hl 0 rfl) ?_
    refine lv_bipush (v := 8) hx hb dX5_call_8 kk_bi_8 ?_
    refine lv_icmp_ge (tgt := 48) hx hb dX5_call_10 (by decide) (fun c => absurd c (by decide)) (fun _ => ?_)
    refine lv_iload hx hb dX5_call_13 (lv_at hl 1 rfl) ?_
    obtain ⟨hPc, hDc, hFc⟩ := kk_cutout (wc := []) hP hD hS hA [] (by decide) rfl
    have hKc := kk_Ks (tq := []) hK [] rfl
    refine va_calli (va_runS (As := [.int 2]) (rest := []) ⟨hx, hb, hml, hown, hts⟩ (g_X5_isKind_13 l dC dI s.heap.size) (va_cwS 1 hts gX5_call_X5_isKind rfl rfl rfl kh_X5_isKind ⟨Nat.le_of_ble_eq_true rfl, Nat.le_of_ble_eq_true rfl⟩) ⟨fun a U g mk q => by obtain ⟨q0, q1, qP, qK, qD⟩ := q; exact ⟨q0, q1, qP, va_K.moved (u := U) (U := U.calling g mk a) (Vm.Alike.refl U.vm) qK, qD⟩, fun U hU hW => ⟨rfl, by rw [hU], by rw [hU]; exact hPc, va_K.moved hW.alike hKc, hDc.weaken (fun _ _ _ _ => trivial)⟩⟩ rfl rfl hl.1 rfl (lv_room (Nat.le_of_ble_eq_true rfl)) dX5_call_15 ⟨Nat.le_of_ble_eq_true rfl, Nat.le_of_ble_eq_true rfl⟩) hS (fun q _ h => hFc q h) hFc (fun r_39 u t H1 locs ht hvm hw hB hz1 hk1 hS => ?_)
    obtain ⟨hP1, hK1, hD1⟩ := hB
    rw [ht] at hP1
    have hK1 := va_K.moved hvm.symm hK1
    obtain ⟨hP, hD⟩ := va_join (wr := [(h0, kO5 h1 n0_size h2 n0_ran), (h1, kAi cint 50 f1), (h2, kAi cint 24 f2)]) (w1 := []) hP hD [] [0, 1, 2] rfl rfl (by decide) (by decide) hk1 hFc hP1 hD1
    generalize H1 = H at hP hS ⊢
    have hP : va_P (dC, dI) vwCl [(h0, kO5 h1 n0_size h2 n0_ran), (h1, kAi cint 50 f1), (h2, kAi cint 24 f2)] H := hP
    have hD : va_D A [(h0, kO5 h1 n0_size h2 n0_ran), (h1, kAi cint 50 f1), (h2, kAi cint 24 f2)] := hD
    obtain rfl := hw
    refine lv_if_eq (tgt := 48) hx hb dX5_call_18 (by decide) (fun c => absurd c (by decide)) (fun _ => ?_)
    refine va_gets hx hb hZOWN_BODIES hS hown (hts (.fieldLink RX5 43 "KinkStreet$Lines" "OWN_BODIES" "[I") (List.mem_of_getElem? (i := 1) rfl)) (fun _ h9 => h9) dX5_call_21 ?_
    refine lv_iload hx hb dX5_call_24 (lv_at hl 1 rfl) ?_
    refine lv_iconst (v := 4) hx hb dX5_call_26 kk_ic_4 ?_
    refine lv_imul hx hb dX5_call_27 ?_
    refine lv_topi (fun y_40 e_40 => ?_)
    obtain rfl : y_40 = 8 := e_40.trans (by decide)
    refine lv_iload_n hx hb dX5_call_28 rfl (lv_at hl 5 rfl) ?_
    refine lv_iadd hx hb dX5_call_29 ?_
    refine lv_topi (fun y_41 e_41 => ?_)
    obtain rfl : y_41 = 9 := e_41.trans (by decide)
    refine va_ti (v := .int 30) hx hb hTOWN_BODIES hS (by unfold vp_in; decide) rfl dX5_call_30 ?_
    refine lv_if_ne (tgt := 48) hx hb dX5_call_31 (by decide) (fun _ => ?_) (fun c => absurd c (by decide))
    refine lv_iload hx hb dX5_call_48 (lv_at hl 1 rfl) ?_
    obtain ⟨hPc, hDc, hFc⟩ := kk_cutout (wc := []) hP hD hS hA [] (by decide) rfl
    have hKc := kk_Ks (tq := []) hK [] rfl
    refine va_calli (va_runS (As := [.int 2]) (rest := []) ⟨hx, hb, hml, hown, hts⟩ (g_X5_isKind_13 l dC dI H.size) (va_cwS 1 hts gX5_call_X5_isKind rfl rfl rfl kh_X5_isKind ⟨Nat.le_of_ble_eq_true rfl, Nat.le_of_ble_eq_true rfl⟩) ⟨fun a U g mk q => by obtain ⟨q0, q1, qP, qK, qD⟩ := q; exact ⟨q0, q1, qP, va_K.moved (u := U) (U := U.calling g mk a) (Vm.Alike.refl U.vm) qK, qD⟩, fun U hU hW => ⟨rfl, by rw [hU], by rw [hU]; exact hPc, va_K.moved hW.alike hKc, hDc.weaken (fun _ _ _ _ => trivial)⟩⟩ rfl rfl hl.1 rfl (lv_room (Nat.le_of_ble_eq_true rfl)) dX5_call_50 ⟨Nat.le_of_ble_eq_true rfl, Nat.le_of_ble_eq_true rfl⟩) hS (fun q _ h => hFc q h) hFc (fun r_42 u t H1 locs ht hvm hw hB hz1 hk1 hS => ?_)
    obtain ⟨hP1, hK1, hD1⟩ := hB
    rw [ht] at hP1
    have hK1 := va_K.moved hvm.symm hK1
    obtain ⟨hP, hD⟩ := va_join (wr := [(h0, kO5 h1 n0_size h2 n0_ran), (h1, kAi cint 50 f1), (h2, kAi cint 24 f2)]) (w1 := []) hP hD [] [0, 1, 2] rfl rfl (by decide) (by decide) hk1 hFc hP1 hD1
    generalize H1 = H at hP hS ⊢
    have hP : va_P (dC, dI) vwCl [(h0, kO5 h1 n0_size h2 n0_ran), (h1, kAi cint 50 f1), (h2, kAi cint 24 f2)] H := hP
    have hD : va_D A [(h0, kO5 h1 n0_size h2 n0_ran), (h1, kAi cint 50 f1), (h2, kAi cint 24 f2)] := hD
    obtain rfl := hw
    refine lv_if_eq (tgt := 63) hx hb dX5_call_53 (by decide) (fun c => absurd c (by decide)) (fun _ => ?_)
    refine lv_iload hx hb dX5_call_56 (lv_at hl 7 rfl) ?_
    refine lv_bipush (v := 40) hx hb dX5_call_58 kk_bi_40 ?_
    refine lv_icmp_le (tgt := 65) hx hb dX5_call_60 (by decide) (fun c_43 => ?_) (fun c_43 => ?_)
    · have t_43 : p4.toInt ≤ 40 := kk_le c_43
      refine va_gets hx hb hZOWN_BODIES hS hown (hts (.fieldLink RX5 43 "KinkStreet$Lines" "OWN_BODIES" "[I") (List.mem_of_getElem? (i := 1) rfl)) (fun _ h9 => h9) dX5_call_65 ?_
      refine lv_iload hx hb dX5_call_68 (lv_at hl 1 rfl) ?_
      refine lv_iconst (v := 4) hx hb dX5_call_70 kk_ic_4 ?_
      refine lv_imul hx hb dX5_call_71 ?_
      refine lv_topi (fun y_44 e_44 => ?_)
      obtain rfl : y_44 = 8 := e_44.trans (by decide)
      refine lv_iload_n hx hb dX5_call_72 rfl (lv_at hl 5 rfl) ?_
      refine lv_iadd hx hb dX5_call_73 ?_
      refine lv_topi (fun y_45 e_45 => ?_)
      obtain rfl : y_45 = 9 := e_45.trans (by decide)
      refine va_ti (v := .int 30) hx hb hTOWN_BODIES hS (by unfold vp_in; decide) rfl dX5_call_74 ?_
      refine lv_istore hx hb dX5_call_75 hl (by decide) (rfl : _ = ([(7, .int 30), (6, .int 2), (0, .ref h0), (1, .int p0), (2, .int 2), (3, .int 1), (4, .int p3), (5, .int p4)] : List (Nat × Value))) (fun ls hl => ?_)
      refine lv_aload_n hx hb dX5_call_77 rfl (lv_at hl 2 rfl) ?_
      refine va_get (D := (dC, dI)) (ci := 5) (v := .int n0_ran) (C := RX5) (T := TX5) (N := 4) hx hb hts (fun _ h => List.mem_cons_of_mem _ (List.mem_append_right _ h)) hown hK hP 0 rfl rfl 3 (by decide) (hts (.fieldLink RX5 36 "KinkStreet$Lines" "ran" "I") (List.mem_of_getElem? (i := 3) rfl)) (fun _ h9 => h9) rfl dX5_call_78 ?_
      refine lv_bipush (v := 24) hx hb dX5_call_81 kk_bi_24 ?_
      refine lv_icmp_ge (tgt := 97) hx hb dX5_call_83 (by decide) (fun c_46 => ?_) (fun c_46 => ?_)
      · have t_46 : 24 ≤ n0_ran.toInt := kk_le c_46
        refine lv_aload_n hx hb dX5_call_97 rfl (lv_at hl 2 rfl) ?_
        refine lv_dup hx hb dX5_call_98 rfl ?_
        refine va_get (D := (dC, dI)) (ci := 5) (v := .int n0_ran) (C := RX5) (T := TX5) (N := 4) hx hb hts (fun _ h => List.mem_cons_of_mem _ (List.mem_append_right _ h)) hown hK hP 0 rfl rfl 3 (by decide) (hts (.fieldLink RX5 36 "KinkStreet$Lines" "ran" "I") (List.mem_of_getElem? (i := 3) rfl)) (fun _ h9 => h9) rfl dX5_call_99 ?_
        refine lv_iconst (v := 1) hx hb dX5_call_102 kk_ic_1 ?_
        refine lv_iadd hx hb dX5_call_103 ?_
        refine va_put (D := (dC, dI)) (ci := 5) (v := .int (n0_ran + 1)) (ty := .int) (C := RX5) (T := TX5) (N := 4) hx hb hts (fun _ h => List.mem_cons_of_mem _ (List.mem_append_right _ h)) tyX5 tyX5_ok nmX5 hown hK hP hD hS 0 rfl rfl 3 (by decide) (hts (.fieldLink RX5 36 "KinkStreet$Lines" "ran" "I") (List.mem_of_getElem? (i := 3) rfl)) (fun _ h9 => h9) rfl (by decide +kernel) rfl rfl (Nat.le_of_ble_eq_true rfl) dX5_call_104 (fun H locs hP hD hS => ?_)
        have hP : va_P (dC, dI) vwCl [(h0, kO5 h1 n0_size h2 (n0_ran + 1)), (h1, kAi cint 50 f1), (h2, kAi cint 24 f2)] H := hP
        have hD : va_D A [(h0, kO5 h1 n0_size h2 (n0_ran + 1)), (h1, kAi cint 50 f1), (h2, kAi cint 24 f2)] := hD
        have hp_47 : kk_P f2 f2 n0_ran.toInt (n0_ran + 1 : Int32).toInt [30] := kk_P_out (by have := kk_add2 (x := n0_ran) (y := 1) (a := n0_ran.toInt) (b := 1) rfl rfl (by omega) (by omega); omega) (by have := kk_add2 (x := n0_ran) (y := 1) (a := n0_ran.toInt) (b := 1) rfl rfl (by omega) (by omega); omega)
        refine lv_iload hx hb dX5_call_107 (lv_at hl 1 rfl) ?_
        refine lv_if_ne (tgt := 128) hx hb dX5_call_109 (by decide) (fun _ => ?_) (fun c => absurd c (by decide))
        refine lv_aload_n hx hb dX5_call_128 rfl (lv_at hl 2 rfl) ?_
        refine lv_iload_n hx hb dX5_call_129 rfl (lv_at hl 3 rfl) ?_
        refine lv_iload hx hb dX5_call_130 (lv_at hl 1 rfl) ?_
        refine lv_iload hx hb dX5_call_132 (lv_at hl 0 rfl) ?_
        refine lv_iload hx hb dX5_call_134 (lv_at hl 6 rfl) ?_
        refine lv_iload hx hb dX5_call_136 (lv_at hl 7 rfl) ?_
        refine lv_iconst (v := 1) hx hb dX5_call_138 kk_ic_1 ?_
        refine lv_iadd hx hb dX5_call_139 ?_
        obtain ⟨hPc, hDc, hFc⟩ := kk_cutout (wc := [(h0, kO5 h1 n0_size h2 (n0_ran + 1)), (h1, kAi cint 50 f1), (h2, kAi cint 24 f2)]) hP hD hS hA [0, 1, 2] (by decide) rfl
        have hKc := kk_Ks (tq := [(cint, .int)]) hK [0] rfl
        refine va_calli (va_runV (As := [.int p0, .int 2, .int 30, .int p3, .int (p4 + 1)]) (rest := []) ⟨hx, hb, hml, hown, hts⟩ (g_X5_runUnder_12 l dC dI h0 h1 h2 cint H.size p0 p3 (p4 + 1) (by show 0 ≤ ((p4 + 1) : Int32).toInt ∧ ((p4 + 1) : Int32).toInt ≤ 8; first | with_reducible assumption | (constructor <;> (have := kk_add2 (x := n0_ran) (y := 1) (a := n0_ran.toInt) (b := 1) rfl rfl (by omega) (by omega); have := kk_add2 (x := p4) (y := 1) (a := p4.toInt) (b := 1) rfl rfl (by omega) (by omega); omega))) n0_size (n0_ran + 1) f1 f2 tn0_size (by show 0 ≤ ((n0_ran + 1) : Int32).toInt ∧ ((n0_ran + 1) : Int32).toInt ≤ 996; first | with_reducible assumption | (constructor <;> (have := kk_add2 (x := n0_ran) (y := 1) (a := n0_ran.toInt) (b := 1) rfl rfl (by omega) (by omega); have := kk_add2 (x := p4) (y := 1) (a := p4.toInt) (b := 1) rfl rfl (by omega) (by omega); omega))) bf1 (by show (0 ≤ (p0 : Int32).toInt ∧ (p0 : Int32).toInt < (n0_size : Int32).toInt); first | with_reducible assumption | (have := kk_add2 (x := n0_ran) (y := 1) (a := n0_ran.toInt) (b := 1) rfl rfl (by omega) (by omega); have := kk_add2 (x := p4) (y := 1) (a := p4.toInt) (b := 1) rfl rfl (by omega) (by omega); omega)) aABOVE aOWN_BODIES) (cwV 5 hts gX5_call_X5_runUnder rfl rfl rfl ⟨rfl, kh_X5_runUnder⟩ ⟨Nat.le_of_ble_eq_true rfl, Nat.le_of_ble_eq_true rfl⟩) ⟨fun a U g mk q => by obtain ⟨q0, q1, qP, qK, qD, qx0, qx1, qx2, qx3⟩ := q; exact ⟨q0, q1, qP, va_K.moved (u := U) (U := U.calling g mk a) (Vm.Alike.refl U.vm) qK, qD, va_Z.moved (u := U) (U := U.calling g mk a) (Vm.Alike.refl U.vm) qx0, va_T.moved (u := U) (U := U.calling g mk a) (Vm.Alike.refl U.vm) qx1, va_Z.moved (u := U) (U := U.calling g mk a) (Vm.Alike.refl U.vm) qx2, va_T.moved (u := U) (U := U.calling g mk a) (Vm.Alike.refl U.vm) qx3⟩, va_recv hKc hPc (ci := 5) (q0 := 0) rfl rfl, fun U hU hW => ⟨rfl, by rw [hU], by rw [hU]; exact hPc, va_K.moved hW.alike hKc, hDc.weaken (fun _ _ _ _ => trivial), by rw [hU]; exact ((hZABOVE.kept (fun a h1 h2 => hS.2.1 a h1 h2)).narrow hFc).moved hW.alike, by rw [hU]; exact ((hTABOVE.kept (fun a h1 h2 => hS.2.1 a h1 h2)).narrow hFc).moved hW.alike, by rw [hU]; exact ((hZOWN_BODIES.kept (fun a h1 h2 => hS.2.1 a h1 h2)).narrow hFc).moved hW.alike, by rw [hU]; exact ((hTOWN_BODIES.kept (fun a h1 h2 => hS.2.1 a h1 h2)).narrow hFc).moved hW.alike⟩⟩ rfl rfl hl.1 rfl (lv_room (Nat.le_of_ble_eq_true rfl)) dX5_call_140 ⟨Nat.le_of_ble_eq_true rfl, Nat.le_of_ble_eq_true rfl⟩) hS (fun q _ h => hFc q h) hFc (fun r_48 u t H1 locs ht hvm hw hB hz1 hk1 hS => ?_)
        obtain ⟨y_49, f_50, by_49, v_50_0, hn_50_0, hP1, hK1, hD1⟩ := hB
        have v_50_0 : y_49.toInt ≤ (n0_ran + 1).toInt + 4 := v_50_0
        have hn_50_0 : kk_P f2 f_50 (n0_ran + 1).toInt y_49.toInt ((kt_breaks (f1 (p0 : Int32).toNatClampNeg) 2).tail) := hn_50_0
        rw [ht] at hP1
        have hK1 := va_K.moved hvm.symm hK1
        obtain ⟨hP, hD⟩ := va_join (wr := []) (w1 := [(h0, kO5 h1 n0_size h2 y_49), (h1, kAi cint 50 f1), (h2, kAi cint 24 f_50)]) hP hD [0, 1, 2] [] rfl rfl (by decide) (by decide) hk1 hFc hP1 hD1
        generalize H1 = H at hP hS ⊢
        have hP : va_P (dC, dI) vwCl [(h0, kO5 h1 n0_size h2 y_49), (h1, kAi cint 50 f1), (h2, kAi cint 24 f_50)] H := hP
        have hD : va_D A [(h0, kO5 h1 n0_size h2 y_49), (h1, kAi cint 50 f1), (h2, kAi cint 24 f_50)] := hD
        rcases hw with ⟨t_48_0, _⟩
        · skip
          have t_48_0 : r_48 = kk_breaks (f1 (p0 : Int32).toNatClampNeg) 2 p0 p3 := t_48_0
          obtain rfl : r_48 = (kk_breaks (f1 (p0 : Int32).toNatClampNeg) 2 p0 p3) := t_48_0
          obtain ⟨hP9, hD9⟩ := kk_leafout (wc := [(h0, kO5 h1 n0_size h2 y_49), (h1, kAi cint 50 f1), (h2, kAi cint 24 f_50)]) hP hD [0, 1, 2] (by decide) rfl
          have hK9 := kk_Ks (tq := []) hK [] rfl
          exact W.iret (v := (kk_breaks (f1 (p0 : Int32).toNatClampNeg) 2 p0 p3)) hx hb hr (fun t ht hW => ⟨⟨(kk_breaks (f1 (p0 : Int32).toNatClampNeg) 2 p0 p3), (), rfl, ⟨(by first | rfl | (unfold kk_breaks; (repeat' split) <;> first | rfl | (exfalso; have : (0 : Int32).toInt = 0 := rfl; have : (1 : Int32).toInt = 1 := rfl; have : (2 : Int32).toInt = 2 := rfl; have : (3 : Int32).toInt = 3 := rfl; have : (4 : Int32).toInt = 4 := rfl; have : (5 : Int32).toInt = 5 := rfl; have : (6 : Int32).toInt = 6 := rfl; have : (7 : Int32).toInt = 7 := rfl; have := kk_add2 (x := n0_ran) (y := 1) (a := n0_ran.toInt) (b := 1) rfl rfl (by omega) (by omega); have := kk_add2 (x := p4) (y := 1) (a := p4.toInt) (b := 1) rfl rfl (by omega) (by omega); omega))), trivial⟩, y_49, f_50, (by show 1 ≤ (y_49 : Int32).toInt ∧ (y_49 : Int32).toInt ≤ 1000; first | with_reducible assumption | (constructor <;> (have := kk_add2 (x := n0_ran) (y := 1) (a := n0_ran.toInt) (b := 1) rfl rfl (by omega) (by omega); have := kk_add2 (x := p4) (y := 1) (a := p4.toInt) (b := 1) rfl rfl (by omega) (by omega); omega))), (by show (y_49 : Int32).toInt ≤ (n0_ran : Int32).toInt + 11; first | with_reducible assumption | (have := kk_add2 (x := n0_ran) (y := 1) (a := n0_ran.toInt) (b := 1) rfl rfl (by omega) (by omega); have := kk_add2 (x := p4) (y := 1) (a := p4.toInt) (b := 1) rfl rfl (by omega) (by omega); omega)), (by first | exact kk_P_eq (kk_P_trans hp_47 hn_50_0) rfl | (unfold kt_breaks; (repeat' split) <;> first | exact kk_P_eq (kk_P_trans hp_47 hn_50_0) rfl | (exfalso; have : (0 : Int32).toInt = 0 := rfl; have : (1 : Int32).toInt = 1 := rfl; have : (2 : Int32).toInt = 2 := rfl; have : (3 : Int32).toInt = 3 := rfl; have : (4 : Int32).toInt = 4 := rfl; have : (5 : Int32).toInt = 5 := rfl; have : (6 : Int32).toInt = 6 := rfl; have : (7 : Int32).toInt = 7 := rfl; have := kk_add2 (x := n0_ran) (y := 1) (a := n0_ran.toInt) (b := 1) rfl rfl (by omega) (by omega); have := kk_add2 (x := p4) (y := 1) (a := p4.toInt) (b := 1) rfl rfl (by omega) (by omega); omega))), by rw [ht]; exact hP9, va_K.moved hW.alike hK9, hD9⟩, hS.F ht⟩) hS.2.2 dX5_call_143
      · have t_46 : n0_ran.toInt < 24 := kk_nle c_46
        refine lv_aload_n hx hb dX5_call_86 rfl (lv_at hl 2 rfl) ?_
        refine va_get (D := (dC, dI)) (ci := 5) (v := .ref h2) (C := RX5) (T := TX5) (N := 4) hx hb hts (fun _ h => List.mem_cons_of_mem _ (List.mem_append_right _ h)) hown hK hP 0 rfl rfl 2 (by decide) (hts (.fieldLink RX5 15 "KinkStreet$Lines" "trace" "[I") (List.mem_of_getElem? (i := 4) rfl)) (fun _ h9 => h9) rfl dX5_call_87 ?_
        refine lv_aload_n hx hb dX5_call_90 rfl (lv_at hl 2 rfl) ?_
        refine va_get (D := (dC, dI)) (ci := 5) (v := .int n0_ran) (C := RX5) (T := TX5) (N := 4) hx hb hts (fun _ h => List.mem_cons_of_mem _ (List.mem_append_right _ h)) hown hK hP 0 rfl rfl 3 (by decide) (hts (.fieldLink RX5 36 "KinkStreet$Lines" "ran" "I") (List.mem_of_getElem? (i := 3) rfl)) (fun _ h9 => h9) rfl dX5_call_91 ?_
        refine lv_iload hx hb dX5_call_94 (lv_at hl 0 rfl) ?_
        refine va_iast hx hb hK hP hD hS 2 0 rfl rfl (vp_in_iff.mpr ⟨by omega, by omega⟩) dX5_call_96 (fun H locs hP hD hS => ?_)
        have w_51 : ((upd f2 (n0_ran : Int32).toNatClampNeg 30) (n0_ran : Int32).toNatClampNeg).toInt = (30 : Int32).toInt := by rw [kk_ups]
        have hP : va_P (dC, dI) vwCl [(h0, kO5 h1 n0_size h2 n0_ran), (h1, kAi cint 50 f1), (h2, kAi cint 24 (upd f2 (n0_ran : Int32).toNatClampNeg 30))] H := hP
        have hD : va_D A [(h0, kO5 h1 n0_size h2 n0_ran), (h1, kAi cint 50 f1), (h2, kAi cint 24 (upd f2 (n0_ran : Int32).toNatClampNeg 30))] := hD
        refine lv_aload_n hx hb dX5_call_97 rfl (lv_at hl 2 rfl) ?_
        refine lv_dup hx hb dX5_call_98 rfl ?_
        refine va_get (D := (dC, dI)) (ci := 5) (v := .int n0_ran) (C := RX5) (T := TX5) (N := 4) hx hb hts (fun _ h => List.mem_cons_of_mem _ (List.mem_append_right _ h)) hown hK hP 0 rfl rfl 3 (by decide) (hts (.fieldLink RX5 36 "KinkStreet$Lines" "ran" "I") (List.mem_of_getElem? (i := 3) rfl)) (fun _ h9 => h9) rfl dX5_call_99 ?_
        refine lv_iconst (v := 1) hx hb dX5_call_102 kk_ic_1 ?_
        refine lv_iadd hx hb dX5_call_103 ?_
        refine va_put (D := (dC, dI)) (ci := 5) (v := .int (n0_ran + 1)) (ty := .int) (C := RX5) (T := TX5) (N := 4) hx hb hts (fun _ h => List.mem_cons_of_mem _ (List.mem_append_right _ h)) tyX5 tyX5_ok nmX5 hown hK hP hD hS 0 rfl rfl 3 (by decide) (hts (.fieldLink RX5 36 "KinkStreet$Lines" "ran" "I") (List.mem_of_getElem? (i := 3) rfl)) (fun _ h9 => h9) rfl (by decide +kernel) rfl rfl (Nat.le_of_ble_eq_true rfl) dX5_call_104 (fun H locs hP hD hS => ?_)
        have hP : va_P (dC, dI) vwCl [(h0, kO5 h1 n0_size h2 (n0_ran + 1)), (h1, kAi cint 50 f1), (h2, kAi cint 24 (upd f2 (n0_ran : Int32).toNatClampNeg 30))] H := hP
        have hD : va_D A [(h0, kO5 h1 n0_size h2 (n0_ran + 1)), (h1, kAi cint 50 f1), (h2, kAi cint 24 (upd f2 (n0_ran : Int32).toNatClampNeg 30))] := hD
        have hp_52 : kk_P f2 (upd f2 (n0_ran : Int32).toNatClampNeg 30) n0_ran.toInt (n0_ran + 1 : Int32).toInt [30] := kk_P_one (by have := kk_add2 (x := n0_ran) (y := 1) (a := n0_ran.toInt) (b := 1) rfl rfl (by omega) (by omega); omega) (by have := kk_add2 (x := n0_ran) (y := 1) (a := n0_ran.toInt) (b := 1) rfl rfl (by omega) (by omega); omega)
        refine lv_iload hx hb dX5_call_107 (lv_at hl 1 rfl) ?_
        refine lv_if_ne (tgt := 128) hx hb dX5_call_109 (by decide) (fun _ => ?_) (fun c => absurd c (by decide))
        refine lv_aload_n hx hb dX5_call_128 rfl (lv_at hl 2 rfl) ?_
        refine lv_iload_n hx hb dX5_call_129 rfl (lv_at hl 3 rfl) ?_
        refine lv_iload hx hb dX5_call_130 (lv_at hl 1 rfl) ?_
        refine lv_iload hx hb dX5_call_132 (lv_at hl 0 rfl) ?_
        refine lv_iload hx hb dX5_call_134 (lv_at hl 6 rfl) ?_
        refine lv_iload hx hb dX5_call_136 (lv_at hl 7 rfl) ?_
        refine lv_iconst (v := 1) hx hb dX5_call_138 kk_ic_1 ?_
        refine lv_iadd hx hb dX5_call_139 ?_
        obtain ⟨hPc, hDc, hFc⟩ := kk_cutout (wc := [(h0, kO5 h1 n0_size h2 (n0_ran + 1)), (h1, kAi cint 50 f1), (h2, kAi cint 24 (upd f2 (n0_ran : Int32).toNatClampNeg 30))]) hP hD hS hA [0, 1, 2] (by decide) rfl
        have hKc := kk_Ks (tq := [(cint, .int)]) hK [0] rfl
        refine va_calli (va_runV (As := [.int p0, .int 2, .int 30, .int p3, .int (p4 + 1)]) (rest := []) ⟨hx, hb, hml, hown, hts⟩ (g_X5_runUnder_12 l dC dI h0 h1 h2 cint H.size p0 p3 (p4 + 1) (by show 0 ≤ ((p4 + 1) : Int32).toInt ∧ ((p4 + 1) : Int32).toInt ≤ 8; first | with_reducible assumption | (constructor <;> (have := kk_add2 (x := n0_ran) (y := 1) (a := n0_ran.toInt) (b := 1) rfl rfl (by omega) (by omega); have := kk_add2 (x := p4) (y := 1) (a := p4.toInt) (b := 1) rfl rfl (by omega) (by omega); omega))) n0_size (n0_ran + 1) f1 (upd f2 (n0_ran : Int32).toNatClampNeg 30) tn0_size (by show 0 ≤ ((n0_ran + 1) : Int32).toInt ∧ ((n0_ran + 1) : Int32).toInt ≤ 996; first | with_reducible assumption | (constructor <;> (have := kk_add2 (x := n0_ran) (y := 1) (a := n0_ran.toInt) (b := 1) rfl rfl (by omega) (by omega); have := kk_add2 (x := p4) (y := 1) (a := p4.toInt) (b := 1) rfl rfl (by omega) (by omega); omega))) bf1 (by show (0 ≤ (p0 : Int32).toInt ∧ (p0 : Int32).toInt < (n0_size : Int32).toInt); first | with_reducible assumption | (have := kk_add2 (x := n0_ran) (y := 1) (a := n0_ran.toInt) (b := 1) rfl rfl (by omega) (by omega); have := kk_add2 (x := p4) (y := 1) (a := p4.toInt) (b := 1) rfl rfl (by omega) (by omega); omega)) aABOVE aOWN_BODIES) (cwV 5 hts gX5_call_X5_runUnder rfl rfl rfl ⟨rfl, kh_X5_runUnder⟩ ⟨Nat.le_of_ble_eq_true rfl, Nat.le_of_ble_eq_true rfl⟩) ⟨fun a U g mk q => by obtain ⟨q0, q1, qP, qK, qD, qx0, qx1, qx2, qx3⟩ := q; exact ⟨q0, q1, qP, va_K.moved (u := U) (U := U.calling g mk a) (Vm.Alike.refl U.vm) qK, qD, va_Z.moved (u := U) (U := U.calling g mk a) (Vm.Alike.refl U.vm) qx0, va_T.moved (u := U) (U := U.calling g mk a) (Vm.Alike.refl U.vm) qx1, va_Z.moved (u := U) (U := U.calling g mk a) (Vm.Alike.refl U.vm) qx2, va_T.moved (u := U) (U := U.calling g mk a) (Vm.Alike.refl U.vm) qx3⟩, va_recv hKc hPc (ci := 5) (q0 := 0) rfl rfl, fun U hU hW => ⟨rfl, by rw [hU], by rw [hU]; exact hPc, va_K.moved hW.alike hKc, hDc.weaken (fun _ _ _ _ => trivial), by rw [hU]; exact ((hZABOVE.kept (fun a h1 h2 => hS.2.1 a h1 h2)).narrow hFc).moved hW.alike, by rw [hU]; exact ((hTABOVE.kept (fun a h1 h2 => hS.2.1 a h1 h2)).narrow hFc).moved hW.alike, by rw [hU]; exact ((hZOWN_BODIES.kept (fun a h1 h2 => hS.2.1 a h1 h2)).narrow hFc).moved hW.alike, by rw [hU]; exact ((hTOWN_BODIES.kept (fun a h1 h2 => hS.2.1 a h1 h2)).narrow hFc).moved hW.alike⟩⟩ rfl rfl hl.1 rfl (lv_room (Nat.le_of_ble_eq_true rfl)) dX5_call_140 ⟨Nat.le_of_ble_eq_true rfl, Nat.le_of_ble_eq_true rfl⟩) hS (fun q _ h => hFc q h) hFc (fun r_53 u t H1 locs ht hvm hw hB hz1 hk1 hS => ?_)
        obtain ⟨y_54, f_55, by_54, v_55_0, hn_55_0, hP1, hK1, hD1⟩ := hB
        have v_55_0 : y_54.toInt ≤ (n0_ran + 1).toInt + 4 := v_55_0
        have hn_55_0 : kk_P (upd f2 (n0_ran : Int32).toNatClampNeg 30) f_55 (n0_ran + 1).toInt y_54.toInt ((kt_breaks (f1 (p0 : Int32).toNatClampNeg) 2).tail) := hn_55_0
        rw [ht] at hP1
        have hK1 := va_K.moved hvm.symm hK1
        obtain ⟨hP, hD⟩ := va_join (wr := []) (w1 := [(h0, kO5 h1 n0_size h2 y_54), (h1, kAi cint 50 f1), (h2, kAi cint 24 f_55)]) hP hD [0, 1, 2] [] rfl rfl (by decide) (by decide) hk1 hFc hP1 hD1
        generalize H1 = H at hP hS ⊢
        have hP : va_P (dC, dI) vwCl [(h0, kO5 h1 n0_size h2 y_54), (h1, kAi cint 50 f1), (h2, kAi cint 24 f_55)] H := hP
        have hD : va_D A [(h0, kO5 h1 n0_size h2 y_54), (h1, kAi cint 50 f1), (h2, kAi cint 24 f_55)] := hD
        rcases hw with ⟨t_53_0, _⟩
        · skip
          have t_53_0 : r_53 = kk_breaks (f1 (p0 : Int32).toNatClampNeg) 2 p0 p3 := t_53_0
          obtain rfl : r_53 = (kk_breaks (f1 (p0 : Int32).toNatClampNeg) 2 p0 p3) := t_53_0
          obtain ⟨hP9, hD9⟩ := kk_leafout (wc := [(h0, kO5 h1 n0_size h2 y_54), (h1, kAi cint 50 f1), (h2, kAi cint 24 f_55)]) hP hD [0, 1, 2] (by decide) rfl
          have hK9 := kk_Ks (tq := []) hK [] rfl
          exact W.iret (v := (kk_breaks (f1 (p0 : Int32).toNatClampNeg) 2 p0 p3)) hx hb hr (fun t ht hW => ⟨⟨(kk_breaks (f1 (p0 : Int32).toNatClampNeg) 2 p0 p3), (), rfl, ⟨(by first | rfl | (unfold kk_breaks; (repeat' split) <;> first | rfl | (exfalso; have : (0 : Int32).toInt = 0 := rfl; have : (1 : Int32).toInt = 1 := rfl; have : (2 : Int32).toInt = 2 := rfl; have : (3 : Int32).toInt = 3 := rfl; have : (4 : Int32).toInt = 4 := rfl; have : (5 : Int32).toInt = 5 := rfl; have : (6 : Int32).toInt = 6 := rfl; have : (7 : Int32).toInt = 7 := rfl; have := kk_add2 (x := n0_ran) (y := 1) (a := n0_ran.toInt) (b := 1) rfl rfl (by omega) (by omega); have := kk_add2 (x := p4) (y := 1) (a := p4.toInt) (b := 1) rfl rfl (by omega) (by omega); omega))), trivial⟩, y_54, f_55, (by show 1 ≤ (y_54 : Int32).toInt ∧ (y_54 : Int32).toInt ≤ 1000; first | with_reducible assumption | (constructor <;> (have := kk_add2 (x := n0_ran) (y := 1) (a := n0_ran.toInt) (b := 1) rfl rfl (by omega) (by omega); have := kk_add2 (x := p4) (y := 1) (a := p4.toInt) (b := 1) rfl rfl (by omega) (by omega); omega))), (by show (y_54 : Int32).toInt ≤ (n0_ran : Int32).toInt + 11; first | with_reducible assumption | (have := kk_add2 (x := n0_ran) (y := 1) (a := n0_ran.toInt) (b := 1) rfl rfl (by omega) (by omega); have := kk_add2 (x := p4) (y := 1) (a := p4.toInt) (b := 1) rfl rfl (by omega) (by omega); omega)), (by first | exact kk_P_eq (kk_P_trans hp_52 hn_55_0) rfl | (unfold kt_breaks; (repeat' split) <;> first | exact kk_P_eq (kk_P_trans hp_52 hn_55_0) rfl | (exfalso; have : (0 : Int32).toInt = 0 := rfl; have : (1 : Int32).toInt = 1 := rfl; have : (2 : Int32).toInt = 2 := rfl; have : (3 : Int32).toInt = 3 := rfl; have : (4 : Int32).toInt = 4 := rfl; have : (5 : Int32).toInt = 5 := rfl; have : (6 : Int32).toInt = 6 := rfl; have : (7 : Int32).toInt = 7 := rfl; have := kk_add2 (x := n0_ran) (y := 1) (a := n0_ran.toInt) (b := 1) rfl rfl (by omega) (by omega); have := kk_add2 (x := p4) (y := 1) (a := p4.toInt) (b := 1) rfl rfl (by omega) (by omega); omega))), by rw [ht]; exact hP9, va_K.moved hW.alike hK9, hD9⟩, hS.F ht⟩) hS.2.2 dX5_call_143
    · have t_43 : 40 < p4.toInt := kk_nle c_43
      exfalso; omega
  · have t_1 : p1.toInt = 3 := by rw [e_1]; rfl
    subst e_1
    refine lv_iload_n hx hb dX5_call_0 rfl (lv_at hl 2 rfl) ?_
    refine lv_istore hx hb dX5_call_1 hl (by decide) (rfl : _ = ([(6, .int 3), (0, .ref h0), (1, .int p0), (2, .int 3), (3, .int 1), (4, .int p3), (5, .int p4)] : List (Nat × Value))) (fun ls hl => ?_)
    refine lv_iconst (v := 0) hx hb dX5_call_3 kk_ic_0 ?_
    refine lv_istore hx hb dX5_call_4 hl (by decide) (rfl : _ = ([(7, .int 0), (6, .int 3), (0, .ref h0), (1, .int p0), (2, .int 3), (3, .int 1), (4, .int p3), (5, .int p4)] : List (Nat × Value))) (fun ls hl => ?_)
    refine lv_iload hx hb dX5_call_6 (lv_at hl 0 rfl) ?_
    refine lv_bipush (v := 8) hx hb dX5_call_8 kk_bi_8 ?_
    refine lv_icmp_ge (tgt := 48) hx hb dX5_call_10 (by decide) (fun c => absurd c (by decide)) (fun _ => ?_)
    refine lv_iload hx hb dX5_call_13 (lv_at hl 1 rfl) ?_
    obtain ⟨hPc, hDc, hFc⟩ := kk_cutout (wc := []) hP hD hS hA [] (by decide) rfl
    have hKc := kk_Ks (tq := []) hK [] rfl
    refine va_calli (va_runS (As := [.int 3]) (rest := []) ⟨hx, hb, hml, hown, hts⟩ (g_X5_isKind_14 l dC dI s.heap.size) (va_cwS 1 hts gX5_call_X5_isKind rfl rfl rfl kh_X5_isKind ⟨Nat.le_of_ble_eq_true rfl, Nat.le_of_ble_eq_true rfl⟩) ⟨fun a U g mk q => by obtain ⟨q0, q1, qP, qK, qD⟩ := q; exact ⟨q0, q1, qP, va_K.moved (u := U) (U := U.calling g mk a) (Vm.Alike.refl U.vm) qK, qD⟩, fun U hU hW => ⟨rfl, by rw [hU], by rw [hU]; exact hPc, va_K.moved hW.alike hKc, hDc.weaken (fun _ _ _ _ => trivial)⟩⟩ rfl rfl hl.1 rfl (lv_room (Nat.le_of_ble_eq_true rfl)) dX5_call_15 ⟨Nat.le_of_ble_eq_true rfl, Nat.le_of_ble_eq_true rfl⟩) hS (fun q _ h => hFc q h) hFc (fun r_56 u t H1 locs ht hvm hw hB hz1 hk1 hS => ?_)
    obtain ⟨hP1, hK1, hD1⟩ := hB
    rw [ht] at hP1
    have hK1 := va_K.moved hvm.symm hK1
    obtain ⟨hP, hD⟩ := va_join (wr := [(h0, kO5 h1 n0_size h2 n0_ran), (h1, kAi cint 50 f1), (h2, kAi cint 24 f2)]) (w1 := []) hP hD [] [0, 1, 2] rfl rfl (by decide) (by decide) hk1 hFc hP1 hD1
    generalize H1 = H at hP hS ⊢
    have hP : va_P (dC, dI) vwCl [(h0, kO5 h1 n0_size h2 n0_ran), (h1, kAi cint 50 f1), (h2, kAi cint 24 f2)] H := hP
    have hD : va_D A [(h0, kO5 h1 n0_size h2 n0_ran), (h1, kAi cint 50 f1), (h2, kAi cint 24 f2)] := hD
    obtain rfl := hw
    refine lv_if_eq (tgt := 48) hx hb dX5_call_18 (by decide) (fun c => absurd c (by decide)) (fun _ => ?_)
    refine va_gets hx hb hZOWN_BODIES hS hown (hts (.fieldLink RX5 43 "KinkStreet$Lines" "OWN_BODIES" "[I") (List.mem_of_getElem? (i := 1) rfl)) (fun _ h9 => h9) dX5_call_21 ?_
    refine lv_iload hx hb dX5_call_24 (lv_at hl 1 rfl) ?_
    refine lv_iconst (v := 4) hx hb dX5_call_26 kk_ic_4 ?_
    refine lv_imul hx hb dX5_call_27 ?_
    refine lv_topi (fun y_57 e_57 => ?_)
    obtain rfl : y_57 = 12 := e_57.trans (by decide)
    refine lv_iload_n hx hb dX5_call_28 rfl (lv_at hl 5 rfl) ?_
    refine lv_iadd hx hb dX5_call_29 ?_
    refine lv_topi (fun y_58 e_58 => ?_)
    obtain rfl : y_58 = 13 := e_58.trans (by decide)
    refine va_ti (v := .int 0) hx hb hTOWN_BODIES hS (by unfold vp_in; decide) rfl dX5_call_30 ?_
    refine lv_if_ne (tgt := 48) hx hb dX5_call_31 (by decide) (fun c => absurd c (by decide)) (fun _ => ?_)
    refine va_gets hx hb hZABOVE hS hown (hts (.fieldLink RX5 22 "KinkStreet$Lines" "ABOVE" "[I") (List.mem_of_getElem? (i := 2) rfl)) (fun _ h9 => h9) dX5_call_34 ?_
    refine lv_iload hx hb dX5_call_37 (lv_at hl 1 rfl) ?_
    refine va_ti (v := .int 0) hx hb hTABOVE hS (by unfold vp_in; decide) rfl dX5_call_39 ?_
    refine lv_istore hx hb dX5_call_40 hl (by decide) (rfl : _ = ([(6, .int 0), (7, .int 0), (0, .ref h0), (1, .int p0), (2, .int 3), (3, .int 1), (4, .int p3), (5, .int p4)] : List (Nat × Value))) (fun ls hl => ?_)
    refine lv_iinc (v := 1) hx hb dX5_call_42 hl (k := 1) rfl (by first | rfl | decide) (by decide) (rfl : _ = ([(7, .int 1), (6, .int 0), (0, .ref h0), (1, .int p0), (2, .int 3), (3, .int 1), (4, .int p3), (5, .int p4)] : List (Nat × Value))) (fun ls hl => ?_)
    refine lv_goto (tgt := 6) hx hb dX5_call_45 (by decide) ?_
    refine lv_iload hx hb dX5_call_6 (lv_at hl 0 rfl) ?_
    refine lv_bipush (v := 8) hx hb dX5_call_8 kk_bi_8 ?_
    refine lv_icmp_ge (tgt := 48) hx hb dX5_call_10 (by decide) (fun c => absurd c (by decide)) (fun _ => ?_)
    refine lv_iload hx hb dX5_call_13 (lv_at hl 1 rfl) ?_
    obtain ⟨hPc, hDc, hFc⟩ := kk_cutout (wc := []) hP hD hS hA [] (by decide) rfl
    have hKc := kk_Ks (tq := []) hK [] rfl
    refine va_calli (va_runS (As := [.int 0]) (rest := []) ⟨hx, hb, hml, hown, hts⟩ (g_X5_isKind_11 l dC dI H.size) (va_cwS 1 hts gX5_call_X5_isKind rfl rfl rfl kh_X5_isKind ⟨Nat.le_of_ble_eq_true rfl, Nat.le_of_ble_eq_true rfl⟩) ⟨fun a U g mk q => by obtain ⟨q0, q1, qP, qK, qD⟩ := q; exact ⟨q0, q1, qP, va_K.moved (u := U) (U := U.calling g mk a) (Vm.Alike.refl U.vm) qK, qD⟩, fun U hU hW => ⟨rfl, by rw [hU], by rw [hU]; exact hPc, va_K.moved hW.alike hKc, hDc.weaken (fun _ _ _ _ => trivial)⟩⟩ rfl rfl hl.1 rfl (lv_room (Nat.le_of_ble_eq_true rfl)) dX5_call_15 ⟨Nat.le_of_ble_eq_true rfl, Nat.le_of_ble_eq_true rfl⟩) hS (fun q _ h => hFc q h) hFc (fun r_59 u t H1 locs ht hvm hw hB hz1 hk1 hS => ?_)
    obtain ⟨hP1, hK1, hD1⟩ := hB
    rw [ht] at hP1
    have hK1 := va_K.moved hvm.symm hK1
    obtain ⟨hP, hD⟩ := va_join (wr := [(h0, kO5 h1 n0_size h2 n0_ran), (h1, kAi cint 50 f1), (h2, kAi cint 24 f2)]) (w1 := []) hP hD [] [0, 1, 2] rfl rfl (by decide) (by decide) hk1 hFc hP1 hD1
    generalize H1 = H at hP hS ⊢
    have hP : va_P (dC, dI) vwCl [(h0, kO5 h1 n0_size h2 n0_ran), (h1, kAi cint 50 f1), (h2, kAi cint 24 f2)] H := hP
    have hD : va_D A [(h0, kO5 h1 n0_size h2 n0_ran), (h1, kAi cint 50 f1), (h2, kAi cint 24 f2)] := hD
    obtain rfl := hw
    refine lv_if_eq (tgt := 48) hx hb dX5_call_18 (by decide) (fun c => absurd c (by decide)) (fun _ => ?_)
    refine va_gets hx hb hZOWN_BODIES hS hown (hts (.fieldLink RX5 43 "KinkStreet$Lines" "OWN_BODIES" "[I") (List.mem_of_getElem? (i := 1) rfl)) (fun _ h9 => h9) dX5_call_21 ?_
    refine lv_iload hx hb dX5_call_24 (lv_at hl 1 rfl) ?_
    refine lv_iconst (v := 4) hx hb dX5_call_26 kk_ic_4 ?_
    refine lv_imul hx hb dX5_call_27 ?_
    refine lv_topi (fun y_60 e_60 => ?_)
    obtain rfl : y_60 = 0 := e_60.trans (by decide)
    refine lv_iload_n hx hb dX5_call_28 rfl (lv_at hl 5 rfl) ?_
    refine lv_iadd hx hb dX5_call_29 ?_
    refine lv_topi (fun y_61 e_61 => ?_)
    obtain rfl : y_61 = 1 := e_61.trans (by decide)
    refine va_ti (v := .int 10) hx hb hTOWN_BODIES hS (by unfold vp_in; decide) rfl dX5_call_30 ?_
    refine lv_if_ne (tgt := 48) hx hb dX5_call_31 (by decide) (fun _ => ?_) (fun c => absurd c (by decide))
    refine lv_iload hx hb dX5_call_48 (lv_at hl 1 rfl) ?_
    obtain ⟨hPc, hDc, hFc⟩ := kk_cutout (wc := []) hP hD hS hA [] (by decide) rfl
    have hKc := kk_Ks (tq := []) hK [] rfl
    refine va_calli (va_runS (As := [.int 0]) (rest := []) ⟨hx, hb, hml, hown, hts⟩ (g_X5_isKind_11 l dC dI H.size) (va_cwS 1 hts gX5_call_X5_isKind rfl rfl rfl kh_X5_isKind ⟨Nat.le_of_ble_eq_true rfl, Nat.le_of_ble_eq_true rfl⟩) ⟨fun a U g mk q => by obtain ⟨q0, q1, qP, qK, qD⟩ := q; exact ⟨q0, q1, qP, va_K.moved (u := U) (U := U.calling g mk a) (Vm.Alike.refl U.vm) qK, qD⟩, fun U hU hW => ⟨rfl, by rw [hU], by rw [hU]; exact hPc, va_K.moved hW.alike hKc, hDc.weaken (fun _ _ _ _ => trivial)⟩⟩ rfl rfl hl.1 rfl (lv_room (Nat.le_of_ble_eq_true rfl)) dX5_call_50 ⟨Nat.le_of_ble_eq_true rfl, Nat.le_of_ble_eq_true rfl⟩) hS (fun q _ h => hFc q h) hFc (fun r_62 u t H1 locs ht hvm hw hB hz1 hk1 hS => ?_)
    obtain ⟨hP1, hK1, hD1⟩ := hB
    rw [ht] at hP1
    have hK1 := va_K.moved hvm.symm hK1
    obtain ⟨hP, hD⟩ := va_join (wr := [(h0, kO5 h1 n0_size h2 n0_ran), (h1, kAi cint 50 f1), (h2, kAi cint 24 f2)]) (w1 := []) hP hD [] [0, 1, 2] rfl rfl (by decide) (by decide) hk1 hFc hP1 hD1
    generalize H1 = H at hP hS ⊢
    have hP : va_P (dC, dI) vwCl [(h0, kO5 h1 n0_size h2 n0_ran), (h1, kAi cint 50 f1), (h2, kAi cint 24 f2)] H := hP
    have hD : va_D A [(h0, kO5 h1 n0_size h2 n0_ran), (h1, kAi cint 50 f1), (h2, kAi cint 24 f2)] := hD
    obtain rfl := hw
    refine lv_if_eq (tgt := 63) hx hb dX5_call_53 (by decide) (fun c => absurd c (by decide)) (fun _ => ?_)
    refine lv_iload hx hb dX5_call_56 (lv_at hl 7 rfl) ?_
    refine lv_bipush (v := 40) hx hb dX5_call_58 kk_bi_40 ?_
    refine lv_icmp_le (tgt := 65) hx hb dX5_call_60 (by decide) (fun c_63 => ?_) (fun c_63 => ?_)
    · have t_63 : p4.toInt ≤ 40 := kk_le c_63
      refine va_gets hx hb hZOWN_BODIES hS hown (hts (.fieldLink RX5 43 "KinkStreet$Lines" "OWN_BODIES" "[I") (List.mem_of_getElem? (i := 1) rfl)) (fun _ h9 => h9) dX5_call_65 ?_
      refine lv_iload hx hb dX5_call_68 (lv_at hl 1 rfl) ?_
      refine lv_iconst (v := 4) hx hb dX5_call_70 kk_ic_4 ?_
      refine lv_imul hx hb dX5_call_71 ?_
      refine lv_topi (fun y_64 e_64 => ?_)
      obtain rfl : y_64 = 0 := e_64.trans (by decide)
      refine lv_iload_n hx hb dX5_call_72 rfl (lv_at hl 5 rfl) ?_
      refine lv_iadd hx hb dX5_call_73 ?_
      refine lv_topi (fun y_65 e_65 => ?_)
      obtain rfl : y_65 = 1 := e_65.trans (by decide)
      refine va_ti (v := .int 10) hx hb hTOWN_BODIES hS (by unfold vp_in; decide) rfl dX5_call_74 ?_
      refine lv_istore hx hb dX5_call_75 hl (by decide) (rfl : _ = ([(7, .int 10), (6, .int 0), (0, .ref h0), (1, .int p0), (2, .int 3), (3, .int 1), (4, .int p3), (5, .int p4)] : List (Nat × Value))) (fun ls hl => ?_)
      refine lv_aload_n hx hb dX5_call_77 rfl (lv_at hl 2 rfl) ?_
      refine va_get (D := (dC, dI)) (ci := 5) (v := .int n0_ran) (C := RX5) (T := TX5) (N := 4) hx hb hts (fun _ h => List.mem_cons_of_mem _ (List.mem_append_right _ h)) hown hK hP 0 rfl rfl 3 (by decide) (hts (.fieldLink RX5 36 "KinkStreet$Lines" "ran" "I") (List.mem_of_getElem? (i := 3) rfl)) (fun _ h9 => h9) rfl dX5_call_78 ?_
      refine lv_bipush (v := 24) hx hb dX5_call_81 kk_bi_24 ?_
      refine lv_icmp_ge (tgt := 97) hx hb dX5_call_83 (by decide) (fun c_66 => ?_) (fun c_66 => ?_)
      · have t_66 : 24 ≤ n0_ran.toInt := kk_le c_66
        refine lv_aload_n hx hb dX5_call_97 rfl (lv_at hl 2 rfl) ?_
        refine lv_dup hx hb dX5_call_98 rfl ?_
        refine va_get (D := (dC, dI)) (ci := 5) (v := .int n0_ran) (C := RX5) (T := TX5) (N := 4) hx hb hts (fun _ h => List.mem_cons_of_mem _ (List.mem_append_right _ h)) hown hK hP 0 rfl rfl 3 (by decide) (hts (.fieldLink RX5 36 "KinkStreet$Lines" "ran" "I") (List.mem_of_getElem? (i := 3) rfl)) (fun _ h9 => h9) rfl dX5_call_99 ?_
        refine lv_iconst (v := 1) hx hb dX5_call_102 kk_ic_1 ?_
        refine lv_iadd hx hb dX5_call_103 ?_
        refine va_put (D := (dC, dI)) (ci := 5) (v := .int (n0_ran + 1)) (ty := .int) (C := RX5) (T := TX5) (N := 4) hx hb hts (fun _ h => List.mem_cons_of_mem _ (List.mem_append_right _ h)) tyX5 tyX5_ok nmX5 hown hK hP hD hS 0 rfl rfl 3 (by decide) (hts (.fieldLink RX5 36 "KinkStreet$Lines" "ran" "I") (List.mem_of_getElem? (i := 3) rfl)) (fun _ h9 => h9) rfl (by decide +kernel) rfl rfl (Nat.le_of_ble_eq_true rfl) dX5_call_104 (fun H locs hP hD hS => ?_)
        have hP : va_P (dC, dI) vwCl [(h0, kO5 h1 n0_size h2 (n0_ran + 1)), (h1, kAi cint 50 f1), (h2, kAi cint 24 f2)] H := hP
        have hD : va_D A [(h0, kO5 h1 n0_size h2 (n0_ran + 1)), (h1, kAi cint 50 f1), (h2, kAi cint 24 f2)] := hD
        have hp_67 : kk_P f2 f2 n0_ran.toInt (n0_ran + 1 : Int32).toInt [10] := kk_P_out (by have := kk_add2 (x := n0_ran) (y := 1) (a := n0_ran.toInt) (b := 1) rfl rfl (by omega) (by omega); omega) (by have := kk_add2 (x := n0_ran) (y := 1) (a := n0_ran.toInt) (b := 1) rfl rfl (by omega) (by omega); omega)
        refine lv_iload hx hb dX5_call_107 (lv_at hl 1 rfl) ?_
        refine lv_if_ne (tgt := 128) hx hb dX5_call_109 (by decide) (fun c => absurd c (by decide)) (fun _ => ?_)
        refine lv_aload_n hx hb dX5_call_112 rfl (lv_at hl 2 rfl) ?_
        refine lv_iload_n hx hb dX5_call_113 rfl (lv_at hl 3 rfl) ?_
        refine lv_iload hx hb dX5_call_114 (lv_at hl 0 rfl) ?_
        refine lv_iload hx hb dX5_call_116 (lv_at hl 6 rfl) ?_
        refine lv_iload hx hb dX5_call_118 (lv_at hl 7 rfl) ?_
        refine lv_iconst (v := 1) hx hb dX5_call_120 kk_ic_1 ?_
        refine lv_iadd hx hb dX5_call_121 ?_
        obtain ⟨hPc, hDc, hFc⟩ := kk_cutout (wc := [(h0, kO5 h1 n0_size h2 (n0_ran + 1)), (h1, kAi cint 50 f1), (h2, kAi cint 24 f2)]) hP hD hS hA [0, 1, 2] (by decide) rfl
        have hKc := kk_Ks (tq := [(cint, .int)]) hK [0] rfl
        refine va_calli (va_runV (As := [.int p0, .int 10, .int p3, .int (p4 + 1)]) (rest := []) ⟨hx, hb, hml, hown, hts⟩ (g_X5_runLine_5 l dC dI h0 h1 h2 cint H.size p0 p3 (p4 + 1) (by show 0 ≤ ((p4 + 1) : Int32).toInt ∧ ((p4 + 1) : Int32).toInt ≤ 9; first | with_reducible assumption | (constructor <;> (have := kk_add2 (x := n0_ran) (y := 1) (a := n0_ran.toInt) (b := 1) rfl rfl (by omega) (by omega); have := kk_add2 (x := p4) (y := 1) (a := p4.toInt) (b := 1) rfl rfl (by omega) (by omega); omega))) n0_size (n0_ran + 1) f1 f2 tn0_size (by show 0 ≤ ((n0_ran + 1) : Int32).toInt ∧ ((n0_ran + 1) : Int32).toInt ≤ 997; first | with_reducible assumption | (constructor <;> (have := kk_add2 (x := n0_ran) (y := 1) (a := n0_ran.toInt) (b := 1) rfl rfl (by omega) (by omega); have := kk_add2 (x := p4) (y := 1) (a := p4.toInt) (b := 1) rfl rfl (by omega) (by omega); omega))) bf1 (by show (0 ≤ (p0 : Int32).toInt ∧ (p0 : Int32).toInt < (n0_size : Int32).toInt); first | with_reducible assumption | (have := kk_add2 (x := n0_ran) (y := 1) (a := n0_ran.toInt) (b := 1) rfl rfl (by omega) (by omega); have := kk_add2 (x := p4) (y := 1) (a := p4.toInt) (b := 1) rfl rfl (by omega) (by omega); omega)) aOWN_BODIES aABOVE) (cwV 4 hts gX5_call_X5_runLine rfl rfl rfl ⟨rfl, kh_X5_runLine⟩ ⟨Nat.le_of_ble_eq_true rfl, Nat.le_of_ble_eq_true rfl⟩) ⟨fun a U g mk q => by obtain ⟨q0, q1, qP, qK, qD, qx0, qx1, qx2, qx3⟩ := q; exact ⟨q0, q1, qP, va_K.moved (u := U) (U := U.calling g mk a) (Vm.Alike.refl U.vm) qK, qD, va_Z.moved (u := U) (U := U.calling g mk a) (Vm.Alike.refl U.vm) qx0, va_T.moved (u := U) (U := U.calling g mk a) (Vm.Alike.refl U.vm) qx1, va_Z.moved (u := U) (U := U.calling g mk a) (Vm.Alike.refl U.vm) qx2, va_T.moved (u := U) (U := U.calling g mk a) (Vm.Alike.refl U.vm) qx3⟩, va_recv hKc hPc (ci := 5) (q0 := 0) rfl rfl, fun U hU hW => ⟨rfl, by rw [hU], by rw [hU]; exact hPc, va_K.moved hW.alike hKc, hDc.weaken (fun _ _ _ _ => trivial), by rw [hU]; exact ((hZOWN_BODIES.kept (fun a h1 h2 => hS.2.1 a h1 h2)).narrow hFc).moved hW.alike, by rw [hU]; exact ((hTOWN_BODIES.kept (fun a h1 h2 => hS.2.1 a h1 h2)).narrow hFc).moved hW.alike, by rw [hU]; exact ((hZABOVE.kept (fun a h1 h2 => hS.2.1 a h1 h2)).narrow hFc).moved hW.alike, by rw [hU]; exact ((hTABOVE.kept (fun a h1 h2 => hS.2.1 a h1 h2)).narrow hFc).moved hW.alike⟩⟩ rfl rfl hl.1 rfl (lv_room (Nat.le_of_ble_eq_true rfl)) dX5_call_122 ⟨Nat.le_of_ble_eq_true rfl, Nat.le_of_ble_eq_true rfl⟩) hS (fun q _ h => hFc q h) hFc (fun r_68 u t H1 locs ht hvm hw hB hz1 hk1 hS => ?_)
        obtain ⟨y_69, f_70, by_69, v_70_0, hn_70_0, hP1, hK1, hD1⟩ := hB
        have v_70_0 : y_69.toInt ≤ (n0_ran + 1).toInt + 3 := v_70_0
        have hn_70_0 : kk_P f2 f_70 (n0_ran + 1).toInt y_69.toInt ((kt_breaks (f1 (p0 : Int32).toNatClampNeg) 0).tail) := hn_70_0
        rw [ht] at hP1
        have hK1 := va_K.moved hvm.symm hK1
        obtain ⟨hP, hD⟩ := va_join (wr := []) (w1 := [(h0, kO5 h1 n0_size h2 y_69), (h1, kAi cint 50 f1), (h2, kAi cint 24 f_70)]) hP hD [0, 1, 2] [] rfl rfl (by decide) (by decide) hk1 hFc hP1 hD1
        generalize H1 = H at hP hS ⊢
        have hP : va_P (dC, dI) vwCl [(h0, kO5 h1 n0_size h2 y_69), (h1, kAi cint 50 f1), (h2, kAi cint 24 f_70)] H := hP
        have hD : va_D A [(h0, kO5 h1 n0_size h2 y_69), (h1, kAi cint 50 f1), (h2, kAi cint 24 f_70)] := hD
        rcases hw with ⟨t_68_0, _⟩
        · skip
          have t_68_0 : r_68 = kk_breaks (f1 (p0 : Int32).toNatClampNeg) 0 p0 p3 := t_68_0
          obtain rfl : r_68 = (kk_breaks (f1 (p0 : Int32).toNatClampNeg) 0 p0 p3) := t_68_0
          refine lv_goto (tgt := 143) hx hb dX5_call_125 (by decide) ?_
          obtain ⟨hP9, hD9⟩ := kk_leafout (wc := [(h0, kO5 h1 n0_size h2 y_69), (h1, kAi cint 50 f1), (h2, kAi cint 24 f_70)]) hP hD [0, 1, 2] (by decide) rfl
          have hK9 := kk_Ks (tq := []) hK [] rfl
          exact W.iret (v := (kk_breaks (f1 (p0 : Int32).toNatClampNeg) 0 p0 p3)) hx hb hr (fun t ht hW => ⟨⟨(kk_breaks (f1 (p0 : Int32).toNatClampNeg) 0 p0 p3), (), rfl, ⟨(by first | rfl | (unfold kk_breaks; (repeat' split) <;> first | rfl | (exfalso; have : (0 : Int32).toInt = 0 := rfl; have : (1 : Int32).toInt = 1 := rfl; have : (2 : Int32).toInt = 2 := rfl; have : (3 : Int32).toInt = 3 := rfl; have : (4 : Int32).toInt = 4 := rfl; have : (5 : Int32).toInt = 5 := rfl; have : (6 : Int32).toInt = 6 := rfl; have : (7 : Int32).toInt = 7 := rfl; have := kk_add2 (x := n0_ran) (y := 1) (a := n0_ran.toInt) (b := 1) rfl rfl (by omega) (by omega); have := kk_add2 (x := p4) (y := 1) (a := p4.toInt) (b := 1) rfl rfl (by omega) (by omega); omega))), trivial⟩, y_69, f_70, (by show 1 ≤ (y_69 : Int32).toInt ∧ (y_69 : Int32).toInt ≤ 1000; first | with_reducible assumption | (constructor <;> (have := kk_add2 (x := n0_ran) (y := 1) (a := n0_ran.toInt) (b := 1) rfl rfl (by omega) (by omega); have := kk_add2 (x := p4) (y := 1) (a := p4.toInt) (b := 1) rfl rfl (by omega) (by omega); omega))), (by show (y_69 : Int32).toInt ≤ (n0_ran : Int32).toInt + 11; first | with_reducible assumption | (have := kk_add2 (x := n0_ran) (y := 1) (a := n0_ran.toInt) (b := 1) rfl rfl (by omega) (by omega); have := kk_add2 (x := p4) (y := 1) (a := p4.toInt) (b := 1) rfl rfl (by omega) (by omega); omega)), (by first | exact kk_P_eq (kk_P_trans hp_67 hn_70_0) rfl | (unfold kt_breaks; (repeat' split) <;> first | exact kk_P_eq (kk_P_trans hp_67 hn_70_0) rfl | (exfalso; have : (0 : Int32).toInt = 0 := rfl; have : (1 : Int32).toInt = 1 := rfl; have : (2 : Int32).toInt = 2 := rfl; have : (3 : Int32).toInt = 3 := rfl; have : (4 : Int32).toInt = 4 := rfl; have : (5 : Int32).toInt = 5 := rfl; have : (6 : Int32).toInt = 6 := rfl; have : (7 : Int32).toInt = 7 := rfl; have := kk_add2 (x := n0_ran) (y := 1) (a := n0_ran.toInt) (b := 1) rfl rfl (by omega) (by omega); have := kk_add2 (x := p4) (y := 1) (a := p4.toInt) (b := 1) rfl rfl (by omega) (by omega); omega))), by rw [ht]; exact hP9, va_K.moved hW.alike hK9, hD9⟩, hS.F ht⟩) hS.2.2 dX5_call_143
      · have t_66 : n0_ran.toInt < 24 := kk_nle c_66
        refine lv_aload_n hx hb dX5_call_86 rfl (lv_at hl 2 rfl) ?_
        refine va_get (D := (dC, dI)) (ci := 5) (v := .ref h2) (C := RX5) (T := TX5) (N := 4) hx hb hts (fun _ h => List.mem_cons_of_mem _ (List.mem_append_right _ h)) hown hK hP 0 rfl rfl 2 (by decide) (hts (.fieldLink RX5 15 "KinkStreet$Lines" "trace" "[I") (List.mem_of_getElem? (i := 4) rfl)) (fun _ h9 => h9) rfl dX5_call_87 ?_
        refine lv_aload_n hx hb dX5_call_90 rfl (lv_at hl 2 rfl) ?_
        refine va_get (D := (dC, dI)) (ci := 5) (v := .int n0_ran) (C := RX5) (T := TX5) (N := 4) hx hb hts (fun _ h => List.mem_cons_of_mem _ (List.mem_append_right _ h)) hown hK hP 0 rfl rfl 3 (by decide) (hts (.fieldLink RX5 36 "KinkStreet$Lines" "ran" "I") (List.mem_of_getElem? (i := 3) rfl)) (fun _ h9 => h9) rfl dX5_call_91 ?_
        refine lv_iload hx hb dX5_call_94 (lv_at hl 0 rfl) ?_
        refine va_iast hx hb hK hP hD hS 2 0 rfl rfl (vp_in_iff.mpr ⟨by omega, by omega⟩) dX5_call_96 (fun H locs hP hD hS => ?_)
        have w_71 : ((upd f2 (n0_ran : Int32).toNatClampNeg 10) (n0_ran : Int32).toNatClampNeg).toInt = (10 : Int32).toInt := by rw [kk_ups]
        have hP : va_P (dC, dI) vwCl [(h0, kO5 h1 n0_size h2 n0_ran), (h1, kAi cint 50 f1), (h2, kAi cint 24 (upd f2 (n0_ran : Int32).toNatClampNeg 10))] H := hP
        have hD : va_D A [(h0, kO5 h1 n0_size h2 n0_ran), (h1, kAi cint 50 f1), (h2, kAi cint 24 (upd f2 (n0_ran : Int32).toNatClampNeg 10))] := hD
        refine lv_aload_n hx hb dX5_call_97 rfl (lv_at hl 2 rfl) ?_
        refine lv_dup hx hb dX5_call_98 rfl ?_
        refine va_get (D := (dC, dI)) (ci := 5) (v := .int n0_ran) (C := RX5) (T := TX5) (N := 4) hx hb hts (fun _ h => List.mem_cons_of_mem _ (List.mem_append_right _ h)) hown hK hP 0 rfl rfl 3 (by decide) (hts (.fieldLink RX5 36 "KinkStreet$Lines" "ran" "I") (List.mem_of_getElem? (i := 3) rfl)) (fun _ h9 => h9) rfl dX5_call_99 ?_
        refine lv_iconst (v := 1) hx hb dX5_call_102 kk_ic_1 ?_
        refine lv_iadd hx hb dX5_call_103 ?_
        refine va_put (D := (dC, dI)) (ci := 5) (v := .int (n0_ran + 1)) (ty := .int) (C := RX5) (T := TX5) (N := 4) hx hb hts (fun _ h => List.mem_cons_of_mem _ (List.mem_append_right _ h)) tyX5 tyX5_ok nmX5 hown hK hP hD hS 0 rfl rfl 3 (by decide) (hts (.fieldLink RX5 36 "KinkStreet$Lines" "ran" "I") (List.mem_of_getElem? (i := 3) rfl)) (fun _ h9 => h9) rfl (by decide +kernel) rfl rfl (Nat.le_of_ble_eq_true rfl) dX5_call_104 (fun H locs hP hD hS => ?_)
        have hP : va_P (dC, dI) vwCl [(h0, kO5 h1 n0_size h2 (n0_ran + 1)), (h1, kAi cint 50 f1), (h2, kAi cint 24 (upd f2 (n0_ran : Int32).toNatClampNeg 10))] H := hP
        have hD : va_D A [(h0, kO5 h1 n0_size h2 (n0_ran + 1)), (h1, kAi cint 50 f1), (h2, kAi cint 24 (upd f2 (n0_ran : Int32).toNatClampNeg 10))] := hD
        have hp_72 : kk_P f2 (upd f2 (n0_ran : Int32).toNatClampNeg 10) n0_ran.toInt (n0_ran + 1 : Int32).toInt [10] := kk_P_one (by have := kk_add2 (x := n0_ran) (y := 1) (a := n0_ran.toInt) (b := 1) rfl rfl (by omega) (by omega); omega) (by have := kk_add2 (x := n0_ran) (y := 1) (a := n0_ran.toInt) (b := 1) rfl rfl (by omega) (by omega); omega)
        refine lv_iload hx hb dX5_call_107 (lv_at hl 1 rfl) ?_
        refine lv_if_ne (tgt := 128) hx hb dX5_call_109 (by decide) (fun c => absurd c (by decide)) (fun _ => ?_)
        refine lv_aload_n hx hb dX5_call_112 rfl (lv_at hl 2 rfl) ?_
        refine lv_iload_n hx hb dX5_call_113 rfl (lv_at hl 3 rfl) ?_
        refine lv_iload hx hb dX5_call_114 (lv_at hl 0 rfl) ?_
        refine lv_iload hx hb dX5_call_116 (lv_at hl 6 rfl) ?_
        refine lv_iload hx hb dX5_call_118 (lv_at hl 7 rfl) ?_
        refine lv_iconst (v := 1) hx hb dX5_call_120 kk_ic_1 ?_
        refine lv_iadd hx hb dX5_call_121 ?_
        obtain ⟨hPc, hDc, hFc⟩ := kk_cutout (wc := [(h0, kO5 h1 n0_size h2 (n0_ran + 1)), (h1, kAi cint 50 f1), (h2, kAi cint 24 (upd f2 (n0_ran : Int32).toNatClampNeg 10))]) hP hD hS hA [0, 1, 2] (by decide) rfl
        have hKc := kk_Ks (tq := [(cint, .int)]) hK [0] rfl
        refine va_calli (va_runV (As := [.int p0, .int 10, .int p3, .int (p4 + 1)]) (rest := []) ⟨hx, hb, hml, hown, hts⟩ (g_X5_runLine_5 l dC dI h0 h1 h2 cint H.size p0 p3 (p4 + 1) (by show 0 ≤ ((p4 + 1) : Int32).toInt ∧ ((p4 + 1) : Int32).toInt ≤ 9; first | with_reducible assumption | (constructor <;> (have := kk_add2 (x := n0_ran) (y := 1) (a := n0_ran.toInt) (b := 1) rfl rfl (by omega) (by omega); have := kk_add2 (x := p4) (y := 1) (a := p4.toInt) (b := 1) rfl rfl (by omega) (by omega); omega))) n0_size (n0_ran + 1) f1 (upd f2 (n0_ran : Int32).toNatClampNeg 10) tn0_size (by show 0 ≤ ((n0_ran + 1) : Int32).toInt ∧ ((n0_ran + 1) : Int32).toInt ≤ 997; first | with_reducible assumption | (constructor <;> (have := kk_add2 (x := n0_ran) (y := 1) (a := n0_ran.toInt) (b := 1) rfl rfl (by omega) (by omega); have := kk_add2 (x := p4) (y := 1) (a := p4.toInt) (b := 1) rfl rfl (by omega) (by omega); omega))) bf1 (by show (0 ≤ (p0 : Int32).toInt ∧ (p0 : Int32).toInt < (n0_size : Int32).toInt); first | with_reducible assumption | (have := kk_add2 (x := n0_ran) (y := 1) (a := n0_ran.toInt) (b := 1) rfl rfl (by omega) (by omega); have := kk_add2 (x := p4) (y := 1) (a := p4.toInt) (b := 1) rfl rfl (by omega) (by omega); omega)) aOWN_BODIES aABOVE) (cwV 4 hts gX5_call_X5_runLine rfl rfl rfl ⟨rfl, kh_X5_runLine⟩ ⟨Nat.le_of_ble_eq_true rfl, Nat.le_of_ble_eq_true rfl⟩) ⟨fun a U g mk q => by obtain ⟨q0, q1, qP, qK, qD, qx0, qx1, qx2, qx3⟩ := q; exact ⟨q0, q1, qP, va_K.moved (u := U) (U := U.calling g mk a) (Vm.Alike.refl U.vm) qK, qD, va_Z.moved (u := U) (U := U.calling g mk a) (Vm.Alike.refl U.vm) qx0, va_T.moved (u := U) (U := U.calling g mk a) (Vm.Alike.refl U.vm) qx1, va_Z.moved (u := U) (U := U.calling g mk a) (Vm.Alike.refl U.vm) qx2, va_T.moved (u := U) (U := U.calling g mk a) (Vm.Alike.refl U.vm) qx3⟩, va_recv hKc hPc (ci := 5) (q0 := 0) rfl rfl, fun U hU hW => ⟨rfl, by rw [hU], by rw [hU]; exact hPc, va_K.moved hW.alike hKc, hDc.weaken (fun _ _ _ _ => trivial), by rw [hU]; exact ((hZOWN_BODIES.kept (fun a h1 h2 => hS.2.1 a h1 h2)).narrow hFc).moved hW.alike, by rw [hU]; exact ((hTOWN_BODIES.kept (fun a h1 h2 => hS.2.1 a h1 h2)).narrow hFc).moved hW.alike, by rw [hU]; exact ((hZABOVE.kept (fun a h1 h2 => hS.2.1 a h1 h2)).narrow hFc).moved hW.alike, by rw [hU]; exact ((hTABOVE.kept (fun a h1 h2 => hS.2.1 a h1 h2)).narrow hFc).moved hW.alike⟩⟩ rfl rfl hl.1 rfl (lv_room (Nat.le_of_ble_eq_true rfl)) dX5_call_122 ⟨Nat.le_of_ble_eq_true rfl, Nat.le_of_ble_eq_true rfl⟩) hS (fun q _ h => hFc q h) hFc (fun r_73 u t H1 locs ht hvm hw hB hz1 hk1 hS => ?_)
        obtain ⟨y_74, f_75, by_74, v_75_0, hn_75_0, hP1, hK1, hD1⟩ := hB
        have v_75_0 : y_74.toInt ≤ (n0_ran + 1).toInt + 3 := v_75_0
        have hn_75_0 : kk_P (upd f2 (n0_ran : Int32).toNatClampNeg 10) f_75 (n0_ran + 1).toInt y_74.toInt ((kt_breaks (f1 (p0 : Int32).toNatClampNeg) 0).tail) := hn_75_0
        rw [ht] at hP1
        have hK1 := va_K.moved hvm.symm hK1
        obtain ⟨hP, hD⟩ := va_join (wr := []) (w1 := [(h0, kO5 h1 n0_size h2 y_74), (h1, kAi cint 50 f1), (h2, kAi cint 24 f_75)]) hP hD [0, 1, 2] [] rfl rfl (by decide) (by decide) hk1 hFc hP1 hD1
        generalize H1 = H at hP hS ⊢
        have hP : va_P (dC, dI) vwCl [(h0, kO5 h1 n0_size h2 y_74), (h1, kAi cint 50 f1), (h2, kAi cint 24 f_75)] H := hP
        have hD : va_D A [(h0, kO5 h1 n0_size h2 y_74), (h1, kAi cint 50 f1), (h2, kAi cint 24 f_75)] := hD
        rcases hw with ⟨t_73_0, _⟩
        · skip
          have t_73_0 : r_73 = kk_breaks (f1 (p0 : Int32).toNatClampNeg) 0 p0 p3 := t_73_0
          obtain rfl : r_73 = (kk_breaks (f1 (p0 : Int32).toNatClampNeg) 0 p0 p3) := t_73_0
          refine lv_goto (tgt := 143) hx hb dX5_call_125 (by decide) ?_
          obtain ⟨hP9, hD9⟩ := kk_leafout (wc := [(h0, kO5 h1 n0_size h2 y_74), (h1, kAi cint 50 f1), (h2, kAi cint 24 f_75)]) hP hD [0, 1, 2] (by decide) rfl
          have hK9 := kk_Ks (tq := []) hK [] rfl
          exact W.iret (v := (kk_breaks (f1 (p0 : Int32).toNatClampNeg) 0 p0 p3)) hx hb hr (fun t ht hW => ⟨⟨(kk_breaks (f1 (p0 : Int32).toNatClampNeg) 0 p0 p3), (), rfl, ⟨(by first | rfl | (unfold kk_breaks; (repeat' split) <;> first | rfl | (exfalso; have : (0 : Int32).toInt = 0 := rfl; have : (1 : Int32).toInt = 1 := rfl; have : (2 : Int32).toInt = 2 := rfl; have : (3 : Int32).toInt = 3 := rfl; have : (4 : Int32).toInt = 4 := rfl; have : (5 : Int32).toInt = 5 := rfl; have : (6 : Int32).toInt = 6 := rfl; have : (7 : Int32).toInt = 7 := rfl; have := kk_add2 (x := n0_ran) (y := 1) (a := n0_ran.toInt) (b := 1) rfl rfl (by omega) (by omega); have := kk_add2 (x := p4) (y := 1) (a := p4.toInt) (b := 1) rfl rfl (by omega) (by omega); omega))), trivial⟩, y_74, f_75, (by show 1 ≤ (y_74 : Int32).toInt ∧ (y_74 : Int32).toInt ≤ 1000; first | with_reducible assumption | (constructor <;> (have := kk_add2 (x := n0_ran) (y := 1) (a := n0_ran.toInt) (b := 1) rfl rfl (by omega) (by omega); have := kk_add2 (x := p4) (y := 1) (a := p4.toInt) (b := 1) rfl rfl (by omega) (by omega); omega))), (by show (y_74 : Int32).toInt ≤ (n0_ran : Int32).toInt + 11; first | with_reducible assumption | (have := kk_add2 (x := n0_ran) (y := 1) (a := n0_ran.toInt) (b := 1) rfl rfl (by omega) (by omega); have := kk_add2 (x := p4) (y := 1) (a := p4.toInt) (b := 1) rfl rfl (by omega) (by omega); omega)), (by first | exact kk_P_eq (kk_P_trans hp_72 hn_75_0) rfl | (unfold kt_breaks; (repeat' split) <;> first | exact kk_P_eq (kk_P_trans hp_72 hn_75_0) rfl | (exfalso; have : (0 : Int32).toInt = 0 := rfl; have : (1 : Int32).toInt = 1 := rfl; have : (2 : Int32).toInt = 2 := rfl; have : (3 : Int32).toInt = 3 := rfl; have : (4 : Int32).toInt = 4 := rfl; have : (5 : Int32).toInt = 5 := rfl; have : (6 : Int32).toInt = 6 := rfl; have : (7 : Int32).toInt = 7 := rfl; have := kk_add2 (x := n0_ran) (y := 1) (a := n0_ran.toInt) (b := 1) rfl rfl (by omega) (by omega); have := kk_add2 (x := p4) (y := 1) (a := p4.toInt) (b := 1) rfl rfl (by omega) (by omega); omega))), by rw [ht]; exact hP9, va_K.moved hW.alike hK9, hD9⟩, hS.F ht⟩) hS.2.2 dX5_call_143
    · have t_63 : 40 < p4.toInt := kk_nle c_63
      exfalso; omega
  · have t_1 : p1.toInt = 4 := by rw [e_1]; rfl
    subst e_1
    refine lv_iload_n hx hb dX5_call_0 rfl (lv_at hl 2 rfl) ?_
    refine lv_istore hx hb dX5_call_1 hl (by decide) (rfl : _ = ([(6, .int 4), (0, .ref h0), (1, .int p0), (2, .int 4), (3, .int 1), (4, .int p3), (5, .int p4)] : List (Nat × Value))) (fun ls hl => ?_)
    refine lv_iconst (v := 0) hx hb dX5_call_3 kk_ic_0 ?_
    refine lv_istore hx hb dX5_call_4 hl (by decide) (rfl : _ = ([(7, .int 0), (6, .int 4), (0, .ref h0), (1, .int p0), (2, .int 4), (3, .int 1), (4, .int p3), (5, .int p4)] : List (Nat × Value))) (fun ls hl => ?_)
    refine lv_iload hx hb dX5_call_6 (lv_at hl 0 rfl) ?_
    refine lv_bipush (v := 8) hx hb dX5_call_8 kk_bi_8 ?_
    refine lv_icmp_ge (tgt := 48) hx hb dX5_call_10 (by decide) (fun c => absurd c (by decide)) (fun _ => ?_)
    refine lv_iload hx hb dX5_call_13 (lv_at hl 1 rfl) ?_
    obtain ⟨hPc, hDc, hFc⟩ := kk_cutout (wc := []) hP hD hS hA [] (by decide) rfl
    have hKc := kk_Ks (tq := []) hK [] rfl
    refine va_calli (va_runS (As := [.int 4]) (rest := []) ⟨hx, hb, hml, hown, hts⟩ (g_X5_isKind_15 l dC dI s.heap.size) (va_cwS 1 hts gX5_call_X5_isKind rfl rfl rfl kh_X5_isKind ⟨Nat.le_of_ble_eq_true rfl, Nat.le_of_ble_eq_true rfl⟩) ⟨fun a U g mk q => by obtain ⟨q0, q1, qP, qK, qD⟩ := q; exact ⟨q0, q1, qP, va_K.moved (u := U) (U := U.calling g mk a) (Vm.Alike.refl U.vm) qK, qD⟩, fun U hU hW => ⟨rfl, by rw [hU], by rw [hU]; exact hPc, va_K.moved hW.alike hKc, hDc.weaken (fun _ _ _ _ => trivial)⟩⟩ rfl rfl hl.1 rfl (lv_room (Nat.le_of_ble_eq_true rfl)) dX5_call_15 ⟨Nat.le_of_ble_eq_true rfl, Nat.le_of_ble_eq_true rfl⟩) hS (fun q _ h => hFc q h) hFc (fun r_76 u t H1 locs ht hvm hw hB hz1 hk1 hS => ?_)
    obtain ⟨hP1, hK1, hD1⟩ := hB
    rw [ht] at hP1
    have hK1 := va_K.moved hvm.symm hK1
    obtain ⟨hP, hD⟩ := va_join (wr := [(h0, kO5 h1 n0_size h2 n0_ran), (h1, kAi cint 50 f1), (h2, kAi cint 24 f2)]) (w1 := []) hP hD [] [0, 1, 2] rfl rfl (by decide) (by decide) hk1 hFc hP1 hD1
    generalize H1 = H at hP hS ⊢
    have hP : va_P (dC, dI) vwCl [(h0, kO5 h1 n0_size h2 n0_ran), (h1, kAi cint 50 f1), (h2, kAi cint 24 f2)] H := hP
    have hD : va_D A [(h0, kO5 h1 n0_size h2 n0_ran), (h1, kAi cint 50 f1), (h2, kAi cint 24 f2)] := hD
    obtain rfl := hw
    refine lv_if_eq (tgt := 48) hx hb dX5_call_18 (by decide) (fun c => absurd c (by decide)) (fun _ => ?_)
    refine va_gets hx hb hZOWN_BODIES hS hown (hts (.fieldLink RX5 43 "KinkStreet$Lines" "OWN_BODIES" "[I") (List.mem_of_getElem? (i := 1) rfl)) (fun _ h9 => h9) dX5_call_21 ?_
    refine lv_iload hx hb dX5_call_24 (lv_at hl 1 rfl) ?_
    refine lv_iconst (v := 4) hx hb dX5_call_26 kk_ic_4 ?_
    refine lv_imul hx hb dX5_call_27 ?_
    refine lv_topi (fun y_77 e_77 => ?_)
    obtain rfl : y_77 = 16 := e_77.trans (by decide)
    refine lv_iload_n hx hb dX5_call_28 rfl (lv_at hl 5 rfl) ?_
    refine lv_iadd hx hb dX5_call_29 ?_
    refine lv_topi (fun y_78 e_78 => ?_)
    obtain rfl : y_78 = 17 := e_78.trans (by decide)
    refine va_ti (v := .int 0) hx hb hTOWN_BODIES hS (by unfold vp_in; decide) rfl dX5_call_30 ?_
    refine lv_if_ne (tgt := 48) hx hb dX5_call_31 (by decide) (fun c => absurd c (by decide)) (fun _ => ?_)
    refine va_gets hx hb hZABOVE hS hown (hts (.fieldLink RX5 22 "KinkStreet$Lines" "ABOVE" "[I") (List.mem_of_getElem? (i := 2) rfl)) (fun _ h9 => h9) dX5_call_34 ?_
    refine lv_iload hx hb dX5_call_37 (lv_at hl 1 rfl) ?_
    refine va_ti (v := .int 3) hx hb hTABOVE hS (by unfold vp_in; decide) rfl dX5_call_39 ?_
    refine lv_istore hx hb dX5_call_40 hl (by decide) (rfl : _ = ([(6, .int 3), (7, .int 0), (0, .ref h0), (1, .int p0), (2, .int 4), (3, .int 1), (4, .int p3), (5, .int p4)] : List (Nat × Value))) (fun ls hl => ?_)
    refine lv_iinc (v := 1) hx hb dX5_call_42 hl (k := 1) rfl (by first | rfl | decide) (by decide) (rfl : _ = ([(7, .int 1), (6, .int 3), (0, .ref h0), (1, .int p0), (2, .int 4), (3, .int 1), (4, .int p3), (5, .int p4)] : List (Nat × Value))) (fun ls hl => ?_)
    refine lv_goto (tgt := 6) hx hb dX5_call_45 (by decide) ?_
    refine lv_iload hx hb dX5_call_6 (lv_at hl 0 rfl) ?_
    refine lv_bipush (v := 8) hx hb dX5_call_8 kk_bi_8 ?_
    refine lv_icmp_ge (tgt := 48) hx hb dX5_call_10 (by decide) (fun c => absurd c (by decide)) (fun _ => ?_)
    refine lv_iload hx hb dX5_call_13 (lv_at hl 1 rfl) ?_
    obtain ⟨hPc, hDc, hFc⟩ := kk_cutout (wc := []) hP hD hS hA [] (by decide) rfl
    have hKc := kk_Ks (tq := []) hK [] rfl
    refine va_calli (va_runS (As := [.int 3]) (rest := []) ⟨hx, hb, hml, hown, hts⟩ (g_X5_isKind_14 l dC dI H.size) (va_cwS 1 hts gX5_call_X5_isKind rfl rfl rfl kh_X5_isKind ⟨Nat.le_of_ble_eq_true rfl, Nat.le_of_ble_eq_true rfl⟩) ⟨fun a U g mk q => by obtain ⟨q0, q1, qP, qK, qD⟩ := q; exact ⟨q0, q1, qP, va_K.moved (u := U) (U := U.calling g mk a) (Vm.Alike.refl U.vm) qK, qD⟩, fun U hU hW => ⟨rfl, by rw [hU], by rw [hU]; exact hPc, va_K.moved hW.alike hKc, hDc.weaken (fun _ _ _ _ => trivial)⟩⟩ rfl rfl hl.1 rfl (lv_room (Nat.le_of_ble_eq_true rfl)) dX5_call_15 ⟨Nat.le_of_ble_eq_true rfl, Nat.le_of_ble_eq_true rfl⟩) hS (fun q _ h => hFc q h) hFc (fun r_79 u t H1 locs ht hvm hw hB hz1 hk1 hS => ?_)
    obtain ⟨hP1, hK1, hD1⟩ := hB
    rw [ht] at hP1
    have hK1 := va_K.moved hvm.symm hK1
    obtain ⟨hP, hD⟩ := va_join (wr := [(h0, kO5 h1 n0_size h2 n0_ran), (h1, kAi cint 50 f1), (h2, kAi cint 24 f2)]) (w1 := []) hP hD [] [0, 1, 2] rfl rfl (by decide) (by decide) hk1 hFc hP1 hD1
    generalize H1 = H at hP hS ⊢
    have hP : va_P (dC, dI) vwCl [(h0, kO5 h1 n0_size h2 n0_ran), (h1, kAi cint 50 f1), (h2, kAi cint 24 f2)] H := hP
    have hD : va_D A [(h0, kO5 h1 n0_size h2 n0_ran), (h1, kAi cint 50 f1), (h2, kAi cint 24 f2)] := hD
    obtain rfl := hw
    refine lv_if_eq (tgt := 48) hx hb dX5_call_18 (by decide) (fun c => absurd c (by decide)) (fun _ => ?_)
    refine va_gets hx hb hZOWN_BODIES hS hown (hts (.fieldLink RX5 43 "KinkStreet$Lines" "OWN_BODIES" "[I") (List.mem_of_getElem? (i := 1) rfl)) (fun _ h9 => h9) dX5_call_21 ?_
    refine lv_iload hx hb dX5_call_24 (lv_at hl 1 rfl) ?_
    refine lv_iconst (v := 4) hx hb dX5_call_26 kk_ic_4 ?_
    refine lv_imul hx hb dX5_call_27 ?_
    refine lv_topi (fun y_80 e_80 => ?_)
    obtain rfl : y_80 = 12 := e_80.trans (by decide)
    refine lv_iload_n hx hb dX5_call_28 rfl (lv_at hl 5 rfl) ?_
    refine lv_iadd hx hb dX5_call_29 ?_
    refine lv_topi (fun y_81 e_81 => ?_)
    obtain rfl : y_81 = 13 := e_81.trans (by decide)
    refine va_ti (v := .int 0) hx hb hTOWN_BODIES hS (by unfold vp_in; decide) rfl dX5_call_30 ?_
    refine lv_if_ne (tgt := 48) hx hb dX5_call_31 (by decide) (fun c => absurd c (by decide)) (fun _ => ?_)
    refine va_gets hx hb hZABOVE hS hown (hts (.fieldLink RX5 22 "KinkStreet$Lines" "ABOVE" "[I") (List.mem_of_getElem? (i := 2) rfl)) (fun _ h9 => h9) dX5_call_34 ?_
    refine lv_iload hx hb dX5_call_37 (lv_at hl 1 rfl) ?_
    refine va_ti (v := .int 0) hx hb hTABOVE hS (by unfold vp_in; decide) rfl dX5_call_39 ?_
    refine lv_istore hx hb dX5_call_40 hl (by decide) (rfl : _ = ([(6, .int 0), (7, .int 1), (0, .ref h0), (1, .int p0), (2, .int 4), (3, .int 1), (4, .int p3), (5, .int p4)] : List (Nat × Value))) (fun ls hl => ?_)
    refine lv_iinc (v := 2) hx hb dX5_call_42 hl (k := 1) rfl (by first | rfl | decide) (by decide) (rfl : _ = ([(7, .int 2), (6, .int 0), (0, .ref h0), (1, .int p0), (2, .int 4), (3, .int 1), (4, .int p3), (5, .int p4)] : List (Nat × Value))) (fun ls hl => ?_)
    refine lv_goto (tgt := 6) hx hb dX5_call_45 (by decide) ?_
    refine lv_iload hx hb dX5_call_6 (lv_at hl 0 rfl) ?_
    refine lv_bipush (v := 8) hx hb dX5_call_8 kk_bi_8 ?_
    refine lv_icmp_ge (tgt := 48) hx hb dX5_call_10 (by decide) (fun c => absurd c (by decide)) (fun _ => ?_)
    refine lv_iload hx hb dX5_call_13 (lv_at hl 1 rfl) ?_
    obtain ⟨hPc, hDc, hFc⟩ := kk_cutout (wc := []) hP hD hS hA [] (by decide) rfl
    have hKc := kk_Ks (tq := []) hK [] rfl
    refine va_calli (va_runS (As := [.int 0]) (rest := []) ⟨hx, hb, hml, hown, hts⟩ (g_X5_isKind_11 l dC dI H.size) (va_cwS 1 hts gX5_call_X5_isKind rfl rfl rfl kh_X5_isKind ⟨Nat.le_of_ble_eq_true rfl, Nat.le_of_ble_eq_true rfl⟩) ⟨fun a U g mk q => by obtain ⟨q0, q1, qP, qK, qD⟩ := q; exact ⟨q0, q1, qP, va_K.moved (u := U) (U := U.calling g mk a) (Vm.Alike.refl U.vm) qK, qD⟩, fun U hU hW => ⟨rfl, by rw [hU], by rw [hU]; exact hPc, va_K.moved hW.alike hKc, hDc.weaken (fun _ _ _ _ => trivial)⟩⟩ rfl rfl hl.1 rfl (lv_room (Nat.le_of_ble_eq_true rfl)) dX5_call_15 ⟨Nat.le_of_ble_eq_true rfl, Nat.le_of_ble_eq_true rfl⟩) hS (fun q _ h => hFc q h) hFc (fun r_82 u t H1 locs ht hvm hw hB hz1 hk1 hS => ?_)
    obtain ⟨hP1, hK1, hD1⟩ := hB
    rw [ht] at hP1
    have hK1 := va_K.moved hvm.symm hK1
    obtain ⟨hP, hD⟩ := va_join (wr := [(h0, kO5 h1 n0_size h2 n0_ran), (h1, kAi cint 50 f1), (h2, kAi cint 24 f2)]) (w1 := []) hP hD [] [0, 1, 2] rfl rfl (by decide) (by decide) hk1 hFc hP1 hD1
    generalize H1 = H at hP hS ⊢
    have hP : va_P (dC, dI) vwCl [(h0, kO5 h1 n0_size h2 n0_ran), (h1, kAi cint 50 f1), (h2, kAi cint 24 f2)] H := hP
    have hD : va_D A [(h0, kO5 h1 n0_size h2 n0_ran), (h1, kAi cint 50 f1), (h2, kAi cint 24 f2)] := hD
    obtain rfl := hw
    refine lv_if_eq (tgt := 48) hx hb dX5_call_18 (by decide) (fun c => absurd c (by decide)) (fun _ => ?_)
    refine va_gets hx hb hZOWN_BODIES hS hown (hts (.fieldLink RX5 43 "KinkStreet$Lines" "OWN_BODIES" "[I") (List.mem_of_getElem? (i := 1) rfl)) (fun _ h9 => h9) dX5_call_21 ?_
    refine lv_iload hx hb dX5_call_24 (lv_at hl 1 rfl) ?_
    refine lv_iconst (v := 4) hx hb dX5_call_26 kk_ic_4 ?_
    refine lv_imul hx hb dX5_call_27 ?_
    refine lv_topi (fun y_83 e_83 => ?_)
    obtain rfl : y_83 = 0 := e_83.trans (by decide)
    refine lv_iload_n hx hb dX5_call_28 rfl (lv_at hl 5 rfl) ?_
    refine lv_iadd hx hb dX5_call_29 ?_
    refine lv_topi (fun y_84 e_84 => ?_)
    obtain rfl : y_84 = 1 := e_84.trans (by decide)
    refine va_ti (v := .int 10) hx hb hTOWN_BODIES hS (by unfold vp_in; decide) rfl dX5_call_30 ?_
    refine lv_if_ne (tgt := 48) hx hb dX5_call_31 (by decide) (fun _ => ?_) (fun c => absurd c (by decide))
    refine lv_iload hx hb dX5_call_48 (lv_at hl 1 rfl) ?_
    obtain ⟨hPc, hDc, hFc⟩ := kk_cutout (wc := []) hP hD hS hA [] (by decide) rfl
    have hKc := kk_Ks (tq := []) hK [] rfl
    refine va_calli (va_runS (As := [.int 0]) (rest := []) ⟨hx, hb, hml, hown, hts⟩ (g_X5_isKind_11 l dC dI H.size) (va_cwS 1 hts gX5_call_X5_isKind rfl rfl rfl kh_X5_isKind ⟨Nat.le_of_ble_eq_true rfl, Nat.le_of_ble_eq_true rfl⟩) ⟨fun a U g mk q => by obtain ⟨q0, q1, qP, qK, qD⟩ := q; exact ⟨q0, q1, qP, va_K.moved (u := U) (U := U.calling g mk a) (Vm.Alike.refl U.vm) qK, qD⟩, fun U hU hW => ⟨rfl, by rw [hU], by rw [hU]; exact hPc, va_K.moved hW.alike hKc, hDc.weaken (fun _ _ _ _ => trivial)⟩⟩ rfl rfl hl.1 rfl (lv_room (Nat.le_of_ble_eq_true rfl)) dX5_call_50 ⟨Nat.le_of_ble_eq_true rfl, Nat.le_of_ble_eq_true rfl⟩) hS (fun q _ h => hFc q h) hFc (fun r_85 u t H1 locs ht hvm hw hB hz1 hk1 hS => ?_)
    obtain ⟨hP1, hK1, hD1⟩ := hB
    rw [ht] at hP1
    have hK1 := va_K.moved hvm.symm hK1
    obtain ⟨hP, hD⟩ := va_join (wr := [(h0, kO5 h1 n0_size h2 n0_ran), (h1, kAi cint 50 f1), (h2, kAi cint 24 f2)]) (w1 := []) hP hD [] [0, 1, 2] rfl rfl (by decide) (by decide) hk1 hFc hP1 hD1
    generalize H1 = H at hP hS ⊢
    have hP : va_P (dC, dI) vwCl [(h0, kO5 h1 n0_size h2 n0_ran), (h1, kAi cint 50 f1), (h2, kAi cint 24 f2)] H := hP
    have hD : va_D A [(h0, kO5 h1 n0_size h2 n0_ran), (h1, kAi cint 50 f1), (h2, kAi cint 24 f2)] := hD
    obtain rfl := hw
    refine lv_if_eq (tgt := 63) hx hb dX5_call_53 (by decide) (fun c => absurd c (by decide)) (fun _ => ?_)
    refine lv_iload hx hb dX5_call_56 (lv_at hl 7 rfl) ?_
    refine lv_bipush (v := 40) hx hb dX5_call_58 kk_bi_40 ?_
    refine lv_icmp_le (tgt := 65) hx hb dX5_call_60 (by decide) (fun c_86 => ?_) (fun c_86 => ?_)
    · have t_86 : p4.toInt ≤ 40 := kk_le c_86
      refine va_gets hx hb hZOWN_BODIES hS hown (hts (.fieldLink RX5 43 "KinkStreet$Lines" "OWN_BODIES" "[I") (List.mem_of_getElem? (i := 1) rfl)) (fun _ h9 => h9) dX5_call_65 ?_
      refine lv_iload hx hb dX5_call_68 (lv_at hl 1 rfl) ?_
      refine lv_iconst (v := 4) hx hb dX5_call_70 kk_ic_4 ?_
      refine lv_imul hx hb dX5_call_71 ?_
      refine lv_topi (fun y_87 e_87 => ?_)
      obtain rfl : y_87 = 0 := e_87.trans (by decide)
      refine lv_iload_n hx hb dX5_call_72 rfl (lv_at hl 5 rfl) ?_
      refine lv_iadd hx hb dX5_call_73 ?_
      refine lv_topi (fun y_88 e_88 => ?_)
      obtain rfl : y_88 = 1 := e_88.trans (by decide)
      refine va_ti (v := .int 10) hx hb hTOWN_BODIES hS (by unfold vp_in; decide) rfl dX5_call_74 ?_
      refine lv_istore hx hb dX5_call_75 hl (by decide) (rfl : _ = ([(7, .int 10), (6, .int 0), (0, .ref h0), (1, .int p0), (2, .int 4), (3, .int 1), (4, .int p3), (5, .int p4)] : List (Nat × Value))) (fun ls hl => ?_)
      refine lv_aload_n hx hb dX5_call_77 rfl (lv_at hl 2 rfl) ?_
      refine va_get (D := (dC, dI)) (ci := 5) (v := .int n0_ran) (C := RX5) (T := TX5) (N := 4) hx hb hts (fun _ h => List.mem_cons_of_mem _ (List.mem_append_right _ h)) hown hK hP 0 rfl rfl 3 (by decide) (hts (.fieldLink RX5 36 "KinkStreet$Lines" "ran" "I") (List.mem_of_getElem? (i := 3) rfl)) (fun _ h9 => h9) rfl dX5_call_78 ?_
      refine lv_bipush (v := 24) hx hb dX5_call_81 kk_bi_24 ?_
      refine lv_icmp_ge (tgt := 97) hx hb dX5_call_83 (by decide) (fun c_89 => ?_) (fun c_89 => ?_)
      · have t_89 : 24 ≤ n0_ran.toInt := kk_le c_89
        refine lv_aload_n hx hb dX5_call_97 rfl (lv_at hl 2 rfl) ?_
        refine lv_dup hx hb dX5_call_98 rfl ?_
        refine va_get (D := (dC, dI)) (ci := 5) (v := .int n0_ran) (C := RX5) (T := TX5) (N := 4) hx hb hts (fun _ h => List.mem_cons_of_mem _ (List.mem_append_right _ h)) hown hK hP 0 rfl rfl 3 (by decide) (hts (.fieldLink RX5 36 "KinkStreet$Lines" "ran" "I") (List.mem_of_getElem? (i := 3) rfl)) (fun _ h9 => h9) rfl dX5_call_99 ?_
        refine lv_iconst (v := 1) hx hb dX5_call_102 kk_ic_1 ?_
        refine lv_iadd hx hb dX5_call_103 ?_
        refine va_put (D := (dC, dI)) (ci := 5) (v := .int (n0_ran + 1)) (ty := .int) (C := RX5) (T := TX5) (N := 4) hx hb hts (fun _ h => List.mem_cons_of_mem _ (List.mem_append_right _ h)) tyX5 tyX5_ok nmX5 hown hK hP hD hS 0 rfl rfl 3 (by decide) (hts (.fieldLink RX5 36 "KinkStreet$Lines" "ran" "I") (List.mem_of_getElem? (i := 3) rfl)) (fun _ h9 => h9) rfl (by decide +kernel) rfl rfl (Nat.le_of_ble_eq_true rfl) dX5_call_104 (fun H locs hP hD hS => ?_)
        have hP : va_P (dC, dI) vwCl [(h0, kO5 h1 n0_size h2 (n0_ran + 1)), (h1, kAi cint 50 f1), (h2, kAi cint 24 f2)] H := hP
        have hD : va_D A [(h0, kO5 h1 n0_size h2 (n0_ran + 1)), (h1, kAi cint 50 f1), (h2, kAi cint 24 f2)] := hD
        have hp_90 : kk_P f2 f2 n0_ran.toInt (n0_ran + 1 : Int32).toInt [10] := kk_P_out (by have := kk_add2 (x := n0_ran) (y := 1) (a := n0_ran.toInt) (b := 1) rfl rfl (by omega) (by omega); omega) (by have := kk_add2 (x := n0_ran) (y := 1) (a := n0_ran.toInt) (b := 1) rfl rfl (by omega) (by omega); omega)
        refine lv_iload hx hb dX5_call_107 (lv_at hl 1 rfl) ?_
        refine lv_if_ne (tgt := 128) hx hb dX5_call_109 (by decide) (fun c => absurd c (by decide)) (fun _ => ?_)
        refine lv_aload_n hx hb dX5_call_112 rfl (lv_at hl 2 rfl) ?_
        refine lv_iload_n hx hb dX5_call_113 rfl (lv_at hl 3 rfl) ?_
        refine lv_iload hx hb dX5_call_114 (lv_at hl 0 rfl) ?_
        refine lv_iload hx hb dX5_call_116 (lv_at hl 6 rfl) ?_
        refine lv_iload hx hb dX5_call_118 (lv_at hl 7 rfl) ?_
        refine lv_iconst (v := 1) hx hb dX5_call_120 kk_ic_1 ?_
        refine lv_iadd hx hb dX5_call_121 ?_
        obtain ⟨hPc, hDc, hFc⟩ := kk_cutout (wc := [(h0, kO5 h1 n0_size h2 (n0_ran + 1)), (h1, kAi cint 50 f1), (h2, kAi cint 24 f2)]) hP hD hS hA [0, 1, 2] (by decide) rfl
        have hKc := kk_Ks (tq := [(cint, .int)]) hK [0] rfl
        refine va_calli (va_runV (As := [.int p0, .int 10, .int p3, .int (p4 + 1)]) (rest := []) ⟨hx, hb, hml, hown, hts⟩ (g_X5_runLine_5 l dC dI h0 h1 h2 cint H.size p0 p3 (p4 + 1) (by show 0 ≤ ((p4 + 1) : Int32).toInt ∧ ((p4 + 1) : Int32).toInt ≤ 9; first | with_reducible assumption | (constructor <;> (have := kk_add2 (x := n0_ran) (y := 1) (a := n0_ran.toInt) (b := 1) rfl rfl (by omega) (by omega); have := kk_add2 (x := p4) (y := 1) (a := p4.toInt) (b := 1) rfl rfl (by omega) (by omega); omega))) n0_size (n0_ran + 1) f1 f2 tn0_size (by show 0 ≤ ((n0_ran + 1) : Int32).toInt ∧ ((n0_ran + 1) : Int32).toInt ≤ 997; first | with_reducible assumption | (constructor <;> (have := kk_add2 (x := n0_ran) (y := 1) (a := n0_ran.toInt) (b := 1) rfl rfl (by omega) (by omega); have := kk_add2 (x := p4) (y := 1) (a := p4.toInt) (b := 1) rfl rfl (by omega) (by omega); omega))) bf1 (by show (0 ≤ (p0 : Int32).toInt ∧ (p0 : Int32).toInt < (n0_size : Int32).toInt); first | with_reducible assumption | (have := kk_add2 (x := n0_ran) (y := 1) (a := n0_ran.toInt) (b := 1) rfl rfl (by omega) (by omega); have := kk_add2 (x := p4) (y := 1) (a := p4.toInt) (b := 1) rfl rfl (by omega) (by omega); omega)) aOWN_BODIES aABOVE) (cwV 4 hts gX5_call_X5_runLine rfl rfl rfl ⟨rfl, kh_X5_runLine⟩ ⟨Nat.le_of_ble_eq_true rfl, Nat.le_of_ble_eq_true rfl⟩) ⟨fun a U g mk q => by obtain ⟨q0, q1, qP, qK, qD, qx0, qx1, qx2, qx3⟩ := q; exact ⟨q0, q1, qP, va_K.moved (u := U) (U := U.calling g mk a) (Vm.Alike.refl U.vm) qK, qD, va_Z.moved (u := U) (U := U.calling g mk a) (Vm.Alike.refl U.vm) qx0, va_T.moved (u := U) (U := U.calling g mk a) (Vm.Alike.refl U.vm) qx1, va_Z.moved (u := U) (U := U.calling g mk a) (Vm.Alike.refl U.vm) qx2, va_T.moved (u := U) (U := U.calling g mk a) (Vm.Alike.refl U.vm) qx3⟩, va_recv hKc hPc (ci := 5) (q0 := 0) rfl rfl, fun U hU hW => ⟨rfl, by rw [hU], by rw [hU]; exact hPc, va_K.moved hW.alike hKc, hDc.weaken (fun _ _ _ _ => trivial), by rw [hU]; exact ((hZOWN_BODIES.kept (fun a h1 h2 => hS.2.1 a h1 h2)).narrow hFc).moved hW.alike, by rw [hU]; exact ((hTOWN_BODIES.kept (fun a h1 h2 => hS.2.1 a h1 h2)).narrow hFc).moved hW.alike, by rw [hU]; exact ((hZABOVE.kept (fun a h1 h2 => hS.2.1 a h1 h2)).narrow hFc).moved hW.alike, by rw [hU]; exact ((hTABOVE.kept (fun a h1 h2 => hS.2.1 a h1 h2)).narrow hFc).moved hW.alike⟩⟩ rfl rfl hl.1 rfl (lv_room (Nat.le_of_ble_eq_true rfl)) dX5_call_122 ⟨Nat.le_of_ble_eq_true rfl, Nat.le_of_ble_eq_true rfl⟩) hS (fun q _ h => hFc q h) hFc (fun r_91 u t H1 locs ht hvm hw hB hz1 hk1 hS => ?_)
        obtain ⟨y_92, f_93, by_92, v_93_0, hn_93_0, hP1, hK1, hD1⟩ := hB
        have v_93_0 : y_92.toInt ≤ (n0_ran + 1).toInt + 3 := v_93_0
        have hn_93_0 : kk_P f2 f_93 (n0_ran + 1).toInt y_92.toInt ((kt_breaks (f1 (p0 : Int32).toNatClampNeg) 0).tail) := hn_93_0
        rw [ht] at hP1
        have hK1 := va_K.moved hvm.symm hK1
        obtain ⟨hP, hD⟩ := va_join (wr := []) (w1 := [(h0, kO5 h1 n0_size h2 y_92), (h1, kAi cint 50 f1), (h2, kAi cint 24 f_93)]) hP hD [0, 1, 2] [] rfl rfl (by decide) (by decide) hk1 hFc hP1 hD1
        generalize H1 = H at hP hS ⊢
        have hP : va_P (dC, dI) vwCl [(h0, kO5 h1 n0_size h2 y_92), (h1, kAi cint 50 f1), (h2, kAi cint 24 f_93)] H := hP
        have hD : va_D A [(h0, kO5 h1 n0_size h2 y_92), (h1, kAi cint 50 f1), (h2, kAi cint 24 f_93)] := hD
        rcases hw with ⟨t_91_0, _⟩
        · skip
          have t_91_0 : r_91 = kk_breaks (f1 (p0 : Int32).toNatClampNeg) 0 p0 p3 := t_91_0
          obtain rfl : r_91 = (kk_breaks (f1 (p0 : Int32).toNatClampNeg) 0 p0 p3) := t_91_0
          refine lv_goto (tgt := 143) hx hb dX5_call_125 (by decide) ?_
          obtain ⟨hP9, hD9⟩ := kk_leafout (wc := [(h0, kO5 h1 n0_size h2 y_92), (h1, kAi cint 50 f1), (h2, kAi cint 24 f_93)]) hP hD [0, 1, 2] (by decide) rfl
          have hK9 := kk_Ks (tq := []) hK [] rfl
          exact W.iret (v := (kk_breaks (f1 (p0 : Int32).toNatClampNeg) 0 p0 p3)) hx hb hr (fun t ht hW => ⟨⟨(kk_breaks (f1 (p0 : Int32).toNatClampNeg) 0 p0 p3), (), rfl, ⟨(by first | rfl | (unfold kk_breaks; (repeat' split) <;> first | rfl | (exfalso; have : (0 : Int32).toInt = 0 := rfl; have : (1 : Int32).toInt = 1 := rfl; have : (2 : Int32).toInt = 2 := rfl; have : (3 : Int32).toInt = 3 := rfl; have : (4 : Int32).toInt = 4 := rfl; have : (5 : Int32).toInt = 5 := rfl; have : (6 : Int32).toInt = 6 := rfl; have : (7 : Int32).toInt = 7 := rfl; have := kk_add2 (x := n0_ran) (y := 1) (a := n0_ran.toInt) (b := 1) rfl rfl (by omega) (by omega); have := kk_add2 (x := p4) (y := 1) (a := p4.toInt) (b := 1) rfl rfl (by omega) (by omega); omega))), trivial⟩, y_92, f_93, (by show 1 ≤ (y_92 : Int32).toInt ∧ (y_92 : Int32).toInt ≤ 1000; first | with_reducible assumption | (constructor <;> (have := kk_add2 (x := n0_ran) (y := 1) (a := n0_ran.toInt) (b := 1) rfl rfl (by omega) (by omega); have := kk_add2 (x := p4) (y := 1) (a := p4.toInt) (b := 1) rfl rfl (by omega) (by omega); omega))), (by show (y_92 : Int32).toInt ≤ (n0_ran : Int32).toInt + 11; first | with_reducible assumption | (have := kk_add2 (x := n0_ran) (y := 1) (a := n0_ran.toInt) (b := 1) rfl rfl (by omega) (by omega); have := kk_add2 (x := p4) (y := 1) (a := p4.toInt) (b := 1) rfl rfl (by omega) (by omega); omega)), (by first | exact kk_P_eq (kk_P_trans hp_90 hn_93_0) rfl | (unfold kt_breaks; (repeat' split) <;> first | exact kk_P_eq (kk_P_trans hp_90 hn_93_0) rfl | (exfalso; have : (0 : Int32).toInt = 0 := rfl; have : (1 : Int32).toInt = 1 := rfl; have : (2 : Int32).toInt = 2 := rfl; have : (3 : Int32).toInt = 3 := rfl; have : (4 : Int32).toInt = 4 := rfl; have : (5 : Int32).toInt = 5 := rfl; have : (6 : Int32).toInt = 6 := rfl; have : (7 : Int32).toInt = 7 := rfl; have := kk_add2 (x := n0_ran) (y := 1) (a := n0_ran.toInt) (b := 1) rfl rfl (by omega) (by omega); have := kk_add2 (x := p4) (y := 1) (a := p4.toInt) (b := 1) rfl rfl (by omega) (by omega); omega))), by rw [ht]; exact hP9, va_K.moved hW.alike hK9, hD9⟩, hS.F ht⟩) hS.2.2 dX5_call_143
      · have t_89 : n0_ran.toInt < 24 := kk_nle c_89
        refine lv_aload_n hx hb dX5_call_86 rfl (lv_at hl 2 rfl) ?_
        refine va_get (D := (dC, dI)) (ci := 5) (v := .ref h2) (C := RX5) (T := TX5) (N := 4) hx hb hts (fun _ h => List.mem_cons_of_mem _ (List.mem_append_right _ h)) hown hK hP 0 rfl rfl 2 (by decide) (hts (.fieldLink RX5 15 "KinkStreet$Lines" "trace" "[I") (List.mem_of_getElem? (i := 4) rfl)) (fun _ h9 => h9) rfl dX5_call_87 ?_
        refine lv_aload_n hx hb dX5_call_90 rfl (lv_at hl 2 rfl) ?_
        refine va_get (D := (dC, dI)) (ci := 5) (v := .int n0_ran) (C := RX5) (T := TX5) (N := 4) hx hb hts (fun _ h => List.mem_cons_of_mem _ (List.mem_append_right _ h)) hown hK hP 0 rfl rfl 3 (by decide) (hts (.fieldLink RX5 36 "KinkStreet$Lines" "ran" "I") (List.mem_of_getElem? (i := 3) rfl)) (fun _ h9 => h9) rfl dX5_call_91 ?_
        refine lv_iload hx hb dX5_call_94 (lv_at hl 0 rfl) ?_
        refine va_iast hx hb hK hP hD hS 2 0 rfl rfl (vp_in_iff.mpr ⟨by omega, by omega⟩) dX5_call_96 (fun H locs hP hD hS => ?_)
        have w_94 : ((upd f2 (n0_ran : Int32).toNatClampNeg 10) (n0_ran : Int32).toNatClampNeg).toInt = (10 : Int32).toInt := by rw [kk_ups]
        have hP : va_P (dC, dI) vwCl [(h0, kO5 h1 n0_size h2 n0_ran), (h1, kAi cint 50 f1), (h2, kAi cint 24 (upd f2 (n0_ran : Int32).toNatClampNeg 10))] H := hP
        have hD : va_D A [(h0, kO5 h1 n0_size h2 n0_ran), (h1, kAi cint 50 f1), (h2, kAi cint 24 (upd f2 (n0_ran : Int32).toNatClampNeg 10))] := hD
        refine lv_aload_n hx hb dX5_call_97 rfl (lv_at hl 2 rfl) ?_
        refine lv_dup hx hb dX5_call_98 rfl ?_
        refine va_get (D := (dC, dI)) (ci := 5) (v := .int n0_ran) (C := RX5) (T := TX5) (N := 4) hx hb hts (fun _ h => List.mem_cons_of_mem _ (List.mem_append_right _ h)) hown hK hP 0 rfl rfl 3 (by decide) (hts (.fieldLink RX5 36 "KinkStreet$Lines" "ran" "I") (List.mem_of_getElem? (i := 3) rfl)) (fun _ h9 => h9) rfl dX5_call_99 ?_
        refine lv_iconst (v := 1) hx hb dX5_call_102 kk_ic_1 ?_
        refine lv_iadd hx hb dX5_call_103 ?_
        refine va_put (D := (dC, dI)) (ci := 5) (v := .int (n0_ran + 1)) (ty := .int) (C := RX5) (T := TX5) (N := 4) hx hb hts (fun _ h => List.mem_cons_of_mem _ (List.mem_append_right _ h)) tyX5 tyX5_ok nmX5 hown hK hP hD hS 0 rfl rfl 3 (by decide) (hts (.fieldLink RX5 36 "KinkStreet$Lines" "ran" "I") (List.mem_of_getElem? (i := 3) rfl)) (fun _ h9 => h9) rfl (by decide +kernel) rfl rfl (Nat.le_of_ble_eq_true rfl) dX5_call_104 (fun H locs hP hD hS => ?_)
        have hP : va_P (dC, dI) vwCl [(h0, kO5 h1 n0_size h2 (n0_ran + 1)), (h1, kAi cint 50 f1), (h2, kAi cint 24 (upd f2 (n0_ran : Int32).toNatClampNeg 10))] H := hP
        have hD : va_D A [(h0, kO5 h1 n0_size h2 (n0_ran + 1)), (h1, kAi cint 50 f1), (h2, kAi cint 24 (upd f2 (n0_ran : Int32).toNatClampNeg 10))] := hD
        have hp_95 : kk_P f2 (upd f2 (n0_ran : Int32).toNatClampNeg 10) n0_ran.toInt (n0_ran + 1 : Int32).toInt [10] := kk_P_one (by have := kk_add2 (x := n0_ran) (y := 1) (a := n0_ran.toInt) (b := 1) rfl rfl (by omega) (by omega); omega) (by have := kk_add2 (x := n0_ran) (y := 1) (a := n0_ran.toInt) (b := 1) rfl rfl (by omega) (by omega); omega)
        refine lv_iload hx hb dX5_call_107 (lv_at hl 1 rfl) ?_
        refine lv_if_ne (tgt := 128) hx hb dX5_call_109 (by decide) (fun c => absurd c (by decide)) (fun _ => ?_)
        refine lv_aload_n hx hb dX5_call_112 rfl (lv_at hl 2 rfl) ?_
        refine lv_iload_n hx hb dX5_call_113 rfl (lv_at hl 3 rfl) ?_
        refine lv_iload hx hb dX5_call_114 (lv_at hl 0 rfl) ?_
        refine lv_iload hx hb dX5_call_116 (lv_at hl 6 rfl) ?_
        refine lv_iload hx hb dX5_call_118 (lv_at hl 7 rfl) ?_
        refine lv_iconst (v := 1) hx hb dX5_call_120 kk_ic_1 ?_
        refine lv_iadd hx hb dX5_call_121 ?_
        obtain ⟨hPc, hDc, hFc⟩ := kk_cutout (wc := [(h0, kO5 h1 n0_size h2 (n0_ran + 1)), (h1, kAi cint 50 f1), (h2, kAi cint 24 (upd f2 (n0_ran : Int32).toNatClampNeg 10))]) hP hD hS hA [0, 1, 2] (by decide) rfl
        have hKc := kk_Ks (tq := [(cint, .int)]) hK [0] rfl
        refine va_calli (va_runV (As := [.int p0, .int 10, .int p3, .int (p4 + 1)]) (rest := []) ⟨hx, hb, hml, hown, hts⟩ (g_X5_runLine_5 l dC dI h0 h1 h2 cint H.size p0 p3 (p4 + 1) (by show 0 ≤ ((p4 + 1) : Int32).toInt ∧ ((p4 + 1) : Int32).toInt ≤ 9; first | with_reducible assumption | (constructor <;> (have := kk_add2 (x := n0_ran) (y := 1) (a := n0_ran.toInt) (b := 1) rfl rfl (by omega) (by omega); have := kk_add2 (x := p4) (y := 1) (a := p4.toInt) (b := 1) rfl rfl (by omega) (by omega); omega))) n0_size (n0_ran + 1) f1 (upd f2 (n0_ran : Int32).toNatClampNeg 10) tn0_size (by show 0 ≤ ((n0_ran + 1) : Int32).toInt ∧ ((n0_ran + 1) : Int32).toInt ≤ 997; first | with_reducible assumption | (constructor <;> (have := kk_add2 (x := n0_ran) (y := 1) (a := n0_ran.toInt) (b := 1) rfl rfl (by omega) (by omega); have := kk_add2 (x := p4) (y := 1) (a := p4.toInt) (b := 1) rfl rfl (by omega) (by omega); omega))) bf1 (by show (0 ≤ (p0 : Int32).toInt ∧ (p0 : Int32).toInt < (n0_size : Int32).toInt); first | with_reducible assumption | (have := kk_add2 (x := n0_ran) (y := 1) (a := n0_ran.toInt) (b := 1) rfl rfl (by omega) (by omega); have := kk_add2 (x := p4) (y := 1) (a := p4.toInt) (b := 1) rfl rfl (by omega) (by omega); omega)) aOWN_BODIES aABOVE) (cwV 4 hts gX5_call_X5_runLine rfl rfl rfl ⟨rfl, kh_X5_runLine⟩ ⟨Nat.le_of_ble_eq_true rfl, Nat.le_of_ble_eq_true rfl⟩) ⟨fun a U g mk q => by obtain ⟨q0, q1, qP, qK, qD, qx0, qx1, qx2, qx3⟩ := q; exact ⟨q0, q1, qP, va_K.moved (u := U) (U := U.calling g mk a) (Vm.Alike.refl U.vm) qK, qD, va_Z.moved (u := U) (U := U.calling g mk a) (Vm.Alike.refl U.vm) qx0, va_T.moved (u := U) (U := U.calling g mk a) (Vm.Alike.refl U.vm) qx1, va_Z.moved (u := U) (U := U.calling g mk a) (Vm.Alike.refl U.vm) qx2, va_T.moved (u := U) (U := U.calling g mk a) (Vm.Alike.refl U.vm) qx3⟩, va_recv hKc hPc (ci := 5) (q0 := 0) rfl rfl, fun U hU hW => ⟨rfl, by rw [hU], by rw [hU]; exact hPc, va_K.moved hW.alike hKc, hDc.weaken (fun _ _ _ _ => trivial), by rw [hU]; exact ((hZOWN_BODIES.kept (fun a h1 h2 => hS.2.1 a h1 h2)).narrow hFc).moved hW.alike, by rw [hU]; exact ((hTOWN_BODIES.kept (fun a h1 h2 => hS.2.1 a h1 h2)).narrow hFc).moved hW.alike, by rw [hU]; exact ((hZABOVE.kept (fun a h1 h2 => hS.2.1 a h1 h2)).narrow hFc).moved hW.alike, by rw [hU]; exact ((hTABOVE.kept (fun a h1 h2 => hS.2.1 a h1 h2)).narrow hFc).moved hW.alike⟩⟩ rfl rfl hl.1 rfl (lv_room (Nat.le_of_ble_eq_true rfl)) dX5_call_122 ⟨Nat.le_of_ble_eq_true rfl, Nat.le_of_ble_eq_true rfl⟩) hS (fun q _ h => hFc q h) hFc (fun r_96 u t H1 locs ht hvm hw hB hz1 hk1 hS => ?_)
        obtain ⟨y_97, f_98, by_97, v_98_0, hn_98_0, hP1, hK1, hD1⟩ := hB
        have v_98_0 : y_97.toInt ≤ (n0_ran + 1).toInt + 3 := v_98_0
        have hn_98_0 : kk_P (upd f2 (n0_ran : Int32).toNatClampNeg 10) f_98 (n0_ran + 1).toInt y_97.toInt ((kt_breaks (f1 (p0 : Int32).toNatClampNeg) 0).tail) := hn_98_0
        rw [ht] at hP1
        have hK1 := va_K.moved hvm.symm hK1
        obtain ⟨hP, hD⟩ := va_join (wr := []) (w1 := [(h0, kO5 h1 n0_size h2 y_97), (h1, kAi cint 50 f1), (h2, kAi cint 24 f_98)]) hP hD [0, 1, 2] [] rfl rfl (by decide) (by decide) hk1 hFc hP1 hD1
        generalize H1 = H at hP hS ⊢
        have hP : va_P (dC, dI) vwCl [(h0, kO5 h1 n0_size h2 y_97), (h1, kAi cint 50 f1), (h2, kAi cint 24 f_98)] H := hP
        have hD : va_D A [(h0, kO5 h1 n0_size h2 y_97), (h1, kAi cint 50 f1), (h2, kAi cint 24 f_98)] := hD
        rcases hw with ⟨t_96_0, _⟩
        · skip
          have t_96_0 : r_96 = kk_breaks (f1 (p0 : Int32).toNatClampNeg) 0 p0 p3 := t_96_0
          obtain rfl : r_96 = (kk_breaks (f1 (p0 : Int32).toNatClampNeg) 0 p0 p3) := t_96_0
          refine lv_goto (tgt := 143) hx hb dX5_call_125 (by decide) ?_
          obtain ⟨hP9, hD9⟩ := kk_leafout (wc := [(h0, kO5 h1 n0_size h2 y_97), (h1, kAi cint 50 f1), (h2, kAi cint 24 f_98)]) hP hD [0, 1, 2] (by decide) rfl
          have hK9 := kk_Ks (tq := []) hK [] rfl
          exact W.iret (v := (kk_breaks (f1 (p0 : Int32).toNatClampNeg) 0 p0 p3)) hx hb hr (fun t ht hW => ⟨⟨(kk_breaks (f1 (p0 : Int32).toNatClampNeg) 0 p0 p3), (), rfl, ⟨(by first | rfl | (unfold kk_breaks; (repeat' split) <;> first | rfl | (exfalso; have : (0 : Int32).toInt = 0 := rfl; have : (1 : Int32).toInt = 1 := rfl; have : (2 : Int32).toInt = 2 := rfl; have : (3 : Int32).toInt = 3 := rfl; have : (4 : Int32).toInt = 4 := rfl; have : (5 : Int32).toInt = 5 := rfl; have : (6 : Int32).toInt = 6 := rfl; have : (7 : Int32).toInt = 7 := rfl; have := kk_add2 (x := n0_ran) (y := 1) (a := n0_ran.toInt) (b := 1) rfl rfl (by omega) (by omega); have := kk_add2 (x := p4) (y := 1) (a := p4.toInt) (b := 1) rfl rfl (by omega) (by omega); omega))), trivial⟩, y_97, f_98, (by show 1 ≤ (y_97 : Int32).toInt ∧ (y_97 : Int32).toInt ≤ 1000; first | with_reducible assumption | (constructor <;> (have := kk_add2 (x := n0_ran) (y := 1) (a := n0_ran.toInt) (b := 1) rfl rfl (by omega) (by omega); have := kk_add2 (x := p4) (y := 1) (a := p4.toInt) (b := 1) rfl rfl (by omega) (by omega); omega))), (by show (y_97 : Int32).toInt ≤ (n0_ran : Int32).toInt + 11; first | with_reducible assumption | (have := kk_add2 (x := n0_ran) (y := 1) (a := n0_ran.toInt) (b := 1) rfl rfl (by omega) (by omega); have := kk_add2 (x := p4) (y := 1) (a := p4.toInt) (b := 1) rfl rfl (by omega) (by omega); omega)), (by first | exact kk_P_eq (kk_P_trans hp_95 hn_98_0) rfl | (unfold kt_breaks; (repeat' split) <;> first | exact kk_P_eq (kk_P_trans hp_95 hn_98_0) rfl | (exfalso; have : (0 : Int32).toInt = 0 := rfl; have : (1 : Int32).toInt = 1 := rfl; have : (2 : Int32).toInt = 2 := rfl; have : (3 : Int32).toInt = 3 := rfl; have : (4 : Int32).toInt = 4 := rfl; have : (5 : Int32).toInt = 5 := rfl; have : (6 : Int32).toInt = 6 := rfl; have : (7 : Int32).toInt = 7 := rfl; have := kk_add2 (x := n0_ran) (y := 1) (a := n0_ran.toInt) (b := 1) rfl rfl (by omega) (by omega); have := kk_add2 (x := p4) (y := 1) (a := p4.toInt) (b := 1) rfl rfl (by omega) (by omega); omega))), by rw [ht]; exact hP9, va_K.moved hW.alike hK9, hD9⟩, hS.F ht⟩) hS.2.2 dX5_call_143
    · have t_86 : 40 < p4.toInt := kk_nle c_86
      exfalso; omega
  · have t_1 : p1.toInt = 5 := by rw [e_1]; rfl
    subst e_1
    refine lv_iload_n hx hb dX5_call_0 rfl (lv_at hl 2 rfl) ?_
    refine lv_istore hx hb dX5_call_1 hl (by decide) (rfl : _ = ([(6, .int 5), (0, .ref h0), (1, .int p0), (2, .int 5), (3, .int 1), (4, .int p3), (5, .int p4)] : List (Nat × Value))) (fun ls hl => ?_)
    refine lv_iconst (v := 0) hx hb dX5_call_3 kk_ic_0 ?_
    refine lv_istore hx hb dX5_call_4 hl (by decide) (rfl : _ = ([(7, .int 0), (6, .int 5), (0, .ref h0), (1, .int p0), (2, .int 5), (3, .int 1), (4, .int p3), (5, .int p4)] : List (Nat × Value))) (fun ls hl => ?_)
    refine lv_iload hx hb dX5_call_6 (lv_at hl 0 rfl) ?_
    refine lv_bipush (v := 8) hx hb dX5_call_8 kk_bi_8 ?_
    refine lv_icmp_ge (tgt := 48) hx hb dX5_call_10 (by decide) (fun c => absurd c (by decide)) (fun _ => ?_)
    refine lv_iload hx hb dX5_call_13 (lv_at hl 1 rfl) ?_
    obtain ⟨hPc, hDc, hFc⟩ := kk_cutout (wc := []) hP hD hS hA [] (by decide) rfl
    have hKc := kk_Ks (tq := []) hK [] rfl
    refine va_calli (va_runS (As := [.int 5]) (rest := []) ⟨hx, hb, hml, hown, hts⟩ (g_X5_isKind_16 l dC dI s.heap.size) (va_cwS 1 hts gX5_call_X5_isKind rfl rfl rfl kh_X5_isKind ⟨Nat.le_of_ble_eq_true rfl, Nat.le_of_ble_eq_true rfl⟩) ⟨fun a U g mk q => by obtain ⟨q0, q1, qP, qK, qD⟩ := q; exact ⟨q0, q1, qP, va_K.moved (u := U) (U := U.calling g mk a) (Vm.Alike.refl U.vm) qK, qD⟩, fun U hU hW => ⟨rfl, by rw [hU], by rw [hU]; exact hPc, va_K.moved hW.alike hKc, hDc.weaken (fun _ _ _ _ => trivial)⟩⟩ rfl rfl hl.1 rfl (lv_room (Nat.le_of_ble_eq_true rfl)) dX5_call_15 ⟨Nat.le_of_ble_eq_true rfl, Nat.le_of_ble_eq_true rfl⟩) hS (fun q _ h => hFc q h) hFc (fun r_99 u t H1 locs ht hvm hw hB hz1 hk1 hS => ?_)
    obtain ⟨hP1, hK1, hD1⟩ := hB
    rw [ht] at hP1
    have hK1 := va_K.moved hvm.symm hK1
    obtain ⟨hP, hD⟩ := va_join (wr := [(h0, kO5 h1 n0_size h2 n0_ran), (h1, kAi cint 50 f1), (h2, kAi cint 24 f2)]) (w1 := []) hP hD [] [0, 1, 2] rfl rfl (by decide) (by decide) hk1 hFc hP1 hD1
    generalize H1 = H at hP hS ⊢
    have hP : va_P (dC, dI) vwCl [(h0, kO5 h1 n0_size h2 n0_ran), (h1, kAi cint 50 f1), (h2, kAi cint 24 f2)] H := hP
    have hD : va_D A [(h0, kO5 h1 n0_size h2 n0_ran), (h1, kAi cint 50 f1), (h2, kAi cint 24 f2)] := hD
    obtain rfl := hw
    refine lv_if_eq (tgt := 48) hx hb dX5_call_18 (by decide) (fun c => absurd c (by decide)) (fun _ => ?_)
    refine va_gets hx hb hZOWN_BODIES hS hown (hts (.fieldLink RX5 43 "KinkStreet$Lines" "OWN_BODIES" "[I") (List.mem_of_getElem? (i := 1) rfl)) (fun _ h9 => h9) dX5_call_21 ?_
    refine lv_iload hx hb dX5_call_24 (lv_at hl 1 rfl) ?_
    refine lv_iconst (v := 4) hx hb dX5_call_26 kk_ic_4 ?_
    refine lv_imul hx hb dX5_call_27 ?_
    refine lv_topi (fun y_100 e_100 => ?_)
    obtain rfl : y_100 = 20 := e_100.trans (by decide)
    refine lv_iload_n hx hb dX5_call_28 rfl (lv_at hl 5 rfl) ?_
    refine lv_iadd hx hb dX5_call_29 ?_
    refine lv_topi (fun y_101 e_101 => ?_)
    obtain rfl : y_101 = 21 := e_101.trans (by decide)
    refine va_ti (v := .int 60) hx hb hTOWN_BODIES hS (by unfold vp_in; decide) rfl dX5_call_30 ?_
    refine lv_if_ne (tgt := 48) hx hb dX5_call_31 (by decide) (fun _ => ?_) (fun c => absurd c (by decide))
    refine lv_iload hx hb dX5_call_48 (lv_at hl 1 rfl) ?_
    obtain ⟨hPc, hDc, hFc⟩ := kk_cutout (wc := []) hP hD hS hA [] (by decide) rfl
    have hKc := kk_Ks (tq := []) hK [] rfl
    refine va_calli (va_runS (As := [.int 5]) (rest := []) ⟨hx, hb, hml, hown, hts⟩ (g_X5_isKind_16 l dC dI H.size) (va_cwS 1 hts gX5_call_X5_isKind rfl rfl rfl kh_X5_isKind ⟨Nat.le_of_ble_eq_true rfl, Nat.le_of_ble_eq_true rfl⟩) ⟨fun a U g mk q => by obtain ⟨q0, q1, qP, qK, qD⟩ := q; exact ⟨q0, q1, qP, va_K.moved (u := U) (U := U.calling g mk a) (Vm.Alike.refl U.vm) qK, qD⟩, fun U hU hW => ⟨rfl, by rw [hU], by rw [hU]; exact hPc, va_K.moved hW.alike hKc, hDc.weaken (fun _ _ _ _ => trivial)⟩⟩ rfl rfl hl.1 rfl (lv_room (Nat.le_of_ble_eq_true rfl)) dX5_call_50 ⟨Nat.le_of_ble_eq_true rfl, Nat.le_of_ble_eq_true rfl⟩) hS (fun q _ h => hFc q h) hFc (fun r_102 u t H1 locs ht hvm hw hB hz1 hk1 hS => ?_)
    obtain ⟨hP1, hK1, hD1⟩ := hB
    rw [ht] at hP1
    have hK1 := va_K.moved hvm.symm hK1
    obtain ⟨hP, hD⟩ := va_join (wr := [(h0, kO5 h1 n0_size h2 n0_ran), (h1, kAi cint 50 f1), (h2, kAi cint 24 f2)]) (w1 := []) hP hD [] [0, 1, 2] rfl rfl (by decide) (by decide) hk1 hFc hP1 hD1
    generalize H1 = H at hP hS ⊢
    have hP : va_P (dC, dI) vwCl [(h0, kO5 h1 n0_size h2 n0_ran), (h1, kAi cint 50 f1), (h2, kAi cint 24 f2)] H := hP
    have hD : va_D A [(h0, kO5 h1 n0_size h2 n0_ran), (h1, kAi cint 50 f1), (h2, kAi cint 24 f2)] := hD
    obtain rfl := hw
    refine lv_if_eq (tgt := 63) hx hb dX5_call_53 (by decide) (fun c => absurd c (by decide)) (fun _ => ?_)
    refine lv_iload hx hb dX5_call_56 (lv_at hl 7 rfl) ?_
    refine lv_bipush (v := 40) hx hb dX5_call_58 kk_bi_40 ?_
    refine lv_icmp_le (tgt := 65) hx hb dX5_call_60 (by decide) (fun c_103 => ?_) (fun c_103 => ?_)
    · have t_103 : p4.toInt ≤ 40 := kk_le c_103
      refine va_gets hx hb hZOWN_BODIES hS hown (hts (.fieldLink RX5 43 "KinkStreet$Lines" "OWN_BODIES" "[I") (List.mem_of_getElem? (i := 1) rfl)) (fun _ h9 => h9) dX5_call_65 ?_
      refine lv_iload hx hb dX5_call_68 (lv_at hl 1 rfl) ?_
      refine lv_iconst (v := 4) hx hb dX5_call_70 kk_ic_4 ?_
      refine lv_imul hx hb dX5_call_71 ?_
      refine lv_topi (fun y_104 e_104 => ?_)
      obtain rfl : y_104 = 20 := e_104.trans (by decide)
      refine lv_iload_n hx hb dX5_call_72 rfl (lv_at hl 5 rfl) ?_
      refine lv_iadd hx hb dX5_call_73 ?_
      refine lv_topi (fun y_105 e_105 => ?_)
      obtain rfl : y_105 = 21 := e_105.trans (by decide)
      refine va_ti (v := .int 60) hx hb hTOWN_BODIES hS (by unfold vp_in; decide) rfl dX5_call_74 ?_
      refine lv_istore hx hb dX5_call_75 hl (by decide) (rfl : _ = ([(7, .int 60), (6, .int 5), (0, .ref h0), (1, .int p0), (2, .int 5), (3, .int 1), (4, .int p3), (5, .int p4)] : List (Nat × Value))) (fun ls hl => ?_)
      refine lv_aload_n hx hb dX5_call_77 rfl (lv_at hl 2 rfl) ?_
      refine va_get (D := (dC, dI)) (ci := 5) (v := .int n0_ran) (C := RX5) (T := TX5) (N := 4) hx hb hts (fun _ h => List.mem_cons_of_mem _ (List.mem_append_right _ h)) hown hK hP 0 rfl rfl 3 (by decide) (hts (.fieldLink RX5 36 "KinkStreet$Lines" "ran" "I") (List.mem_of_getElem? (i := 3) rfl)) (fun _ h9 => h9) rfl dX5_call_78 ?_
      refine lv_bipush (v := 24) hx hb dX5_call_81 kk_bi_24 ?_
      refine lv_icmp_ge (tgt := 97) hx hb dX5_call_83 (by decide) (fun c_106 => ?_) (fun c_106 => ?_)
      · have t_106 : 24 ≤ n0_ran.toInt := kk_le c_106
        refine lv_aload_n hx hb dX5_call_97 rfl (lv_at hl 2 rfl) ?_
        refine lv_dup hx hb dX5_call_98 rfl ?_
        refine va_get (D := (dC, dI)) (ci := 5) (v := .int n0_ran) (C := RX5) (T := TX5) (N := 4) hx hb hts (fun _ h => List.mem_cons_of_mem _ (List.mem_append_right _ h)) hown hK hP 0 rfl rfl 3 (by decide) (hts (.fieldLink RX5 36 "KinkStreet$Lines" "ran" "I") (List.mem_of_getElem? (i := 3) rfl)) (fun _ h9 => h9) rfl dX5_call_99 ?_
        refine lv_iconst (v := 1) hx hb dX5_call_102 kk_ic_1 ?_
        refine lv_iadd hx hb dX5_call_103 ?_
        refine va_put (D := (dC, dI)) (ci := 5) (v := .int (n0_ran + 1)) (ty := .int) (C := RX5) (T := TX5) (N := 4) hx hb hts (fun _ h => List.mem_cons_of_mem _ (List.mem_append_right _ h)) tyX5 tyX5_ok nmX5 hown hK hP hD hS 0 rfl rfl 3 (by decide) (hts (.fieldLink RX5 36 "KinkStreet$Lines" "ran" "I") (List.mem_of_getElem? (i := 3) rfl)) (fun _ h9 => h9) rfl (by decide +kernel) rfl rfl (Nat.le_of_ble_eq_true rfl) dX5_call_104 (fun H locs hP hD hS => ?_)
        have hP : va_P (dC, dI) vwCl [(h0, kO5 h1 n0_size h2 (n0_ran + 1)), (h1, kAi cint 50 f1), (h2, kAi cint 24 f2)] H := hP
        have hD : va_D A [(h0, kO5 h1 n0_size h2 (n0_ran + 1)), (h1, kAi cint 50 f1), (h2, kAi cint 24 f2)] := hD
        have hp_107 : kk_P f2 f2 n0_ran.toInt (n0_ran + 1 : Int32).toInt [60] := kk_P_out (by have := kk_add2 (x := n0_ran) (y := 1) (a := n0_ran.toInt) (b := 1) rfl rfl (by omega) (by omega); omega) (by have := kk_add2 (x := n0_ran) (y := 1) (a := n0_ran.toInt) (b := 1) rfl rfl (by omega) (by omega); omega)
        refine lv_iload hx hb dX5_call_107 (lv_at hl 1 rfl) ?_
        refine lv_if_ne (tgt := 128) hx hb dX5_call_109 (by decide) (fun _ => ?_) (fun c => absurd c (by decide))
        refine lv_aload_n hx hb dX5_call_128 rfl (lv_at hl 2 rfl) ?_
        refine lv_iload_n hx hb dX5_call_129 rfl (lv_at hl 3 rfl) ?_
        refine lv_iload hx hb dX5_call_130 (lv_at hl 1 rfl) ?_
        refine lv_iload hx hb dX5_call_132 (lv_at hl 0 rfl) ?_
        refine lv_iload hx hb dX5_call_134 (lv_at hl 6 rfl) ?_
        refine lv_iload hx hb dX5_call_136 (lv_at hl 7 rfl) ?_
        refine lv_iconst (v := 1) hx hb dX5_call_138 kk_ic_1 ?_
        refine lv_iadd hx hb dX5_call_139 ?_
        obtain ⟨hPc, hDc, hFc⟩ := kk_cutout (wc := [(h0, kO5 h1 n0_size h2 (n0_ran + 1)), (h1, kAi cint 50 f1), (h2, kAi cint 24 f2)]) hP hD hS hA [0, 1, 2] (by decide) rfl
        have hKc := kk_Ks (tq := [(cint, .int)]) hK [0] rfl
        refine va_calli (va_runV (As := [.int p0, .int 5, .int 60, .int p3, .int (p4 + 1)]) (rest := []) ⟨hx, hb, hml, hown, hts⟩ (g_X5_runUnder_16 l dC dI h0 h1 h2 cint H.size p0 p3 (p4 + 1) (by show 0 ≤ ((p4 + 1) : Int32).toInt ∧ ((p4 + 1) : Int32).toInt ≤ 7; first | with_reducible assumption | (constructor <;> (have := kk_add2 (x := n0_ran) (y := 1) (a := n0_ran.toInt) (b := 1) rfl rfl (by omega) (by omega); have := kk_add2 (x := p4) (y := 1) (a := p4.toInt) (b := 1) rfl rfl (by omega) (by omega); omega))) n0_size (n0_ran + 1) f1 f2 tn0_size (by show 0 ≤ ((n0_ran + 1) : Int32).toInt ∧ ((n0_ran + 1) : Int32).toInt ≤ 990; first | with_reducible assumption | (constructor <;> (have := kk_add2 (x := n0_ran) (y := 1) (a := n0_ran.toInt) (b := 1) rfl rfl (by omega) (by omega); have := kk_add2 (x := p4) (y := 1) (a := p4.toInt) (b := 1) rfl rfl (by omega) (by omega); omega))) bf1 (by show (0 ≤ (p0 : Int32).toInt ∧ (p0 : Int32).toInt < (n0_size : Int32).toInt); first | with_reducible assumption | (have := kk_add2 (x := n0_ran) (y := 1) (a := n0_ran.toInt) (b := 1) rfl rfl (by omega) (by omega); have := kk_add2 (x := p4) (y := 1) (a := p4.toInt) (b := 1) rfl rfl (by omega) (by omega); omega)) aABOVE aOWN_BODIES) (cwV 5 hts gX5_call_X5_runUnder rfl rfl rfl ⟨rfl, kh_X5_runUnder⟩ ⟨Nat.le_of_ble_eq_true rfl, Nat.le_of_ble_eq_true rfl⟩) ⟨fun a U g mk q => by obtain ⟨q0, q1, qP, qK, qD, qx0, qx1, qx2, qx3⟩ := q; exact ⟨q0, q1, qP, va_K.moved (u := U) (U := U.calling g mk a) (Vm.Alike.refl U.vm) qK, qD, va_Z.moved (u := U) (U := U.calling g mk a) (Vm.Alike.refl U.vm) qx0, va_T.moved (u := U) (U := U.calling g mk a) (Vm.Alike.refl U.vm) qx1, va_Z.moved (u := U) (U := U.calling g mk a) (Vm.Alike.refl U.vm) qx2, va_T.moved (u := U) (U := U.calling g mk a) (Vm.Alike.refl U.vm) qx3⟩, va_recv hKc hPc (ci := 5) (q0 := 0) rfl rfl, fun U hU hW => ⟨rfl, by rw [hU], by rw [hU]; exact hPc, va_K.moved hW.alike hKc, hDc.weaken (fun _ _ _ _ => trivial), by rw [hU]; exact ((hZABOVE.kept (fun a h1 h2 => hS.2.1 a h1 h2)).narrow hFc).moved hW.alike, by rw [hU]; exact ((hTABOVE.kept (fun a h1 h2 => hS.2.1 a h1 h2)).narrow hFc).moved hW.alike, by rw [hU]; exact ((hZOWN_BODIES.kept (fun a h1 h2 => hS.2.1 a h1 h2)).narrow hFc).moved hW.alike, by rw [hU]; exact ((hTOWN_BODIES.kept (fun a h1 h2 => hS.2.1 a h1 h2)).narrow hFc).moved hW.alike⟩⟩ rfl rfl hl.1 rfl (lv_room (Nat.le_of_ble_eq_true rfl)) dX5_call_140 ⟨Nat.le_of_ble_eq_true rfl, Nat.le_of_ble_eq_true rfl⟩) hS (fun q _ h => hFc q h) hFc (fun r_108 u t H1 locs ht hvm hw hB hz1 hk1 hS => ?_)
        obtain ⟨y_109, f_110, by_109, v_110_0, hn_110_0, hP1, hK1, hD1⟩ := hB
        have v_110_0 : y_109.toInt ≤ (n0_ran + 1).toInt + 10 := v_110_0
        have hn_110_0 : kk_P f2 f_110 (n0_ran + 1).toInt y_109.toInt ((kt_breaks (f1 (p0 : Int32).toNatClampNeg) 5).tail) := hn_110_0
        rw [ht] at hP1
        have hK1 := va_K.moved hvm.symm hK1
        obtain ⟨hP, hD⟩ := va_join (wr := []) (w1 := [(h0, kO5 h1 n0_size h2 y_109), (h1, kAi cint 50 f1), (h2, kAi cint 24 f_110)]) hP hD [0, 1, 2] [] rfl rfl (by decide) (by decide) hk1 hFc hP1 hD1
        generalize H1 = H at hP hS ⊢
        have hP : va_P (dC, dI) vwCl [(h0, kO5 h1 n0_size h2 y_109), (h1, kAi cint 50 f1), (h2, kAi cint 24 f_110)] H := hP
        have hD : va_D A [(h0, kO5 h1 n0_size h2 y_109), (h1, kAi cint 50 f1), (h2, kAi cint 24 f_110)] := hD
        rcases hw with ⟨t_108_0, _⟩
        · skip
          have t_108_0 : r_108 = kk_breaks (f1 (p0 : Int32).toNatClampNeg) 5 p0 p3 := t_108_0
          obtain rfl : r_108 = (kk_breaks (f1 (p0 : Int32).toNatClampNeg) 5 p0 p3) := t_108_0
          obtain ⟨hP9, hD9⟩ := kk_leafout (wc := [(h0, kO5 h1 n0_size h2 y_109), (h1, kAi cint 50 f1), (h2, kAi cint 24 f_110)]) hP hD [0, 1, 2] (by decide) rfl
          have hK9 := kk_Ks (tq := []) hK [] rfl
          exact W.iret (v := (kk_breaks (f1 (p0 : Int32).toNatClampNeg) 5 p0 p3)) hx hb hr (fun t ht hW => ⟨⟨(kk_breaks (f1 (p0 : Int32).toNatClampNeg) 5 p0 p3), (), rfl, ⟨(by first | rfl | (unfold kk_breaks; (repeat' split) <;> first | rfl | (exfalso; have : (0 : Int32).toInt = 0 := rfl; have : (1 : Int32).toInt = 1 := rfl; have : (2 : Int32).toInt = 2 := rfl; have : (3 : Int32).toInt = 3 := rfl; have : (4 : Int32).toInt = 4 := rfl; have : (5 : Int32).toInt = 5 := rfl; have : (6 : Int32).toInt = 6 := rfl; have : (7 : Int32).toInt = 7 := rfl; have := kk_add2 (x := n0_ran) (y := 1) (a := n0_ran.toInt) (b := 1) rfl rfl (by omega) (by omega); have := kk_add2 (x := p4) (y := 1) (a := p4.toInt) (b := 1) rfl rfl (by omega) (by omega); omega))), trivial⟩, y_109, f_110, (by show 1 ≤ (y_109 : Int32).toInt ∧ (y_109 : Int32).toInt ≤ 1000; first | with_reducible assumption | (constructor <;> (have := kk_add2 (x := n0_ran) (y := 1) (a := n0_ran.toInt) (b := 1) rfl rfl (by omega) (by omega); have := kk_add2 (x := p4) (y := 1) (a := p4.toInt) (b := 1) rfl rfl (by omega) (by omega); omega))), (by show (y_109 : Int32).toInt ≤ (n0_ran : Int32).toInt + 11; first | with_reducible assumption | (have := kk_add2 (x := n0_ran) (y := 1) (a := n0_ran.toInt) (b := 1) rfl rfl (by omega) (by omega); have := kk_add2 (x := p4) (y := 1) (a := p4.toInt) (b := 1) rfl rfl (by omega) (by omega); omega)), (by first | exact kk_P_eq (kk_P_trans hp_107 hn_110_0) rfl | (unfold kt_breaks; (repeat' split) <;> first | exact kk_P_eq (kk_P_trans hp_107 hn_110_0) rfl | (exfalso; have : (0 : Int32).toInt = 0 := rfl; have : (1 : Int32).toInt = 1 := rfl; have : (2 : Int32).toInt = 2 := rfl; have : (3 : Int32).toInt = 3 := rfl; have : (4 : Int32).toInt = 4 := rfl; have : (5 : Int32).toInt = 5 := rfl; have : (6 : Int32).toInt = 6 := rfl; have : (7 : Int32).toInt = 7 := rfl; have := kk_add2 (x := n0_ran) (y := 1) (a := n0_ran.toInt) (b := 1) rfl rfl (by omega) (by omega); have := kk_add2 (x := p4) (y := 1) (a := p4.toInt) (b := 1) rfl rfl (by omega) (by omega); omega))), by rw [ht]; exact hP9, va_K.moved hW.alike hK9, hD9⟩, hS.F ht⟩) hS.2.2 dX5_call_143
      · have t_106 : n0_ran.toInt < 24 := kk_nle c_106
        refine lv_aload_n hx hb dX5_call_86 rfl (lv_at hl 2 rfl) ?_
        refine va_get (D := (dC, dI)) (ci := 5) (v := .ref h2) (C := RX5) (T := TX5) (N := 4) hx hb hts (fun _ h => List.mem_cons_of_mem _ (List.mem_append_right _ h)) hown hK hP 0 rfl rfl 2 (by decide) (hts (.fieldLink RX5 15 "KinkStreet$Lines" "trace" "[I") (List.mem_of_getElem? (i := 4) rfl)) (fun _ h9 => h9) rfl dX5_call_87 ?_
        refine lv_aload_n hx hb dX5_call_90 rfl (lv_at hl 2 rfl) ?_
        refine va_get (D := (dC, dI)) (ci := 5) (v := .int n0_ran) (C := RX5) (T := TX5) (N := 4) hx hb hts (fun _ h => List.mem_cons_of_mem _ (List.mem_append_right _ h)) hown hK hP 0 rfl rfl 3 (by decide) (hts (.fieldLink RX5 36 "KinkStreet$Lines" "ran" "I") (List.mem_of_getElem? (i := 3) rfl)) (fun _ h9 => h9) rfl dX5_call_91 ?_
        refine lv_iload hx hb dX5_call_94 (lv_at hl 0 rfl) ?_
        refine va_iast hx hb hK hP hD hS 2 0 rfl rfl (vp_in_iff.mpr ⟨by omega, by omega⟩) dX5_call_96 (fun H locs hP hD hS => ?_)
        have w_111 : ((upd f2 (n0_ran : Int32).toNatClampNeg 60) (n0_ran : Int32).toNatClampNeg).toInt = (60 : Int32).toInt := by rw [kk_ups]
        have hP : va_P (dC, dI) vwCl [(h0, kO5 h1 n0_size h2 n0_ran), (h1, kAi cint 50 f1), (h2, kAi cint 24 (upd f2 (n0_ran : Int32).toNatClampNeg 60))] H := hP
        have hD : va_D A [(h0, kO5 h1 n0_size h2 n0_ran), (h1, kAi cint 50 f1), (h2, kAi cint 24 (upd f2 (n0_ran : Int32).toNatClampNeg 60))] := hD
        refine lv_aload_n hx hb dX5_call_97 rfl (lv_at hl 2 rfl) ?_
        refine lv_dup hx hb dX5_call_98 rfl ?_
        refine va_get (D := (dC, dI)) (ci := 5) (v := .int n0_ran) (C := RX5) (T := TX5) (N := 4) hx hb hts (fun _ h => List.mem_cons_of_mem _ (List.mem_append_right _ h)) hown hK hP 0 rfl rfl 3 (by decide) (hts (.fieldLink RX5 36 "KinkStreet$Lines" "ran" "I") (List.mem_of_getElem? (i := 3) rfl)) (fun _ h9 => h9) rfl dX5_call_99 ?_
        refine lv_iconst (v := 1) hx hb dX5_call_102 kk_ic_1 ?_
        refine lv_iadd hx hb dX5_call_103 ?_
        refine va_put (D := (dC, dI)) (ci := 5) (v := .int (n0_ran + 1)) (ty := .int) (C := RX5) (T := TX5) (N := 4) hx hb hts (fun _ h => List.mem_cons_of_mem _ (List.mem_append_right _ h)) tyX5 tyX5_ok nmX5 hown hK hP hD hS 0 rfl rfl 3 (by decide) (hts (.fieldLink RX5 36 "KinkStreet$Lines" "ran" "I") (List.mem_of_getElem? (i := 3) rfl)) (fun _ h9 => h9) rfl (by decide +kernel) rfl rfl (Nat.le_of_ble_eq_true rfl) dX5_call_104 (fun H locs hP hD hS => ?_)
        have hP : va_P (dC, dI) vwCl [(h0, kO5 h1 n0_size h2 (n0_ran + 1)), (h1, kAi cint 50 f1), (h2, kAi cint 24 (upd f2 (n0_ran : Int32).toNatClampNeg 60))] H := hP
        have hD : va_D A [(h0, kO5 h1 n0_size h2 (n0_ran + 1)), (h1, kAi cint 50 f1), (h2, kAi cint 24 (upd f2 (n0_ran : Int32).toNatClampNeg 60))] := hD
        have hp_112 : kk_P f2 (upd f2 (n0_ran : Int32).toNatClampNeg 60) n0_ran.toInt (n0_ran + 1 : Int32).toInt [60] := kk_P_one (by have := kk_add2 (x := n0_ran) (y := 1) (a := n0_ran.toInt) (b := 1) rfl rfl (by omega) (by omega); omega) (by have := kk_add2 (x := n0_ran) (y := 1) (a := n0_ran.toInt) (b := 1) rfl rfl (by omega) (by omega); omega)
        refine lv_iload hx hb dX5_call_107 (lv_at hl 1 rfl) ?_
        refine lv_if_ne (tgt := 128) hx hb dX5_call_109 (by decide) (fun _ => ?_) (fun c => absurd c (by decide))
        refine lv_aload_n hx hb dX5_call_128 rfl (lv_at hl 2 rfl) ?_
        refine lv_iload_n hx hb dX5_call_129 rfl (lv_at hl 3 rfl) ?_
        refine lv_iload hx hb dX5_call_130 (lv_at hl 1 rfl) ?_
        refine lv_iload hx hb dX5_call_132 (lv_at hl 0 rfl) ?_
        refine lv_iload hx hb dX5_call_134 (lv_at hl 6 rfl) ?_
        refine lv_iload hx hb dX5_call_136 (lv_at hl 7 rfl) ?_
        refine lv_iconst (v := 1) hx hb dX5_call_138 kk_ic_1 ?_
        refine lv_iadd hx hb dX5_call_139 ?_
        obtain ⟨hPc, hDc, hFc⟩ := kk_cutout (wc := [(h0, kO5 h1 n0_size h2 (n0_ran + 1)), (h1, kAi cint 50 f1), (h2, kAi cint 24 (upd f2 (n0_ran : Int32).toNatClampNeg 60))]) hP hD hS hA [0, 1, 2] (by decide) rfl
        have hKc := kk_Ks (tq := [(cint, .int)]) hK [0] rfl
        refine va_calli (va_runV (As := [.int p0, .int 5, .int 60, .int p3, .int (p4 + 1)]) (rest := []) ⟨hx, hb, hml, hown, hts⟩ (g_X5_runUnder_16 l dC dI h0 h1 h2 cint H.size p0 p3 (p4 + 1) (by show 0 ≤ ((p4 + 1) : Int32).toInt ∧ ((p4 + 1) : Int32).toInt ≤ 7; first | with_reducible assumption | (constructor <;> (have := kk_add2 (x := n0_ran) (y := 1) (a := n0_ran.toInt) (b := 1) rfl rfl (by omega) (by omega); have := kk_add2 (x := p4) (y := 1) (a := p4.toInt) (b := 1) rfl rfl (by omega) (by omega); omega))) n0_size (n0_ran + 1) f1 (upd f2 (n0_ran : Int32).toNatClampNeg 60) tn0_size (by show 0 ≤ ((n0_ran + 1) : Int32).toInt ∧ ((n0_ran + 1) : Int32).toInt ≤ 990; first | with_reducible assumption | (constructor <;> (have := kk_add2 (x := n0_ran) (y := 1) (a := n0_ran.toInt) (b := 1) rfl rfl (by omega) (by omega); have := kk_add2 (x := p4) (y := 1) (a := p4.toInt) (b := 1) rfl rfl (by omega) (by omega); omega))) bf1 (by show (0 ≤ (p0 : Int32).toInt ∧ (p0 : Int32).toInt < (n0_size : Int32).toInt); first | with_reducible assumption | (have := kk_add2 (x := n0_ran) (y := 1) (a := n0_ran.toInt) (b := 1) rfl rfl (by omega) (by omega); have := kk_add2 (x := p4) (y := 1) (a := p4.toInt) (b := 1) rfl rfl (by omega) (by omega); omega)) aABOVE aOWN_BODIES) (cwV 5 hts gX5_call_X5_runUnder rfl rfl rfl ⟨rfl, kh_X5_runUnder⟩ ⟨Nat.le_of_ble_eq_true rfl, Nat.le_of_ble_eq_true rfl⟩) ⟨fun a U g mk q => by obtain ⟨q0, q1, qP, qK, qD, qx0, qx1, qx2, qx3⟩ := q; exact ⟨q0, q1, qP, va_K.moved (u := U) (U := U.calling g mk a) (Vm.Alike.refl U.vm) qK, qD, va_Z.moved (u := U) (U := U.calling g mk a) (Vm.Alike.refl U.vm) qx0, va_T.moved (u := U) (U := U.calling g mk a) (Vm.Alike.refl U.vm) qx1, va_Z.moved (u := U) (U := U.calling g mk a) (Vm.Alike.refl U.vm) qx2, va_T.moved (u := U) (U := U.calling g mk a) (Vm.Alike.refl U.vm) qx3⟩, va_recv hKc hPc (ci := 5) (q0 := 0) rfl rfl, fun U hU hW => ⟨rfl, by rw [hU], by rw [hU]; exact hPc, va_K.moved hW.alike hKc, hDc.weaken (fun _ _ _ _ => trivial), by rw [hU]; exact ((hZABOVE.kept (fun a h1 h2 => hS.2.1 a h1 h2)).narrow hFc).moved hW.alike, by rw [hU]; exact ((hTABOVE.kept (fun a h1 h2 => hS.2.1 a h1 h2)).narrow hFc).moved hW.alike, by rw [hU]; exact ((hZOWN_BODIES.kept (fun a h1 h2 => hS.2.1 a h1 h2)).narrow hFc).moved hW.alike, by rw [hU]; exact ((hTOWN_BODIES.kept (fun a h1 h2 => hS.2.1 a h1 h2)).narrow hFc).moved hW.alike⟩⟩ rfl rfl hl.1 rfl (lv_room (Nat.le_of_ble_eq_true rfl)) dX5_call_140 ⟨Nat.le_of_ble_eq_true rfl, Nat.le_of_ble_eq_true rfl⟩) hS (fun q _ h => hFc q h) hFc (fun r_113 u t H1 locs ht hvm hw hB hz1 hk1 hS => ?_)
        obtain ⟨y_114, f_115, by_114, v_115_0, hn_115_0, hP1, hK1, hD1⟩ := hB
        have v_115_0 : y_114.toInt ≤ (n0_ran + 1).toInt + 10 := v_115_0
        have hn_115_0 : kk_P (upd f2 (n0_ran : Int32).toNatClampNeg 60) f_115 (n0_ran + 1).toInt y_114.toInt ((kt_breaks (f1 (p0 : Int32).toNatClampNeg) 5).tail) := hn_115_0
        rw [ht] at hP1
        have hK1 := va_K.moved hvm.symm hK1
        obtain ⟨hP, hD⟩ := va_join (wr := []) (w1 := [(h0, kO5 h1 n0_size h2 y_114), (h1, kAi cint 50 f1), (h2, kAi cint 24 f_115)]) hP hD [0, 1, 2] [] rfl rfl (by decide) (by decide) hk1 hFc hP1 hD1
        generalize H1 = H at hP hS ⊢
        have hP : va_P (dC, dI) vwCl [(h0, kO5 h1 n0_size h2 y_114), (h1, kAi cint 50 f1), (h2, kAi cint 24 f_115)] H := hP
        have hD : va_D A [(h0, kO5 h1 n0_size h2 y_114), (h1, kAi cint 50 f1), (h2, kAi cint 24 f_115)] := hD
        rcases hw with ⟨t_113_0, _⟩
        · skip
          have t_113_0 : r_113 = kk_breaks (f1 (p0 : Int32).toNatClampNeg) 5 p0 p3 := t_113_0
          obtain rfl : r_113 = (kk_breaks (f1 (p0 : Int32).toNatClampNeg) 5 p0 p3) := t_113_0
          obtain ⟨hP9, hD9⟩ := kk_leafout (wc := [(h0, kO5 h1 n0_size h2 y_114), (h1, kAi cint 50 f1), (h2, kAi cint 24 f_115)]) hP hD [0, 1, 2] (by decide) rfl
          have hK9 := kk_Ks (tq := []) hK [] rfl
          exact W.iret (v := (kk_breaks (f1 (p0 : Int32).toNatClampNeg) 5 p0 p3)) hx hb hr (fun t ht hW => ⟨⟨(kk_breaks (f1 (p0 : Int32).toNatClampNeg) 5 p0 p3), (), rfl, ⟨(by first | rfl | (unfold kk_breaks; (repeat' split) <;> first | rfl | (exfalso; have : (0 : Int32).toInt = 0 := rfl; have : (1 : Int32).toInt = 1 := rfl; have : (2 : Int32).toInt = 2 := rfl; have : (3 : Int32).toInt = 3 := rfl; have : (4 : Int32).toInt = 4 := rfl; have : (5 : Int32).toInt = 5 := rfl; have : (6 : Int32).toInt = 6 := rfl; have : (7 : Int32).toInt = 7 := rfl; have := kk_add2 (x := n0_ran) (y := 1) (a := n0_ran.toInt) (b := 1) rfl rfl (by omega) (by omega); have := kk_add2 (x := p4) (y := 1) (a := p4.toInt) (b := 1) rfl rfl (by omega) (by omega); omega))), trivial⟩, y_114, f_115, (by show 1 ≤ (y_114 : Int32).toInt ∧ (y_114 : Int32).toInt ≤ 1000; first | with_reducible assumption | (constructor <;> (have := kk_add2 (x := n0_ran) (y := 1) (a := n0_ran.toInt) (b := 1) rfl rfl (by omega) (by omega); have := kk_add2 (x := p4) (y := 1) (a := p4.toInt) (b := 1) rfl rfl (by omega) (by omega); omega))), (by show (y_114 : Int32).toInt ≤ (n0_ran : Int32).toInt + 11; first | with_reducible assumption | (have := kk_add2 (x := n0_ran) (y := 1) (a := n0_ran.toInt) (b := 1) rfl rfl (by omega) (by omega); have := kk_add2 (x := p4) (y := 1) (a := p4.toInt) (b := 1) rfl rfl (by omega) (by omega); omega)), (by first | exact kk_P_eq (kk_P_trans hp_112 hn_115_0) rfl | (unfold kt_breaks; (repeat' split) <;> first | exact kk_P_eq (kk_P_trans hp_112 hn_115_0) rfl | (exfalso; have : (0 : Int32).toInt = 0 := rfl; have : (1 : Int32).toInt = 1 := rfl; have : (2 : Int32).toInt = 2 := rfl; have : (3 : Int32).toInt = 3 := rfl; have : (4 : Int32).toInt = 4 := rfl; have : (5 : Int32).toInt = 5 := rfl; have : (6 : Int32).toInt = 6 := rfl; have : (7 : Int32).toInt = 7 := rfl; have := kk_add2 (x := n0_ran) (y := 1) (a := n0_ran.toInt) (b := 1) rfl rfl (by omega) (by omega); have := kk_add2 (x := p4) (y := 1) (a := p4.toInt) (b := 1) rfl rfl (by omega) (by omega); omega))), by rw [ht]; exact hP9, va_K.moved hW.alike hK9, hD9⟩, hS.F ht⟩) hS.2.2 dX5_call_143
    · have t_103 : 40 < p4.toInt := kk_nle c_103
      exfalso; omega
  · have t_1 : p1.toInt = 6 := by rw [e_1]; rfl
    subst e_1
    refine lv_iload_n hx hb dX5_call_0 rfl (lv_at hl 2 rfl) ?_
    refine lv_istore hx hb dX5_call_1 hl (by decide) (rfl : _ = ([(6, .int 6), (0, .ref h0), (1, .int p0), (2, .int 6), (3, .int 1), (4, .int p3), (5, .int p4)] : List (Nat × Value))) (fun ls hl => ?_)
    refine lv_iconst (v := 0) hx hb dX5_call_3 kk_ic_0 ?_
    refine lv_istore hx hb dX5_call_4 hl (by decide) (rfl : _ = ([(7, .int 0), (6, .int 6), (0, .ref h0), (1, .int p0), (2, .int 6), (3, .int 1), (4, .int p3), (5, .int p4)] : List (Nat × Value))) (fun ls hl => ?_)
    refine lv_iload hx hb dX5_call_6 (lv_at hl 0 rfl) ?_
    refine lv_bipush (v := 8) hx hb dX5_call_8 kk_bi_8 ?_
    refine lv_icmp_ge (tgt := 48) hx hb dX5_call_10 (by decide) (fun c => absurd c (by decide)) (fun _ => ?_)
    refine lv_iload hx hb dX5_call_13 (lv_at hl 1 rfl) ?_
    obtain ⟨hPc, hDc, hFc⟩ := kk_cutout (wc := []) hP hD hS hA [] (by decide) rfl
    have hKc := kk_Ks (tq := []) hK [] rfl
    refine va_calli (va_runS (As := [.int 6]) (rest := []) ⟨hx, hb, hml, hown, hts⟩ (g_X5_isKind_17 l dC dI s.heap.size) (va_cwS 1 hts gX5_call_X5_isKind rfl rfl rfl kh_X5_isKind ⟨Nat.le_of_ble_eq_true rfl, Nat.le_of_ble_eq_true rfl⟩) ⟨fun a U g mk q => by obtain ⟨q0, q1, qP, qK, qD⟩ := q; exact ⟨q0, q1, qP, va_K.moved (u := U) (U := U.calling g mk a) (Vm.Alike.refl U.vm) qK, qD⟩, fun U hU hW => ⟨rfl, by rw [hU], by rw [hU]; exact hPc, va_K.moved hW.alike hKc, hDc.weaken (fun _ _ _ _ => trivial)⟩⟩ rfl rfl hl.1 rfl (lv_room (Nat.le_of_ble_eq_true rfl)) dX5_call_15 ⟨Nat.le_of_ble_eq_true rfl, Nat.le_of_ble_eq_true rfl⟩) hS (fun q _ h => hFc q h) hFc (fun r_116 u t H1 locs ht hvm hw hB hz1 hk1 hS => ?_)
    obtain ⟨hP1, hK1, hD1⟩ := hB
    rw [ht] at hP1
    have hK1 := va_K.moved hvm.symm hK1
    obtain ⟨hP, hD⟩ := va_join (wr := [(h0, kO5 h1 n0_size h2 n0_ran), (h1, kAi cint 50 f1), (h2, kAi cint 24 f2)]) (w1 := []) hP hD [] [0, 1, 2] rfl rfl (by decide) (by decide) hk1 hFc hP1 hD1
    generalize H1 = H at hP hS ⊢
    have hP : va_P (dC, dI) vwCl [(h0, kO5 h1 n0_size h2 n0_ran), (h1, kAi cint 50 f1), (h2, kAi cint 24 f2)] H := hP
    have hD : va_D A [(h0, kO5 h1 n0_size h2 n0_ran), (h1, kAi cint 50 f1), (h2, kAi cint 24 f2)] := hD
    obtain rfl := hw
    refine lv_if_eq (tgt := 48) hx hb dX5_call_18 (by decide) (fun c => absurd c (by decide)) (fun _ => ?_)
    refine va_gets hx hb hZOWN_BODIES hS hown (hts (.fieldLink RX5 43 "KinkStreet$Lines" "OWN_BODIES" "[I") (List.mem_of_getElem? (i := 1) rfl)) (fun _ h9 => h9) dX5_call_21 ?_
    refine lv_iload hx hb dX5_call_24 (lv_at hl 1 rfl) ?_
    refine lv_iconst (v := 4) hx hb dX5_call_26 kk_ic_4 ?_
    refine lv_imul hx hb dX5_call_27 ?_
    refine lv_topi (fun y_117 e_117 => ?_)
    obtain rfl : y_117 = 24 := e_117.trans (by decide)
    refine lv_iload_n hx hb dX5_call_28 rfl (lv_at hl 5 rfl) ?_
    refine lv_iadd hx hb dX5_call_29 ?_
    refine lv_topi (fun y_118 e_118 => ?_)
    obtain rfl : y_118 = 25 := e_118.trans (by decide)
    refine va_ti (v := .int 0) hx hb hTOWN_BODIES hS (by unfold vp_in; decide) rfl dX5_call_30 ?_
    refine lv_if_ne (tgt := 48) hx hb dX5_call_31 (by decide) (fun c => absurd c (by decide)) (fun _ => ?_)
    refine va_gets hx hb hZABOVE hS hown (hts (.fieldLink RX5 22 "KinkStreet$Lines" "ABOVE" "[I") (List.mem_of_getElem? (i := 2) rfl)) (fun _ h9 => h9) dX5_call_34 ?_
    refine lv_iload hx hb dX5_call_37 (lv_at hl 1 rfl) ?_
    refine va_ti (v := .int 0) hx hb hTABOVE hS (by unfold vp_in; decide) rfl dX5_call_39 ?_
    refine lv_istore hx hb dX5_call_40 hl (by decide) (rfl : _ = ([(6, .int 0), (7, .int 0), (0, .ref h0), (1, .int p0), (2, .int 6), (3, .int 1), (4, .int p3), (5, .int p4)] : List (Nat × Value))) (fun ls hl => ?_)
    refine lv_iinc (v := 1) hx hb dX5_call_42 hl (k := 1) rfl (by first | rfl | decide) (by decide) (rfl : _ = ([(7, .int 1), (6, .int 0), (0, .ref h0), (1, .int p0), (2, .int 6), (3, .int 1), (4, .int p3), (5, .int p4)] : List (Nat × Value))) (fun ls hl => ?_)
    refine lv_goto (tgt := 6) hx hb dX5_call_45 (by decide) ?_
    refine lv_iload hx hb dX5_call_6 (lv_at hl 0 rfl) ?_
    refine lv_bipush (v := 8) hx hb dX5_call_8 kk_bi_8 ?_
    refine lv_icmp_ge (tgt := 48) hx hb dX5_call_10 (by decide) (fun c => absurd c (by decide)) (fun _ => ?_)
    refine lv_iload hx hb dX5_call_13 (lv_at hl 1 rfl) ?_
    obtain ⟨hPc, hDc, hFc⟩ := kk_cutout (wc := []) hP hD hS hA [] (by decide) rfl
    have hKc := kk_Ks (tq := []) hK [] rfl
    refine va_calli (va_runS (As := [.int 0]) (rest := []) ⟨hx, hb, hml, hown, hts⟩ (g_X5_isKind_11 l dC dI H.size) (va_cwS 1 hts gX5_call_X5_isKind rfl rfl rfl kh_X5_isKind ⟨Nat.le_of_ble_eq_true rfl, Nat.le_of_ble_eq_true rfl⟩) ⟨fun a U g mk q => by obtain ⟨q0, q1, qP, qK, qD⟩ := q; exact ⟨q0, q1, qP, va_K.moved (u := U) (U := U.calling g mk a) (Vm.Alike.refl U.vm) qK, qD⟩, fun U hU hW => ⟨rfl, by rw [hU], by rw [hU]; exact hPc, va_K.moved hW.alike hKc, hDc.weaken (fun _ _ _ _ => trivial)⟩⟩ rfl rfl hl.1 rfl (lv_room (Nat.le_of_ble_eq_true rfl)) dX5_call_15 ⟨Nat.le_of_ble_eq_true rfl, Nat.le_of_ble_eq_true rfl⟩) hS (fun q _ h => hFc q h) hFc (fun r_119 u t H1 locs ht hvm hw hB hz1 hk1 hS => ?_)
    obtain ⟨hP1, hK1, hD1⟩ := hB
    rw [ht] at hP1
    have hK1 := va_K.moved hvm.symm hK1
    obtain ⟨hP, hD⟩ := va_join (wr := [(h0, kO5 h1 n0_size h2 n0_ran), (h1, kAi cint 50 f1), (h2, kAi cint 24 f2)]) (w1 := []) hP hD [] [0, 1, 2] rfl rfl (by decide) (by decide) hk1 hFc hP1 hD1
    generalize H1 = H at hP hS ⊢
    have hP : va_P (dC, dI) vwCl [(h0, kO5 h1 n0_size h2 n0_ran), (h1, kAi cint 50 f1), (h2, kAi cint 24 f2)] H := hP
    have hD : va_D A [(h0, kO5 h1 n0_size h2 n0_ran), (h1, kAi cint 50 f1), (h2, kAi cint 24 f2)] := hD
    obtain rfl := hw
    refine lv_if_eq (tgt := 48) hx hb dX5_call_18 (by decide) (fun c => absurd c (by decide)) (fun _ => ?_)
    refine va_gets hx hb hZOWN_BODIES hS hown (hts (.fieldLink RX5 43 "KinkStreet$Lines" "OWN_BODIES" "[I") (List.mem_of_getElem? (i := 1) rfl)) (fun _ h9 => h9) dX5_call_21 ?_
    refine lv_iload hx hb dX5_call_24 (lv_at hl 1 rfl) ?_
    refine lv_iconst (v := 4) hx hb dX5_call_26 kk_ic_4 ?_
    refine lv_imul hx hb dX5_call_27 ?_
    refine lv_topi (fun y_120 e_120 => ?_)
    obtain rfl : y_120 = 0 := e_120.trans (by decide)
    refine lv_iload_n hx hb dX5_call_28 rfl (lv_at hl 5 rfl) ?_
    refine lv_iadd hx hb dX5_call_29 ?_
    refine lv_topi (fun y_121 e_121 => ?_)
    obtain rfl : y_121 = 1 := e_121.trans (by decide)
    refine va_ti (v := .int 10) hx hb hTOWN_BODIES hS (by unfold vp_in; decide) rfl dX5_call_30 ?_
    refine lv_if_ne (tgt := 48) hx hb dX5_call_31 (by decide) (fun _ => ?_) (fun c => absurd c (by decide))
    refine lv_iload hx hb dX5_call_48 (lv_at hl 1 rfl) ?_
    obtain ⟨hPc, hDc, hFc⟩ := kk_cutout (wc := []) hP hD hS hA [] (by decide) rfl
    have hKc := kk_Ks (tq := []) hK [] rfl
    refine va_calli (va_runS (As := [.int 0]) (rest := []) ⟨hx, hb, hml, hown, hts⟩ (g_X5_isKind_11 l dC dI H.size) (va_cwS 1 hts gX5_call_X5_isKind rfl rfl rfl kh_X5_isKind ⟨Nat.le_of_ble_eq_true rfl, Nat.le_of_ble_eq_true rfl⟩) ⟨fun a U g mk q => by obtain ⟨q0, q1, qP, qK, qD⟩ := q; exact ⟨q0, q1, qP, va_K.moved (u := U) (U := U.calling g mk a) (Vm.Alike.refl U.vm) qK, qD⟩, fun U hU hW => ⟨rfl, by rw [hU], by rw [hU]; exact hPc, va_K.moved hW.alike hKc, hDc.weaken (fun _ _ _ _ => trivial)⟩⟩ rfl rfl hl.1 rfl (lv_room (Nat.le_of_ble_eq_true rfl)) dX5_call_50 ⟨Nat.le_of_ble_eq_true rfl, Nat.le_of_ble_eq_true rfl⟩) hS (fun q _ h => hFc q h) hFc (fun r_122 u t H1 locs ht hvm hw hB hz1 hk1 hS => ?_)
    obtain ⟨hP1, hK1, hD1⟩ := hB
    rw [ht] at hP1
    have hK1 := va_K.moved hvm.symm hK1
    obtain ⟨hP, hD⟩ := va_join (wr := [(h0, kO5 h1 n0_size h2 n0_ran), (h1, kAi cint 50 f1), (h2, kAi cint 24 f2)]) (w1 := []) hP hD [] [0, 1, 2] rfl rfl (by decide) (by decide) hk1 hFc hP1 hD1
    generalize H1 = H at hP hS ⊢
    have hP : va_P (dC, dI) vwCl [(h0, kO5 h1 n0_size h2 n0_ran), (h1, kAi cint 50 f1), (h2, kAi cint 24 f2)] H := hP
    have hD : va_D A [(h0, kO5 h1 n0_size h2 n0_ran), (h1, kAi cint 50 f1), (h2, kAi cint 24 f2)] := hD
    obtain rfl := hw
    refine lv_if_eq (tgt := 63) hx hb dX5_call_53 (by decide) (fun c => absurd c (by decide)) (fun _ => ?_)
    refine lv_iload hx hb dX5_call_56 (lv_at hl 7 rfl) ?_
    refine lv_bipush (v := 40) hx hb dX5_call_58 kk_bi_40 ?_
    refine lv_icmp_le (tgt := 65) hx hb dX5_call_60 (by decide) (fun c_123 => ?_) (fun c_123 => ?_)
    · have t_123 : p4.toInt ≤ 40 := kk_le c_123
      refine va_gets hx hb hZOWN_BODIES hS hown (hts (.fieldLink RX5 43 "KinkStreet$Lines" "OWN_BODIES" "[I") (List.mem_of_getElem? (i := 1) rfl)) (fun _ h9 => h9) dX5_call_65 ?_
      refine lv_iload hx hb dX5_call_68 (lv_at hl 1 rfl) ?_
      refine lv_iconst (v := 4) hx hb dX5_call_70 kk_ic_4 ?_
      refine lv_imul hx hb dX5_call_71 ?_
      refine lv_topi (fun y_124 e_124 => ?_)
      obtain rfl : y_124 = 0 := e_124.trans (by decide)
      refine lv_iload_n hx hb dX5_call_72 rfl (lv_at hl 5 rfl) ?_
      refine lv_iadd hx hb dX5_call_73 ?_
      refine lv_topi (fun y_125 e_125 => ?_)
      obtain rfl : y_125 = 1 := e_125.trans (by decide)
      refine va_ti (v := .int 10) hx hb hTOWN_BODIES hS (by unfold vp_in; decide) rfl dX5_call_74 ?_
      refine lv_istore hx hb dX5_call_75 hl (by decide) (rfl : _ = ([(7, .int 10), (6, .int 0), (0, .ref h0), (1, .int p0), (2, .int 6), (3, .int 1), (4, .int p3), (5, .int p4)] : List (Nat × Value))) (fun ls hl => ?_)
      refine lv_aload_n hx hb dX5_call_77 rfl (lv_at hl 2 rfl) ?_
      refine va_get (D := (dC, dI)) (ci := 5) (v := .int n0_ran) (C := RX5) (T := TX5) (N := 4) hx hb hts (fun _ h => List.mem_cons_of_mem _ (List.mem_append_right _ h)) hown hK hP 0 rfl rfl 3 (by decide) (hts (.fieldLink RX5 36 "KinkStreet$Lines" "ran" "I") (List.mem_of_getElem? (i := 3) rfl)) (fun _ h9 => h9) rfl dX5_call_78 ?_
      refine lv_bipush (v := 24) hx hb dX5_call_81 kk_bi_24 ?_
      refine lv_icmp_ge (tgt := 97) hx hb dX5_call_83 (by decide) (fun c_126 => ?_) (fun c_126 => ?_)
      · have t_126 : 24 ≤ n0_ran.toInt := kk_le c_126
        refine lv_aload_n hx hb dX5_call_97 rfl (lv_at hl 2 rfl) ?_
        refine lv_dup hx hb dX5_call_98 rfl ?_
        refine va_get (D := (dC, dI)) (ci := 5) (v := .int n0_ran) (C := RX5) (T := TX5) (N := 4) hx hb hts (fun _ h => List.mem_cons_of_mem _ (List.mem_append_right _ h)) hown hK hP 0 rfl rfl 3 (by decide) (hts (.fieldLink RX5 36 "KinkStreet$Lines" "ran" "I") (List.mem_of_getElem? (i := 3) rfl)) (fun _ h9 => h9) rfl dX5_call_99 ?_
        refine lv_iconst (v := 1) hx hb dX5_call_102 kk_ic_1 ?_
        refine lv_iadd hx hb dX5_call_103 ?_
        refine va_put (D := (dC, dI)) (ci := 5) (v := .int (n0_ran + 1)) (ty := .int) (C := RX5) (T := TX5) (N := 4) hx hb hts (fun _ h => List.mem_cons_of_mem _ (List.mem_append_right _ h)) tyX5 tyX5_ok nmX5 hown hK hP hD hS 0 rfl rfl 3 (by decide) (hts (.fieldLink RX5 36 "KinkStreet$Lines" "ran" "I") (List.mem_of_getElem? (i := 3) rfl)) (fun _ h9 => h9) rfl (by decide +kernel) rfl rfl (Nat.le_of_ble_eq_true rfl) dX5_call_104 (fun H locs hP hD hS => ?_)
        have hP : va_P (dC, dI) vwCl [(h0, kO5 h1 n0_size h2 (n0_ran + 1)), (h1, kAi cint 50 f1), (h2, kAi cint 24 f2)] H := hP
        have hD : va_D A [(h0, kO5 h1 n0_size h2 (n0_ran + 1)), (h1, kAi cint 50 f1), (h2, kAi cint 24 f2)] := hD
        have hp_127 : kk_P f2 f2 n0_ran.toInt (n0_ran + 1 : Int32).toInt [10] := kk_P_out (by have := kk_add2 (x := n0_ran) (y := 1) (a := n0_ran.toInt) (b := 1) rfl rfl (by omega) (by omega); omega) (by have := kk_add2 (x := n0_ran) (y := 1) (a := n0_ran.toInt) (b := 1) rfl rfl (by omega) (by omega); omega)
        refine lv_iload hx hb dX5_call_107 (lv_at hl 1 rfl) ?_
        refine lv_if_ne (tgt := 128) hx hb dX5_call_109 (by decide) (fun c => absurd c (by decide)) (fun _ => ?_)
        refine lv_aload_n hx hb dX5_call_112 rfl (lv_at hl 2 rfl) ?_
        refine lv_iload_n hx hb dX5_call_113 rfl (lv_at hl 3 rfl) ?_
        refine lv_iload hx hb dX5_call_114 (lv_at hl 0 rfl) ?_
        refine lv_iload hx hb dX5_call_116 (lv_at hl 6 rfl) ?_
        refine lv_iload hx hb dX5_call_118 (lv_at hl 7 rfl) ?_
        refine lv_iconst (v := 1) hx hb dX5_call_120 kk_ic_1 ?_
        refine lv_iadd hx hb dX5_call_121 ?_
        obtain ⟨hPc, hDc, hFc⟩ := kk_cutout (wc := [(h0, kO5 h1 n0_size h2 (n0_ran + 1)), (h1, kAi cint 50 f1), (h2, kAi cint 24 f2)]) hP hD hS hA [0, 1, 2] (by decide) rfl
        have hKc := kk_Ks (tq := [(cint, .int)]) hK [0] rfl
        refine va_calli (va_runV (As := [.int p0, .int 10, .int p3, .int (p4 + 1)]) (rest := []) ⟨hx, hb, hml, hown, hts⟩ (g_X5_runLine_5 l dC dI h0 h1 h2 cint H.size p0 p3 (p4 + 1) (by show 0 ≤ ((p4 + 1) : Int32).toInt ∧ ((p4 + 1) : Int32).toInt ≤ 9; first | with_reducible assumption | (constructor <;> (have := kk_add2 (x := n0_ran) (y := 1) (a := n0_ran.toInt) (b := 1) rfl rfl (by omega) (by omega); have := kk_add2 (x := p4) (y := 1) (a := p4.toInt) (b := 1) rfl rfl (by omega) (by omega); omega))) n0_size (n0_ran + 1) f1 f2 tn0_size (by show 0 ≤ ((n0_ran + 1) : Int32).toInt ∧ ((n0_ran + 1) : Int32).toInt ≤ 997; first | with_reducible assumption | (constructor <;> (have := kk_add2 (x := n0_ran) (y := 1) (a := n0_ran.toInt) (b := 1) rfl rfl (by omega) (by omega); have := kk_add2 (x := p4) (y := 1) (a := p4.toInt) (b := 1) rfl rfl (by omega) (by omega); omega))) bf1 (by show (0 ≤ (p0 : Int32).toInt ∧ (p0 : Int32).toInt < (n0_size : Int32).toInt); first | with_reducible assumption | (have := kk_add2 (x := n0_ran) (y := 1) (a := n0_ran.toInt) (b := 1) rfl rfl (by omega) (by omega); have := kk_add2 (x := p4) (y := 1) (a := p4.toInt) (b := 1) rfl rfl (by omega) (by omega); omega)) aOWN_BODIES aABOVE) (cwV 4 hts gX5_call_X5_runLine rfl rfl rfl ⟨rfl, kh_X5_runLine⟩ ⟨Nat.le_of_ble_eq_true rfl, Nat.le_of_ble_eq_true rfl⟩) ⟨fun a U g mk q => by obtain ⟨q0, q1, qP, qK, qD, qx0, qx1, qx2, qx3⟩ := q; exact ⟨q0, q1, qP, va_K.moved (u := U) (U := U.calling g mk a) (Vm.Alike.refl U.vm) qK, qD, va_Z.moved (u := U) (U := U.calling g mk a) (Vm.Alike.refl U.vm) qx0, va_T.moved (u := U) (U := U.calling g mk a) (Vm.Alike.refl U.vm) qx1, va_Z.moved (u := U) (U := U.calling g mk a) (Vm.Alike.refl U.vm) qx2, va_T.moved (u := U) (U := U.calling g mk a) (Vm.Alike.refl U.vm) qx3⟩, va_recv hKc hPc (ci := 5) (q0 := 0) rfl rfl, fun U hU hW => ⟨rfl, by rw [hU], by rw [hU]; exact hPc, va_K.moved hW.alike hKc, hDc.weaken (fun _ _ _ _ => trivial), by rw [hU]; exact ((hZOWN_BODIES.kept (fun a h1 h2 => hS.2.1 a h1 h2)).narrow hFc).moved hW.alike, by rw [hU]; exact ((hTOWN_BODIES.kept (fun a h1 h2 => hS.2.1 a h1 h2)).narrow hFc).moved hW.alike, by rw [hU]; exact ((hZABOVE.kept (fun a h1 h2 => hS.2.1 a h1 h2)).narrow hFc).moved hW.alike, by rw [hU]; exact ((hTABOVE.kept (fun a h1 h2 => hS.2.1 a h1 h2)).narrow hFc).moved hW.alike⟩⟩ rfl rfl hl.1 rfl (lv_room (Nat.le_of_ble_eq_true rfl)) dX5_call_122 ⟨Nat.le_of_ble_eq_true rfl, Nat.le_of_ble_eq_true rfl⟩) hS (fun q _ h => hFc q h) hFc (fun r_128 u t H1 locs ht hvm hw hB hz1 hk1 hS => ?_)
        obtain ⟨y_129, f_130, by_129, v_130_0, hn_130_0, hP1, hK1, hD1⟩ := hB
        have v_130_0 : y_129.toInt ≤ (n0_ran + 1).toInt + 3 := v_130_0
        have hn_130_0 : kk_P f2 f_130 (n0_ran + 1).toInt y_129.toInt ((kt_breaks (f1 (p0 : Int32).toNatClampNeg) 0).tail) := hn_130_0
        rw [ht] at hP1
        have hK1 := va_K.moved hvm.symm hK1
        obtain ⟨hP, hD⟩ := va_join (wr := []) (w1 := [(h0, kO5 h1 n0_size h2 y_129), (h1, kAi cint 50 f1), (h2, kAi cint 24 f_130)]) hP hD [0, 1, 2] [] rfl rfl (by decide) (by decide) hk1 hFc hP1 hD1
        generalize H1 = H at hP hS ⊢
        have hP : va_P (dC, dI) vwCl [(h0, kO5 h1 n0_size h2 y_129), (h1, kAi cint 50 f1), (h2, kAi cint 24 f_130)] H := hP
        have hD : va_D A [(h0, kO5 h1 n0_size h2 y_129), (h1, kAi cint 50 f1), (h2, kAi cint 24 f_130)] := hD
        rcases hw with ⟨t_128_0, _⟩
        · skip
          have t_128_0 : r_128 = kk_breaks (f1 (p0 : Int32).toNatClampNeg) 0 p0 p3 := t_128_0
          obtain rfl : r_128 = (kk_breaks (f1 (p0 : Int32).toNatClampNeg) 0 p0 p3) := t_128_0
          refine lv_goto (tgt := 143) hx hb dX5_call_125 (by decide) ?_
          obtain ⟨hP9, hD9⟩ := kk_leafout (wc := [(h0, kO5 h1 n0_size h2 y_129), (h1, kAi cint 50 f1), (h2, kAi cint 24 f_130)]) hP hD [0, 1, 2] (by decide) rfl
          have hK9 := kk_Ks (tq := []) hK [] rfl
          exact W.iret (v := (kk_breaks (f1 (p0 : Int32).toNatClampNeg) 0 p0 p3)) hx hb hr (fun t ht hW => ⟨⟨(kk_breaks (f1 (p0 : Int32).toNatClampNeg) 0 p0 p3), (), rfl, ⟨(by first | rfl | (unfold kk_breaks; (repeat' split) <;> first | rfl | (exfalso; have : (0 : Int32).toInt = 0 := rfl; have : (1 : Int32).toInt = 1 := rfl; have : (2 : Int32).toInt = 2 := rfl; have : (3 : Int32).toInt = 3 := rfl; have : (4 : Int32).toInt = 4 := rfl; have : (5 : Int32).toInt = 5 := rfl; have : (6 : Int32).toInt = 6 := rfl; have : (7 : Int32).toInt = 7 := rfl; have := kk_add2 (x := n0_ran) (y := 1) (a := n0_ran.toInt) (b := 1) rfl rfl (by omega) (by omega); have := kk_add2 (x := p4) (y := 1) (a := p4.toInt) (b := 1) rfl rfl (by omega) (by omega); omega))), trivial⟩, y_129, f_130, (by show 1 ≤ (y_129 : Int32).toInt ∧ (y_129 : Int32).toInt ≤ 1000; first | with_reducible assumption | (constructor <;> (have := kk_add2 (x := n0_ran) (y := 1) (a := n0_ran.toInt) (b := 1) rfl rfl (by omega) (by omega); have := kk_add2 (x := p4) (y := 1) (a := p4.toInt) (b := 1) rfl rfl (by omega) (by omega); omega))), (by show (y_129 : Int32).toInt ≤ (n0_ran : Int32).toInt + 11; first | with_reducible assumption | (have := kk_add2 (x := n0_ran) (y := 1) (a := n0_ran.toInt) (b := 1) rfl rfl (by omega) (by omega); have := kk_add2 (x := p4) (y := 1) (a := p4.toInt) (b := 1) rfl rfl (by omega) (by omega); omega)), (by first | exact kk_P_eq (kk_P_trans hp_127 hn_130_0) rfl | (unfold kt_breaks; (repeat' split) <;> first | exact kk_P_eq (kk_P_trans hp_127 hn_130_0) rfl | (exfalso; have : (0 : Int32).toInt = 0 := rfl; have : (1 : Int32).toInt = 1 := rfl; have : (2 : Int32).toInt = 2 := rfl; have : (3 : Int32).toInt = 3 := rfl; have : (4 : Int32).toInt = 4 := rfl; have : (5 : Int32).toInt = 5 := rfl; have : (6 : Int32).toInt = 6 := rfl; have : (7 : Int32).toInt = 7 := rfl; have := kk_add2 (x := n0_ran) (y := 1) (a := n0_ran.toInt) (b := 1) rfl rfl (by omega) (by omega); have := kk_add2 (x := p4) (y := 1) (a := p4.toInt) (b := 1) rfl rfl (by omega) (by omega); omega))), by rw [ht]; exact hP9, va_K.moved hW.alike hK9, hD9⟩, hS.F ht⟩) hS.2.2 dX5_call_143
      · have t_126 : n0_ran.toInt < 24 := kk_nle c_126
        refine lv_aload_n hx hb dX5_call_86 rfl (lv_at hl 2 rfl) ?_
        refine va_get (D := (dC, dI)) (ci := 5) (v := .ref h2) (C := RX5) (T := TX5) (N := 4) hx hb hts (fun _ h => List.mem_cons_of_mem _ (List.mem_append_right _ h)) hown hK hP 0 rfl rfl 2 (by decide) (hts (.fieldLink RX5 15 "KinkStreet$Lines" "trace" "[I") (List.mem_of_getElem? (i := 4) rfl)) (fun _ h9 => h9) rfl dX5_call_87 ?_
        refine lv_aload_n hx hb dX5_call_90 rfl (lv_at hl 2 rfl) ?_
        refine va_get (D := (dC, dI)) (ci := 5) (v := .int n0_ran) (C := RX5) (T := TX5) (N := 4) hx hb hts (fun _ h => List.mem_cons_of_mem _ (List.mem_append_right _ h)) hown hK hP 0 rfl rfl 3 (by decide) (hts (.fieldLink RX5 36 "KinkStreet$Lines" "ran" "I") (List.mem_of_getElem? (i := 3) rfl)) (fun _ h9 => h9) rfl dX5_call_91 ?_
        refine lv_iload hx hb dX5_call_94 (lv_at hl 0 rfl) ?_
        refine va_iast hx hb hK hP hD hS 2 0 rfl rfl (vp_in_iff.mpr ⟨by omega, by omega⟩) dX5_call_96 (fun H locs hP hD hS => ?_)
        have w_131 : ((upd f2 (n0_ran : Int32).toNatClampNeg 10) (n0_ran : Int32).toNatClampNeg).toInt = (10 : Int32).toInt := by rw [kk_ups]
        have hP : va_P (dC, dI) vwCl [(h0, kO5 h1 n0_size h2 n0_ran), (h1, kAi cint 50 f1), (h2, kAi cint 24 (upd f2 (n0_ran : Int32).toNatClampNeg 10))] H := hP
        have hD : va_D A [(h0, kO5 h1 n0_size h2 n0_ran), (h1, kAi cint 50 f1), (h2, kAi cint 24 (upd f2 (n0_ran : Int32).toNatClampNeg 10))] := hD
        refine lv_aload_n hx hb dX5_call_97 rfl (lv_at hl 2 rfl) ?_
        refine lv_dup hx hb dX5_call_98 rfl ?_
        refine va_get (D := (dC, dI)) (ci := 5) (v := .int n0_ran) (C := RX5) (T := TX5) (N := 4) hx hb hts (fun _ h => List.mem_cons_of_mem _ (List.mem_append_right _ h)) hown hK hP 0 rfl rfl 3 (by decide) (hts (.fieldLink RX5 36 "KinkStreet$Lines" "ran" "I") (List.mem_of_getElem? (i := 3) rfl)) (fun _ h9 => h9) rfl dX5_call_99 ?_
        refine lv_iconst (v := 1) hx hb dX5_call_102 kk_ic_1 ?_
        refine lv_iadd hx hb dX5_call_103 ?_
        refine va_put (D := (dC, dI)) (ci := 5) (v := .int (n0_ran + 1)) (ty := .int) (C := RX5) (T := TX5) (N := 4) hx hb hts (fun _ h => List.mem_cons_of_mem _ (List.mem_append_right _ h)) tyX5 tyX5_ok nmX5 hown hK hP hD hS 0 rfl rfl 3 (by decide) (hts (.fieldLink RX5 36 "KinkStreet$Lines" "ran" "I") (List.mem_of_getElem? (i := 3) rfl)) (fun _ h9 => h9) rfl (by decide +kernel) rfl rfl (Nat.le_of_ble_eq_true rfl) dX5_call_104 (fun H locs hP hD hS => ?_)
        have hP : va_P (dC, dI) vwCl [(h0, kO5 h1 n0_size h2 (n0_ran + 1)), (h1, kAi cint 50 f1), (h2, kAi cint 24 (upd f2 (n0_ran : Int32).toNatClampNeg 10))] H := hP
        have hD : va_D A [(h0, kO5 h1 n0_size h2 (n0_ran + 1)), (h1, kAi cint 50 f1), (h2, kAi cint 24 (upd f2 (n0_ran : Int32).toNatClampNeg 10))] := hD
        have hp_132 : kk_P f2 (upd f2 (n0_ran : Int32).toNatClampNeg 10) n0_ran.toInt (n0_ran + 1 : Int32).toInt [10] := kk_P_one (by have := kk_add2 (x := n0_ran) (y := 1) (a := n0_ran.toInt) (b := 1) rfl rfl (by omega) (by omega); omega) (by have := kk_add2 (x := n0_ran) (y := 1) (a := n0_ran.toInt) (b := 1) rfl rfl (by omega) (by omega); omega)
        refine lv_iload hx hb dX5_call_107 (lv_at hl 1 rfl) ?_
        refine lv_if_ne (tgt := 128) hx hb dX5_call_109 (by decide) (fun c => absurd c (by decide)) (fun _ => ?_)
        refine lv_aload_n hx hb dX5_call_112 rfl (lv_at hl 2 rfl) ?_
        refine lv_iload_n hx hb dX5_call_113 rfl (lv_at hl 3 rfl) ?_
        refine lv_iload hx hb dX5_call_114 (lv_at hl 0 rfl) ?_
        refine lv_iload hx hb dX5_call_116 (lv_at hl 6 rfl) ?_
        refine lv_iload hx hb dX5_call_118 (lv_at hl 7 rfl) ?_
        refine lv_iconst (v := 1) hx hb dX5_call_120 kk_ic_1 ?_
        refine lv_iadd hx hb dX5_call_121 ?_
        obtain ⟨hPc, hDc, hFc⟩ := kk_cutout (wc := [(h0, kO5 h1 n0_size h2 (n0_ran + 1)), (h1, kAi cint 50 f1), (h2, kAi cint 24 (upd f2 (n0_ran : Int32).toNatClampNeg 10))]) hP hD hS hA [0, 1, 2] (by decide) rfl
        have hKc := kk_Ks (tq := [(cint, .int)]) hK [0] rfl
        refine va_calli (va_runV (As := [.int p0, .int 10, .int p3, .int (p4 + 1)]) (rest := []) ⟨hx, hb, hml, hown, hts⟩ (g_X5_runLine_5 l dC dI h0 h1 h2 cint H.size p0 p3 (p4 + 1) (by show 0 ≤ ((p4 + 1) : Int32).toInt ∧ ((p4 + 1) : Int32).toInt ≤ 9; first | with_reducible assumption | (constructor <;> (have := kk_add2 (x := n0_ran) (y := 1) (a := n0_ran.toInt) (b := 1) rfl rfl (by omega) (by omega); have := kk_add2 (x := p4) (y := 1) (a := p4.toInt) (b := 1) rfl rfl (by omega) (by omega); omega))) n0_size (n0_ran + 1) f1 (upd f2 (n0_ran : Int32).toNatClampNeg 10) tn0_size (by show 0 ≤ ((n0_ran + 1) : Int32).toInt ∧ ((n0_ran + 1) : Int32).toInt ≤ 997; first | with_reducible assumption | (constructor <;> (have := kk_add2 (x := n0_ran) (y := 1) (a := n0_ran.toInt) (b := 1) rfl rfl (by omega) (by omega); have := kk_add2 (x := p4) (y := 1) (a := p4.toInt) (b := 1) rfl rfl (by omega) (by omega); omega))) bf1 (by show (0 ≤ (p0 : Int32).toInt ∧ (p0 : Int32).toInt < (n0_size : Int32).toInt); first | with_reducible assumption | (have := kk_add2 (x := n0_ran) (y := 1) (a := n0_ran.toInt) (b := 1) rfl rfl (by omega) (by omega); have := kk_add2 (x := p4) (y := 1) (a := p4.toInt) (b := 1) rfl rfl (by omega) (by omega); omega)) aOWN_BODIES aABOVE) (cwV 4 hts gX5_call_X5_runLine rfl rfl rfl ⟨rfl, kh_X5_runLine⟩ ⟨Nat.le_of_ble_eq_true rfl, Nat.le_of_ble_eq_true rfl⟩) ⟨fun a U g mk q => by obtain ⟨q0, q1, qP, qK, qD, qx0, qx1, qx2, qx3⟩ := q; exact ⟨q0, q1, qP, va_K.moved (u := U) (U := U.calling g mk a) (Vm.Alike.refl U.vm) qK, qD, va_Z.moved (u := U) (U := U.calling g mk a) (Vm.Alike.refl U.vm) qx0, va_T.moved (u := U) (U := U.calling g mk a) (Vm.Alike.refl U.vm) qx1, va_Z.moved (u := U) (U := U.calling g mk a) (Vm.Alike.refl U.vm) qx2, va_T.moved (u := U) (U := U.calling g mk a) (Vm.Alike.refl U.vm) qx3⟩, va_recv hKc hPc (ci := 5) (q0 := 0) rfl rfl, fun U hU hW => ⟨rfl, by rw [hU], by rw [hU]; exact hPc, va_K.moved hW.alike hKc, hDc.weaken (fun _ _ _ _ => trivial), by rw [hU]; exact ((hZOWN_BODIES.kept (fun a h1 h2 => hS.2.1 a h1 h2)).narrow hFc).moved hW.alike, by rw [hU]; exact ((hTOWN_BODIES.kept (fun a h1 h2 => hS.2.1 a h1 h2)).narrow hFc).moved hW.alike, by rw [hU]; exact ((hZABOVE.kept (fun a h1 h2 => hS.2.1 a h1 h2)).narrow hFc).moved hW.alike, by rw [hU]; exact ((hTABOVE.kept (fun a h1 h2 => hS.2.1 a h1 h2)).narrow hFc).moved hW.alike⟩⟩ rfl rfl hl.1 rfl (lv_room (Nat.le_of_ble_eq_true rfl)) dX5_call_122 ⟨Nat.le_of_ble_eq_true rfl, Nat.le_of_ble_eq_true rfl⟩) hS (fun q _ h => hFc q h) hFc (fun r_133 u t H1 locs ht hvm hw hB hz1 hk1 hS => ?_)
        obtain ⟨y_134, f_135, by_134, v_135_0, hn_135_0, hP1, hK1, hD1⟩ := hB
        have v_135_0 : y_134.toInt ≤ (n0_ran + 1).toInt + 3 := v_135_0
        have hn_135_0 : kk_P (upd f2 (n0_ran : Int32).toNatClampNeg 10) f_135 (n0_ran + 1).toInt y_134.toInt ((kt_breaks (f1 (p0 : Int32).toNatClampNeg) 0).tail) := hn_135_0
        rw [ht] at hP1
        have hK1 := va_K.moved hvm.symm hK1
        obtain ⟨hP, hD⟩ := va_join (wr := []) (w1 := [(h0, kO5 h1 n0_size h2 y_134), (h1, kAi cint 50 f1), (h2, kAi cint 24 f_135)]) hP hD [0, 1, 2] [] rfl rfl (by decide) (by decide) hk1 hFc hP1 hD1
        generalize H1 = H at hP hS ⊢
        have hP : va_P (dC, dI) vwCl [(h0, kO5 h1 n0_size h2 y_134), (h1, kAi cint 50 f1), (h2, kAi cint 24 f_135)] H := hP
        have hD : va_D A [(h0, kO5 h1 n0_size h2 y_134), (h1, kAi cint 50 f1), (h2, kAi cint 24 f_135)] := hD
        rcases hw with ⟨t_133_0, _⟩
        · skip
          have t_133_0 : r_133 = kk_breaks (f1 (p0 : Int32).toNatClampNeg) 0 p0 p3 := t_133_0
          obtain rfl : r_133 = (kk_breaks (f1 (p0 : Int32).toNatClampNeg) 0 p0 p3) := t_133_0
          refine lv_goto (tgt := 143) hx hb dX5_call_125 (by decide) ?_
          obtain ⟨hP9, hD9⟩ := kk_leafout (wc := [(h0, kO5 h1 n0_size h2 y_134), (h1, kAi cint 50 f1), (h2, kAi cint 24 f_135)]) hP hD [0, 1, 2] (by decide) rfl
          have hK9 := kk_Ks (tq := []) hK [] rfl
          exact W.iret (v := (kk_breaks (f1 (p0 : Int32).toNatClampNeg) 0 p0 p3)) hx hb hr (fun t ht hW => ⟨⟨(kk_breaks (f1 (p0 : Int32).toNatClampNeg) 0 p0 p3), (), rfl, ⟨(by first | rfl | (unfold kk_breaks; (repeat' split) <;> first | rfl | (exfalso; have : (0 : Int32).toInt = 0 := rfl; have : (1 : Int32).toInt = 1 := rfl; have : (2 : Int32).toInt = 2 := rfl; have : (3 : Int32).toInt = 3 := rfl; have : (4 : Int32).toInt = 4 := rfl; have : (5 : Int32).toInt = 5 := rfl; have : (6 : Int32).toInt = 6 := rfl; have : (7 : Int32).toInt = 7 := rfl; have := kk_add2 (x := n0_ran) (y := 1) (a := n0_ran.toInt) (b := 1) rfl rfl (by omega) (by omega); have := kk_add2 (x := p4) (y := 1) (a := p4.toInt) (b := 1) rfl rfl (by omega) (by omega); omega))), trivial⟩, y_134, f_135, (by show 1 ≤ (y_134 : Int32).toInt ∧ (y_134 : Int32).toInt ≤ 1000; first | with_reducible assumption | (constructor <;> (have := kk_add2 (x := n0_ran) (y := 1) (a := n0_ran.toInt) (b := 1) rfl rfl (by omega) (by omega); have := kk_add2 (x := p4) (y := 1) (a := p4.toInt) (b := 1) rfl rfl (by omega) (by omega); omega))), (by show (y_134 : Int32).toInt ≤ (n0_ran : Int32).toInt + 11; first | with_reducible assumption | (have := kk_add2 (x := n0_ran) (y := 1) (a := n0_ran.toInt) (b := 1) rfl rfl (by omega) (by omega); have := kk_add2 (x := p4) (y := 1) (a := p4.toInt) (b := 1) rfl rfl (by omega) (by omega); omega)), (by first | exact kk_P_eq (kk_P_trans hp_132 hn_135_0) rfl | (unfold kt_breaks; (repeat' split) <;> first | exact kk_P_eq (kk_P_trans hp_132 hn_135_0) rfl | (exfalso; have : (0 : Int32).toInt = 0 := rfl; have : (1 : Int32).toInt = 1 := rfl; have : (2 : Int32).toInt = 2 := rfl; have : (3 : Int32).toInt = 3 := rfl; have : (4 : Int32).toInt = 4 := rfl; have : (5 : Int32).toInt = 5 := rfl; have : (6 : Int32).toInt = 6 := rfl; have : (7 : Int32).toInt = 7 := rfl; have := kk_add2 (x := n0_ran) (y := 1) (a := n0_ran.toInt) (b := 1) rfl rfl (by omega) (by omega); have := kk_add2 (x := p4) (y := 1) (a := p4.toInt) (b := 1) rfl rfl (by omega) (by omega); omega))), by rw [ht]; exact hP9, va_K.moved hW.alike hK9, hD9⟩, hS.F ht⟩) hS.2.2 dX5_call_143
    · have t_123 : 40 < p4.toInt := kk_nle c_123
      exfalso; omega
  · have t_1 : p1.toInt = 7 := by rw [e_1]; rfl
    subst e_1
    refine lv_iload_n hx hb dX5_call_0 rfl (lv_at hl 2 rfl) ?_
    refine lv_istore hx hb dX5_call_1 hl (by decide) (rfl : _ = ([(6, .int 7), (0, .ref h0), (1, .int p0), (2, .int 7), (3, .int 1), (4, .int p3), (5, .int p4)] : List (Nat × Value))) (fun ls hl => ?_)
    refine lv_iconst (v := 0) hx hb dX5_call_3 kk_ic_0 ?_
    refine lv_istore hx hb dX5_call_4 hl (by decide) (rfl : _ = ([(7, .int 0), (6, .int 7), (0, .ref h0), (1, .int p0), (2, .int 7), (3, .int 1), (4, .int p3), (5, .int p4)] : List (Nat × Value))) (fun ls hl => ?_)
    refine lv_iload hx hb dX5_call_6 (lv_at hl 0 rfl) ?_
    refine lv_bipush (v := 8) hx hb dX5_call_8 kk_bi_8 ?_
    refine lv_icmp_ge (tgt := 48) hx hb dX5_call_10 (by decide) (fun c => absurd c (by decide)) (fun _ => ?_)
    refine lv_iload hx hb dX5_call_13 (lv_at hl 1 rfl) ?_
    obtain ⟨hPc, hDc, hFc⟩ := kk_cutout (wc := []) hP hD hS hA [] (by decide) rfl
    have hKc := kk_Ks (tq := []) hK [] rfl
    refine va_calli (va_runS (As := [.int 7]) (rest := []) ⟨hx, hb, hml, hown, hts⟩ (g_X5_isKind_18 l dC dI s.heap.size) (va_cwS 1 hts gX5_call_X5_isKind rfl rfl rfl kh_X5_isKind ⟨Nat.le_of_ble_eq_true rfl, Nat.le_of_ble_eq_true rfl⟩) ⟨fun a U g mk q => by obtain ⟨q0, q1, qP, qK, qD⟩ := q; exact ⟨q0, q1, qP, va_K.moved (u := U) (U := U.calling g mk a) (Vm.Alike.refl U.vm) qK, qD⟩, fun U hU hW => ⟨rfl, by rw [hU], by rw [hU]; exact hPc, va_K.moved hW.alike hKc, hDc.weaken (fun _ _ _ _ => trivial)⟩⟩ rfl rfl hl.1 rfl (lv_room (Nat.le_of_ble_eq_true rfl)) dX5_call_15 ⟨Nat.le_of_ble_eq_true rfl, Nat.le_of_ble_eq_true rfl⟩) hS (fun q _ h => hFc q h) hFc (fun r_136 u t H1 locs ht hvm hw hB hz1 hk1 hS => ?_)
    obtain ⟨hP1, hK1, hD1⟩ := hB
    rw [ht] at hP1
    have hK1 := va_K.moved hvm.symm hK1
    obtain ⟨hP, hD⟩ := va_join (wr := [(h0, kO5 h1 n0_size h2 n0_ran), (h1, kAi cint 50 f1), (h2, kAi cint 24 f2)]) (w1 := []) hP hD [] [0, 1, 2] rfl rfl (by decide) (by decide) hk1 hFc hP1 hD1
    generalize H1 = H at hP hS ⊢
    have hP : va_P (dC, dI) vwCl [(h0, kO5 h1 n0_size h2 n0_ran), (h1, kAi cint 50 f1), (h2, kAi cint 24 f2)] H := hP
    have hD : va_D A [(h0, kO5 h1 n0_size h2 n0_ran), (h1, kAi cint 50 f1), (h2, kAi cint 24 f2)] := hD
    obtain rfl := hw
    refine lv_if_eq (tgt := 48) hx hb dX5_call_18 (by decide) (fun c => absurd c (by decide)) (fun _ => ?_)
    refine va_gets hx hb hZOWN_BODIES hS hown (hts (.fieldLink RX5 43 "KinkStreet$Lines" "OWN_BODIES" "[I") (List.mem_of_getElem? (i := 1) rfl)) (fun _ h9 => h9) dX5_call_21 ?_
    refine lv_iload hx hb dX5_call_24 (lv_at hl 1 rfl) ?_
    refine lv_iconst (v := 4) hx hb dX5_call_26 kk_ic_4 ?_
    refine lv_imul hx hb dX5_call_27 ?_
    refine lv_topi (fun y_137 e_137 => ?_)
    obtain rfl : y_137 = 28 := e_137.trans (by decide)
    refine lv_iload_n hx hb dX5_call_28 rfl (lv_at hl 5 rfl) ?_
    refine lv_iadd hx hb dX5_call_29 ?_
    refine lv_topi (fun y_138 e_138 => ?_)
    obtain rfl : y_138 = 29 := e_138.trans (by decide)
    refine va_ti (v := .int 0) hx hb hTOWN_BODIES hS (by unfold vp_in; decide) rfl dX5_call_30 ?_
    refine lv_if_ne (tgt := 48) hx hb dX5_call_31 (by decide) (fun c => absurd c (by decide)) (fun _ => ?_)
    refine va_gets hx hb hZABOVE hS hown (hts (.fieldLink RX5 22 "KinkStreet$Lines" "ABOVE" "[I") (List.mem_of_getElem? (i := 2) rfl)) (fun _ h9 => h9) dX5_call_34 ?_
    refine lv_iload hx hb dX5_call_37 (lv_at hl 1 rfl) ?_
    refine va_ti (v := .int 1) hx hb hTABOVE hS (by unfold vp_in; decide) rfl dX5_call_39 ?_
    refine lv_istore hx hb dX5_call_40 hl (by decide) (rfl : _ = ([(6, .int 1), (7, .int 0), (0, .ref h0), (1, .int p0), (2, .int 7), (3, .int 1), (4, .int p3), (5, .int p4)] : List (Nat × Value))) (fun ls hl => ?_)
    refine lv_iinc (v := 1) hx hb dX5_call_42 hl (k := 1) rfl (by first | rfl | decide) (by decide) (rfl : _ = ([(7, .int 1), (6, .int 1), (0, .ref h0), (1, .int p0), (2, .int 7), (3, .int 1), (4, .int p3), (5, .int p4)] : List (Nat × Value))) (fun ls hl => ?_)
    refine lv_goto (tgt := 6) hx hb dX5_call_45 (by decide) ?_
    refine lv_iload hx hb dX5_call_6 (lv_at hl 0 rfl) ?_
    refine lv_bipush (v := 8) hx hb dX5_call_8 kk_bi_8 ?_
    refine lv_icmp_ge (tgt := 48) hx hb dX5_call_10 (by decide) (fun c => absurd c (by decide)) (fun _ => ?_)
    refine lv_iload hx hb dX5_call_13 (lv_at hl 1 rfl) ?_
    obtain ⟨hPc, hDc, hFc⟩ := kk_cutout (wc := []) hP hD hS hA [] (by decide) rfl
    have hKc := kk_Ks (tq := []) hK [] rfl
    refine va_calli (va_runS (As := [.int 1]) (rest := []) ⟨hx, hb, hml, hown, hts⟩ (g_X5_isKind_12 l dC dI H.size) (va_cwS 1 hts gX5_call_X5_isKind rfl rfl rfl kh_X5_isKind ⟨Nat.le_of_ble_eq_true rfl, Nat.le_of_ble_eq_true rfl⟩) ⟨fun a U g mk q => by obtain ⟨q0, q1, qP, qK, qD⟩ := q; exact ⟨q0, q1, qP, va_K.moved (u := U) (U := U.calling g mk a) (Vm.Alike.refl U.vm) qK, qD⟩, fun U hU hW => ⟨rfl, by rw [hU], by rw [hU]; exact hPc, va_K.moved hW.alike hKc, hDc.weaken (fun _ _ _ _ => trivial)⟩⟩ rfl rfl hl.1 rfl (lv_room (Nat.le_of_ble_eq_true rfl)) dX5_call_15 ⟨Nat.le_of_ble_eq_true rfl, Nat.le_of_ble_eq_true rfl⟩) hS (fun q _ h => hFc q h) hFc (fun r_139 u t H1 locs ht hvm hw hB hz1 hk1 hS => ?_)
    obtain ⟨hP1, hK1, hD1⟩ := hB
    rw [ht] at hP1
    have hK1 := va_K.moved hvm.symm hK1
    obtain ⟨hP, hD⟩ := va_join (wr := [(h0, kO5 h1 n0_size h2 n0_ran), (h1, kAi cint 50 f1), (h2, kAi cint 24 f2)]) (w1 := []) hP hD [] [0, 1, 2] rfl rfl (by decide) (by decide) hk1 hFc hP1 hD1
    generalize H1 = H at hP hS ⊢
    have hP : va_P (dC, dI) vwCl [(h0, kO5 h1 n0_size h2 n0_ran), (h1, kAi cint 50 f1), (h2, kAi cint 24 f2)] H := hP
    have hD : va_D A [(h0, kO5 h1 n0_size h2 n0_ran), (h1, kAi cint 50 f1), (h2, kAi cint 24 f2)] := hD
    obtain rfl := hw
    refine lv_if_eq (tgt := 48) hx hb dX5_call_18 (by decide) (fun c => absurd c (by decide)) (fun _ => ?_)
    refine va_gets hx hb hZOWN_BODIES hS hown (hts (.fieldLink RX5 43 "KinkStreet$Lines" "OWN_BODIES" "[I") (List.mem_of_getElem? (i := 1) rfl)) (fun _ h9 => h9) dX5_call_21 ?_
    refine lv_iload hx hb dX5_call_24 (lv_at hl 1 rfl) ?_
    refine lv_iconst (v := 4) hx hb dX5_call_26 kk_ic_4 ?_
    refine lv_imul hx hb dX5_call_27 ?_
    refine lv_topi (fun y_140 e_140 => ?_)
    obtain rfl : y_140 = 4 := e_140.trans (by decide)
    refine lv_iload_n hx hb dX5_call_28 rfl (lv_at hl 5 rfl) ?_
    refine lv_iadd hx hb dX5_call_29 ?_
    refine lv_topi (fun y_141 e_141 => ?_)
    obtain rfl : y_141 = 5 := e_141.trans (by decide)
    refine va_ti (v := .int 0) hx hb hTOWN_BODIES hS (by unfold vp_in; decide) rfl dX5_call_30 ?_
    refine lv_if_ne (tgt := 48) hx hb dX5_call_31 (by decide) (fun c => absurd c (by decide)) (fun _ => ?_)
    refine va_gets hx hb hZABOVE hS hown (hts (.fieldLink RX5 22 "KinkStreet$Lines" "ABOVE" "[I") (List.mem_of_getElem? (i := 2) rfl)) (fun _ h9 => h9) dX5_call_34 ?_
    refine lv_iload hx hb dX5_call_37 (lv_at hl 1 rfl) ?_
    refine va_ti (v := .int 0) hx hb hTABOVE hS (by unfold vp_in; decide) rfl dX5_call_39 ?_
    refine lv_istore hx hb dX5_call_40 hl (by decide) (rfl : _ = ([(6, .int 0), (7, .int 1), (0, .ref h0), (1, .int p0), (2, .int 7), (3, .int 1), (4, .int p3), (5, .int p4)] : List (Nat × Value))) (fun ls hl => ?_)
    refine lv_iinc (v := 2) hx hb dX5_call_42 hl (k := 1) rfl (by first | rfl | decide) (by decide) (rfl : _ = ([(7, .int 2), (6, .int 0), (0, .ref h0), (1, .int p0), (2, .int 7), (3, .int 1), (4, .int p3), (5, .int p4)] : List (Nat × Value))) (fun ls hl => ?_)
    refine lv_goto (tgt := 6) hx hb dX5_call_45 (by decide) ?_
    refine lv_iload hx hb dX5_call_6 (lv_at hl 0 rfl) ?_
    refine lv_bipush (v := 8) hx hb dX5_call_8 kk_bi_8 ?_
    refine lv_icmp_ge (tgt := 48) hx hb dX5_call_10 (by decide) (fun c => absurd c (by decide)) (fun _ => ?_)
    refine lv_iload hx hb dX5_call_13 (lv_at hl 1 rfl) ?_
    obtain ⟨hPc, hDc, hFc⟩ := kk_cutout (wc := []) hP hD hS hA [] (by decide) rfl
    have hKc := kk_Ks (tq := []) hK [] rfl
    refine va_calli (va_runS (As := [.int 0]) (rest := []) ⟨hx, hb, hml, hown, hts⟩ (g_X5_isKind_11 l dC dI H.size) (va_cwS 1 hts gX5_call_X5_isKind rfl rfl rfl kh_X5_isKind ⟨Nat.le_of_ble_eq_true rfl, Nat.le_of_ble_eq_true rfl⟩) ⟨fun a U g mk q => by obtain ⟨q0, q1, qP, qK, qD⟩ := q; exact ⟨q0, q1, qP, va_K.moved (u := U) (U := U.calling g mk a) (Vm.Alike.refl U.vm) qK, qD⟩, fun U hU hW => ⟨rfl, by rw [hU], by rw [hU]; exact hPc, va_K.moved hW.alike hKc, hDc.weaken (fun _ _ _ _ => trivial)⟩⟩ rfl rfl hl.1 rfl (lv_room (Nat.le_of_ble_eq_true rfl)) dX5_call_15 ⟨Nat.le_of_ble_eq_true rfl, Nat.le_of_ble_eq_true rfl⟩) hS (fun q _ h => hFc q h) hFc (fun r_142 u t H1 locs ht hvm hw hB hz1 hk1 hS => ?_)
    obtain ⟨hP1, hK1, hD1⟩ := hB
    rw [ht] at hP1
    have hK1 := va_K.moved hvm.symm hK1
    obtain ⟨hP, hD⟩ := va_join (wr := [(h0, kO5 h1 n0_size h2 n0_ran), (h1, kAi cint 50 f1), (h2, kAi cint 24 f2)]) (w1 := []) hP hD [] [0, 1, 2] rfl rfl (by decide) (by decide) hk1 hFc hP1 hD1
    generalize H1 = H at hP hS ⊢
    have hP : va_P (dC, dI) vwCl [(h0, kO5 h1 n0_size h2 n0_ran), (h1, kAi cint 50 f1), (h2, kAi cint 24 f2)] H := hP
    have hD : va_D A [(h0, kO5 h1 n0_size h2 n0_ran), (h1, kAi cint 50 f1), (h2, kAi cint 24 f2)] := hD
    obtain rfl := hw
    refine lv_if_eq (tgt := 48) hx hb dX5_call_18 (by decide) (fun c => absurd c (by decide)) (fun _ => ?_)
    refine va_gets hx hb hZOWN_BODIES hS hown (hts (.fieldLink RX5 43 "KinkStreet$Lines" "OWN_BODIES" "[I") (List.mem_of_getElem? (i := 1) rfl)) (fun _ h9 => h9) dX5_call_21 ?_
    refine lv_iload hx hb dX5_call_24 (lv_at hl 1 rfl) ?_
    refine lv_iconst (v := 4) hx hb dX5_call_26 kk_ic_4 ?_
    refine lv_imul hx hb dX5_call_27 ?_
    refine lv_topi (fun y_143 e_143 => ?_)
    obtain rfl : y_143 = 0 := e_143.trans (by decide)
    refine lv_iload_n hx hb dX5_call_28 rfl (lv_at hl 5 rfl) ?_
    refine lv_iadd hx hb dX5_call_29 ?_
    refine lv_topi (fun y_144 e_144 => ?_)
    obtain rfl : y_144 = 1 := e_144.trans (by decide)
    refine va_ti (v := .int 10) hx hb hTOWN_BODIES hS (by unfold vp_in; decide) rfl dX5_call_30 ?_
    refine lv_if_ne (tgt := 48) hx hb dX5_call_31 (by decide) (fun _ => ?_) (fun c => absurd c (by decide))
    refine lv_iload hx hb dX5_call_48 (lv_at hl 1 rfl) ?_
    obtain ⟨hPc, hDc, hFc⟩ := kk_cutout (wc := []) hP hD hS hA [] (by decide) rfl
    have hKc := kk_Ks (tq := []) hK [] rfl
    refine va_calli (va_runS (As := [.int 0]) (rest := []) ⟨hx, hb, hml, hown, hts⟩ (g_X5_isKind_11 l dC dI H.size) (va_cwS 1 hts gX5_call_X5_isKind rfl rfl rfl kh_X5_isKind ⟨Nat.le_of_ble_eq_true rfl, Nat.le_of_ble_eq_true rfl⟩) ⟨fun a U g mk q => by obtain ⟨q0, q1, qP, qK, qD⟩ := q; exact ⟨q0, q1, qP, va_K.moved (u := U) (U := U.calling g mk a) (Vm.Alike.refl U.vm) qK, qD⟩, fun U hU hW => ⟨rfl, by rw [hU], by rw [hU]; exact hPc, va_K.moved hW.alike hKc, hDc.weaken (fun _ _ _ _ => trivial)⟩⟩ rfl rfl hl.1 rfl (lv_room (Nat.le_of_ble_eq_true rfl)) dX5_call_50 ⟨Nat.le_of_ble_eq_true rfl, Nat.le_of_ble_eq_true rfl⟩) hS (fun q _ h => hFc q h) hFc (fun r_145 u t H1 locs ht hvm hw hB hz1 hk1 hS => ?_)
    obtain ⟨hP1, hK1, hD1⟩ := hB
    rw [ht] at hP1
    have hK1 := va_K.moved hvm.symm hK1
    obtain ⟨hP, hD⟩ := va_join (wr := [(h0, kO5 h1 n0_size h2 n0_ran), (h1, kAi cint 50 f1), (h2, kAi cint 24 f2)]) (w1 := []) hP hD [] [0, 1, 2] rfl rfl (by decide) (by decide) hk1 hFc hP1 hD1
    generalize H1 = H at hP hS ⊢
    have hP : va_P (dC, dI) vwCl [(h0, kO5 h1 n0_size h2 n0_ran), (h1, kAi cint 50 f1), (h2, kAi cint 24 f2)] H := hP
    have hD : va_D A [(h0, kO5 h1 n0_size h2 n0_ran), (h1, kAi cint 50 f1), (h2, kAi cint 24 f2)] := hD
    obtain rfl := hw
    refine lv_if_eq (tgt := 63) hx hb dX5_call_53 (by decide) (fun c => absurd c (by decide)) (fun _ => ?_)
    refine lv_iload hx hb dX5_call_56 (lv_at hl 7 rfl) ?_
    refine lv_bipush (v := 40) hx hb dX5_call_58 kk_bi_40 ?_
    refine lv_icmp_le (tgt := 65) hx hb dX5_call_60 (by decide) (fun c_146 => ?_) (fun c_146 => ?_)
    · have t_146 : p4.toInt ≤ 40 := kk_le c_146
      refine va_gets hx hb hZOWN_BODIES hS hown (hts (.fieldLink RX5 43 "KinkStreet$Lines" "OWN_BODIES" "[I") (List.mem_of_getElem? (i := 1) rfl)) (fun _ h9 => h9) dX5_call_65 ?_
      refine lv_iload hx hb dX5_call_68 (lv_at hl 1 rfl) ?_
      refine lv_iconst (v := 4) hx hb dX5_call_70 kk_ic_4 ?_
      refine lv_imul hx hb dX5_call_71 ?_
      refine lv_topi (fun y_147 e_147 => ?_)
      obtain rfl : y_147 = 0 := e_147.trans (by decide)
      refine lv_iload_n hx hb dX5_call_72 rfl (lv_at hl 5 rfl) ?_
      refine lv_iadd hx hb dX5_call_73 ?_
      refine lv_topi (fun y_148 e_148 => ?_)
      obtain rfl : y_148 = 1 := e_148.trans (by decide)
      refine va_ti (v := .int 10) hx hb hTOWN_BODIES hS (by unfold vp_in; decide) rfl dX5_call_74 ?_
      refine lv_istore hx hb dX5_call_75 hl (by decide) (rfl : _ = ([(7, .int 10), (6, .int 0), (0, .ref h0), (1, .int p0), (2, .int 7), (3, .int 1), (4, .int p3), (5, .int p4)] : List (Nat × Value))) (fun ls hl => ?_)
      refine lv_aload_n hx hb dX5_call_77 rfl (lv_at hl 2 rfl) ?_
      refine va_get (D := (dC, dI)) (ci := 5) (v := .int n0_ran) (C := RX5) (T := TX5) (N := 4) hx hb hts (fun _ h => List.mem_cons_of_mem _ (List.mem_append_right _ h)) hown hK hP 0 rfl rfl 3 (by decide) (hts (.fieldLink RX5 36 "KinkStreet$Lines" "ran" "I") (List.mem_of_getElem? (i := 3) rfl)) (fun _ h9 => h9) rfl dX5_call_78 ?_
      refine lv_bipush (v := 24) hx hb dX5_call_81 kk_bi_24 ?_
      refine lv_icmp_ge (tgt := 97) hx hb dX5_call_83 (by decide) (fun c_149 => ?_) (fun c_149 => ?_)
      · have t_149 : 24 ≤ n0_ran.toInt := kk_le c_149
        refine lv_aload_n hx hb dX5_call_97 rfl (lv_at hl 2 rfl) ?_
        refine lv_dup hx hb dX5_call_98 rfl ?_
        refine va_get (D := (dC, dI)) (ci := 5) (v := .int n0_ran) (C := RX5) (T := TX5) (N := 4) hx hb hts (fun _ h => List.mem_cons_of_mem _ (List.mem_append_right _ h)) hown hK hP 0 rfl rfl 3 (by decide) (hts (.fieldLink RX5 36 "KinkStreet$Lines" "ran" "I") (List.mem_of_getElem? (i := 3) rfl)) (fun _ h9 => h9) rfl dX5_call_99 ?_
        refine lv_iconst (v := 1) hx hb dX5_call_102 kk_ic_1 ?_
        refine lv_iadd hx hb dX5_call_103 ?_
        refine va_put (D := (dC, dI)) (ci := 5) (v := .int (n0_ran + 1)) (ty := .int) (C := RX5) (T := TX5) (N := 4) hx hb hts (fun _ h => List.mem_cons_of_mem _ (List.mem_append_right _ h)) tyX5 tyX5_ok nmX5 hown hK hP hD hS 0 rfl rfl 3 (by decide) (hts (.fieldLink RX5 36 "KinkStreet$Lines" "ran" "I") (List.mem_of_getElem? (i := 3) rfl)) (fun _ h9 => h9) rfl (by decide +kernel) rfl rfl (Nat.le_of_ble_eq_true rfl) dX5_call_104 (fun H locs hP hD hS => ?_)
        have hP : va_P (dC, dI) vwCl [(h0, kO5 h1 n0_size h2 (n0_ran + 1)), (h1, kAi cint 50 f1), (h2, kAi cint 24 f2)] H := hP
        have hD : va_D A [(h0, kO5 h1 n0_size h2 (n0_ran + 1)), (h1, kAi cint 50 f1), (h2, kAi cint 24 f2)] := hD
        have hp_150 : kk_P f2 f2 n0_ran.toInt (n0_ran + 1 : Int32).toInt [10] := kk_P_out (by have := kk_add2 (x := n0_ran) (y := 1) (a := n0_ran.toInt) (b := 1) rfl rfl (by omega) (by omega); omega) (by have := kk_add2 (x := n0_ran) (y := 1) (a := n0_ran.toInt) (b := 1) rfl rfl (by omega) (by omega); omega)
        refine lv_iload hx hb dX5_call_107 (lv_at hl 1 rfl) ?_
        refine lv_if_ne (tgt := 128) hx hb dX5_call_109 (by decide) (fun c => absurd c (by decide)) (fun _ => ?_)
        refine lv_aload_n hx hb dX5_call_112 rfl (lv_at hl 2 rfl) ?_
        refine lv_iload_n hx hb dX5_call_113 rfl (lv_at hl 3 rfl) ?_
        refine lv_iload hx hb dX5_call_114 (lv_at hl 0 rfl) ?_
        refine lv_iload hx hb dX5_call_116 (lv_at hl 6 rfl) ?_
        refine lv_iload hx hb dX5_call_118 (lv_at hl 7 rfl) ?_
        refine lv_iconst (v := 1) hx hb dX5_call_120 kk_ic_1 ?_
        refine lv_iadd hx hb dX5_call_121 ?_
        obtain ⟨hPc, hDc, hFc⟩ := kk_cutout (wc := [(h0, kO5 h1 n0_size h2 (n0_ran + 1)), (h1, kAi cint 50 f1), (h2, kAi cint 24 f2)]) hP hD hS hA [0, 1, 2] (by decide) rfl
        have hKc := kk_Ks (tq := [(cint, .int)]) hK [0] rfl
        refine va_calli (va_runV (As := [.int p0, .int 10, .int p3, .int (p4 + 1)]) (rest := []) ⟨hx, hb, hml, hown, hts⟩ (g_X5_runLine_5 l dC dI h0 h1 h2 cint H.size p0 p3 (p4 + 1) (by show 0 ≤ ((p4 + 1) : Int32).toInt ∧ ((p4 + 1) : Int32).toInt ≤ 9; first | with_reducible assumption | (constructor <;> (have := kk_add2 (x := n0_ran) (y := 1) (a := n0_ran.toInt) (b := 1) rfl rfl (by omega) (by omega); have := kk_add2 (x := p4) (y := 1) (a := p4.toInt) (b := 1) rfl rfl (by omega) (by omega); omega))) n0_size (n0_ran + 1) f1 f2 tn0_size (by show 0 ≤ ((n0_ran + 1) : Int32).toInt ∧ ((n0_ran + 1) : Int32).toInt ≤ 997; first | with_reducible assumption | (constructor <;> (have := kk_add2 (x := n0_ran) (y := 1) (a := n0_ran.toInt) (b := 1) rfl rfl (by omega) (by omega); have := kk_add2 (x := p4) (y := 1) (a := p4.toInt) (b := 1) rfl rfl (by omega) (by omega); omega))) bf1 (by show (0 ≤ (p0 : Int32).toInt ∧ (p0 : Int32).toInt < (n0_size : Int32).toInt); first | with_reducible assumption | (have := kk_add2 (x := n0_ran) (y := 1) (a := n0_ran.toInt) (b := 1) rfl rfl (by omega) (by omega); have := kk_add2 (x := p4) (y := 1) (a := p4.toInt) (b := 1) rfl rfl (by omega) (by omega); omega)) aOWN_BODIES aABOVE) (cwV 4 hts gX5_call_X5_runLine rfl rfl rfl ⟨rfl, kh_X5_runLine⟩ ⟨Nat.le_of_ble_eq_true rfl, Nat.le_of_ble_eq_true rfl⟩) ⟨fun a U g mk q => by obtain ⟨q0, q1, qP, qK, qD, qx0, qx1, qx2, qx3⟩ := q; exact ⟨q0, q1, qP, va_K.moved (u := U) (U := U.calling g mk a) (Vm.Alike.refl U.vm) qK, qD, va_Z.moved (u := U) (U := U.calling g mk a) (Vm.Alike.refl U.vm) qx0, va_T.moved (u := U) (U := U.calling g mk a) (Vm.Alike.refl U.vm) qx1, va_Z.moved (u := U) (U := U.calling g mk a) (Vm.Alike.refl U.vm) qx2, va_T.moved (u := U) (U := U.calling g mk a) (Vm.Alike.refl U.vm) qx3⟩, va_recv hKc hPc (ci := 5) (q0 := 0) rfl rfl, fun U hU hW => ⟨rfl, by rw [hU], by rw [hU]; exact hPc, va_K.moved hW.alike hKc, hDc.weaken (fun _ _ _ _ => trivial), by rw [hU]; exact ((hZOWN_BODIES.kept (fun a h1 h2 => hS.2.1 a h1 h2)).narrow hFc).moved hW.alike, by rw [hU]; exact ((hTOWN_BODIES.kept (fun a h1 h2 => hS.2.1 a h1 h2)).narrow hFc).moved hW.alike, by rw [hU]; exact ((hZABOVE.kept (fun a h1 h2 => hS.2.1 a h1 h2)).narrow hFc).moved hW.alike, by rw [hU]; exact ((hTABOVE.kept (fun a h1 h2 => hS.2.1 a h1 h2)).narrow hFc).moved hW.alike⟩⟩ rfl rfl hl.1 rfl (lv_room (Nat.le_of_ble_eq_true rfl)) dX5_call_122 ⟨Nat.le_of_ble_eq_true rfl, Nat.le_of_ble_eq_true rfl⟩) hS (fun q _ h => hFc q h) hFc (fun r_151 u t H1 locs ht hvm hw hB hz1 hk1 hS => ?_)
        obtain ⟨y_152, f_153, by_152, v_153_0, hn_153_0, hP1, hK1, hD1⟩ := hB
        have v_153_0 : y_152.toInt ≤ (n0_ran + 1).toInt + 3 := v_153_0
        have hn_153_0 : kk_P f2 f_153 (n0_ran + 1).toInt y_152.toInt ((kt_breaks (f1 (p0 : Int32).toNatClampNeg) 0).tail) := hn_153_0
        rw [ht] at hP1
        have hK1 := va_K.moved hvm.symm hK1
        obtain ⟨hP, hD⟩ := va_join (wr := []) (w1 := [(h0, kO5 h1 n0_size h2 y_152), (h1, kAi cint 50 f1), (h2, kAi cint 24 f_153)]) hP hD [0, 1, 2] [] rfl rfl (by decide) (by decide) hk1 hFc hP1 hD1
        generalize H1 = H at hP hS ⊢
        have hP : va_P (dC, dI) vwCl [(h0, kO5 h1 n0_size h2 y_152), (h1, kAi cint 50 f1), (h2, kAi cint 24 f_153)] H := hP
        have hD : va_D A [(h0, kO5 h1 n0_size h2 y_152), (h1, kAi cint 50 f1), (h2, kAi cint 24 f_153)] := hD
        rcases hw with ⟨t_151_0, _⟩
        · skip
          have t_151_0 : r_151 = kk_breaks (f1 (p0 : Int32).toNatClampNeg) 0 p0 p3 := t_151_0
          obtain rfl : r_151 = (kk_breaks (f1 (p0 : Int32).toNatClampNeg) 0 p0 p3) := t_151_0
          refine lv_goto (tgt := 143) hx hb dX5_call_125 (by decide) ?_
          obtain ⟨hP9, hD9⟩ := kk_leafout (wc := [(h0, kO5 h1 n0_size h2 y_152), (h1, kAi cint 50 f1), (h2, kAi cint 24 f_153)]) hP hD [0, 1, 2] (by decide) rfl
          have hK9 := kk_Ks (tq := []) hK [] rfl
          exact W.iret (v := (kk_breaks (f1 (p0 : Int32).toNatClampNeg) 0 p0 p3)) hx hb hr (fun t ht hW => ⟨⟨(kk_breaks (f1 (p0 : Int32).toNatClampNeg) 0 p0 p3), (), rfl, ⟨(by first | rfl | (unfold kk_breaks; (repeat' split) <;> first | rfl | (exfalso; have : (0 : Int32).toInt = 0 := rfl; have : (1 : Int32).toInt = 1 := rfl; have : (2 : Int32).toInt = 2 := rfl; have : (3 : Int32).toInt = 3 := rfl; have : (4 : Int32).toInt = 4 := rfl; have : (5 : Int32).toInt = 5 := rfl; have : (6 : Int32).toInt = 6 := rfl; have : (7 : Int32).toInt = 7 := rfl; have := kk_add2 (x := n0_ran) (y := 1) (a := n0_ran.toInt) (b := 1) rfl rfl (by omega) (by omega); have := kk_add2 (x := p4) (y := 1) (a := p4.toInt) (b := 1) rfl rfl (by omega) (by omega); omega))), trivial⟩, y_152, f_153, (by show 1 ≤ (y_152 : Int32).toInt ∧ (y_152 : Int32).toInt ≤ 1000; first | with_reducible assumption | (constructor <;> (have := kk_add2 (x := n0_ran) (y := 1) (a := n0_ran.toInt) (b := 1) rfl rfl (by omega) (by omega); have := kk_add2 (x := p4) (y := 1) (a := p4.toInt) (b := 1) rfl rfl (by omega) (by omega); omega))), (by show (y_152 : Int32).toInt ≤ (n0_ran : Int32).toInt + 11; first | with_reducible assumption | (have := kk_add2 (x := n0_ran) (y := 1) (a := n0_ran.toInt) (b := 1) rfl rfl (by omega) (by omega); have := kk_add2 (x := p4) (y := 1) (a := p4.toInt) (b := 1) rfl rfl (by omega) (by omega); omega)), (by first | exact kk_P_eq (kk_P_trans hp_150 hn_153_0) rfl | (unfold kt_breaks; (repeat' split) <;> first | exact kk_P_eq (kk_P_trans hp_150 hn_153_0) rfl | (exfalso; have : (0 : Int32).toInt = 0 := rfl; have : (1 : Int32).toInt = 1 := rfl; have : (2 : Int32).toInt = 2 := rfl; have : (3 : Int32).toInt = 3 := rfl; have : (4 : Int32).toInt = 4 := rfl; have : (5 : Int32).toInt = 5 := rfl; have : (6 : Int32).toInt = 6 := rfl; have : (7 : Int32).toInt = 7 := rfl; have := kk_add2 (x := n0_ran) (y := 1) (a := n0_ran.toInt) (b := 1) rfl rfl (by omega) (by omega); have := kk_add2 (x := p4) (y := 1) (a := p4.toInt) (b := 1) rfl rfl (by omega) (by omega); omega))), by rw [ht]; exact hP9, va_K.moved hW.alike hK9, hD9⟩, hS.F ht⟩) hS.2.2 dX5_call_143
      · have t_149 : n0_ran.toInt < 24 := kk_nle c_149
        refine lv_aload_n hx hb dX5_call_86 rfl (lv_at hl 2 rfl) ?_
        refine va_get (D := (dC, dI)) (ci := 5) (v := .ref h2) (C := RX5) (T := TX5) (N := 4) hx hb hts (fun _ h => List.mem_cons_of_mem _ (List.mem_append_right _ h)) hown hK hP 0 rfl rfl 2 (by decide) (hts (.fieldLink RX5 15 "KinkStreet$Lines" "trace" "[I") (List.mem_of_getElem? (i := 4) rfl)) (fun _ h9 => h9) rfl dX5_call_87 ?_
        refine lv_aload_n hx hb dX5_call_90 rfl (lv_at hl 2 rfl) ?_
        refine va_get (D := (dC, dI)) (ci := 5) (v := .int n0_ran) (C := RX5) (T := TX5) (N := 4) hx hb hts (fun _ h => List.mem_cons_of_mem _ (List.mem_append_right _ h)) hown hK hP 0 rfl rfl 3 (by decide) (hts (.fieldLink RX5 36 "KinkStreet$Lines" "ran" "I") (List.mem_of_getElem? (i := 3) rfl)) (fun _ h9 => h9) rfl dX5_call_91 ?_
        refine lv_iload hx hb dX5_call_94 (lv_at hl 0 rfl) ?_
        refine va_iast hx hb hK hP hD hS 2 0 rfl rfl (vp_in_iff.mpr ⟨by omega, by omega⟩) dX5_call_96 (fun H locs hP hD hS => ?_)
        have w_154 : ((upd f2 (n0_ran : Int32).toNatClampNeg 10) (n0_ran : Int32).toNatClampNeg).toInt = (10 : Int32).toInt := by rw [kk_ups]
        have hP : va_P (dC, dI) vwCl [(h0, kO5 h1 n0_size h2 n0_ran), (h1, kAi cint 50 f1), (h2, kAi cint 24 (upd f2 (n0_ran : Int32).toNatClampNeg 10))] H := hP
        have hD : va_D A [(h0, kO5 h1 n0_size h2 n0_ran), (h1, kAi cint 50 f1), (h2, kAi cint 24 (upd f2 (n0_ran : Int32).toNatClampNeg 10))] := hD
        refine lv_aload_n hx hb dX5_call_97 rfl (lv_at hl 2 rfl) ?_
        refine lv_dup hx hb dX5_call_98 rfl ?_
        refine va_get (D := (dC, dI)) (ci := 5) (v := .int n0_ran) (C := RX5) (T := TX5) (N := 4) hx hb hts (fun _ h => List.mem_cons_of_mem _ (List.mem_append_right _ h)) hown hK hP 0 rfl rfl 3 (by decide) (hts (.fieldLink RX5 36 "KinkStreet$Lines" "ran" "I") (List.mem_of_getElem? (i := 3) rfl)) (fun _ h9 => h9) rfl dX5_call_99 ?_
        refine lv_iconst (v := 1) hx hb dX5_call_102 kk_ic_1 ?_
        refine lv_iadd hx hb dX5_call_103 ?_
        refine va_put (D := (dC, dI)) (ci := 5) (v := .int (n0_ran + 1)) (ty := .int) (C := RX5) (T := TX5) (N := 4) hx hb hts (fun _ h => List.mem_cons_of_mem _ (List.mem_append_right _ h)) tyX5 tyX5_ok nmX5 hown hK hP hD hS 0 rfl rfl 3 (by decide) (hts (.fieldLink RX5 36 "KinkStreet$Lines" "ran" "I") (List.mem_of_getElem? (i := 3) rfl)) (fun _ h9 => h9) rfl (by decide +kernel) rfl rfl (Nat.le_of_ble_eq_true rfl) dX5_call_104 (fun H locs hP hD hS => ?_)
        have hP : va_P (dC, dI) vwCl [(h0, kO5 h1 n0_size h2 (n0_ran + 1)), (h1, kAi cint 50 f1), (h2, kAi cint 24 (upd f2 (n0_ran : Int32).toNatClampNeg 10))] H := hP
        have hD : va_D A [(h0, kO5 h1 n0_size h2 (n0_ran + 1)), (h1, kAi cint 50 f1), (h2, kAi cint 24 (upd f2 (n0_ran : Int32).toNatClampNeg 10))] := hD
        have hp_155 : kk_P f2 (upd f2 (n0_ran : Int32).toNatClampNeg 10) n0_ran.toInt (n0_ran + 1 : Int32).toInt [10] := kk_P_one (by have := kk_add2 (x := n0_ran) (y := 1) (a := n0_ran.toInt) (b := 1) rfl rfl (by omega) (by omega); omega) (by have := kk_add2 (x := n0_ran) (y := 1) (a := n0_ran.toInt) (b := 1) rfl rfl (by omega) (by omega); omega)
        refine lv_iload hx hb dX5_call_107 (lv_at hl 1 rfl) ?_
        refine lv_if_ne (tgt := 128) hx hb dX5_call_109 (by decide) (fun c => absurd c (by decide)) (fun _ => ?_)
        refine lv_aload_n hx hb dX5_call_112 rfl (lv_at hl 2 rfl) ?_
        refine lv_iload_n hx hb dX5_call_113 rfl (lv_at hl 3 rfl) ?_
        refine lv_iload hx hb dX5_call_114 (lv_at hl 0 rfl) ?_
        refine lv_iload hx hb dX5_call_116 (lv_at hl 6 rfl) ?_
        refine lv_iload hx hb dX5_call_118 (lv_at hl 7 rfl) ?_
        refine lv_iconst (v := 1) hx hb dX5_call_120 kk_ic_1 ?_
        refine lv_iadd hx hb dX5_call_121 ?_
        obtain ⟨hPc, hDc, hFc⟩ := kk_cutout (wc := [(h0, kO5 h1 n0_size h2 (n0_ran + 1)), (h1, kAi cint 50 f1), (h2, kAi cint 24 (upd f2 (n0_ran : Int32).toNatClampNeg 10))]) hP hD hS hA [0, 1, 2] (by decide) rfl
        have hKc := kk_Ks (tq := [(cint, .int)]) hK [0] rfl
        refine va_calli (va_runV (As := [.int p0, .int 10, .int p3, .int (p4 + 1)]) (rest := []) ⟨hx, hb, hml, hown, hts⟩ (g_X5_runLine_5 l dC dI h0 h1 h2 cint H.size p0 p3 (p4 + 1) (by show 0 ≤ ((p4 + 1) : Int32).toInt ∧ ((p4 + 1) : Int32).toInt ≤ 9; first | with_reducible assumption | (constructor <;> (have := kk_add2 (x := n0_ran) (y := 1) (a := n0_ran.toInt) (b := 1) rfl rfl (by omega) (by omega); have := kk_add2 (x := p4) (y := 1) (a := p4.toInt) (b := 1) rfl rfl (by omega) (by omega); omega))) n0_size (n0_ran + 1) f1 (upd f2 (n0_ran : Int32).toNatClampNeg 10) tn0_size (by show 0 ≤ ((n0_ran + 1) : Int32).toInt ∧ ((n0_ran + 1) : Int32).toInt ≤ 997; first | with_reducible assumption | (constructor <;> (have := kk_add2 (x := n0_ran) (y := 1) (a := n0_ran.toInt) (b := 1) rfl rfl (by omega) (by omega); have := kk_add2 (x := p4) (y := 1) (a := p4.toInt) (b := 1) rfl rfl (by omega) (by omega); omega))) bf1 (by show (0 ≤ (p0 : Int32).toInt ∧ (p0 : Int32).toInt < (n0_size : Int32).toInt); first | with_reducible assumption | (have := kk_add2 (x := n0_ran) (y := 1) (a := n0_ran.toInt) (b := 1) rfl rfl (by omega) (by omega); have := kk_add2 (x := p4) (y := 1) (a := p4.toInt) (b := 1) rfl rfl (by omega) (by omega); omega)) aOWN_BODIES aABOVE) (cwV 4 hts gX5_call_X5_runLine rfl rfl rfl ⟨rfl, kh_X5_runLine⟩ ⟨Nat.le_of_ble_eq_true rfl, Nat.le_of_ble_eq_true rfl⟩) ⟨fun a U g mk q => by obtain ⟨q0, q1, qP, qK, qD, qx0, qx1, qx2, qx3⟩ := q; exact ⟨q0, q1, qP, va_K.moved (u := U) (U := U.calling g mk a) (Vm.Alike.refl U.vm) qK, qD, va_Z.moved (u := U) (U := U.calling g mk a) (Vm.Alike.refl U.vm) qx0, va_T.moved (u := U) (U := U.calling g mk a) (Vm.Alike.refl U.vm) qx1, va_Z.moved (u := U) (U := U.calling g mk a) (Vm.Alike.refl U.vm) qx2, va_T.moved (u := U) (U := U.calling g mk a) (Vm.Alike.refl U.vm) qx3⟩, va_recv hKc hPc (ci := 5) (q0 := 0) rfl rfl, fun U hU hW => ⟨rfl, by rw [hU], by rw [hU]; exact hPc, va_K.moved hW.alike hKc, hDc.weaken (fun _ _ _ _ => trivial), by rw [hU]; exact ((hZOWN_BODIES.kept (fun a h1 h2 => hS.2.1 a h1 h2)).narrow hFc).moved hW.alike, by rw [hU]; exact ((hTOWN_BODIES.kept (fun a h1 h2 => hS.2.1 a h1 h2)).narrow hFc).moved hW.alike, by rw [hU]; exact ((hZABOVE.kept (fun a h1 h2 => hS.2.1 a h1 h2)).narrow hFc).moved hW.alike, by rw [hU]; exact ((hTABOVE.kept (fun a h1 h2 => hS.2.1 a h1 h2)).narrow hFc).moved hW.alike⟩⟩ rfl rfl hl.1 rfl (lv_room (Nat.le_of_ble_eq_true rfl)) dX5_call_122 ⟨Nat.le_of_ble_eq_true rfl, Nat.le_of_ble_eq_true rfl⟩) hS (fun q _ h => hFc q h) hFc (fun r_156 u t H1 locs ht hvm hw hB hz1 hk1 hS => ?_)
        obtain ⟨y_157, f_158, by_157, v_158_0, hn_158_0, hP1, hK1, hD1⟩ := hB
        have v_158_0 : y_157.toInt ≤ (n0_ran + 1).toInt + 3 := v_158_0
        have hn_158_0 : kk_P (upd f2 (n0_ran : Int32).toNatClampNeg 10) f_158 (n0_ran + 1).toInt y_157.toInt ((kt_breaks (f1 (p0 : Int32).toNatClampNeg) 0).tail) := hn_158_0
        rw [ht] at hP1
        have hK1 := va_K.moved hvm.symm hK1
        obtain ⟨hP, hD⟩ := va_join (wr := []) (w1 := [(h0, kO5 h1 n0_size h2 y_157), (h1, kAi cint 50 f1), (h2, kAi cint 24 f_158)]) hP hD [0, 1, 2] [] rfl rfl (by decide) (by decide) hk1 hFc hP1 hD1
        generalize H1 = H at hP hS ⊢
        have hP : va_P (dC, dI) vwCl [(h0, kO5 h1 n0_size h2 y_157), (h1, kAi cint 50 f1), (h2, kAi cint 24 f_158)] H := hP
        have hD : va_D A [(h0, kO5 h1 n0_size h2 y_157), (h1, kAi cint 50 f1), (h2, kAi cint 24 f_158)] := hD
        rcases hw with ⟨t_156_0, _⟩
        · skip
          have t_156_0 : r_156 = kk_breaks (f1 (p0 : Int32).toNatClampNeg) 0 p0 p3 := t_156_0
          obtain rfl : r_156 = (kk_breaks (f1 (p0 : Int32).toNatClampNeg) 0 p0 p3) := t_156_0
          refine lv_goto (tgt := 143) hx hb dX5_call_125 (by decide) ?_
          obtain ⟨hP9, hD9⟩ := kk_leafout (wc := [(h0, kO5 h1 n0_size h2 y_157), (h1, kAi cint 50 f1), (h2, kAi cint 24 f_158)]) hP hD [0, 1, 2] (by decide) rfl
          have hK9 := kk_Ks (tq := []) hK [] rfl
          exact W.iret (v := (kk_breaks (f1 (p0 : Int32).toNatClampNeg) 0 p0 p3)) hx hb hr (fun t ht hW => ⟨⟨(kk_breaks (f1 (p0 : Int32).toNatClampNeg) 0 p0 p3), (), rfl, ⟨(by first | rfl | (unfold kk_breaks; (repeat' split) <;> first | rfl | (exfalso; have : (0 : Int32).toInt = 0 := rfl; have : (1 : Int32).toInt = 1 := rfl; have : (2 : Int32).toInt = 2 := rfl; have : (3 : Int32).toInt = 3 := rfl; have : (4 : Int32).toInt = 4 := rfl; have : (5 : Int32).toInt = 5 := rfl; have : (6 : Int32).toInt = 6 := rfl; have : (7 : Int32).toInt = 7 := rfl; have := kk_add2 (x := n0_ran) (y := 1) (a := n0_ran.toInt) (b := 1) rfl rfl (by omega) (by omega); have := kk_add2 (x := p4) (y := 1) (a := p4.toInt) (b := 1) rfl rfl (by omega) (by omega); omega))), trivial⟩, y_157, f_158, (by show 1 ≤ (y_157 : Int32).toInt ∧ (y_157 : Int32).toInt ≤ 1000; first | with_reducible assumption | (constructor <;> (have := kk_add2 (x := n0_ran) (y := 1) (a := n0_ran.toInt) (b := 1) rfl rfl (by omega) (by omega); have := kk_add2 (x := p4) (y := 1) (a := p4.toInt) (b := 1) rfl rfl (by omega) (by omega); omega))), (by show (y_157 : Int32).toInt ≤ (n0_ran : Int32).toInt + 11; first | with_reducible assumption | (have := kk_add2 (x := n0_ran) (y := 1) (a := n0_ran.toInt) (b := 1) rfl rfl (by omega) (by omega); have := kk_add2 (x := p4) (y := 1) (a := p4.toInt) (b := 1) rfl rfl (by omega) (by omega); omega)), (by first | exact kk_P_eq (kk_P_trans hp_155 hn_158_0) rfl | (unfold kt_breaks; (repeat' split) <;> first | exact kk_P_eq (kk_P_trans hp_155 hn_158_0) rfl | (exfalso; have : (0 : Int32).toInt = 0 := rfl; have : (1 : Int32).toInt = 1 := rfl; have : (2 : Int32).toInt = 2 := rfl; have : (3 : Int32).toInt = 3 := rfl; have : (4 : Int32).toInt = 4 := rfl; have : (5 : Int32).toInt = 5 := rfl; have : (6 : Int32).toInt = 6 := rfl; have : (7 : Int32).toInt = 7 := rfl; have := kk_add2 (x := n0_ran) (y := 1) (a := n0_ran.toInt) (b := 1) rfl rfl (by omega) (by omega); have := kk_add2 (x := p4) (y := 1) (a := p4.toInt) (b := 1) rfl rfl (by omega) (by omega); omega))), by rw [ht]; exact hP9, va_K.moved hW.alike hK9, hD9⟩, hS.F ht⟩) hS.2.2 dX5_call_143
    · have t_146 : 40 < p4.toInt := kk_nle c_146
      exfalso; omega
