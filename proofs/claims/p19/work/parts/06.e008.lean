set_option maxHeartbeats 4000000 in
set_option maxRecDepth 100000 in
theorem g_X5_call_5 (l : Launch) (dC : Nat → ClassId) (dI : Nat → Nat → Nat) (h0 : Nat) (h1 : Nat) (h2 : Nat) (cint : ClassId) (sz : Nat) (p0 : Int32) (p1 : Int32) (p3 : Int32) (p4 : Int32) (tp1 : (-1) ≤ p1.toInt ∧ p1.toInt ≤ 7) (n0_size : Int32) (n0_ran : Int32) (f1 : Nat → Int32) (f2 : Nat → Int32) (tn0_size : 0 ≤ n0_size.toInt ∧ n0_size.toInt ≤ 50) (tn0_ran : 0 ≤ n0_ran.toInt ∧ n0_ran.toInt ≤ 997) (bf1 : ∀ j, j < 50 → 0 ≤ (f1 j).toInt ∧ (f1 j).toInt ≤ 7) (aOWN_BODIES : Nat) (aABOVE : Nat) : Met l yX5_call wsX5_call ({ frames := 7, cells := 0, slots := 0, locals := 175 }) (va_Pc [.ref h0, .int p0, .int p1, .int 0, .int p3, .int p4] (fun U => U.heap.size = sz ∧ va_P (dC, dI) vwCl [(h0, Sum.inr (5, [Value.ref h1, Value.int n0_size, Value.ref h2, Value.int n0_ran])), (h1, Sum.inl (cint, 50, Sum.inl f1)), (h2, Sum.inl (cint, 24, Sum.inl f2))] U.heap ∧ va_K (dC, dI) vwCl [(cint, .int)] U ∧ va_D (fun _ => True) [(h0, Sum.inr (5, [Value.ref h1, Value.int n0_size, Value.ref h2, Value.int n0_ran])), (h1, Sum.inl (cint, 50, Sum.inl f1)), (h2, Sum.inl (cint, 24, Sum.inl f2))] ∧ va_Z "KinkStreet$Lines" "OWN_BODIES" "[I" (.ref aOWN_BODIES) (va_A [(h0, Sum.inr (5, [Value.ref h1, Value.int n0_size, Value.ref h2, Value.int n0_ran])), (h1, Sum.inl (cint, 50, Sum.inl f1)), (h2, Sum.inl (cint, 24, Sum.inl f2))] sz) U U.heap ∧ va_T .int aOWN_BODIES 32 tb_OWN_BODIES (va_A [(h0, Sum.inr (5, [Value.ref h1, Value.int n0_size, Value.ref h2, Value.int n0_ran])), (h1, Sum.inl (cint, 50, Sum.inl f1)), (h2, Sum.inl (cint, 24, Sum.inl f2))] sz) U U.heap ∧ va_Z "KinkStreet$Lines" "ABOVE" "[I" (.ref aABOVE) (va_A [(h0, Sum.inr (5, [Value.ref h1, Value.int n0_size, Value.ref h2, Value.int n0_ran])), (h1, Sum.inl (cint, 50, Sum.inl f1)), (h2, Sum.inl (cint, 24, Sum.inl f2))] sz) U U.heap ∧ va_T .int aABOVE 8 tb_ABOVE (va_A [(h0, Sum.inr (5, [Value.ref h1, Value.int n0_size, Value.ref h2, Value.int n0_ran])), (h1, Sum.inl (cint, 50, Sum.inl f1)), (h2, Sum.inl (cint, 24, Sum.inl f2))] sz) U U.heap)) (va_Qi (fun (r : Int32) (_ : Unit) => True) (fun (_ : Unit) t => ∃ (m0_ran : Int32) (g2 : Nat → Int32), (0 ≤ m0_ran.toInt ∧ m0_ran.toInt ≤ 1000) ∧ (m0_ran.toInt ≤ n0_ran.toInt + 3) ∧ va_P (dC, dI) vwCl [(h0, Sum.inr (5, [Value.ref h1, Value.int n0_size, Value.ref h2, Value.int m0_ran])), (h1, Sum.inl (cint, 50, Sum.inl f1)), (h2, Sum.inl (cint, 24, Sum.inl g2))] t.heap ∧ va_K (dC, dI) vwCl [] t ∧ va_D (va_A [(h0, Sum.inr (5, [Value.ref h1, Value.int n0_size, Value.ref h2, Value.int n0_ran])), (h1, Sum.inl (cint, 50, Sum.inl f1)), (h2, Sum.inl (cint, 24, Sum.inl f2))] sz) [(h0, Sum.inr (5, [Value.ref h1, Value.int n0_size, Value.ref h2, Value.int m0_ran])), (h1, Sum.inl (cint, 50, Sum.inl f1)), (h2, Sum.inl (cint, 24, Sum.inl g2))]) (va_A [(h0, Sum.inr (5, [Value.ref h1, Value.int n0_size, Value.ref h2, Value.int n0_ran])), (h1, Sum.inl (cint, 50, Sum.inl f1)), (h2, Sum.inl (cint, 24, Sum.inl f2))] sz)) 0 0 (va_A [(h0, Sum.inr (5, [Value.ref h1, Value.int n0_size, Value.ref h2, Value.int n0_ran])), (h1, Sum.inl (cint, 50, Sum.inl f1)), (h2, Sum.inl (cint, 24, Sum.inl f2))] sz) := by
  refine Met.ofW (cc := cX5_call) (maxL := 8) (ret := (some .int)) (by decide) rfl ?_
  intro p e s m args below meth c s₁ B hml hv
  obtain ⟨rfl, hsz, hP, hK, hD0, hZOWN_BODIES, hTOWN_BODIES, hZABOVE, hTABOVE⟩ := hv
  have hx := B.exec
  have hb := B.bytes
  have hr := B.returns
  have hts := atoms_spec (ws := wsX5_call) B.pre
  have hown : s.vm.findClass RX5 = some m.cls := findClass_of_methodNamed B.named
  have hlocks := B.notSynchronized
  subst hsz
  have hD := hD0.self (sz := s.heap.size)
  generalize hAe : va_A [(h0, Sum.inr (5, [Value.ref h1, Value.int n0_size, Value.ref h2, Value.int n0_ran])), (h1, Sum.inl (cint, 50, Sum.inl f1)), (h2, Sum.inl (cint, 24, Sum.inl f2))] s.heap.size = A at hD hZOWN_BODIES hTOWN_BODIES hZABOVE hTABOVE ⊢
  have hA : ∀ q : Nat, s.heap.size ≤ q → A q := fun q h => by rw [← hAe]; exact Or.inr h
  have hS : va_S A s.heap s.heap [] := va_S.rf
  have hP : va_P (dC, dI) vwCl [(h0, Sum.inr (5, [Value.ref h1, Value.int n0_size, Value.ref h2, Value.int n0_ran])), (h1, Sum.inl (cint, 50, Sum.inl f1)), (h2, Sum.inl (cint, 24, Sum.inl f2))] s.heap := hP
  have hl := lv_entry ([.ref h0, .int p0, .int p1, .int 0, .int p3, .int p4]) (n := 8) (Nat.le_of_ble_eq_true rfl)
  rw [lg_entry_eq]
  generalize (lg_sl ([.ref h0, .int p0, .int p1, .int 0, .int p3, .int p4]) ++ List.replicate (8 - (lg_sl ([.ref h0, .int p0, .int p1, .int 0, .int p3, .int p4])).length) Slot.unset).toArray = ls at hl ⊢
  have hl : lv_has ls 8 [(0, .ref h0), (1, .int p0), (2, .int p1), (3, .int 0), (4, .int p3), (5, .int p4)] := hl
  rcases (show p1 = (-1) ∨ p1 = 0 ∨ p1 = 1 ∨ p1 = 2 ∨ p1 = 3 ∨ p1 = 4 ∨ p1 = 5 ∨ p1 = 6 ∨ p1 = 7 from by simp only [← Int32.toInt_inj]; simp; omega) with e_1 | e_1 | e_1 | e_1 | e_1 | e_1 | e_1 | e_1 | e_1
  · have t_1 : p1.toInt = (-1) := by rw [e_1]; rfl
    subst e_1
    refine lv_iload_n hx hb dX5_call_0 rfl (lv_at hl 2 rfl) ?_
    refine lv_istore (lv' := [(6, .int (-1)), (0, .ref h0), (1, .int p0), (2, .int (-1)), (3, .int 0), (4, .int p3), (5, .int p4)]) hx hb dX5_call_1 hl (by decide) rfl (fun ls hl => ?_)
    refine lv_iconst (v := 0) hx hb dX5_call_3 (by decide) ?_
    refine lv_istore (lv' := [(7, .int 0), (6, .int (-1)), (0, .ref h0), (1, .int p0), (2, .int (-1)), (3, .int 0), (4, .int p3), (5, .int p4)]) hx hb dX5_call_4 hl (by decide) rfl (fun ls hl => ?_)
    refine lv_iload hx hb dX5_call_6 (lv_at hl 0 rfl) ?_
    refine lv_bipush (v := 8) hx hb dX5_call_8 (by decide) ?_
    refine lv_icmp_ge (tgt := 48) hx hb dX5_call_10 (by decide) (fun c => absurd c (by decide)) (fun _ => ?_)
    refine lv_iload hx hb dX5_call_13 (lv_at hl 1 rfl) ?_
    obtain ⟨hPc, hDc, hFc⟩ := kk_cutout (wc := []) hP hD hS hA [] (by decide) rfl
    have hKc := hK.sub (tys' := []) [] rfl
    refine va_calli (va_runS (As := [.int (-1)]) (rest := []) ⟨hx, hb, hml, hown, hts⟩ (g_X5_isKind_0 l dC dI s.heap.size (-1)) (va_cwS 1 hts gX5_call_X5_isKind rfl rfl rfl (by decide +kernel) ⟨Nat.le_of_ble_eq_true rfl, Nat.le_of_ble_eq_true rfl⟩) ⟨fun a U g mk q => by obtain ⟨q0, q1, qP, qK, qD⟩ := q; exact ⟨q0, q1, qP, va_K.moved (u := U) (U := U.calling g mk a) (Vm.Alike.refl U.vm) qK, qD⟩, fun U hU hW => ⟨rfl, by rw [hU], by rw [hU]; exact hPc, va_K.moved hW.alike hKc, hDc.weaken (fun _ _ _ _ => trivial)⟩⟩ rfl rfl hl.1 rfl (lv_room (Nat.le_of_ble_eq_true rfl)) dX5_call_15 ⟨Nat.le_of_ble_eq_true rfl, Nat.le_of_ble_eq_true rfl⟩) hS (fun q _ h => hFc q h) hFc (fun r_2 u t H1 locs ht hvm hw hB hz1 hk1 hS => ?_)
    obtain ⟨hP1, hK1, hD1⟩ := hB
    rw [ht] at hP1
    have hK1 := va_K.moved hvm.symm hK1
    obtain ⟨hP, hD⟩ := va_join (wr := [(h0, Sum.inr (5, [Value.ref h1, Value.int n0_size, Value.ref h2, Value.int n0_ran])), (h1, Sum.inl (cint, 50, Sum.inl f1)), (h2, Sum.inl (cint, 24, Sum.inl f2))]) (w1 := []) hP hD [] [0, 1, 2] rfl rfl (by decide) (by decide) hk1 hFc hP1 hD1
    generalize H1 = H at hP hS ⊢
    have hP : va_P (dC, dI) vwCl [(h0, Sum.inr (5, [Value.ref h1, Value.int n0_size, Value.ref h2, Value.int n0_ran])), (h1, Sum.inl (cint, 50, Sum.inl f1)), (h2, Sum.inl (cint, 24, Sum.inl f2))] H := hP
    have hD : va_D A [(h0, Sum.inr (5, [Value.ref h1, Value.int n0_size, Value.ref h2, Value.int n0_ran])), (h1, Sum.inl (cint, 50, Sum.inl f1)), (h2, Sum.inl (cint, 24, Sum.inl f2))] := hD
    rcases hw with ⟨rfl⟩ | ⟨t_2_0, t_2_1, rfl⟩
    · skip
      refine lv_if_eq (tgt := 48) hx hb dX5_call_18 (by decide) (fun _ => ?_) (fun c => absurd c (by decide))
      refine lv_iload hx hb dX5_call_48 (lv_at hl 1 rfl) ?_
      obtain ⟨hPc, hDc, hFc⟩ := kk_cutout (wc := []) hP hD hS hA [] (by decide) rfl
      have hKc := hK.sub (tys' := []) [] rfl
      refine va_calli (va_runS (As := [.int (-1)]) (rest := []) ⟨hx, hb, hml, hown, hts⟩ (g_X5_isKind_0 l dC dI H.size (-1)) (va_cwS 1 hts gX5_call_X5_isKind rfl rfl rfl (by decide +kernel) ⟨Nat.le_of_ble_eq_true rfl, Nat.le_of_ble_eq_true rfl⟩) ⟨fun a U g mk q => by obtain ⟨q0, q1, qP, qK, qD⟩ := q; exact ⟨q0, q1, qP, va_K.moved (u := U) (U := U.calling g mk a) (Vm.Alike.refl U.vm) qK, qD⟩, fun U hU hW => ⟨rfl, by rw [hU], by rw [hU]; exact hPc, va_K.moved hW.alike hKc, hDc.weaken (fun _ _ _ _ => trivial)⟩⟩ rfl rfl hl.1 rfl (lv_room (Nat.le_of_ble_eq_true rfl)) dX5_call_50 ⟨Nat.le_of_ble_eq_true rfl, Nat.le_of_ble_eq_true rfl⟩) hS (fun q _ h => hFc q h) hFc (fun r_3 u t H1 locs ht hvm hw hB hz1 hk1 hS => ?_)
      obtain ⟨hP1, hK1, hD1⟩ := hB
      rw [ht] at hP1
      have hK1 := va_K.moved hvm.symm hK1
      obtain ⟨hP, hD⟩ := va_join (wr := [(h0, Sum.inr (5, [Value.ref h1, Value.int n0_size, Value.ref h2, Value.int n0_ran])), (h1, Sum.inl (cint, 50, Sum.inl f1)), (h2, Sum.inl (cint, 24, Sum.inl f2))]) (w1 := []) hP hD [] [0, 1, 2] rfl rfl (by decide) (by decide) hk1 hFc hP1 hD1
      generalize H1 = H at hP hS ⊢
      have hP : va_P (dC, dI) vwCl [(h0, Sum.inr (5, [Value.ref h1, Value.int n0_size, Value.ref h2, Value.int n0_ran])), (h1, Sum.inl (cint, 50, Sum.inl f1)), (h2, Sum.inl (cint, 24, Sum.inl f2))] H := hP
      have hD : va_D A [(h0, Sum.inr (5, [Value.ref h1, Value.int n0_size, Value.ref h2, Value.int n0_ran])), (h1, Sum.inl (cint, 50, Sum.inl f1)), (h2, Sum.inl (cint, 24, Sum.inl f2))] := hD
      rcases hw with ⟨rfl⟩ | ⟨t_3_0, t_3_1, rfl⟩
      · skip
        refine lv_if_eq (tgt := 63) hx hb dX5_call_53 (by decide) (fun _ => ?_) (fun c => absurd c (by decide))
        refine lv_iconst (v := 0) hx hb dX5_call_63 (by decide) ?_
        obtain ⟨hP9, hD9⟩ := kk_leafout (wc := [(h0, Sum.inr (5, [Value.ref h1, Value.int n0_size, Value.ref h2, Value.int n0_ran])), (h1, Sum.inl (cint, 50, Sum.inl f1)), (h2, Sum.inl (cint, 24, Sum.inl f2))]) hP hD [0, 1, 2] (by decide) rfl
        have hK9 := hK.sub (tys' := []) [] rfl
        exact W.iret (v := 0) hx hb hr (fun t ht hW => ⟨⟨0, (), rfl, trivial, n0_ran, f2, (by show 0 ≤ (n0_ran : Int32).toInt ∧ (n0_ran : Int32).toInt ≤ 1000; first | decide | (constructor <;> (omega))), (by show (n0_ran : Int32).toInt ≤ (n0_ran : Int32).toInt + 3; first | decide | (omega)), by rw [ht]; exact hP9, va_K.moved hW.alike hK9, hD9⟩, hS.F ht⟩) hS.2.2 dX5_call_64
      · have t_3_0 : (0 : Int) ≤ (-1) := t_3_0; have t_3_1 : ((-1) : Int) < 8 := t_3_1; exfalso; omega
    · have t_2_0 : (0 : Int) ≤ (-1) := t_2_0; have t_2_1 : ((-1) : Int) < 8 := t_2_1; exfalso; omega
  · have t_1 : p1.toInt = 0 := by rw [e_1]; rfl
    subst e_1
    refine lv_iload_n hx hb dX5_call_0 rfl (lv_at hl 2 rfl) ?_
    refine lv_istore (lv' := [(6, .int 0), (0, .ref h0), (1, .int p0), (2, .int 0), (3, .int 0), (4, .int p3), (5, .int p4)]) hx hb dX5_call_1 hl (by decide) rfl (fun ls hl => ?_)
    refine lv_iconst (v := 0) hx hb dX5_call_3 (by decide) ?_
    refine lv_istore (lv' := [(7, .int 0), (6, .int 0), (0, .ref h0), (1, .int p0), (2, .int 0), (3, .int 0), (4, .int p3), (5, .int p4)]) hx hb dX5_call_4 hl (by decide) rfl (fun ls hl => ?_)
    refine lv_iload hx hb dX5_call_6 (lv_at hl 0 rfl) ?_
    refine lv_bipush (v := 8) hx hb dX5_call_8 (by decide) ?_
    refine lv_icmp_ge (tgt := 48) hx hb dX5_call_10 (by decide) (fun c => absurd c (by decide)) (fun _ => ?_)
    refine lv_iload hx hb dX5_call_13 (lv_at hl 1 rfl) ?_
    obtain ⟨hPc, hDc, hFc⟩ := kk_cutout (wc := []) hP hD hS hA [] (by decide) rfl
    have hKc := hK.sub (tys' := []) [] rfl
    refine va_calli (va_runS (As := [.int 0]) (rest := []) ⟨hx, hb, hml, hown, hts⟩ (g_X5_isKind_0 l dC dI s.heap.size 0) (va_cwS 1 hts gX5_call_X5_isKind rfl rfl rfl (by decide +kernel) ⟨Nat.le_of_ble_eq_true rfl, Nat.le_of_ble_eq_true rfl⟩) ⟨fun a U g mk q => by obtain ⟨q0, q1, qP, qK, qD⟩ := q; exact ⟨q0, q1, qP, va_K.moved (u := U) (U := U.calling g mk a) (Vm.Alike.refl U.vm) qK, qD⟩, fun U hU hW => ⟨rfl, by rw [hU], by rw [hU]; exact hPc, va_K.moved hW.alike hKc, hDc.weaken (fun _ _ _ _ => trivial)⟩⟩ rfl rfl hl.1 rfl (lv_room (Nat.le_of_ble_eq_true rfl)) dX5_call_15 ⟨Nat.le_of_ble_eq_true rfl, Nat.le_of_ble_eq_true rfl⟩) hS (fun q _ h => hFc q h) hFc (fun r_4 u t H1 locs ht hvm hw hB hz1 hk1 hS => ?_)
    obtain ⟨hP1, hK1, hD1⟩ := hB
    rw [ht] at hP1
    have hK1 := va_K.moved hvm.symm hK1
    obtain ⟨hP, hD⟩ := va_join (wr := [(h0, Sum.inr (5, [Value.ref h1, Value.int n0_size, Value.ref h2, Value.int n0_ran])), (h1, Sum.inl (cint, 50, Sum.inl f1)), (h2, Sum.inl (cint, 24, Sum.inl f2))]) (w1 := []) hP hD [] [0, 1, 2] rfl rfl (by decide) (by decide) hk1 hFc hP1 hD1
    generalize H1 = H at hP hS ⊢
    have hP : va_P (dC, dI) vwCl [(h0, Sum.inr (5, [Value.ref h1, Value.int n0_size, Value.ref h2, Value.int n0_ran])), (h1, Sum.inl (cint, 50, Sum.inl f1)), (h2, Sum.inl (cint, 24, Sum.inl f2))] H := hP
    have hD : va_D A [(h0, Sum.inr (5, [Value.ref h1, Value.int n0_size, Value.ref h2, Value.int n0_ran])), (h1, Sum.inl (cint, 50, Sum.inl f1)), (h2, Sum.inl (cint, 24, Sum.inl f2))] := hD
    rcases hw with ⟨rfl⟩ | ⟨t_4_0, t_4_1, rfl⟩
    · skip
      refine lv_if_eq (tgt := 48) hx hb dX5_call_18 (by decide) (fun _ => ?_) (fun c => absurd c (by decide))
      refine lv_iload hx hb dX5_call_48 (lv_at hl 1 rfl) ?_
      obtain ⟨hPc, hDc, hFc⟩ := kk_cutout (wc := []) hP hD hS hA [] (by decide) rfl
      have hKc := hK.sub (tys' := []) [] rfl
      refine va_calli (va_runS (As := [.int 0]) (rest := []) ⟨hx, hb, hml, hown, hts⟩ (g_X5_isKind_0 l dC dI H.size 0) (va_cwS 1 hts gX5_call_X5_isKind rfl rfl rfl (by decide +kernel) ⟨Nat.le_of_ble_eq_true rfl, Nat.le_of_ble_eq_true rfl⟩) ⟨fun a U g mk q => by obtain ⟨q0, q1, qP, qK, qD⟩ := q; exact ⟨q0, q1, qP, va_K.moved (u := U) (U := U.calling g mk a) (Vm.Alike.refl U.vm) qK, qD⟩, fun U hU hW => ⟨rfl, by rw [hU], by rw [hU]; exact hPc, va_K.moved hW.alike hKc, hDc.weaken (fun _ _ _ _ => trivial)⟩⟩ rfl rfl hl.1 rfl (lv_room (Nat.le_of_ble_eq_true rfl)) dX5_call_50 ⟨Nat.le_of_ble_eq_true rfl, Nat.le_of_ble_eq_true rfl⟩) hS (fun q _ h => hFc q h) hFc (fun r_5 u t H1 locs ht hvm hw hB hz1 hk1 hS => ?_)
      obtain ⟨hP1, hK1, hD1⟩ := hB
      rw [ht] at hP1
      have hK1 := va_K.moved hvm.symm hK1
      obtain ⟨hP, hD⟩ := va_join (wr := [(h0, Sum.inr (5, [Value.ref h1, Value.int n0_size, Value.ref h2, Value.int n0_ran])), (h1, Sum.inl (cint, 50, Sum.inl f1)), (h2, Sum.inl (cint, 24, Sum.inl f2))]) (w1 := []) hP hD [] [0, 1, 2] rfl rfl (by decide) (by decide) hk1 hFc hP1 hD1
      generalize H1 = H at hP hS ⊢
      have hP : va_P (dC, dI) vwCl [(h0, Sum.inr (5, [Value.ref h1, Value.int n0_size, Value.ref h2, Value.int n0_ran])), (h1, Sum.inl (cint, 50, Sum.inl f1)), (h2, Sum.inl (cint, 24, Sum.inl f2))] H := hP
      have hD : va_D A [(h0, Sum.inr (5, [Value.ref h1, Value.int n0_size, Value.ref h2, Value.int n0_ran])), (h1, Sum.inl (cint, 50, Sum.inl f1)), (h2, Sum.inl (cint, 24, Sum.inl f2))] := hD
      rcases hw with ⟨rfl⟩ | ⟨t_5_0, t_5_1, rfl⟩
      · skip
        refine lv_if_eq (tgt := 63) hx hb dX5_call_53 (by decide) (fun _ => ?_) (fun c => absurd c (by decide))
        refine lv_iconst (v := 0) hx hb dX5_call_63 (by decide) ?_
        obtain ⟨hP9, hD9⟩ := kk_leafout (wc := [(h0, Sum.inr (5, [Value.ref h1, Value.int n0_size, Value.ref h2, Value.int n0_ran])), (h1, Sum.inl (cint, 50, Sum.inl f1)), (h2, Sum.inl (cint, 24, Sum.inl f2))]) hP hD [0, 1, 2] (by decide) rfl
        have hK9 := hK.sub (tys' := []) [] rfl
        exact W.iret (v := 0) hx hb hr (fun t ht hW => ⟨⟨0, (), rfl, trivial, n0_ran, f2, (by show 0 ≤ (n0_ran : Int32).toInt ∧ (n0_ran : Int32).toInt ≤ 1000; first | decide | (constructor <;> (omega))), (by show (n0_ran : Int32).toInt ≤ (n0_ran : Int32).toInt + 3; first | decide | (omega)), by rw [ht]; exact hP9, va_K.moved hW.alike hK9, hD9⟩, hS.F ht⟩) hS.2.2 dX5_call_64
      · skip
        have t_5_0 : (0 : Int) ≤ 0 := t_5_0
        have t_5_1 : (0 : Int) < 8 := t_5_1
        refine lv_if_eq (tgt := 63) hx hb dX5_call_53 (by decide) (fun c => absurd c (by decide)) (fun _ => ?_)
        refine lv_iload hx hb dX5_call_56 (lv_at hl 7 rfl) ?_
        refine lv_bipush (v := 40) hx hb dX5_call_58 (by decide) ?_
        refine lv_icmp_le (tgt := 65) hx hb dX5_call_60 (by decide) (fun c_6 => ?_) (fun c_6 => ?_)
        · have t_6 : p4.toInt ≤ 40 := kk_le c_6
          refine va_gets hx hb hZOWN_BODIES hS hown (hts (.fieldLink RX5 43 "KinkStreet$Lines" "OWN_BODIES" "[I") (List.mem_of_getElem? (i := 1) rfl)) (fun _ h9 => h9) dX5_call_65 ?_
          refine lv_iload hx hb dX5_call_68 (lv_at hl 1 rfl) ?_
          refine lv_iconst (v := 4) hx hb dX5_call_70 (by decide) ?_
          refine lv_imul hx hb dX5_call_71 ?_
          refine lv_topi (fun y_7 e_7 => ?_)
          obtain rfl : y_7 = 0 := e_7.trans (by decide)
          refine lv_iload_n hx hb dX5_call_72 rfl (lv_at hl 5 rfl) ?_
          refine lv_iadd hx hb dX5_call_73 ?_
          refine lv_topi (fun y_8 e_8 => ?_)
          obtain rfl : y_8 = 0 := e_8.trans (by decide)
          refine va_ti (v := .int 1) hx hb hTOWN_BODIES hS (by unfold vp_in; decide) rfl dX5_call_74 ?_
          refine lv_istore (lv' := [(7, .int 1), (6, .int 0), (0, .ref h0), (1, .int p0), (2, .int 0), (3, .int 0), (4, .int p3), (5, .int p4)]) hx hb dX5_call_75 hl (by decide) rfl (fun ls hl => ?_)
          refine lv_aload_n hx hb dX5_call_77 rfl (lv_at hl 2 rfl) ?_
          refine va_get (D := (dC, dI)) (ci := 5) (v := .int n0_ran) (C := RX5) (T := TX5) (N := 4) hx hb hts (fun _ h => List.mem_cons_of_mem _ (List.mem_append_right _ h)) hown hK hP 0 rfl rfl 3 (by decide) (hts (.fieldLink RX5 36 "KinkStreet$Lines" "ran" "I") (List.mem_of_getElem? (i := 3) rfl)) (fun _ h9 => h9) rfl dX5_call_78 ?_
          refine lv_bipush (v := 24) hx hb dX5_call_81 (by decide) ?_
          refine kk_cut (σ := (Nat → Int32)) (pc' := 97) (fun x H locs ls => va_P (dC, dI) vwCl [(h0, Sum.inr (5, [Value.ref h1, Value.int n0_size, Value.ref h2, Value.int n0_ran])), (h1, Sum.inl (cint, 50, Sum.inl f1)), (h2, Sum.inl (cint, 24, Sum.inl x))] H ∧ va_D A [(h0, Sum.inr (5, [Value.ref h1, Value.int n0_size, Value.ref h2, Value.int n0_ran])), (h1, Sum.inl (cint, 50, Sum.inl f1)), (h2, Sum.inl (cint, 24, Sum.inl x))] ∧ va_S A s.heap H locs ∧ lv_has ls 8 [(7, .int 1), (6, .int 0), (0, .ref h0), (1, .int p0), (2, .int 0), (3, .int 0), (4, .int p3), (5, .int p4)]) ?_ (fun hcut_11 => ?_)
          · rintro f_11_0 H locs ls ⟨hP, hD, hS, hl⟩
            have hl : lv_has ls 8 [(7, .int 1), (6, .int 0), (0, .ref h0), (1, .int p0), (2, .int 0), (3, .int 0), (4, .int p3), (5, .int p4)] := hl
            have hP : va_P (dC, dI) vwCl [(h0, Sum.inr (5, [Value.ref h1, Value.int n0_size, Value.ref h2, Value.int n0_ran])), (h1, Sum.inl (cint, 50, Sum.inl f1)), (h2, Sum.inl (cint, 24, Sum.inl f_11_0))] H := hP
            have hD : va_D A [(h0, Sum.inr (5, [Value.ref h1, Value.int n0_size, Value.ref h2, Value.int n0_ran])), (h1, Sum.inl (cint, 50, Sum.inl f1)), (h2, Sum.inl (cint, 24, Sum.inl f_11_0))] := hD
            refine lv_aload_n hx hb dX5_call_97 rfl (lv_at hl 2 rfl) ?_
            refine lv_dup hx hb dX5_call_98 rfl ?_
            refine va_get (D := (dC, dI)) (ci := 5) (v := .int n0_ran) (C := RX5) (T := TX5) (N := 4) hx hb hts (fun _ h => List.mem_cons_of_mem _ (List.mem_append_right _ h)) hown hK hP 0 rfl rfl 3 (by decide) (hts (.fieldLink RX5 36 "KinkStreet$Lines" "ran" "I") (List.mem_of_getElem? (i := 3) rfl)) (fun _ h9 => h9) rfl dX5_call_99 ?_
            refine lv_iconst (v := 1) hx hb dX5_call_102 (by decide) ?_
            refine lv_iadd hx hb dX5_call_103 ?_
            refine va_put (D := (dC, dI)) (ci := 5) (v := .int (n0_ran + 1)) (ty := .int) (C := RX5) (T := TX5) (N := 4) hx hb hts (fun _ h => List.mem_cons_of_mem _ (List.mem_append_right _ h)) tyX5 tyX5_ok nmX5 hown hK hP hD hS 0 rfl rfl 3 (by decide) (hts (.fieldLink RX5 36 "KinkStreet$Lines" "ran" "I") (List.mem_of_getElem? (i := 3) rfl)) (fun _ h9 => h9) rfl (by decide +kernel) rfl rfl (Nat.le_of_ble_eq_true rfl) dX5_call_104 (fun H locs hP hD hS => ?_)
            have hP : va_P (dC, dI) vwCl [(h0, Sum.inr (5, [Value.ref h1, Value.int n0_size, Value.ref h2, Value.int (n0_ran + 1)])), (h1, Sum.inl (cint, 50, Sum.inl f1)), (h2, Sum.inl (cint, 24, Sum.inl f_11_0))] H := hP
            have hD : va_D A [(h0, Sum.inr (5, [Value.ref h1, Value.int n0_size, Value.ref h2, Value.int (n0_ran + 1)])), (h1, Sum.inl (cint, 50, Sum.inl f1)), (h2, Sum.inl (cint, 24, Sum.inl f_11_0))] := hD
            refine lv_iload hx hb dX5_call_107 (lv_at hl 1 rfl) ?_
            refine lv_if_ne (tgt := 128) hx hb dX5_call_109 (by decide) (fun c => absurd c (by decide)) (fun _ => ?_)
            refine lv_aload_n hx hb dX5_call_112 rfl (lv_at hl 2 rfl) ?_
            refine lv_iload_n hx hb dX5_call_113 rfl (lv_at hl 3 rfl) ?_
            refine lv_iload hx hb dX5_call_114 (lv_at hl 0 rfl) ?_
            refine lv_iload hx hb dX5_call_116 (lv_at hl 6 rfl) ?_
            refine lv_iload hx hb dX5_call_118 (lv_at hl 7 rfl) ?_
            refine lv_iconst (v := 1) hx hb dX5_call_120 (by decide) ?_
            refine lv_iadd hx hb dX5_call_121 ?_
            obtain ⟨hPc, hDc, hFc⟩ := kk_cutout (wc := [(h0, Sum.inr (5, [Value.ref h1, Value.int n0_size, Value.ref h2, Value.int (n0_ran + 1)])), (h1, Sum.inl (cint, 50, Sum.inl f1))]) hP hD hS hA [0, 1] (by decide) rfl
            have hKc := hK.sub (tys' := [(cint, .int)]) [0] rfl
            refine va_calli (va_runV (As := [.int p0, .int 1, .int p3, .int (p4 + 1)]) (rest := []) ⟨hx, hb, hml, hown, hts⟩ (g_X5_runLine_0 l dC dI h0 h1 h2 cint H.size p0 p3 (p4 + 1) n0_size (n0_ran + 1) f1 tn0_size (by show 0 ≤ ((n0_ran + 1) : Int32).toInt ∧ ((n0_ran + 1) : Int32).toInt ≤ 1000; first | decide | (constructor <;> (have := kk_rng p4; have := kk_add2 (x := n0_ran) (y := 1) (a := n0_ran.toInt) (b := 1) rfl rfl (by omega) (by omega); have := kk_rng p4; have := kk_add2 (x := p4) (y := 1) (a := p4.toInt) (b := 1) rfl rfl (by omega) (by omega); omega))) bf1) (cwV 4 hts gX5_call_X5_runLine rfl rfl rfl (by decide +kernel) ⟨Nat.le_of_ble_eq_true rfl, Nat.le_of_ble_eq_true rfl⟩) ⟨fun a U g mk q => by obtain ⟨q0, q1, qP, qK, qD⟩ := q; exact ⟨q0, q1, qP, va_K.moved (u := U) (U := U.calling g mk a) (Vm.Alike.refl U.vm) qK, qD⟩, va_recv hKc hPc (ci := 5) (q0 := 0) rfl rfl, fun U hU hW => ⟨rfl, by rw [hU], by rw [hU]; exact hPc, va_K.moved hW.alike hKc, hDc.weaken (fun _ _ _ _ => trivial)⟩⟩ rfl rfl hl.1 rfl (lv_room (Nat.le_of_ble_eq_true rfl)) dX5_call_122 ⟨Nat.le_of_ble_eq_true rfl, Nat.le_of_ble_eq_true rfl⟩) hS (fun q _ h => hFc q h) hFc (fun r_12 u t H1 locs ht hvm hw hB hz1 hk1 hS => ?_)
            obtain ⟨hP1, hK1, hD1⟩ := hB
            rw [ht] at hP1
            have hK1 := va_K.moved hvm.symm hK1
            obtain ⟨hP, hD⟩ := va_join (wr := [(h2, Sum.inl (cint, 24, Sum.inl f_11_0))]) (w1 := [(h0, Sum.inr (5, [Value.ref h1, Value.int n0_size, Value.ref h2, Value.int (n0_ran + 1)])), (h1, Sum.inl (cint, 50, Sum.inl f1))]) hP hD [0, 1] [2] rfl rfl (by decide) (by decide) hk1 hFc hP1 hD1
            generalize H1 = H at hP hS ⊢
            have hP : va_P (dC, dI) vwCl [(h2, Sum.inl (cint, 24, Sum.inl f_11_0)), (h0, Sum.inr (5, [Value.ref h1, Value.int n0_size, Value.ref h2, Value.int (n0_ran + 1)])), (h1, Sum.inl (cint, 50, Sum.inl f1))] H := hP
            have hD : va_D A [(h2, Sum.inl (cint, 24, Sum.inl f_11_0)), (h0, Sum.inr (5, [Value.ref h1, Value.int n0_size, Value.ref h2, Value.int (n0_ran + 1)])), (h1, Sum.inl (cint, 50, Sum.inl f1))] := hD
            obtain rfl := hw
            refine lv_goto (tgt := 143) hx hb dX5_call_125 (by decide) ?_
            obtain ⟨hP9, hD9⟩ := kk_leafout (wc := [(h0, Sum.inr (5, [Value.ref h1, Value.int n0_size, Value.ref h2, Value.int (n0_ran + 1)])), (h1, Sum.inl (cint, 50, Sum.inl f1)), (h2, Sum.inl (cint, 24, Sum.inl f_11_0))]) hP hD [1, 2, 0] (by decide) rfl
            have hK9 := hK.sub (tys' := []) [] rfl
            exact W.iret (v := (p3 + p0)) hx hb hr (fun t ht hW => ⟨⟨(p3 + p0), (), rfl, trivial, (n0_ran + 1), f_11_0, (by show 0 ≤ ((n0_ran + 1) : Int32).toInt ∧ ((n0_ran + 1) : Int32).toInt ≤ 1000; first | decide | (constructor <;> (have := kk_rng p4; have := kk_add2 (x := n0_ran) (y := 1) (a := n0_ran.toInt) (b := 1) rfl rfl (by omega) (by omega); have := kk_rng p4; have := kk_add2 (x := p4) (y := 1) (a := p4.toInt) (b := 1) rfl rfl (by omega) (by omega); omega))), (by show ((n0_ran + 1) : Int32).toInt ≤ (n0_ran : Int32).toInt + 3; first | decide | (have := kk_rng p4; have := kk_add2 (x := n0_ran) (y := 1) (a := n0_ran.toInt) (b := 1) rfl rfl (by omega) (by omega); have := kk_rng p4; have := kk_add2 (x := p4) (y := 1) (a := p4.toInt) (b := 1) rfl rfl (by omega) (by omega); omega)), by rw [ht]; exact hP9, va_K.moved hW.alike hK9, hD9⟩, hS.F ht⟩) hS.2.2 dX5_call_143
          · skip
            refine lv_icmp_ge (tgt := 97) hx hb dX5_call_83 (by decide) (fun c_13 => ?_) (fun c_13 => ?_)
            · have t_13 : 24 ≤ n0_ran.toInt := kk_le c_13
              exact hcut_11 (f2) _ _ _ ⟨hP, hD, hS, lv_sub hl [0, 1, 2, 3, 4, 5, 6, 7] rfl⟩
            · have t_13 : n0_ran.toInt < 24 := kk_nle c_13
              refine lv_aload_n hx hb dX5_call_86 rfl (lv_at hl 2 rfl) ?_
              refine va_get (D := (dC, dI)) (ci := 5) (v := .ref h2) (C := RX5) (T := TX5) (N := 4) hx hb hts (fun _ h => List.mem_cons_of_mem _ (List.mem_append_right _ h)) hown hK hP 0 rfl rfl 2 (by decide) (hts (.fieldLink RX5 15 "KinkStreet$Lines" "trace" "[I") (List.mem_of_getElem? (i := 4) rfl)) (fun _ h9 => h9) rfl dX5_call_87 ?_
              refine lv_aload_n hx hb dX5_call_90 rfl (lv_at hl 2 rfl) ?_
              refine va_get (D := (dC, dI)) (ci := 5) (v := .int n0_ran) (C := RX5) (T := TX5) (N := 4) hx hb hts (fun _ h => List.mem_cons_of_mem _ (List.mem_append_right _ h)) hown hK hP 0 rfl rfl 3 (by decide) (hts (.fieldLink RX5 36 "KinkStreet$Lines" "ran" "I") (List.mem_of_getElem? (i := 3) rfl)) (fun _ h9 => h9) rfl dX5_call_91 ?_
              refine lv_iload hx hb dX5_call_94 (lv_at hl 0 rfl) ?_
              refine va_iast hx hb hK hP hD hS 2 0 rfl rfl (vp_in_iff.mpr ⟨by have := kk_rng p4; omega, by have := kk_rng p4; omega⟩) dX5_call_96 (fun H locs hP hD hS => ?_)
              generalize upd f2 (n0_ran : Int32).toNatClampNeg 1 = f_14 at hP hD
              have hP : va_P (dC, dI) vwCl [(h0, Sum.inr (5, [Value.ref h1, Value.int n0_size, Value.ref h2, Value.int n0_ran])), (h1, Sum.inl (cint, 50, Sum.inl f1)), (h2, Sum.inl (cint, 24, Sum.inl f_14))] H := hP
              have hD : va_D A [(h0, Sum.inr (5, [Value.ref h1, Value.int n0_size, Value.ref h2, Value.int n0_ran])), (h1, Sum.inl (cint, 50, Sum.inl f1)), (h2, Sum.inl (cint, 24, Sum.inl f_14))] := hD
              exact hcut_11 (f_14) _ _ _ ⟨hP, hD, hS, lv_sub hl [0, 1, 2, 3, 4, 5, 6, 7] rfl⟩
        · have t_6 : 40 < p4.toInt := kk_nle c_6
          refine lv_iconst (v := 0) hx hb dX5_call_63 (by decide) ?_
          obtain ⟨hP9, hD9⟩ := kk_leafout (wc := [(h0, Sum.inr (5, [Value.ref h1, Value.int n0_size, Value.ref h2, Value.int n0_ran])), (h1, Sum.inl (cint, 50, Sum.inl f1)), (h2, Sum.inl (cint, 24, Sum.inl f2))]) hP hD [0, 1, 2] (by decide) rfl
          have hK9 := hK.sub (tys' := []) [] rfl
          exact W.iret (v := 0) hx hb hr (fun t ht hW => ⟨⟨0, (), rfl, trivial, n0_ran, f2, (by show 0 ≤ (n0_ran : Int32).toInt ∧ (n0_ran : Int32).toInt ≤ 1000; first | decide | (constructor <;> (have := kk_rng p4; omega))), (by show (n0_ran : Int32).toInt ≤ (n0_ran : Int32).toInt + 3; first | decide | (have := kk_rng p4; omega)), by rw [ht]; exact hP9, va_K.moved hW.alike hK9, hD9⟩, hS.F ht⟩) hS.2.2 dX5_call_64
    · skip
      have t_4_0 : (0 : Int) ≤ 0 := t_4_0
      have t_4_1 : (0 : Int) < 8 := t_4_1
      refine lv_if_eq (tgt := 48) hx hb dX5_call_18 (by decide) (fun c => absurd c (by decide)) (fun _ => ?_)
      refine va_gets hx hb hZOWN_BODIES hS hown (hts (.fieldLink RX5 43 "KinkStreet$Lines" "OWN_BODIES" "[I") (List.mem_of_getElem? (i := 1) rfl)) (fun _ h9 => h9) dX5_call_21 ?_
      refine lv_iload hx hb dX5_call_24 (lv_at hl 1 rfl) ?_
      refine lv_iconst (v := 4) hx hb dX5_call_26 (by decide) ?_
      refine lv_imul hx hb dX5_call_27 ?_
      refine lv_topi (fun y_15 e_15 => ?_)
      obtain rfl : y_15 = 0 := e_15.trans (by decide)
      refine lv_iload_n hx hb dX5_call_28 rfl (lv_at hl 5 rfl) ?_
      refine lv_iadd hx hb dX5_call_29 ?_
      refine lv_topi (fun y_16 e_16 => ?_)
      obtain rfl : y_16 = 0 := e_16.trans (by decide)
      refine va_ti (v := .int 1) hx hb hTOWN_BODIES hS (by unfold vp_in; decide) rfl dX5_call_30 ?_
      refine lv_if_ne (tgt := 48) hx hb dX5_call_31 (by decide) (fun _ => ?_) (fun c => absurd c (by decide))
      refine lv_iload hx hb dX5_call_48 (lv_at hl 1 rfl) ?_
      obtain ⟨hPc, hDc, hFc⟩ := kk_cutout (wc := []) hP hD hS hA [] (by decide) rfl
      have hKc := hK.sub (tys' := []) [] rfl
      refine va_calli (va_runS (As := [.int 0]) (rest := []) ⟨hx, hb, hml, hown, hts⟩ (g_X5_isKind_0 l dC dI H.size 0) (va_cwS 1 hts gX5_call_X5_isKind rfl rfl rfl (by decide +kernel) ⟨Nat.le_of_ble_eq_true rfl, Nat.le_of_ble_eq_true rfl⟩) ⟨fun a U g mk q => by obtain ⟨q0, q1, qP, qK, qD⟩ := q; exact ⟨q0, q1, qP, va_K.moved (u := U) (U := U.calling g mk a) (Vm.Alike.refl U.vm) qK, qD⟩, fun U hU hW => ⟨rfl, by rw [hU], by rw [hU]; exact hPc, va_K.moved hW.alike hKc, hDc.weaken (fun _ _ _ _ => trivial)⟩⟩ rfl rfl hl.1 rfl (lv_room (Nat.le_of_ble_eq_true rfl)) dX5_call_50 ⟨Nat.le_of_ble_eq_true rfl, Nat.le_of_ble_eq_true rfl⟩) hS (fun q _ h => hFc q h) hFc (fun r_17 u t H1 locs ht hvm hw hB hz1 hk1 hS => ?_)
      obtain ⟨hP1, hK1, hD1⟩ := hB
      rw [ht] at hP1
      have hK1 := va_K.moved hvm.symm hK1
      obtain ⟨hP, hD⟩ := va_join (wr := [(h0, Sum.inr (5, [Value.ref h1, Value.int n0_size, Value.ref h2, Value.int n0_ran])), (h1, Sum.inl (cint, 50, Sum.inl f1)), (h2, Sum.inl (cint, 24, Sum.inl f2))]) (w1 := []) hP hD [] [0, 1, 2] rfl rfl (by decide) (by decide) hk1 hFc hP1 hD1
      generalize H1 = H at hP hS ⊢
      have hP : va_P (dC, dI) vwCl [(h0, Sum.inr (5, [Value.ref h1, Value.int n0_size, Value.ref h2, Value.int n0_ran])), (h1, Sum.inl (cint, 50, Sum.inl f1)), (h2, Sum.inl (cint, 24, Sum.inl f2))] H := hP
      have hD : va_D A [(h0, Sum.inr (5, [Value.ref h1, Value.int n0_size, Value.ref h2, Value.int n0_ran])), (h1, Sum.inl (cint, 50, Sum.inl f1)), (h2, Sum.inl (cint, 24, Sum.inl f2))] := hD
      rcases hw with ⟨rfl⟩ | ⟨t_17_0, t_17_1, rfl⟩
      · skip
        refine lv_if_eq (tgt := 63) hx hb dX5_call_53 (by decide) (fun _ => ?_) (fun c => absurd c (by decide))
        refine lv_iconst (v := 0) hx hb dX5_call_63 (by decide) ?_
        obtain ⟨hP9, hD9⟩ := kk_leafout (wc := [(h0, Sum.inr (5, [Value.ref h1, Value.int n0_size, Value.ref h2, Value.int n0_ran])), (h1, Sum.inl (cint, 50, Sum.inl f1)), (h2, Sum.inl (cint, 24, Sum.inl f2))]) hP hD [0, 1, 2] (by decide) rfl
        have hK9 := hK.sub (tys' := []) [] rfl
        exact W.iret (v := 0) hx hb hr (fun t ht hW => ⟨⟨0, (), rfl, trivial, n0_ran, f2, (by show 0 ≤ (n0_ran : Int32).toInt ∧ (n0_ran : Int32).toInt ≤ 1000; first | decide | (constructor <;> (omega))), (by show (n0_ran : Int32).toInt ≤ (n0_ran : Int32).toInt + 3; first | decide | (omega)), by rw [ht]; exact hP9, va_K.moved hW.alike hK9, hD9⟩, hS.F ht⟩) hS.2.2 dX5_call_64
      · skip
        have t_17_0 : (0 : Int) ≤ 0 := t_17_0
        have t_17_1 : (0 : Int) < 8 := t_17_1
        refine lv_if_eq (tgt := 63) hx hb dX5_call_53 (by decide) (fun c => absurd c (by decide)) (fun _ => ?_)
        refine lv_iload hx hb dX5_call_56 (lv_at hl 7 rfl) ?_
        refine lv_bipush (v := 40) hx hb dX5_call_58 (by decide) ?_
        refine lv_icmp_le (tgt := 65) hx hb dX5_call_60 (by decide) (fun c_18 => ?_) (fun c_18 => ?_)
        · have t_18 : p4.toInt ≤ 40 := kk_le c_18
          refine va_gets hx hb hZOWN_BODIES hS hown (hts (.fieldLink RX5 43 "KinkStreet$Lines" "OWN_BODIES" "[I") (List.mem_of_getElem? (i := 1) rfl)) (fun _ h9 => h9) dX5_call_65 ?_
          refine lv_iload hx hb dX5_call_68 (lv_at hl 1 rfl) ?_
          refine lv_iconst (v := 4) hx hb dX5_call_70 (by decide) ?_
          refine lv_imul hx hb dX5_call_71 ?_
          refine lv_topi (fun y_19 e_19 => ?_)
          obtain rfl : y_19 = 0 := e_19.trans (by decide)
          refine lv_iload_n hx hb dX5_call_72 rfl (lv_at hl 5 rfl) ?_
          refine lv_iadd hx hb dX5_call_73 ?_
          refine lv_topi (fun y_20 e_20 => ?_)
          obtain rfl : y_20 = 0 := e_20.trans (by decide)
          refine va_ti (v := .int 1) hx hb hTOWN_BODIES hS (by unfold vp_in; decide) rfl dX5_call_74 ?_
          refine lv_istore (lv' := [(7, .int 1), (6, .int 0), (0, .ref h0), (1, .int p0), (2, .int 0), (3, .int 0), (4, .int p3), (5, .int p4)]) hx hb dX5_call_75 hl (by decide) rfl (fun ls hl => ?_)
          refine lv_aload_n hx hb dX5_call_77 rfl (lv_at hl 2 rfl) ?_
          refine va_get (D := (dC, dI)) (ci := 5) (v := .int n0_ran) (C := RX5) (T := TX5) (N := 4) hx hb hts (fun _ h => List.mem_cons_of_mem _ (List.mem_append_right _ h)) hown hK hP 0 rfl rfl 3 (by decide) (hts (.fieldLink RX5 36 "KinkStreet$Lines" "ran" "I") (List.mem_of_getElem? (i := 3) rfl)) (fun _ h9 => h9) rfl dX5_call_78 ?_
          refine lv_bipush (v := 24) hx hb dX5_call_81 (by decide) ?_
          refine kk_cut (σ := (Nat → Int32)) (pc' := 97) (fun x H locs ls => va_P (dC, dI) vwCl [(h0, Sum.inr (5, [Value.ref h1, Value.int n0_size, Value.ref h2, Value.int n0_ran])), (h1, Sum.inl (cint, 50, Sum.inl f1)), (h2, Sum.inl (cint, 24, Sum.inl x))] H ∧ va_D A [(h0, Sum.inr (5, [Value.ref h1, Value.int n0_size, Value.ref h2, Value.int n0_ran])), (h1, Sum.inl (cint, 50, Sum.inl f1)), (h2, Sum.inl (cint, 24, Sum.inl x))] ∧ va_S A s.heap H locs ∧ lv_has ls 8 [(7, .int 1), (6, .int 0), (0, .ref h0), (1, .int p0), (2, .int 0), (3, .int 0), (4, .int p3), (5, .int p4)]) ?_ (fun hcut_23 => ?_)
          · rintro f_23_0 H locs ls ⟨hP, hD, hS, hl⟩
            have hl : lv_has ls 8 [(7, .int 1), (6, .int 0), (0, .ref h0), (1, .int p0), (2, .int 0), (3, .int 0), (4, .int p3), (5, .int p4)] := hl
            have hP : va_P (dC, dI) vwCl [(h0, Sum.inr (5, [Value.ref h1, Value.int n0_size, Value.ref h2, Value.int n0_ran])), (h1, Sum.inl (cint, 50, Sum.inl f1)), (h2, Sum.inl (cint, 24, Sum.inl f_23_0))] H := hP
            have hD : va_D A [(h0, Sum.inr (5, [Value.ref h1, Value.int n0_size, Value.ref h2, Value.int n0_ran])), (h1, Sum.inl (cint, 50, Sum.inl f1)), (h2, Sum.inl (cint, 24, Sum.inl f_23_0))] := hD
            refine lv_aload_n hx hb dX5_call_97 rfl (lv_at hl 2 rfl) ?_
            refine lv_dup hx hb dX5_call_98 rfl ?_
            refine va_get (D := (dC, dI)) (ci := 5) (v := .int n0_ran) (C := RX5) (T := TX5) (N := 4) hx hb hts (fun _ h => List.mem_cons_of_mem _ (List.mem_append_right _ h)) hown hK hP 0 rfl rfl 3 (by decide) (hts (.fieldLink RX5 36 "KinkStreet$Lines" "ran" "I") (List.mem_of_getElem? (i := 3) rfl)) (fun _ h9 => h9) rfl dX5_call_99 ?_
            refine lv_iconst (v := 1) hx hb dX5_call_102 (by decide) ?_
            refine lv_iadd hx hb dX5_call_103 ?_
            refine va_put (D := (dC, dI)) (ci := 5) (v := .int (n0_ran + 1)) (ty := .int) (C := RX5) (T := TX5) (N := 4) hx hb hts (fun _ h => List.mem_cons_of_mem _ (List.mem_append_right _ h)) tyX5 tyX5_ok nmX5 hown hK hP hD hS 0 rfl rfl 3 (by decide) (hts (.fieldLink RX5 36 "KinkStreet$Lines" "ran" "I") (List.mem_of_getElem? (i := 3) rfl)) (fun _ h9 => h9) rfl (by decide +kernel) rfl rfl (Nat.le_of_ble_eq_true rfl) dX5_call_104 (fun H locs hP hD hS => ?_)
            have hP : va_P (dC, dI) vwCl [(h0, Sum.inr (5, [Value.ref h1, Value.int n0_size, Value.ref h2, Value.int (n0_ran + 1)])), (h1, Sum.inl (cint, 50, Sum.inl f1)), (h2, Sum.inl (cint, 24, Sum.inl f_23_0))] H := hP
            have hD : va_D A [(h0, Sum.inr (5, [Value.ref h1, Value.int n0_size, Value.ref h2, Value.int (n0_ran + 1)])), (h1, Sum.inl (cint, 50, Sum.inl f1)), (h2, Sum.inl (cint, 24, Sum.inl f_23_0))] := hD
            refine lv_iload hx hb dX5_call_107 (lv_at hl 1 rfl) ?_
            refine lv_if_ne (tgt := 128) hx hb dX5_call_109 (by decide) (fun c => absurd c (by decide)) (fun _ => ?_)
            refine lv_aload_n hx hb dX5_call_112 rfl (lv_at hl 2 rfl) ?_
            refine lv_iload_n hx hb dX5_call_113 rfl (lv_at hl 3 rfl) ?_
            refine lv_iload hx hb dX5_call_114 (lv_at hl 0 rfl) ?_
            refine lv_iload hx hb dX5_call_116 (lv_at hl 6 rfl) ?_
            refine lv_iload hx hb dX5_call_118 (lv_at hl 7 rfl) ?_
            refine lv_iconst (v := 1) hx hb dX5_call_120 (by decide) ?_
            refine lv_iadd hx hb dX5_call_121 ?_
            obtain ⟨hPc, hDc, hFc⟩ := kk_cutout (wc := [(h0, Sum.inr (5, [Value.ref h1, Value.int n0_size, Value.ref h2, Value.int (n0_ran + 1)])), (h1, Sum.inl (cint, 50, Sum.inl f1))]) hP hD hS hA [0, 1] (by decide) rfl
            have hKc := hK.sub (tys' := [(cint, .int)]) [0] rfl
            refine va_calli (va_runV (As := [.int p0, .int 1, .int p3, .int (p4 + 1)]) (rest := []) ⟨hx, hb, hml, hown, hts⟩ (g_X5_runLine_0 l dC dI h0 h1 h2 cint H.size p0 p3 (p4 + 1) n0_size (n0_ran + 1) f1 tn0_size (by show 0 ≤ ((n0_ran + 1) : Int32).toInt ∧ ((n0_ran + 1) : Int32).toInt ≤ 1000; first | decide | (constructor <;> (have := kk_rng p4; have := kk_add2 (x := n0_ran) (y := 1) (a := n0_ran.toInt) (b := 1) rfl rfl (by omega) (by omega); have := kk_rng p4; have := kk_add2 (x := p4) (y := 1) (a := p4.toInt) (b := 1) rfl rfl (by omega) (by omega); omega))) bf1) (cwV 4 hts gX5_call_X5_runLine rfl rfl rfl (by decide +kernel) ⟨Nat.le_of_ble_eq_true rfl, Nat.le_of_ble_eq_true rfl⟩) ⟨fun a U g mk q => by obtain ⟨q0, q1, qP, qK, qD⟩ := q; exact ⟨q0, q1, qP, va_K.moved (u := U) (U := U.calling g mk a) (Vm.Alike.refl U.vm) qK, qD⟩, va_recv hKc hPc (ci := 5) (q0 := 0) rfl rfl, fun U hU hW => ⟨rfl, by rw [hU], by rw [hU]; exact hPc, va_K.moved hW.alike hKc, hDc.weaken (fun _ _ _ _ => trivial)⟩⟩ rfl rfl hl.1 rfl (lv_room (Nat.le_of_ble_eq_true rfl)) dX5_call_122 ⟨Nat.le_of_ble_eq_true rfl, Nat.le_of_ble_eq_true rfl⟩) hS (fun q _ h => hFc q h) hFc (fun r_24 u t H1 locs ht hvm hw hB hz1 hk1 hS => ?_)
            obtain ⟨hP1, hK1, hD1⟩ := hB
            rw [ht] at hP1
            have hK1 := va_K.moved hvm.symm hK1
            obtain ⟨hP, hD⟩ := va_join (wr := [(h2, Sum.inl (cint, 24, Sum.inl f_23_0))]) (w1 := [(h0, Sum.inr (5, [Value.ref h1, Value.int n0_size, Value.ref h2, Value.int (n0_ran + 1)])), (h1, Sum.inl (cint, 50, Sum.inl f1))]) hP hD [0, 1] [2] rfl rfl (by decide) (by decide) hk1 hFc hP1 hD1
            generalize H1 = H at hP hS ⊢
            have hP : va_P (dC, dI) vwCl [(h2, Sum.inl (cint, 24, Sum.inl f_23_0)), (h0, Sum.inr (5, [Value.ref h1, Value.int n0_size, Value.ref h2, Value.int (n0_ran + 1)])), (h1, Sum.inl (cint, 50, Sum.inl f1))] H := hP
            have hD : va_D A [(h2, Sum.inl (cint, 24, Sum.inl f_23_0)), (h0, Sum.inr (5, [Value.ref h1, Value.int n0_size, Value.ref h2, Value.int (n0_ran + 1)])), (h1, Sum.inl (cint, 50, Sum.inl f1))] := hD
            obtain rfl := hw
            refine lv_goto (tgt := 143) hx hb dX5_call_125 (by decide) ?_
            obtain ⟨hP9, hD9⟩ := kk_leafout (wc := [(h0, Sum.inr (5, [Value.ref h1, Value.int n0_size, Value.ref h2, Value.int (n0_ran + 1)])), (h1, Sum.inl (cint, 50, Sum.inl f1)), (h2, Sum.inl (cint, 24, Sum.inl f_23_0))]) hP hD [1, 2, 0] (by decide) rfl
            have hK9 := hK.sub (tys' := []) [] rfl
            exact W.iret (v := (p3 + p0)) hx hb hr (fun t ht hW => ⟨⟨(p3 + p0), (), rfl, trivial, (n0_ran + 1), f_23_0, (by show 0 ≤ ((n0_ran + 1) : Int32).toInt ∧ ((n0_ran + 1) : Int32).toInt ≤ 1000; first | decide | (constructor <;> (have := kk_rng p4; have := kk_add2 (x := n0_ran) (y := 1) (a := n0_ran.toInt) (b := 1) rfl rfl (by omega) (by omega); have := kk_rng p4; have := kk_add2 (x := p4) (y := 1) (a := p4.toInt) (b := 1) rfl rfl (by omega) (by omega); omega))), (by show ((n0_ran + 1) : Int32).toInt ≤ (n0_ran : Int32).toInt + 3; first | decide | (have := kk_rng p4; have := kk_add2 (x := n0_ran) (y := 1) (a := n0_ran.toInt) (b := 1) rfl rfl (by omega) (by omega); have := kk_rng p4; have := kk_add2 (x := p4) (y := 1) (a := p4.toInt) (b := 1) rfl rfl (by omega) (by omega); omega)), by rw [ht]; exact hP9, va_K.moved hW.alike hK9, hD9⟩, hS.F ht⟩) hS.2.2 dX5_call_143
          · skip
            refine lv_icmp_ge (tgt := 97) hx hb dX5_call_83 (by decide) (fun c_25 => ?_) (fun c_25 => ?_)
            · have t_25 : 24 ≤ n0_ran.toInt := kk_le c_25
              exact hcut_23 (f2) _ _ _ ⟨hP, hD, hS, lv_sub hl [0, 1, 2, 3, 4, 5, 6, 7] rfl⟩
            · have t_25 : n0_ran.toInt < 24 := kk_nle c_25
              refine lv_aload_n hx hb dX5_call_86 rfl (lv_at hl 2 rfl) ?_
              refine va_get (D := (dC, dI)) (ci := 5) (v := .ref h2) (C := RX5) (T := TX5) (N := 4) hx hb hts (fun _ h => List.mem_cons_of_mem _ (List.mem_append_right _ h)) hown hK hP 0 rfl rfl 2 (by decide) (hts (.fieldLink RX5 15 "KinkStreet$Lines" "trace" "[I") (List.mem_of_getElem? (i := 4) rfl)) (fun _ h9 => h9) rfl dX5_call_87 ?_
              refine lv_aload_n hx hb dX5_call_90 rfl (lv_at hl 2 rfl) ?_
              refine va_get (D := (dC, dI)) (ci := 5) (v := .int n0_ran) (C := RX5) (T := TX5) (N := 4) hx hb hts (fun _ h => List.mem_cons_of_mem _ (List.mem_append_right _ h)) hown hK hP 0 rfl rfl 3 (by decide) (hts (.fieldLink RX5 36 "KinkStreet$Lines" "ran" "I") (List.mem_of_getElem? (i := 3) rfl)) (fun _ h9 => h9) rfl dX5_call_91 ?_
              refine lv_iload hx hb dX5_call_94 (lv_at hl 0 rfl) ?_
              refine va_iast hx hb hK hP hD hS 2 0 rfl rfl (vp_in_iff.mpr ⟨by have := kk_rng p4; omega, by have := kk_rng p4; omega⟩) dX5_call_96 (fun H locs hP hD hS => ?_)
              generalize upd f2 (n0_ran : Int32).toNatClampNeg 1 = f_26 at hP hD
              have hP : va_P (dC, dI) vwCl [(h0, Sum.inr (5, [Value.ref h1, Value.int n0_size, Value.ref h2, Value.int n0_ran])), (h1, Sum.inl (cint, 50, Sum.inl f1)), (h2, Sum.inl (cint, 24, Sum.inl f_26))] H := hP
              have hD : va_D A [(h0, Sum.inr (5, [Value.ref h1, Value.int n0_size, Value.ref h2, Value.int n0_ran])), (h1, Sum.inl (cint, 50, Sum.inl f1)), (h2, Sum.inl (cint, 24, Sum.inl f_26))] := hD
              exact hcut_23 (f_26) _ _ _ ⟨hP, hD, hS, lv_sub hl [0, 1, 2, 3, 4, 5, 6, 7] rfl⟩
        · have t_18 : 40 < p4.toInt := kk_nle c_18
          refine lv_iconst (v := 0) hx hb dX5_call_63 (by decide) ?_
          obtain ⟨hP9, hD9⟩ := kk_leafout (wc := [(h0, Sum.inr (5, [Value.ref h1, Value.int n0_size, Value.ref h2, Value.int n0_ran])), (h1, Sum.inl (cint, 50, Sum.inl f1)), (h2, Sum.inl (cint, 24, Sum.inl f2))]) hP hD [0, 1, 2] (by decide) rfl
          have hK9 := hK.sub (tys' := []) [] rfl
          exact W.iret (v := 0) hx hb hr (fun t ht hW => ⟨⟨0, (), rfl, trivial, n0_ran, f2, (by show 0 ≤ (n0_ran : Int32).toInt ∧ (n0_ran : Int32).toInt ≤ 1000; first | decide | (constructor <;> (have := kk_rng p4; omega))), (by show (n0_ran : Int32).toInt ≤ (n0_ran : Int32).toInt + 3; first | decide | (have := kk_rng p4; omega)), by rw [ht]; exact hP9, va_K.moved hW.alike hK9, hD9⟩, hS.F ht⟩) hS.2.2 dX5_call_64
  · have t_1 : p1.toInt = 1 := by rw [e_1]; rfl
    subst e_1
    refine lv_iload_n hx hb dX5_call_0 rfl (lv_at hl 2 rfl) ?_
    refine lv_istore (lv' := [(6, .int 1), (0, .ref h0), (1, .int p0), (2, .int 1), (3, .int 0), (4, .int p3), (5, .int p4)]) hx hb dX5_call_1 hl (by decide) rfl (fun ls hl => ?_)
    refine lv_iconst (v := 0) hx hb dX5_call_3 (by decide) ?_
    refine lv_istore (lv' := [(7, .int 0), (6, .int 1), (0, .ref h0), (1, .int p0), (2, .int 1), (3, .int 0), (4, .int p3), (5, .int p4)]) hx hb dX5_call_4 hl (by decide) rfl (fun ls hl => ?_)
    refine lv_iload hx hb dX5_call_6 (lv_at hl 0 rfl) ?_
    refine lv_bipush (v := 8) hx hb dX5_call_8 (by decide) ?_
    refine lv_icmp_ge (tgt := 48) hx hb dX5_call_10 (by decide) (fun c => absurd c (by decide)) (fun _ => ?_)
    refine lv_iload hx hb dX5_call_13 (lv_at hl 1 rfl) ?_
    obtain ⟨hPc, hDc, hFc⟩ := kk_cutout (wc := []) hP hD hS hA [] (by decide) rfl
    have hKc := hK.sub (tys' := []) [] rfl
    refine va_calli (va_runS (As := [.int 1]) (rest := []) ⟨hx, hb, hml, hown, hts⟩ (g_X5_isKind_0 l dC dI s.heap.size 1) (va_cwS 1 hts gX5_call_X5_isKind rfl rfl rfl (by decide +kernel) ⟨Nat.le_of_ble_eq_true rfl, Nat.le_of_ble_eq_true rfl⟩) ⟨fun a U g mk q => by obtain ⟨q0, q1, qP, qK, qD⟩ := q; exact ⟨q0, q1, qP, va_K.moved (u := U) (U := U.calling g mk a) (Vm.Alike.refl U.vm) qK, qD⟩, fun U hU hW => ⟨rfl, by rw [hU], by rw [hU]; exact hPc, va_K.moved hW.alike hKc, hDc.weaken (fun _ _ _ _ => trivial)⟩⟩ rfl rfl hl.1 rfl (lv_room (Nat.le_of_ble_eq_true rfl)) dX5_call_15 ⟨Nat.le_of_ble_eq_true rfl, Nat.le_of_ble_eq_true rfl⟩) hS (fun q _ h => hFc q h) hFc (fun r_27 u t H1 locs ht hvm hw hB hz1 hk1 hS => ?_)
    obtain ⟨hP1, hK1, hD1⟩ := hB
    rw [ht] at hP1
    have hK1 := va_K.moved hvm.symm hK1
    obtain ⟨hP, hD⟩ := va_join (wr := [(h0, Sum.inr (5, [Value.ref h1, Value.int n0_size, Value.ref h2, Value.int n0_ran])), (h1, Sum.inl (cint, 50, Sum.inl f1)), (h2, Sum.inl (cint, 24, Sum.inl f2))]) (w1 := []) hP hD [] [0, 1, 2] rfl rfl (by decide) (by decide) hk1 hFc hP1 hD1
    generalize H1 = H at hP hS ⊢
    have hP : va_P (dC, dI) vwCl [(h0, Sum.inr (5, [Value.ref h1, Value.int n0_size, Value.ref h2, Value.int n0_ran])), (h1, Sum.inl (cint, 50, Sum.inl f1)), (h2, Sum.inl (cint, 24, Sum.inl f2))] H := hP
    have hD : va_D A [(h0, Sum.inr (5, [Value.ref h1, Value.int n0_size, Value.ref h2, Value.int n0_ran])), (h1, Sum.inl (cint, 50, Sum.inl f1)), (h2, Sum.inl (cint, 24, Sum.inl f2))] := hD
    rcases hw with ⟨rfl⟩ | ⟨t_27_0, t_27_1, rfl⟩
    · skip
      refine lv_if_eq (tgt := 48) hx hb dX5_call_18 (by decide) (fun _ => ?_) (fun c => absurd c (by decide))
      refine lv_iload hx hb dX5_call_48 (lv_at hl 1 rfl) ?_
      obtain ⟨hPc, hDc, hFc⟩ := kk_cutout (wc := []) hP hD hS hA [] (by decide) rfl
      have hKc := hK.sub (tys' := []) [] rfl
      refine va_calli (va_runS (As := [.int 1]) (rest := []) ⟨hx, hb, hml, hown, hts⟩ (g_X5_isKind_0 l dC dI H.size 1) (va_cwS 1 hts gX5_call_X5_isKind rfl rfl rfl (by decide +kernel) ⟨Nat.le_of_ble_eq_true rfl, Nat.le_of_ble_eq_true rfl⟩) ⟨fun a U g mk q => by obtain ⟨q0, q1, qP, qK, qD⟩ := q; exact ⟨q0, q1, qP, va_K.moved (u := U) (U := U.calling g mk a) (Vm.Alike.refl U.vm) qK, qD⟩, fun U hU hW => ⟨rfl, by rw [hU], by rw [hU]; exact hPc, va_K.moved hW.alike hKc, hDc.weaken (fun _ _ _ _ => trivial)⟩⟩ rfl rfl hl.1 rfl (lv_room (Nat.le_of_ble_eq_true rfl)) dX5_call_50 ⟨Nat.le_of_ble_eq_true rfl, Nat.le_of_ble_eq_true rfl⟩) hS (fun q _ h => hFc q h) hFc (fun r_28 u t H1 locs ht hvm hw hB hz1 hk1 hS => ?_)
      obtain ⟨hP1, hK1, hD1⟩ := hB
      rw [ht] at hP1
      have hK1 := va_K.moved hvm.symm hK1
      obtain ⟨hP, hD⟩ := va_join (wr := [(h0, Sum.inr (5, [Value.ref h1, Value.int n0_size, Value.ref h2, Value.int n0_ran])), (h1, Sum.inl (cint, 50, Sum.inl f1)), (h2, Sum.inl (cint, 24, Sum.inl f2))]) (w1 := []) hP hD [] [0, 1, 2] rfl rfl (by decide) (by decide) hk1 hFc hP1 hD1
      generalize H1 = H at hP hS ⊢
      have hP : va_P (dC, dI) vwCl [(h0, Sum.inr (5, [Value.ref h1, Value.int n0_size, Value.ref h2, Value.int n0_ran])), (h1, Sum.inl (cint, 50, Sum.inl f1)), (h2, Sum.inl (cint, 24, Sum.inl f2))] H := hP
      have hD : va_D A [(h0, Sum.inr (5, [Value.ref h1, Value.int n0_size, Value.ref h2, Value.int n0_ran])), (h1, Sum.inl (cint, 50, Sum.inl f1)), (h2, Sum.inl (cint, 24, Sum.inl f2))] := hD
      rcases hw with ⟨rfl⟩ | ⟨t_28_0, t_28_1, rfl⟩
      · skip
        refine lv_if_eq (tgt := 63) hx hb dX5_call_53 (by decide) (fun _ => ?_) (fun c => absurd c (by decide))
        refine lv_iconst (v := 0) hx hb dX5_call_63 (by decide) ?_
        obtain ⟨hP9, hD9⟩ := kk_leafout (wc := [(h0, Sum.inr (5, [Value.ref h1, Value.int n0_size, Value.ref h2, Value.int n0_ran])), (h1, Sum.inl (cint, 50, Sum.inl f1)), (h2, Sum.inl (cint, 24, Sum.inl f2))]) hP hD [0, 1, 2] (by decide) rfl
        have hK9 := hK.sub (tys' := []) [] rfl
        exact W.iret (v := 0) hx hb hr (fun t ht hW => ⟨⟨0, (), rfl, trivial, n0_ran, f2, (by show 0 ≤ (n0_ran : Int32).toInt ∧ (n0_ran : Int32).toInt ≤ 1000; first | decide | (constructor <;> (omega))), (by show (n0_ran : Int32).toInt ≤ (n0_ran : Int32).toInt + 3; first | decide | (omega)), by rw [ht]; exact hP9, va_K.moved hW.alike hK9, hD9⟩, hS.F ht⟩) hS.2.2 dX5_call_64
      · skip
        have t_28_0 : (0 : Int) ≤ 1 := t_28_0
        have t_28_1 : (1 : Int) < 8 := t_28_1
        refine lv_if_eq (tgt := 63) hx hb dX5_call_53 (by decide) (fun c => absurd c (by decide)) (fun _ => ?_)
        refine lv_iload hx hb dX5_call_56 (lv_at hl 7 rfl) ?_
        refine lv_bipush (v := 40) hx hb dX5_call_58 (by decide) ?_
        refine lv_icmp_le (tgt := 65) hx hb dX5_call_60 (by decide) (fun c_29 => ?_) (fun c_29 => ?_)
        · have t_29 : p4.toInt ≤ 40 := kk_le c_29
          refine va_gets hx hb hZOWN_BODIES hS hown (hts (.fieldLink RX5 43 "KinkStreet$Lines" "OWN_BODIES" "[I") (List.mem_of_getElem? (i := 1) rfl)) (fun _ h9 => h9) dX5_call_65 ?_
          refine lv_iload hx hb dX5_call_68 (lv_at hl 1 rfl) ?_
          refine lv_iconst (v := 4) hx hb dX5_call_70 (by decide) ?_
          refine lv_imul hx hb dX5_call_71 ?_
          refine lv_topi (fun y_30 e_30 => ?_)
          obtain rfl : y_30 = 4 := e_30.trans (by decide)
          refine lv_iload_n hx hb dX5_call_72 rfl (lv_at hl 5 rfl) ?_
          refine lv_iadd hx hb dX5_call_73 ?_
          refine lv_topi (fun y_31 e_31 => ?_)
          obtain rfl : y_31 = 4 := e_31.trans (by decide)
          refine va_ti (v := .int 20) hx hb hTOWN_BODIES hS (by unfold vp_in; decide) rfl dX5_call_74 ?_
          refine lv_istore (lv' := [(7, .int 20), (6, .int 1), (0, .ref h0), (1, .int p0), (2, .int 1), (3, .int 0), (4, .int p3), (5, .int p4)]) hx hb dX5_call_75 hl (by decide) rfl (fun ls hl => ?_)
          refine lv_aload_n hx hb dX5_call_77 rfl (lv_at hl 2 rfl) ?_
          refine va_get (D := (dC, dI)) (ci := 5) (v := .int n0_ran) (C := RX5) (T := TX5) (N := 4) hx hb hts (fun _ h => List.mem_cons_of_mem _ (List.mem_append_right _ h)) hown hK hP 0 rfl rfl 3 (by decide) (hts (.fieldLink RX5 36 "KinkStreet$Lines" "ran" "I") (List.mem_of_getElem? (i := 3) rfl)) (fun _ h9 => h9) rfl dX5_call_78 ?_
          refine lv_bipush (v := 24) hx hb dX5_call_81 (by decide) ?_
          refine kk_cut (σ := (Nat → Int32)) (pc' := 97) (fun x H locs ls => va_P (dC, dI) vwCl [(h0, Sum.inr (5, [Value.ref h1, Value.int n0_size, Value.ref h2, Value.int n0_ran])), (h1, Sum.inl (cint, 50, Sum.inl f1)), (h2, Sum.inl (cint, 24, Sum.inl x))] H ∧ va_D A [(h0, Sum.inr (5, [Value.ref h1, Value.int n0_size, Value.ref h2, Value.int n0_ran])), (h1, Sum.inl (cint, 50, Sum.inl f1)), (h2, Sum.inl (cint, 24, Sum.inl x))] ∧ va_S A s.heap H locs ∧ lv_has ls 8 [(7, .int 20), (6, .int 1), (0, .ref h0), (1, .int p0), (2, .int 1), (3, .int 0), (4, .int p3), (5, .int p4)]) ?_ (fun hcut_34 => ?_)
          · rintro f_34_0 H locs ls ⟨hP, hD, hS, hl⟩
            have hl : lv_has ls 8 [(7, .int 20), (6, .int 1), (0, .ref h0), (1, .int p0), (2, .int 1), (3, .int 0), (4, .int p3), (5, .int p4)] := hl
            have hP : va_P (dC, dI) vwCl [(h0, Sum.inr (5, [Value.ref h1, Value.int n0_size, Value.ref h2, Value.int n0_ran])), (h1, Sum.inl (cint, 50, Sum.inl f1)), (h2, Sum.inl (cint, 24, Sum.inl f_34_0))] H := hP
            have hD : va_D A [(h0, Sum.inr (5, [Value.ref h1, Value.int n0_size, Value.ref h2, Value.int n0_ran])), (h1, Sum.inl (cint, 50, Sum.inl f1)), (h2, Sum.inl (cint, 24, Sum.inl f_34_0))] := hD
            refine lv_aload_n hx hb dX5_call_97 rfl (lv_at hl 2 rfl) ?_
            refine lv_dup hx hb dX5_call_98 rfl ?_
            refine va_get (D := (dC, dI)) (ci := 5) (v := .int n0_ran) (C := RX5) (T := TX5) (N := 4) hx hb hts (fun _ h => List.mem_cons_of_mem _ (List.mem_append_right _ h)) hown hK hP 0 rfl rfl 3 (by decide) (hts (.fieldLink RX5 36 "KinkStreet$Lines" "ran" "I") (List.mem_of_getElem? (i := 3) rfl)) (fun _ h9 => h9) rfl dX5_call_99 ?_
            refine lv_iconst (v := 1) hx hb dX5_call_102 (by decide) ?_
            refine lv_iadd hx hb dX5_call_103 ?_
            refine va_put (D := (dC, dI)) (ci := 5) (v := .int (n0_ran + 1)) (ty := .int) (C := RX5) (T := TX5) (N := 4) hx hb hts (fun _ h => List.mem_cons_of_mem _ (List.mem_append_right _ h)) tyX5 tyX5_ok nmX5 hown hK hP hD hS 0 rfl rfl 3 (by decide) (hts (.fieldLink RX5 36 "KinkStreet$Lines" "ran" "I") (List.mem_of_getElem? (i := 3) rfl)) (fun _ h9 => h9) rfl (by decide +kernel) rfl rfl (Nat.le_of_ble_eq_true rfl) dX5_call_104 (fun H locs hP hD hS => ?_)
            have hP : va_P (dC, dI) vwCl [(h0, Sum.inr (5, [Value.ref h1, Value.int n0_size, Value.ref h2, Value.int (n0_ran + 1)])), (h1, Sum.inl (cint, 50, Sum.inl f1)), (h2, Sum.inl (cint, 24, Sum.inl f_34_0))] H := hP
            have hD : va_D A [(h0, Sum.inr (5, [Value.ref h1, Value.int n0_size, Value.ref h2, Value.int (n0_ran + 1)])), (h1, Sum.inl (cint, 50, Sum.inl f1)), (h2, Sum.inl (cint, 24, Sum.inl f_34_0))] := hD
            refine lv_iload hx hb dX5_call_107 (lv_at hl 1 rfl) ?_
            refine lv_if_ne (tgt := 128) hx hb dX5_call_109 (by decide) (fun _ => ?_) (fun c => absurd c (by decide))
            refine lv_aload_n hx hb dX5_call_128 rfl (lv_at hl 2 rfl) ?_
            refine lv_iload_n hx hb dX5_call_129 rfl (lv_at hl 3 rfl) ?_
            refine lv_iload hx hb dX5_call_130 (lv_at hl 1 rfl) ?_
            refine lv_iload hx hb dX5_call_132 (lv_at hl 0 rfl) ?_
            refine lv_iload hx hb dX5_call_134 (lv_at hl 6 rfl) ?_
            refine lv_iload hx hb dX5_call_136 (lv_at hl 7 rfl) ?_
            refine lv_iconst (v := 1) hx hb dX5_call_138 (by decide) ?_
            refine lv_iadd hx hb dX5_call_139 ?_
            obtain ⟨hPc, hDc, hFc⟩ := kk_cutout (wc := [(h0, Sum.inr (5, [Value.ref h1, Value.int n0_size, Value.ref h2, Value.int (n0_ran + 1)])), (h1, Sum.inl (cint, 50, Sum.inl f1)), (h2, Sum.inl (cint, 24, Sum.inl f_34_0))]) hP hD hS hA [0, 1, 2] (by decide) rfl
            have hKc := hK.sub (tys' := [(cint, .int)]) [0] rfl
            refine va_calli (va_runV (As := [.int p0, .int 1, .int 20, .int p3, .int (p4 + 1)]) (rest := []) ⟨hx, hb, hml, hown, hts⟩ (g_X5_runUnder_0 l dC dI h0 h1 h2 cint H.size p0 p3 (p4 + 1) n0_size (n0_ran + 1) f1 f_34_0 tn0_size (by show 0 ≤ ((n0_ran + 1) : Int32).toInt ∧ ((n0_ran + 1) : Int32).toInt ≤ 999; first | decide | (constructor <;> (have := kk_rng p4; have := kk_add2 (x := n0_ran) (y := 1) (a := n0_ran.toInt) (b := 1) rfl rfl (by omega) (by omega); have := kk_rng p4; have := kk_add2 (x := p4) (y := 1) (a := p4.toInt) (b := 1) rfl rfl (by omega) (by omega); omega))) bf1 aOWN_BODIES aABOVE) (cwV 5 hts gX5_call_X5_runUnder rfl rfl rfl (by decide +kernel) ⟨Nat.le_of_ble_eq_true rfl, Nat.le_of_ble_eq_true rfl⟩) ⟨fun a U g mk q => by obtain ⟨q0, q1, qP, qK, qD, qx0, qx1, qx2, qx3⟩ := q; exact ⟨q0, q1, qP, va_K.moved (u := U) (U := U.calling g mk a) (Vm.Alike.refl U.vm) qK, qD, va_Z.moved (u := U) (U := U.calling g mk a) (Vm.Alike.refl U.vm) qx0, va_T.moved (u := U) (U := U.calling g mk a) (Vm.Alike.refl U.vm) qx1, va_Z.moved (u := U) (U := U.calling g mk a) (Vm.Alike.refl U.vm) qx2, va_T.moved (u := U) (U := U.calling g mk a) (Vm.Alike.refl U.vm) qx3⟩, va_recv hKc hPc (ci := 5) (q0 := 0) rfl rfl, fun U hU hW => ⟨rfl, by rw [hU], by rw [hU]; exact hPc, va_K.moved hW.alike hKc, hDc.weaken (fun _ _ _ _ => trivial), by rw [hU]; exact ((hZOWN_BODIES.kept (fun a h1 h2 => hS.2.1 a h1 h2)).narrow hFc).moved hW.alike, by rw [hU]; exact ((hTOWN_BODIES.kept (fun a h1 h2 => hS.2.1 a h1 h2)).narrow hFc).moved hW.alike, by rw [hU]; exact ((hZABOVE.kept (fun a h1 h2 => hS.2.1 a h1 h2)).narrow hFc).moved hW.alike, by rw [hU]; exact ((hTABOVE.kept (fun a h1 h2 => hS.2.1 a h1 h2)).narrow hFc).moved hW.alike⟩⟩ rfl rfl hl.1 rfl (lv_room (Nat.le_of_ble_eq_true rfl)) dX5_call_140 ⟨Nat.le_of_ble_eq_true rfl, Nat.le_of_ble_eq_true rfl⟩) hS (fun q _ h => hFc q h) hFc (fun r_35 u t H1 locs ht hvm hw hB hz1 hk1 hS => ?_)
            obtain ⟨y_36, f_37, by_36, v_37_0, hP1, hK1, hD1⟩ := hB
            have v_37_0 : y_36.toInt ≤ (n0_ran + 1).toInt + 1 := v_37_0
            rw [ht] at hP1
            have hK1 := va_K.moved hvm.symm hK1
            obtain ⟨hP, hD⟩ := va_join (wr := []) (w1 := [(h0, Sum.inr (5, [Value.ref h1, Value.int n0_size, Value.ref h2, Value.int y_36])), (h1, Sum.inl (cint, 50, Sum.inl f1)), (h2, Sum.inl (cint, 24, Sum.inl f_37))]) hP hD [0, 1, 2] [] rfl rfl (by decide) (by decide) hk1 hFc hP1 hD1
            generalize H1 = H at hP hS ⊢
            have hP : va_P (dC, dI) vwCl [(h0, Sum.inr (5, [Value.ref h1, Value.int n0_size, Value.ref h2, Value.int y_36])), (h1, Sum.inl (cint, 50, Sum.inl f1)), (h2, Sum.inl (cint, 24, Sum.inl f_37))] H := hP
            have hD : va_D A [(h0, Sum.inr (5, [Value.ref h1, Value.int n0_size, Value.ref h2, Value.int y_36])), (h1, Sum.inl (cint, 50, Sum.inl f1)), (h2, Sum.inl (cint, 24, Sum.inl f_37))] := hD
            obtain ⟨hP9, hD9⟩ := kk_leafout (wc := [(h0, Sum.inr (5, [Value.ref h1, Value.int n0_size, Value.ref h2, Value.int y_36])), (h1, Sum.inl (cint, 50, Sum.inl f1)), (h2, Sum.inl (cint, 24, Sum.inl f_37))]) hP hD [0, 1, 2] (by decide) rfl
            have hK9 := hK.sub (tys' := []) [] rfl
            exact W.iret (v := r_35) hx hb hr (fun t ht hW => ⟨⟨r_35, (), rfl, trivial, y_36, f_37, (by show 0 ≤ (y_36 : Int32).toInt ∧ (y_36 : Int32).toInt ≤ 1000; first | decide | (constructor <;> (have := kk_rng p4; have := kk_add2 (x := n0_ran) (y := 1) (a := n0_ran.toInt) (b := 1) rfl rfl (by omega) (by omega); have := kk_rng p4; have := kk_add2 (x := p4) (y := 1) (a := p4.toInt) (b := 1) rfl rfl (by omega) (by omega); omega))), (by show (y_36 : Int32).toInt ≤ (n0_ran : Int32).toInt + 3; first | decide | (have := kk_rng p4; have := kk_add2 (x := n0_ran) (y := 1) (a := n0_ran.toInt) (b := 1) rfl rfl (by omega) (by omega); have := kk_rng p4; have := kk_add2 (x := p4) (y := 1) (a := p4.toInt) (b := 1) rfl rfl (by omega) (by omega); omega)), by rw [ht]; exact hP9, va_K.moved hW.alike hK9, hD9⟩, hS.F ht⟩) hS.2.2 dX5_call_143
          · skip
            refine lv_icmp_ge (tgt := 97) hx hb dX5_call_83 (by decide) (fun c_38 => ?_) (fun c_38 => ?_)
            · have t_38 : 24 ≤ n0_ran.toInt := kk_le c_38
              exact hcut_34 (f2) _ _ _ ⟨hP, hD, hS, lv_sub hl [0, 1, 2, 3, 4, 5, 6, 7] rfl⟩
            · have t_38 : n0_ran.toInt < 24 := kk_nle c_38
              refine lv_aload_n hx hb dX5_call_86 rfl (lv_at hl 2 rfl) ?_
              refine va_get (D := (dC, dI)) (ci := 5) (v := .ref h2) (C := RX5) (T := TX5) (N := 4) hx hb hts (fun _ h => List.mem_cons_of_mem _ (List.mem_append_right _ h)) hown hK hP 0 rfl rfl 2 (by decide) (hts (.fieldLink RX5 15 "KinkStreet$Lines" "trace" "[I") (List.mem_of_getElem? (i := 4) rfl)) (fun _ h9 => h9) rfl dX5_call_87 ?_
              refine lv_aload_n hx hb dX5_call_90 rfl (lv_at hl 2 rfl) ?_
              refine va_get (D := (dC, dI)) (ci := 5) (v := .int n0_ran) (C := RX5) (T := TX5) (N := 4) hx hb hts (fun _ h => List.mem_cons_of_mem _ (List.mem_append_right _ h)) hown hK hP 0 rfl rfl 3 (by decide) (hts (.fieldLink RX5 36 "KinkStreet$Lines" "ran" "I") (List.mem_of_getElem? (i := 3) rfl)) (fun _ h9 => h9) rfl dX5_call_91 ?_
              refine lv_iload hx hb dX5_call_94 (lv_at hl 0 rfl) ?_
              refine va_iast hx hb hK hP hD hS 2 0 rfl rfl (vp_in_iff.mpr ⟨by have := kk_rng p4; omega, by have := kk_rng p4; omega⟩) dX5_call_96 (fun H locs hP hD hS => ?_)
              generalize upd f2 (n0_ran : Int32).toNatClampNeg 20 = f_39 at hP hD
              have hP : va_P (dC, dI) vwCl [(h0, Sum.inr (5, [Value.ref h1, Value.int n0_size, Value.ref h2, Value.int n0_ran])), (h1, Sum.inl (cint, 50, Sum.inl f1)), (h2, Sum.inl (cint, 24, Sum.inl f_39))] H := hP
              have hD : va_D A [(h0, Sum.inr (5, [Value.ref h1, Value.int n0_size, Value.ref h2, Value.int n0_ran])), (h1, Sum.inl (cint, 50, Sum.inl f1)), (h2, Sum.inl (cint, 24, Sum.inl f_39))] := hD
              exact hcut_34 (f_39) _ _ _ ⟨hP, hD, hS, lv_sub hl [0, 1, 2, 3, 4, 5, 6, 7] rfl⟩
        · have t_29 : 40 < p4.toInt := kk_nle c_29
          refine lv_iconst (v := 0) hx hb dX5_call_63 (by decide) ?_
          obtain ⟨hP9, hD9⟩ := kk_leafout (wc := [(h0, Sum.inr (5, [Value.ref h1, Value.int n0_size, Value.ref h2, Value.int n0_ran])), (h1, Sum.inl (cint, 50, Sum.inl f1)), (h2, Sum.inl (cint, 24, Sum.inl f2))]) hP hD [0, 1, 2] (by decide) rfl
          have hK9 := hK.sub (tys' := []) [] rfl
          exact W.iret (v := 0) hx hb hr (fun t ht hW => ⟨⟨0, (), rfl, trivial, n0_ran, f2, (by show 0 ≤ (n0_ran : Int32).toInt ∧ (n0_ran : Int32).toInt ≤ 1000; first | decide | (constructor <;> (have := kk_rng p4; omega))), (by show (n0_ran : Int32).toInt ≤ (n0_ran : Int32).toInt + 3; first | decide | (have := kk_rng p4; omega)), by rw [ht]; exact hP9, va_K.moved hW.alike hK9, hD9⟩, hS.F ht⟩) hS.2.2 dX5_call_64
    · skip
      have t_27_0 : (0 : Int) ≤ 1 := t_27_0
      have t_27_1 : (1 : Int) < 8 := t_27_1
      refine lv_if_eq (tgt := 48) hx hb dX5_call_18 (by decide) (fun c => absurd c (by decide)) (fun _ => ?_)
      refine va_gets hx hb hZOWN_BODIES hS hown (hts (.fieldLink RX5 43 "KinkStreet$Lines" "OWN_BODIES" "[I") (List.mem_of_getElem? (i := 1) rfl)) (fun _ h9 => h9) dX5_call_21 ?_
      refine lv_iload hx hb dX5_call_24 (lv_at hl 1 rfl) ?_
      refine lv_iconst (v := 4) hx hb dX5_call_26 (by decide) ?_
      refine lv_imul hx hb dX5_call_27 ?_
      refine lv_topi (fun y_40 e_40 => ?_)
      obtain rfl : y_40 = 4 := e_40.trans (by decide)
      refine lv_iload_n hx hb dX5_call_28 rfl (lv_at hl 5 rfl) ?_
      refine lv_iadd hx hb dX5_call_29 ?_
      refine lv_topi (fun y_41 e_41 => ?_)
      obtain rfl : y_41 = 4 := e_41.trans (by decide)
      refine va_ti (v := .int 20) hx hb hTOWN_BODIES hS (by unfold vp_in; decide) rfl dX5_call_30 ?_
      refine lv_if_ne (tgt := 48) hx hb dX5_call_31 (by decide) (fun _ => ?_) (fun c => absurd c (by decide))
      refine lv_iload hx hb dX5_call_48 (lv_at hl 1 rfl) ?_
      obtain ⟨hPc, hDc, hFc⟩ := kk_cutout (wc := []) hP hD hS hA [] (by decide) rfl
      have hKc := hK.sub (tys' := []) [] rfl
      refine va_calli (va_runS (As := [.int 1]) (rest := []) ⟨hx, hb, hml, hown, hts⟩ (g_X5_isKind_0 l dC dI H.size 1) (va_cwS 1 hts gX5_call_X5_isKind rfl rfl rfl (by decide +kernel) ⟨Nat.le_of_ble_eq_true rfl, Nat.le_of_ble_eq_true rfl⟩) ⟨fun a U g mk q => by obtain ⟨q0, q1, qP, qK, qD⟩ := q; exact ⟨q0, q1, qP, va_K.moved (u := U) (U := U.calling g mk a) (Vm.Alike.refl U.vm) qK, qD⟩, fun U hU hW => ⟨rfl, by rw [hU], by rw [hU]; exact hPc, va_K.moved hW.alike hKc, hDc.weaken (fun _ _ _ _ => trivial)⟩⟩ rfl rfl hl.1 rfl (lv_room (Nat.le_of_ble_eq_true rfl)) dX5_call_50 ⟨Nat.le_of_ble_eq_true rfl, Nat.le_of_ble_eq_true rfl⟩) hS (fun q _ h => hFc q h) hFc (fun r_42 u t H1 locs ht hvm hw hB hz1 hk1 hS => ?_)
      obtain ⟨hP1, hK1, hD1⟩ := hB
      rw [ht] at hP1
      have hK1 := va_K.moved hvm.symm hK1
      obtain ⟨hP, hD⟩ := va_join (wr := [(h0, Sum.inr (5, [Value.ref h1, Value.int n0_size, Value.ref h2, Value.int n0_ran])), (h1, Sum.inl (cint, 50, Sum.inl f1)), (h2, Sum.inl (cint, 24, Sum.inl f2))]) (w1 := []) hP hD [] [0, 1, 2] rfl rfl (by decide) (by decide) hk1 hFc hP1 hD1
      generalize H1 = H at hP hS ⊢
      have hP : va_P (dC, dI) vwCl [(h0, Sum.inr (5, [Value.ref h1, Value.int n0_size, Value.ref h2, Value.int n0_ran])), (h1, Sum.inl (cint, 50, Sum.inl f1)), (h2, Sum.inl (cint, 24, Sum.inl f2))] H := hP
      have hD : va_D A [(h0, Sum.inr (5, [Value.ref h1, Value.int n0_size, Value.ref h2, Value.int n0_ran])), (h1, Sum.inl (cint, 50, Sum.inl f1)), (h2, Sum.inl (cint, 24, Sum.inl f2))] := hD
      rcases hw with ⟨rfl⟩ | ⟨t_42_0, t_42_1, rfl⟩
      · skip
        refine lv_if_eq (tgt := 63) hx hb dX5_call_53 (by decide) (fun _ => ?_) (fun c => absurd c (by decide))
        refine lv_iconst (v := 0) hx hb dX5_call_63 (by decide) ?_
        obtain ⟨hP9, hD9⟩ := kk_leafout (wc := [(h0, Sum.inr (5, [Value.ref h1, Value.int n0_size, Value.ref h2, Value.int n0_ran])), (h1, Sum.inl (cint, 50, Sum.inl f1)), (h2, Sum.inl (cint, 24, Sum.inl f2))]) hP hD [0, 1, 2] (by decide) rfl
        have hK9 := hK.sub (tys' := []) [] rfl
        exact W.iret (v := 0) hx hb hr (fun t ht hW => ⟨⟨0, (), rfl, trivial, n0_ran, f2, (by show 0 ≤ (n0_ran : Int32).toInt ∧ (n0_ran : Int32).toInt ≤ 1000; first | decide | (constructor <;> (omega))), (by show (n0_ran : Int32).toInt ≤ (n0_ran : Int32).toInt + 3; first | decide | (omega)), by rw [ht]; exact hP9, va_K.moved hW.alike hK9, hD9⟩, hS.F ht⟩) hS.2.2 dX5_call_64
      · skip
        have t_42_0 : (0 : Int) ≤ 1 := t_42_0
        have t_42_1 : (1 : Int) < 8 := t_42_1
        refine lv_if_eq (tgt := 63) hx hb dX5_call_53 (by decide) (fun c => absurd c (by decide)) (fun _ => ?_)
        refine lv_iload hx hb dX5_call_56 (lv_at hl 7 rfl) ?_
        refine lv_bipush (v := 40) hx hb dX5_call_58 (by decide) ?_
        refine lv_icmp_le (tgt := 65) hx hb dX5_call_60 (by decide) (fun c_43 => ?_) (fun c_43 => ?_)
        · have t_43 : p4.toInt ≤ 40 := kk_le c_43
          refine va_gets hx hb hZOWN_BODIES hS hown (hts (.fieldLink RX5 43 "KinkStreet$Lines" "OWN_BODIES" "[I") (List.mem_of_getElem? (i := 1) rfl)) (fun _ h9 => h9) dX5_call_65 ?_
          refine lv_iload hx hb dX5_call_68 (lv_at hl 1 rfl) ?_
          refine lv_iconst (v := 4) hx hb dX5_call_70 (by decide) ?_
          refine lv_imul hx hb dX5_call_71 ?_
          refine lv_topi (fun y_44 e_44 => ?_)
          obtain rfl : y_44 = 4 := e_44.trans (by decide)
          refine lv_iload_n hx hb dX5_call_72 rfl (lv_at hl 5 rfl) ?_
          refine lv_iadd hx hb dX5_call_73 ?_
          refine lv_topi (fun y_45 e_45 => ?_)
          obtain rfl : y_45 = 4 := e_45.trans (by decide)
          refine va_ti (v := .int 20) hx hb hTOWN_BODIES hS (by unfold vp_in; decide) rfl dX5_call_74 ?_
          refine lv_istore (lv' := [(7, .int 20), (6, .int 1), (0, .ref h0), (1, .int p0), (2, .int 1), (3, .int 0), (4, .int p3), (5, .int p4)]) hx hb dX5_call_75 hl (by decide) rfl (fun ls hl => ?_)
          refine lv_aload_n hx hb dX5_call_77 rfl (lv_at hl 2 rfl) ?_
          refine va_get (D := (dC, dI)) (ci := 5) (v := .int n0_ran) (C := RX5) (T := TX5) (N := 4) hx hb hts (fun _ h => List.mem_cons_of_mem _ (List.mem_append_right _ h)) hown hK hP 0 rfl rfl 3 (by decide) (hts (.fieldLink RX5 36 "KinkStreet$Lines" "ran" "I") (List.mem_of_getElem? (i := 3) rfl)) (fun _ h9 => h9) rfl dX5_call_78 ?_
          refine lv_bipush (v := 24) hx hb dX5_call_81 (by decide) ?_
          refine kk_cut (σ := (Nat → Int32)) (pc' := 97) (fun x H locs ls => va_P (dC, dI) vwCl [(h0, Sum.inr (5, [Value.ref h1, Value.int n0_size, Value.ref h2, Value.int n0_ran])), (h1, Sum.inl (cint, 50, Sum.inl f1)), (h2, Sum.inl (cint, 24, Sum.inl x))] H ∧ va_D A [(h0, Sum.inr (5, [Value.ref h1, Value.int n0_size, Value.ref h2, Value.int n0_ran])), (h1, Sum.inl (cint, 50, Sum.inl f1)), (h2, Sum.inl (cint, 24, Sum.inl x))] ∧ va_S A s.heap H locs ∧ lv_has ls 8 [(7, .int 20), (6, .int 1), (0, .ref h0), (1, .int p0), (2, .int 1), (3, .int 0), (4, .int p3), (5, .int p4)]) ?_ (fun hcut_48 => ?_)
          · rintro f_48_0 H locs ls ⟨hP, hD, hS, hl⟩
            have hl : lv_has ls 8 [(7, .int 20), (6, .int 1), (0, .ref h0), (1, .int p0), (2, .int 1), (3, .int 0), (4, .int p3), (5, .int p4)] := hl
            have hP : va_P (dC, dI) vwCl [(h0, Sum.inr (5, [Value.ref h1, Value.int n0_size, Value.ref h2, Value.int n0_ran])), (h1, Sum.inl (cint, 50, Sum.inl f1)), (h2, Sum.inl (cint, 24, Sum.inl f_48_0))] H := hP
            have hD : va_D A [(h0, Sum.inr (5, [Value.ref h1, Value.int n0_size, Value.ref h2, Value.int n0_ran])), (h1, Sum.inl (cint, 50, Sum.inl f1)), (h2, Sum.inl (cint, 24, Sum.inl f_48_0))] := hD
            refine lv_aload_n hx hb dX5_call_97 rfl (lv_at hl 2 rfl) ?_
            refine lv_dup hx hb dX5_call_98 rfl ?_
            refine va_get (D := (dC, dI)) (ci := 5) (v := .int n0_ran) (C := RX5) (T := TX5) (N := 4) hx hb hts (fun _ h => List.mem_cons_of_mem _ (List.mem_append_right _ h)) hown hK hP 0 rfl rfl 3 (by decide) (hts (.fieldLink RX5 36 "KinkStreet$Lines" "ran" "I") (List.mem_of_getElem? (i := 3) rfl)) (fun _ h9 => h9) rfl dX5_call_99 ?_
            refine lv_iconst (v := 1) hx hb dX5_call_102 (by decide) ?_
            refine lv_iadd hx hb dX5_call_103 ?_
            refine va_put (D := (dC, dI)) (ci := 5) (v := .int (n0_ran + 1)) (ty := .int) (C := RX5) (T := TX5) (N := 4) hx hb hts (fun _ h => List.mem_cons_of_mem _ (List.mem_append_right _ h)) tyX5 tyX5_ok nmX5 hown hK hP hD hS 0 rfl rfl 3 (by decide) (hts (.fieldLink RX5 36 "KinkStreet$Lines" "ran" "I") (List.mem_of_getElem? (i := 3) rfl)) (fun _ h9 => h9) rfl (by decide +kernel) rfl rfl (Nat.le_of_ble_eq_true rfl) dX5_call_104 (fun H locs hP hD hS => ?_)
            have hP : va_P (dC, dI) vwCl [(h0, Sum.inr (5, [Value.ref h1, Value.int n0_size, Value.ref h2, Value.int (n0_ran + 1)])), (h1, Sum.inl (cint, 50, Sum.inl f1)), (h2, Sum.inl (cint, 24, Sum.inl f_48_0))] H := hP
            have hD : va_D A [(h0, Sum.inr (5, [Value.ref h1, Value.int n0_size, Value.ref h2, Value.int (n0_ran + 1)])), (h1, Sum.inl (cint, 50, Sum.inl f1)), (h2, Sum.inl (cint, 24, Sum.inl f_48_0))] := hD
            refine lv_iload hx hb dX5_call_107 (lv_at hl 1 rfl) ?_
            refine lv_if_ne (tgt := 128) hx hb dX5_call_109 (by decide) (fun _ => ?_) (fun c => absurd c (by decide))
            refine lv_aload_n hx hb dX5_call_128 rfl (lv_at hl 2 rfl) ?_
            refine lv_iload_n hx hb dX5_call_129 rfl (lv_at hl 3 rfl) ?_
            refine lv_iload hx hb dX5_call_130 (lv_at hl 1 rfl) ?_
            refine lv_iload hx hb dX5_call_132 (lv_at hl 0 rfl) ?_
            refine lv_iload hx hb dX5_call_134 (lv_at hl 6 rfl) ?_
            refine lv_iload hx hb dX5_call_136 (lv_at hl 7 rfl) ?_
            refine lv_iconst (v := 1) hx hb dX5_call_138 (by decide) ?_
            refine lv_iadd hx hb dX5_call_139 ?_
            obtain ⟨hPc, hDc, hFc⟩ := kk_cutout (wc := [(h0, Sum.inr (5, [Value.ref h1, Value.int n0_size, Value.ref h2, Value.int (n0_ran + 1)])), (h1, Sum.inl (cint, 50, Sum.inl f1)), (h2, Sum.inl (cint, 24, Sum.inl f_48_0))]) hP hD hS hA [0, 1, 2] (by decide) rfl
            have hKc := hK.sub (tys' := [(cint, .int)]) [0] rfl
            refine va_calli (va_runV (As := [.int p0, .int 1, .int 20, .int p3, .int (p4 + 1)]) (rest := []) ⟨hx, hb, hml, hown, hts⟩ (g_X5_runUnder_0 l dC dI h0 h1 h2 cint H.size p0 p3 (p4 + 1) n0_size (n0_ran + 1) f1 f_48_0 tn0_size (by show 0 ≤ ((n0_ran + 1) : Int32).toInt ∧ ((n0_ran + 1) : Int32).toInt ≤ 999; first | decide | (constructor <;> (have := kk_rng p4; have := kk_add2 (x := n0_ran) (y := 1) (a := n0_ran.toInt) (b := 1) rfl rfl (by omega) (by omega); have := kk_rng p4; have := kk_add2 (x := p4) (y := 1) (a := p4.toInt) (b := 1) rfl rfl (by omega) (by omega); omega))) bf1 aOWN_BODIES aABOVE) (cwV 5 hts gX5_call_X5_runUnder rfl rfl rfl (by decide +kernel) ⟨Nat.le_of_ble_eq_true rfl, Nat.le_of_ble_eq_true rfl⟩) ⟨fun a U g mk q => by obtain ⟨q0, q1, qP, qK, qD, qx0, qx1, qx2, qx3⟩ := q; exact ⟨q0, q1, qP, va_K.moved (u := U) (U := U.calling g mk a) (Vm.Alike.refl U.vm) qK, qD, va_Z.moved (u := U) (U := U.calling g mk a) (Vm.Alike.refl U.vm) qx0, va_T.moved (u := U) (U := U.calling g mk a) (Vm.Alike.refl U.vm) qx1, va_Z.moved (u := U) (U := U.calling g mk a) (Vm.Alike.refl U.vm) qx2, va_T.moved (u := U) (U := U.calling g mk a) (Vm.Alike.refl U.vm) qx3⟩, va_recv hKc hPc (ci := 5) (q0 := 0) rfl rfl, fun U hU hW => ⟨rfl, by rw [hU], by rw [hU]; exact hPc, va_K.moved hW.alike hKc, hDc.weaken (fun _ _ _ _ => trivial), by rw [hU]; exact ((hZOWN_BODIES.kept (fun a h1 h2 => hS.2.1 a h1 h2)).narrow hFc).moved hW.alike, by rw [hU]; exact ((hTOWN_BODIES.kept (fun a h1 h2 => hS.2.1 a h1 h2)).narrow hFc).moved hW.alike, by rw [hU]; exact ((hZABOVE.kept (fun a h1 h2 => hS.2.1 a h1 h2)).narrow hFc).moved hW.alike, by rw [hU]; exact ((hTABOVE.kept (fun a h1 h2 => hS.2.1 a h1 h2)).narrow hFc).moved hW.alike⟩⟩ rfl rfl hl.1 rfl (lv_room (Nat.le_of_ble_eq_true rfl)) dX5_call_140 ⟨Nat.le_of_ble_eq_true rfl, Nat.le_of_ble_eq_true rfl⟩) hS (fun q _ h => hFc q h) hFc (fun r_49 u t H1 locs ht hvm hw hB hz1 hk1 hS => ?_)
            obtain ⟨y_50, f_51, by_50, v_51_0, hP1, hK1, hD1⟩ := hB
            have v_51_0 : y_50.toInt ≤ (n0_ran + 1).toInt + 1 := v_51_0
            rw [ht] at hP1
            have hK1 := va_K.moved hvm.symm hK1
            obtain ⟨hP, hD⟩ := va_join (wr := []) (w1 := [(h0, Sum.inr (5, [Value.ref h1, Value.int n0_size, Value.ref h2, Value.int y_50])), (h1, Sum.inl (cint, 50, Sum.inl f1)), (h2, Sum.inl (cint, 24, Sum.inl f_51))]) hP hD [0, 1, 2] [] rfl rfl (by decide) (by decide) hk1 hFc hP1 hD1
            generalize H1 = H at hP hS ⊢
            have hP : va_P (dC, dI) vwCl [(h0, Sum.inr (5, [Value.ref h1, Value.int n0_size, Value.ref h2, Value.int y_50])), (h1, Sum.inl (cint, 50, Sum.inl f1)), (h2, Sum.inl (cint, 24, Sum.inl f_51))] H := hP
            have hD : va_D A [(h0, Sum.inr (5, [Value.ref h1, Value.int n0_size, Value.ref h2, Value.int y_50])), (h1, Sum.inl (cint, 50, Sum.inl f1)), (h2, Sum.inl (cint, 24, Sum.inl f_51))] := hD
            obtain ⟨hP9, hD9⟩ := kk_leafout (wc := [(h0, Sum.inr (5, [Value.ref h1, Value.int n0_size, Value.ref h2, Value.int y_50])), (h1, Sum.inl (cint, 50, Sum.inl f1)), (h2, Sum.inl (cint, 24, Sum.inl f_51))]) hP hD [0, 1, 2] (by decide) rfl
            have hK9 := hK.sub (tys' := []) [] rfl
            exact W.iret (v := r_49) hx hb hr (fun t ht hW => ⟨⟨r_49, (), rfl, trivial, y_50, f_51, (by show 0 ≤ (y_50 : Int32).toInt ∧ (y_50 : Int32).toInt ≤ 1000; first | decide | (constructor <;> (have := kk_rng p4; have := kk_add2 (x := n0_ran) (y := 1) (a := n0_ran.toInt) (b := 1) rfl rfl (by omega) (by omega); have := kk_rng p4; have := kk_add2 (x := p4) (y := 1) (a := p4.toInt) (b := 1) rfl rfl (by omega) (by omega); omega))), (by show (y_50 : Int32).toInt ≤ (n0_ran : Int32).toInt + 3; first | decide | (have := kk_rng p4; have := kk_add2 (x := n0_ran) (y := 1) (a := n0_ran.toInt) (b := 1) rfl rfl (by omega) (by omega); have := kk_rng p4; have := kk_add2 (x := p4) (y := 1) (a := p4.toInt) (b := 1) rfl rfl (by omega) (by omega); omega)), by rw [ht]; exact hP9, va_K.moved hW.alike hK9, hD9⟩, hS.F ht⟩) hS.2.2 dX5_call_143
          · skip
            refine lv_icmp_ge (tgt := 97) hx hb dX5_call_83 (by decide) (fun c_52 => ?_) (fun c_52 => ?_)
            · have t_52 : 24 ≤ n0_ran.toInt := kk_le c_52
              exact hcut_48 (f2) _ _ _ ⟨hP, hD, hS, lv_sub hl [0, 1, 2, 3, 4, 5, 6, 7] rfl⟩
            · have t_52 : n0_ran.toInt < 24 := kk_nle c_52
              refine lv_aload_n hx hb dX5_call_86 rfl (lv_at hl 2 rfl) ?_
              refine va_get (D := (dC, dI)) (ci := 5) (v := .ref h2) (C := RX5) (T := TX5) (N := 4) hx hb hts (fun _ h => List.mem_cons_of_mem _ (List.mem_append_right _ h)) hown hK hP 0 rfl rfl 2 (by decide) (hts (.fieldLink RX5 15 "KinkStreet$Lines" "trace" "[I") (List.mem_of_getElem? (i := 4) rfl)) (fun _ h9 => h9) rfl dX5_call_87 ?_
              refine lv_aload_n hx hb dX5_call_90 rfl (lv_at hl 2 rfl) ?_
              refine va_get (D := (dC, dI)) (ci := 5) (v := .int n0_ran) (C := RX5) (T := TX5) (N := 4) hx hb hts (fun _ h => List.mem_cons_of_mem _ (List.mem_append_right _ h)) hown hK hP 0 rfl rfl 3 (by decide) (hts (.fieldLink RX5 36 "KinkStreet$Lines" "ran" "I") (List.mem_of_getElem? (i := 3) rfl)) (fun _ h9 => h9) rfl dX5_call_91 ?_
              refine lv_iload hx hb dX5_call_94 (lv_at hl 0 rfl) ?_
              refine va_iast hx hb hK hP hD hS 2 0 rfl rfl (vp_in_iff.mpr ⟨by have := kk_rng p4; omega, by have := kk_rng p4; omega⟩) dX5_call_96 (fun H locs hP hD hS => ?_)
              generalize upd f2 (n0_ran : Int32).toNatClampNeg 20 = f_53 at hP hD
              have hP : va_P (dC, dI) vwCl [(h0, Sum.inr (5, [Value.ref h1, Value.int n0_size, Value.ref h2, Value.int n0_ran])), (h1, Sum.inl (cint, 50, Sum.inl f1)), (h2, Sum.inl (cint, 24, Sum.inl f_53))] H := hP
              have hD : va_D A [(h0, Sum.inr (5, [Value.ref h1, Value.int n0_size, Value.ref h2, Value.int n0_ran])), (h1, Sum.inl (cint, 50, Sum.inl f1)), (h2, Sum.inl (cint, 24, Sum.inl f_53))] := hD
              exact hcut_48 (f_53) _ _ _ ⟨hP, hD, hS, lv_sub hl [0, 1, 2, 3, 4, 5, 6, 7] rfl⟩
        · have t_43 : 40 < p4.toInt := kk_nle c_43
          refine lv_iconst (v := 0) hx hb dX5_call_63 (by decide) ?_
          obtain ⟨hP9, hD9⟩ := kk_leafout (wc := [(h0, Sum.inr (5, [Value.ref h1, Value.int n0_size, Value.ref h2, Value.int n0_ran])), (h1, Sum.inl (cint, 50, Sum.inl f1)), (h2, Sum.inl (cint, 24, Sum.inl f2))]) hP hD [0, 1, 2] (by decide) rfl
          have hK9 := hK.sub (tys' := []) [] rfl
          exact W.iret (v := 0) hx hb hr (fun t ht hW => ⟨⟨0, (), rfl, trivial, n0_ran, f2, (by show 0 ≤ (n0_ran : Int32).toInt ∧ (n0_ran : Int32).toInt ≤ 1000; first | decide | (constructor <;> (have := kk_rng p4; omega))), (by show (n0_ran : Int32).toInt ≤ (n0_ran : Int32).toInt + 3; first | decide | (have := kk_rng p4; omega)), by rw [ht]; exact hP9, va_K.moved hW.alike hK9, hD9⟩, hS.F ht⟩) hS.2.2 dX5_call_64
  · have t_1 : p1.toInt = 2 := by rw [e_1]; rfl
    subst e_1
    refine lv_iload_n hx hb dX5_call_0 rfl (lv_at hl 2 rfl) ?_
    refine lv_istore (lv' := [(6, .int 2), (0, .ref h0), (1, .int p0), (2, .int 2), (3, .int 0), (4, .int p3), (5, .int p4)]) hx hb dX5_call_1 hl (by decide) rfl (fun ls hl => ?_)
    refine lv_iconst (v := 0) hx hb dX5_call_3 (by decide) ?_
    refine lv_istore (lv' := [(7, .int 0), (6, .int 2), (0, .ref h0), (1, .int p0), (2, .int 2), (3, .int 0), (4, .int p3), (5, .int p4)]) hx hb dX5_call_4 hl (by decide) rfl (fun ls hl => ?_)
    refine lv_iload hx hb dX5_call_6 (lv_at hl 0 rfl) ?_
    refine lv_bipush (v := 8) hx hb dX5_call_8 (by decide) ?_
    refine lv_icmp_ge (tgt := 48) hx hb dX5_call_10 (by decide) (fun c => absurd c (by decide)) (fun _ => ?_)
    refine lv_iload hx hb dX5_call_13 (lv_at hl 1 rfl) ?_
    obtain ⟨hPc, hDc, hFc⟩ := kk_cutout (wc := []) hP hD hS hA [] (by decide) rfl
    have hKc := hK.sub (tys' := []) [] rfl
    refine va_calli (va_runS (As := [.int 2]) (rest := []) ⟨hx, hb, hml, hown, hts⟩ (g_X5_isKind_0 l dC dI s.heap.size 2) (va_cwS 1 hts gX5_call_X5_isKind rfl rfl rfl (by decide +kernel) ⟨Nat.le_of_ble_eq_true rfl, Nat.le_of_ble_eq_true rfl⟩) ⟨fun a U g mk q => by obtain ⟨q0, q1, qP, qK, qD⟩ := q; exact ⟨q0, q1, qP, va_K.moved (u := U) (U := U.calling g mk a) (Vm.Alike.refl U.vm) qK, qD⟩, fun U hU hW => ⟨rfl, by rw [hU], by rw [hU]; exact hPc, va_K.moved hW.alike hKc, hDc.weaken (fun _ _ _ _ => trivial)⟩⟩ rfl rfl hl.1 rfl (lv_room (Nat.le_of_ble_eq_true rfl)) dX5_call_15 ⟨Nat.le_of_ble_eq_true rfl, Nat.le_of_ble_eq_true rfl⟩) hS (fun q _ h => hFc q h) hFc (fun r_54 u t H1 locs ht hvm hw hB hz1 hk1 hS => ?_)
    obtain ⟨hP1, hK1, hD1⟩ := hB
    rw [ht] at hP1
    have hK1 := va_K.moved hvm.symm hK1
    obtain ⟨hP, hD⟩ := va_join (wr := [(h0, Sum.inr (5, [Value.ref h1, Value.int n0_size, Value.ref h2, Value.int n0_ran])), (h1, Sum.inl (cint, 50, Sum.inl f1)), (h2, Sum.inl (cint, 24, Sum.inl f2))]) (w1 := []) hP hD [] [0, 1, 2] rfl rfl (by decide) (by decide) hk1 hFc hP1 hD1
    generalize H1 = H at hP hS ⊢
    have hP : va_P (dC, dI) vwCl [(h0, Sum.inr (5, [Value.ref h1, Value.int n0_size, Value.ref h2, Value.int n0_ran])), (h1, Sum.inl (cint, 50, Sum.inl f1)), (h2, Sum.inl (cint, 24, Sum.inl f2))] H := hP
    have hD : va_D A [(h0, Sum.inr (5, [Value.ref h1, Value.int n0_size, Value.ref h2, Value.int n0_ran])), (h1, Sum.inl (cint, 50, Sum.inl f1)), (h2, Sum.inl (cint, 24, Sum.inl f2))] := hD
    rcases hw with ⟨rfl⟩ | ⟨t_54_0, t_54_1, rfl⟩
    · skip
      refine lv_if_eq (tgt := 48) hx hb dX5_call_18 (by decide) (fun _ => ?_) (fun c => absurd c (by decide))
      refine lv_iload hx hb dX5_call_48 (lv_at hl 1 rfl) ?_
      obtain ⟨hPc, hDc, hFc⟩ := kk_cutout (wc := []) hP hD hS hA [] (by decide) rfl
      have hKc := hK.sub (tys' := []) [] rfl
      refine va_calli (va_runS (As := [.int 2]) (rest := []) ⟨hx, hb, hml, hown, hts⟩ (g_X5_isKind_0 l dC dI H.size 2) (va_cwS 1 hts gX5_call_X5_isKind rfl rfl rfl (by decide +kernel) ⟨Nat.le_of_ble_eq_true rfl, Nat.le_of_ble_eq_true rfl⟩) ⟨fun a U g mk q => by obtain ⟨q0, q1, qP, qK, qD⟩ := q; exact ⟨q0, q1, qP, va_K.moved (u := U) (U := U.calling g mk a) (Vm.Alike.refl U.vm) qK, qD⟩, fun U hU hW => ⟨rfl, by rw [hU], by rw [hU]; exact hPc, va_K.moved hW.alike hKc, hDc.weaken (fun _ _ _ _ => trivial)⟩⟩ rfl rfl hl.1 rfl (lv_room (Nat.le_of_ble_eq_true rfl)) dX5_call_50 ⟨Nat.le_of_ble_eq_true rfl, Nat.le_of_ble_eq_true rfl⟩) hS (fun q _ h => hFc q h) hFc (fun r_55 u t H1 locs ht hvm hw hB hz1 hk1 hS => ?_)
      obtain ⟨hP1, hK1, hD1⟩ := hB
      rw [ht] at hP1
      have hK1 := va_K.moved hvm.symm hK1
      obtain ⟨hP, hD⟩ := va_join (wr := [(h0, Sum.inr (5, [Value.ref h1, Value.int n0_size, Value.ref h2, Value.int n0_ran])), (h1, Sum.inl (cint, 50, Sum.inl f1)), (h2, Sum.inl (cint, 24, Sum.inl f2))]) (w1 := []) hP hD [] [0, 1, 2] rfl rfl (by decide) (by decide) hk1 hFc hP1 hD1
      generalize H1 = H at hP hS ⊢
      have hP : va_P (dC, dI) vwCl [(h0, Sum.inr (5, [Value.ref h1, Value.int n0_size, Value.ref h2, Value.int n0_ran])), (h1, Sum.inl (cint, 50, Sum.inl f1)), (h2, Sum.inl (cint, 24, Sum.inl f2))] H := hP
      have hD : va_D A [(h0, Sum.inr (5, [Value.ref h1, Value.int n0_size, Value.ref h2, Value.int n0_ran])), (h1, Sum.inl (cint, 50, Sum.inl f1)), (h2, Sum.inl (cint, 24, Sum.inl f2))] := hD
      rcases hw with ⟨rfl⟩ | ⟨t_55_0, t_55_1, rfl⟩
      · skip
        refine lv_if_eq (tgt := 63) hx hb dX5_call_53 (by decide) (fun _ => ?_) (fun c => absurd c (by decide))
        refine lv_iconst (v := 0) hx hb dX5_call_63 (by decide) ?_
        obtain ⟨hP9, hD9⟩ := kk_leafout (wc := [(h0, Sum.inr (5, [Value.ref h1, Value.int n0_size, Value.ref h2, Value.int n0_ran])), (h1, Sum.inl (cint, 50, Sum.inl f1)), (h2, Sum.inl (cint, 24, Sum.inl f2))]) hP hD [0, 1, 2] (by decide) rfl
        have hK9 := hK.sub (tys' := []) [] rfl
        exact W.iret (v := 0) hx hb hr (fun t ht hW => ⟨⟨0, (), rfl, trivial, n0_ran, f2, (by show 0 ≤ (n0_ran : Int32).toInt ∧ (n0_ran : Int32).toInt ≤ 1000; first | decide | (constructor <;> (omega))), (by show (n0_ran : Int32).toInt ≤ (n0_ran : Int32).toInt + 3; first | decide | (omega)), by rw [ht]; exact hP9, va_K.moved hW.alike hK9, hD9⟩, hS.F ht⟩) hS.2.2 dX5_call_64
      · skip
        have t_55_0 : (0 : Int) ≤ 2 := t_55_0
        have t_55_1 : (2 : Int) < 8 := t_55_1
        refine lv_if_eq (tgt := 63) hx hb dX5_call_53 (by decide) (fun c => absurd c (by decide)) (fun _ => ?_)
        refine lv_iload hx hb dX5_call_56 (lv_at hl 7 rfl) ?_
        refine lv_bipush (v := 40) hx hb dX5_call_58 (by decide) ?_
        refine lv_icmp_le (tgt := 65) hx hb dX5_call_60 (by decide) (fun c_56 => ?_) (fun c_56 => ?_)
        · have t_56 : p4.toInt ≤ 40 := kk_le c_56
          refine va_gets hx hb hZOWN_BODIES hS hown (hts (.fieldLink RX5 43 "KinkStreet$Lines" "OWN_BODIES" "[I") (List.mem_of_getElem? (i := 1) rfl)) (fun _ h9 => h9) dX5_call_65 ?_
          refine lv_iload hx hb dX5_call_68 (lv_at hl 1 rfl) ?_
          refine lv_iconst (v := 4) hx hb dX5_call_70 (by decide) ?_
          refine lv_imul hx hb dX5_call_71 ?_
          refine lv_topi (fun y_57 e_57 => ?_)
          obtain rfl : y_57 = 8 := e_57.trans (by decide)
          refine lv_iload_n hx hb dX5_call_72 rfl (lv_at hl 5 rfl) ?_
          refine lv_iadd hx hb dX5_call_73 ?_
          refine lv_topi (fun y_58 e_58 => ?_)
          obtain rfl : y_58 = 8 := e_58.trans (by decide)
          refine va_ti (v := .int 0) hx hb hTOWN_BODIES hS (by unfold vp_in; decide) rfl dX5_call_74 ?_
          refine lv_istore (lv' := [(7, .int 0), (6, .int 2), (0, .ref h0), (1, .int p0), (2, .int 2), (3, .int 0), (4, .int p3), (5, .int p4)]) hx hb dX5_call_75 hl (by decide) rfl (fun ls hl => ?_)
          refine lv_aload_n hx hb dX5_call_77 rfl (lv_at hl 2 rfl) ?_
          refine va_get (D := (dC, dI)) (ci := 5) (v := .int n0_ran) (C := RX5) (T := TX5) (N := 4) hx hb hts (fun _ h => List.mem_cons_of_mem _ (List.mem_append_right _ h)) hown hK hP 0 rfl rfl 3 (by decide) (hts (.fieldLink RX5 36 "KinkStreet$Lines" "ran" "I") (List.mem_of_getElem? (i := 3) rfl)) (fun _ h9 => h9) rfl dX5_call_78 ?_
          refine lv_bipush (v := 24) hx hb dX5_call_81 (by decide) ?_
          refine kk_cut (σ := (Nat → Int32)) (pc' := 97) (fun x H locs ls => va_P (dC, dI) vwCl [(h0, Sum.inr (5, [Value.ref h1, Value.int n0_size, Value.ref h2, Value.int n0_ran])), (h1, Sum.inl (cint, 50, Sum.inl f1)), (h2, Sum.inl (cint, 24, Sum.inl x))] H ∧ va_D A [(h0, Sum.inr (5, [Value.ref h1, Value.int n0_size, Value.ref h2, Value.int n0_ran])), (h1, Sum.inl (cint, 50, Sum.inl f1)), (h2, Sum.inl (cint, 24, Sum.inl x))] ∧ va_S A s.heap H locs ∧ lv_has ls 8 [(7, .int 0), (6, .int 2), (0, .ref h0), (1, .int p0), (2, .int 2), (3, .int 0), (4, .int p3), (5, .int p4)]) ?_ (fun hcut_61 => ?_)
          · rintro f_61_0 H locs ls ⟨hP, hD, hS, hl⟩
            have hl : lv_has ls 8 [(7, .int 0), (6, .int 2), (0, .ref h0), (1, .int p0), (2, .int 2), (3, .int 0), (4, .int p3), (5, .int p4)] := hl
            have hP : va_P (dC, dI) vwCl [(h0, Sum.inr (5, [Value.ref h1, Value.int n0_size, Value.ref h2, Value.int n0_ran])), (h1, Sum.inl (cint, 50, Sum.inl f1)), (h2, Sum.inl (cint, 24, Sum.inl f_61_0))] H := hP
            have hD : va_D A [(h0, Sum.inr (5, [Value.ref h1, Value.int n0_size, Value.ref h2, Value.int n0_ran])), (h1, Sum.inl (cint, 50, Sum.inl f1)), (h2, Sum.inl (cint, 24, Sum.inl f_61_0))] := hD
            refine lv_aload_n hx hb dX5_call_97 rfl (lv_at hl 2 rfl) ?_
            refine lv_dup hx hb dX5_call_98 rfl ?_
            refine va_get (D := (dC, dI)) (ci := 5) (v := .int n0_ran) (C := RX5) (T := TX5) (N := 4) hx hb hts (fun _ h => List.mem_cons_of_mem _ (List.mem_append_right _ h)) hown hK hP 0 rfl rfl 3 (by decide) (hts (.fieldLink RX5 36 "KinkStreet$Lines" "ran" "I") (List.mem_of_getElem? (i := 3) rfl)) (fun _ h9 => h9) rfl dX5_call_99 ?_
            refine lv_iconst (v := 1) hx hb dX5_call_102 (by decide) ?_
            refine lv_iadd hx hb dX5_call_103 ?_
            refine va_put (D := (dC, dI)) (ci := 5) (v := .int (n0_ran + 1)) (ty := .int) (C := RX5) (T := TX5) (N := 4) hx hb hts (fun _ h => List.mem_cons_of_mem _ (List.mem_append_right _ h)) tyX5 tyX5_ok nmX5 hown hK hP hD hS 0 rfl rfl 3 (by decide) (hts (.fieldLink RX5 36 "KinkStreet$Lines" "ran" "I") (List.mem_of_getElem? (i := 3) rfl)) (fun _ h9 => h9) rfl (by decide +kernel) rfl rfl (Nat.le_of_ble_eq_true rfl) dX5_call_104 (fun H locs hP hD hS => ?_)
            have hP : va_P (dC, dI) vwCl [(h0, Sum.inr (5, [Value.ref h1, Value.int n0_size, Value.ref h2, Value.int (n0_ran + 1)])), (h1, Sum.inl (cint, 50, Sum.inl f1)), (h2, Sum.inl (cint, 24, Sum.inl f_61_0))] H := hP
            have hD : va_D A [(h0, Sum.inr (5, [Value.ref h1, Value.int n0_size, Value.ref h2, Value.int (n0_ran + 1)])), (h1, Sum.inl (cint, 50, Sum.inl f1)), (h2, Sum.inl (cint, 24, Sum.inl f_61_0))] := hD
            refine lv_iload hx hb dX5_call_107 (lv_at hl 1 rfl) ?_
            refine lv_if_ne (tgt := 128) hx hb dX5_call_109 (by decide) (fun _ => ?_) (fun c => absurd c (by decide))
            refine lv_aload_n hx hb dX5_call_128 rfl (lv_at hl 2 rfl) ?_
            refine lv_iload_n hx hb dX5_call_129 rfl (lv_at hl 3 rfl) ?_
            refine lv_iload hx hb dX5_call_130 (lv_at hl 1 rfl) ?_
            refine lv_iload hx hb dX5_call_132 (lv_at hl 0 rfl) ?_
            refine lv_iload hx hb dX5_call_134 (lv_at hl 6 rfl) ?_
            refine lv_iload hx hb dX5_call_136 (lv_at hl 7 rfl) ?_
            refine lv_iconst (v := 1) hx hb dX5_call_138 (by decide) ?_
            refine lv_iadd hx hb dX5_call_139 ?_
            obtain ⟨hPc, hDc, hFc⟩ := kk_cutout (wc := [(h0, Sum.inr (5, [Value.ref h1, Value.int n0_size, Value.ref h2, Value.int (n0_ran + 1)])), (h1, Sum.inl (cint, 50, Sum.inl f1)), (h2, Sum.inl (cint, 24, Sum.inl f_61_0))]) hP hD hS hA [0, 1, 2] (by decide) rfl
            have hKc := hK.sub (tys' := [(cint, .int)]) [0] rfl
            refine va_calli (va_runV (As := [.int p0, .int 2, .int 0, .int p3, .int (p4 + 1)]) (rest := []) ⟨hx, hb, hml, hown, hts⟩ (g_X5_runUnder_1 l dC dI h0 h1 h2 cint H.size p0 p3 (p4 + 1) n0_size (n0_ran + 1) f1 f_61_0 tn0_size (by show 0 ≤ ((n0_ran + 1) : Int32).toInt ∧ ((n0_ran + 1) : Int32).toInt ≤ 999; first | decide | (constructor <;> (have := kk_rng p4; have := kk_add2 (x := n0_ran) (y := 1) (a := n0_ran.toInt) (b := 1) rfl rfl (by omega) (by omega); have := kk_rng p4; have := kk_add2 (x := p4) (y := 1) (a := p4.toInt) (b := 1) rfl rfl (by omega) (by omega); omega))) bf1 aOWN_BODIES aABOVE) (cwV 5 hts gX5_call_X5_runUnder rfl rfl rfl (by decide +kernel) ⟨Nat.le_of_ble_eq_true rfl, Nat.le_of_ble_eq_true rfl⟩) ⟨fun a U g mk q => by obtain ⟨q0, q1, qP, qK, qD, qx0, qx1, qx2, qx3⟩ := q; exact ⟨q0, q1, qP, va_K.moved (u := U) (U := U.calling g mk a) (Vm.Alike.refl U.vm) qK, qD, va_Z.moved (u := U) (U := U.calling g mk a) (Vm.Alike.refl U.vm) qx0, va_T.moved (u := U) (U := U.calling g mk a) (Vm.Alike.refl U.vm) qx1, va_Z.moved (u := U) (U := U.calling g mk a) (Vm.Alike.refl U.vm) qx2, va_T.moved (u := U) (U := U.calling g mk a) (Vm.Alike.refl U.vm) qx3⟩, va_recv hKc hPc (ci := 5) (q0 := 0) rfl rfl, fun U hU hW => ⟨rfl, by rw [hU], by rw [hU]; exact hPc, va_K.moved hW.alike hKc, hDc.weaken (fun _ _ _ _ => trivial), by rw [hU]; exact ((hZOWN_BODIES.kept (fun a h1 h2 => hS.2.1 a h1 h2)).narrow hFc).moved hW.alike, by rw [hU]; exact ((hTOWN_BODIES.kept (fun a h1 h2 => hS.2.1 a h1 h2)).narrow hFc).moved hW.alike, by rw [hU]; exact ((hZABOVE.kept (fun a h1 h2 => hS.2.1 a h1 h2)).narrow hFc).moved hW.alike, by rw [hU]; exact ((hTABOVE.kept (fun a h1 h2 => hS.2.1 a h1 h2)).narrow hFc).moved hW.alike⟩⟩ rfl rfl hl.1 rfl (lv_room (Nat.le_of_ble_eq_true rfl)) dX5_call_140 ⟨Nat.le_of_ble_eq_true rfl, Nat.le_of_ble_eq_true rfl⟩) hS (fun q _ h => hFc q h) hFc (fun r_62 u t H1 locs ht hvm hw hB hz1 hk1 hS => ?_)
            obtain ⟨y_63, f_64, by_63, v_64_0, hP1, hK1, hD1⟩ := hB
            have v_64_0 : y_63.toInt ≤ (n0_ran + 1).toInt + 1 := v_64_0
            rw [ht] at hP1
            have hK1 := va_K.moved hvm.symm hK1
            obtain ⟨hP, hD⟩ := va_join (wr := []) (w1 := [(h0, Sum.inr (5, [Value.ref h1, Value.int n0_size, Value.ref h2, Value.int y_63])), (h1, Sum.inl (cint, 50, Sum.inl f1)), (h2, Sum.inl (cint, 24, Sum.inl f_64))]) hP hD [0, 1, 2] [] rfl rfl (by decide) (by decide) hk1 hFc hP1 hD1
            generalize H1 = H at hP hS ⊢
            have hP : va_P (dC, dI) vwCl [(h0, Sum.inr (5, [Value.ref h1, Value.int n0_size, Value.ref h2, Value.int y_63])), (h1, Sum.inl (cint, 50, Sum.inl f1)), (h2, Sum.inl (cint, 24, Sum.inl f_64))] H := hP
            have hD : va_D A [(h0, Sum.inr (5, [Value.ref h1, Value.int n0_size, Value.ref h2, Value.int y_63])), (h1, Sum.inl (cint, 50, Sum.inl f1)), (h2, Sum.inl (cint, 24, Sum.inl f_64))] := hD
            obtain ⟨hP9, hD9⟩ := kk_leafout (wc := [(h0, Sum.inr (5, [Value.ref h1, Value.int n0_size, Value.ref h2, Value.int y_63])), (h1, Sum.inl (cint, 50, Sum.inl f1)), (h2, Sum.inl (cint, 24, Sum.inl f_64))]) hP hD [0, 1, 2] (by decide) rfl
            have hK9 := hK.sub (tys' := []) [] rfl
            exact W.iret (v := r_62) hx hb hr (fun t ht hW => ⟨⟨r_62, (), rfl, trivial, y_63, f_64, (by show 0 ≤ (y_63 : Int32).toInt ∧ (y_63 : Int32).toInt ≤ 1000; first | decide | (constructor <;> (have := kk_rng p4; have := kk_add2 (x := n0_ran) (y := 1) (a := n0_ran.toInt) (b := 1) rfl rfl (by omega) (by omega); have := kk_rng p4; have := kk_add2 (x := p4) (y := 1) (a := p4.toInt) (b := 1) rfl rfl (by omega) (by omega); omega))), (by show (y_63 : Int32).toInt ≤ (n0_ran : Int32).toInt + 3; first | decide | (have := kk_rng p4; have := kk_add2 (x := n0_ran) (y := 1) (a := n0_ran.toInt) (b := 1) rfl rfl (by omega) (by omega); have := kk_rng p4; have := kk_add2 (x := p4) (y := 1) (a := p4.toInt) (b := 1) rfl rfl (by omega) (by omega); omega)), by rw [ht]; exact hP9, va_K.moved hW.alike hK9, hD9⟩, hS.F ht⟩) hS.2.2 dX5_call_143
          · skip
            refine lv_icmp_ge (tgt := 97) hx hb dX5_call_83 (by decide) (fun c_65 => ?_) (fun c_65 => ?_)
            · have t_65 : 24 ≤ n0_ran.toInt := kk_le c_65
              exact hcut_61 (f2) _ _ _ ⟨hP, hD, hS, lv_sub hl [0, 1, 2, 3, 4, 5, 6, 7] rfl⟩
            · have t_65 : n0_ran.toInt < 24 := kk_nle c_65
              refine lv_aload_n hx hb dX5_call_86 rfl (lv_at hl 2 rfl) ?_
              refine va_get (D := (dC, dI)) (ci := 5) (v := .ref h2) (C := RX5) (T := TX5) (N := 4) hx hb hts (fun _ h => List.mem_cons_of_mem _ (List.mem_append_right _ h)) hown hK hP 0 rfl rfl 2 (by decide) (hts (.fieldLink RX5 15 "KinkStreet$Lines" "trace" "[I") (List.mem_of_getElem? (i := 4) rfl)) (fun _ h9 => h9) rfl dX5_call_87 ?_
              refine lv_aload_n hx hb dX5_call_90 rfl (lv_at hl 2 rfl) ?_
              refine va_get (D := (dC, dI)) (ci := 5) (v := .int n0_ran) (C := RX5) (T := TX5) (N := 4) hx hb hts (fun _ h => List.mem_cons_of_mem _ (List.mem_append_right _ h)) hown hK hP 0 rfl rfl 3 (by decide) (hts (.fieldLink RX5 36 "KinkStreet$Lines" "ran" "I") (List.mem_of_getElem? (i := 3) rfl)) (fun _ h9 => h9) rfl dX5_call_91 ?_
              refine lv_iload hx hb dX5_call_94 (lv_at hl 0 rfl) ?_
              refine va_iast hx hb hK hP hD hS 2 0 rfl rfl (vp_in_iff.mpr ⟨by have := kk_rng p4; omega, by have := kk_rng p4; omega⟩) dX5_call_96 (fun H locs hP hD hS => ?_)
              generalize upd f2 (n0_ran : Int32).toNatClampNeg 0 = f_66 at hP hD
              have hP : va_P (dC, dI) vwCl [(h0, Sum.inr (5, [Value.ref h1, Value.int n0_size, Value.ref h2, Value.int n0_ran])), (h1, Sum.inl (cint, 50, Sum.inl f1)), (h2, Sum.inl (cint, 24, Sum.inl f_66))] H := hP
              have hD : va_D A [(h0, Sum.inr (5, [Value.ref h1, Value.int n0_size, Value.ref h2, Value.int n0_ran])), (h1, Sum.inl (cint, 50, Sum.inl f1)), (h2, Sum.inl (cint, 24, Sum.inl f_66))] := hD
              exact hcut_61 (f_66) _ _ _ ⟨hP, hD, hS, lv_sub hl [0, 1, 2, 3, 4, 5, 6, 7] rfl⟩
        · have t_56 : 40 < p4.toInt := kk_nle c_56
          refine lv_iconst (v := 0) hx hb dX5_call_63 (by decide) ?_
          obtain ⟨hP9, hD9⟩ := kk_leafout (wc := [(h0, Sum.inr (5, [Value.ref h1, Value.int n0_size, Value.ref h2, Value.int n0_ran])), (h1, Sum.inl (cint, 50, Sum.inl f1)), (h2, Sum.inl (cint, 24, Sum.inl f2))]) hP hD [0, 1, 2] (by decide) rfl
          have hK9 := hK.sub (tys' := []) [] rfl
          exact W.iret (v := 0) hx hb hr (fun t ht hW => ⟨⟨0, (), rfl, trivial, n0_ran, f2, (by show 0 ≤ (n0_ran : Int32).toInt ∧ (n0_ran : Int32).toInt ≤ 1000; first | decide | (constructor <;> (have := kk_rng p4; omega))), (by show (n0_ran : Int32).toInt ≤ (n0_ran : Int32).toInt + 3; first | decide | (have := kk_rng p4; omega)), by rw [ht]; exact hP9, va_K.moved hW.alike hK9, hD9⟩, hS.F ht⟩) hS.2.2 dX5_call_64
    · skip
      have t_54_0 : (0 : Int) ≤ 2 := t_54_0
      have t_54_1 : (2 : Int) < 8 := t_54_1
      refine lv_if_eq (tgt := 48) hx hb dX5_call_18 (by decide) (fun c => absurd c (by decide)) (fun _ => ?_)
      refine va_gets hx hb hZOWN_BODIES hS hown (hts (.fieldLink RX5 43 "KinkStreet$Lines" "OWN_BODIES" "[I") (List.mem_of_getElem? (i := 1) rfl)) (fun _ h9 => h9) dX5_call_21 ?_
      refine lv_iload hx hb dX5_call_24 (lv_at hl 1 rfl) ?_
      refine lv_iconst (v := 4) hx hb dX5_call_26 (by decide) ?_
      refine lv_imul hx hb dX5_call_27 ?_
      refine lv_topi (fun y_67 e_67 => ?_)
      obtain rfl : y_67 = 8 := e_67.trans (by decide)
      refine lv_iload_n hx hb dX5_call_28 rfl (lv_at hl 5 rfl) ?_
      refine lv_iadd hx hb dX5_call_29 ?_
      refine lv_topi (fun y_68 e_68 => ?_)
      obtain rfl : y_68 = 8 := e_68.trans (by decide)
      refine va_ti (v := .int 0) hx hb hTOWN_BODIES hS (by unfold vp_in; decide) rfl dX5_call_30 ?_
      refine lv_if_ne (tgt := 48) hx hb dX5_call_31 (by decide) (fun c => absurd c (by decide)) (fun _ => ?_)
      refine va_gets hx hb hZABOVE hS hown (hts (.fieldLink RX5 22 "KinkStreet$Lines" "ABOVE" "[I") (List.mem_of_getElem? (i := 2) rfl)) (fun _ h9 => h9) dX5_call_34 ?_
      refine lv_iload hx hb dX5_call_37 (lv_at hl 1 rfl) ?_
      refine va_ti (v := .int 0) hx hb hTABOVE hS (by unfold vp_in; decide) rfl dX5_call_39 ?_
      refine lv_istore (lv' := [(6, .int 0), (7, .int 0), (0, .ref h0), (1, .int p0), (2, .int 2), (3, .int 0), (4, .int p3), (5, .int p4)]) hx hb dX5_call_40 hl (by decide) rfl (fun ls hl => ?_)
      refine lv_iinc (v := 1) (lv' := [(7, .int 1), (6, .int 0), (0, .ref h0), (1, .int p0), (2, .int 2), (3, .int 0), (4, .int p3), (5, .int p4)]) hx hb dX5_call_42 hl (k := 1) rfl (by first | rfl | decide) (by decide) rfl (fun ls hl => ?_)
      refine lv_goto (tgt := 6) hx hb dX5_call_45 (by decide) ?_
      refine lv_iload hx hb dX5_call_6 (lv_at hl 0 rfl) ?_
      refine lv_bipush (v := 8) hx hb dX5_call_8 (by decide) ?_
      refine lv_icmp_ge (tgt := 48) hx hb dX5_call_10 (by decide) (fun c => absurd c (by decide)) (fun _ => ?_)
      refine lv_iload hx hb dX5_call_13 (lv_at hl 1 rfl) ?_
      obtain ⟨hPc, hDc, hFc⟩ := kk_cutout (wc := []) hP hD hS hA [] (by decide) rfl
      have hKc := hK.sub (tys' := []) [] rfl
      refine va_calli (va_runS (As := [.int 0]) (rest := []) ⟨hx, hb, hml, hown, hts⟩ (g_X5_isKind_0 l dC dI H.size 0) (va_cwS 1 hts gX5_call_X5_isKind rfl rfl rfl (by decide +kernel) ⟨Nat.le_of_ble_eq_true rfl, Nat.le_of_ble_eq_true rfl⟩) ⟨fun a U g mk q => by obtain ⟨q0, q1, qP, qK, qD⟩ := q; exact ⟨q0, q1, qP, va_K.moved (u := U) (U := U.calling g mk a) (Vm.Alike.refl U.vm) qK, qD⟩, fun U hU hW => ⟨rfl, by rw [hU], by rw [hU]; exact hPc, va_K.moved hW.alike hKc, hDc.weaken (fun _ _ _ _ => trivial)⟩⟩ rfl rfl hl.1 rfl (lv_room (Nat.le_of_ble_eq_true rfl)) dX5_call_15 ⟨Nat.le_of_ble_eq_true rfl, Nat.le_of_ble_eq_true rfl⟩) hS (fun q _ h => hFc q h) hFc (fun r_69 u t H1 locs ht hvm hw hB hz1 hk1 hS => ?_)
      obtain ⟨hP1, hK1, hD1⟩ := hB
      rw [ht] at hP1
      have hK1 := va_K.moved hvm.symm hK1
      obtain ⟨hP, hD⟩ := va_join (wr := [(h0, Sum.inr (5, [Value.ref h1, Value.int n0_size, Value.ref h2, Value.int n0_ran])), (h1, Sum.inl (cint, 50, Sum.inl f1)), (h2, Sum.inl (cint, 24, Sum.inl f2))]) (w1 := []) hP hD [] [0, 1, 2] rfl rfl (by decide) (by decide) hk1 hFc hP1 hD1
      generalize H1 = H at hP hS ⊢
      have hP : va_P (dC, dI) vwCl [(h0, Sum.inr (5, [Value.ref h1, Value.int n0_size, Value.ref h2, Value.int n0_ran])), (h1, Sum.inl (cint, 50, Sum.inl f1)), (h2, Sum.inl (cint, 24, Sum.inl f2))] H := hP
      have hD : va_D A [(h0, Sum.inr (5, [Value.ref h1, Value.int n0_size, Value.ref h2, Value.int n0_ran])), (h1, Sum.inl (cint, 50, Sum.inl f1)), (h2, Sum.inl (cint, 24, Sum.inl f2))] := hD
      rcases hw with ⟨rfl⟩ | ⟨t_69_0, t_69_1, rfl⟩
      · skip
        refine lv_if_eq (tgt := 48) hx hb dX5_call_18 (by decide) (fun _ => ?_) (fun c => absurd c (by decide))
        refine lv_iload hx hb dX5_call_48 (lv_at hl 1 rfl) ?_
        obtain ⟨hPc, hDc, hFc⟩ := kk_cutout (wc := []) hP hD hS hA [] (by decide) rfl
        have hKc := hK.sub (tys' := []) [] rfl
        refine va_calli (va_runS (As := [.int 0]) (rest := []) ⟨hx, hb, hml, hown, hts⟩ (g_X5_isKind_0 l dC dI H.size 0) (va_cwS 1 hts gX5_call_X5_isKind rfl rfl rfl (by decide +kernel) ⟨Nat.le_of_ble_eq_true rfl, Nat.le_of_ble_eq_true rfl⟩) ⟨fun a U g mk q => by obtain ⟨q0, q1, qP, qK, qD⟩ := q; exact ⟨q0, q1, qP, va_K.moved (u := U) (U := U.calling g mk a) (Vm.Alike.refl U.vm) qK, qD⟩, fun U hU hW => ⟨rfl, by rw [hU], by rw [hU]; exact hPc, va_K.moved hW.alike hKc, hDc.weaken (fun _ _ _ _ => trivial)⟩⟩ rfl rfl hl.1 rfl (lv_room (Nat.le_of_ble_eq_true rfl)) dX5_call_50 ⟨Nat.le_of_ble_eq_true rfl, Nat.le_of_ble_eq_true rfl⟩) hS (fun q _ h => hFc q h) hFc (fun r_70 u t H1 locs ht hvm hw hB hz1 hk1 hS => ?_)
        obtain ⟨hP1, hK1, hD1⟩ := hB
        rw [ht] at hP1
        have hK1 := va_K.moved hvm.symm hK1
        obtain ⟨hP, hD⟩ := va_join (wr := [(h0, Sum.inr (5, [Value.ref h1, Value.int n0_size, Value.ref h2, Value.int n0_ran])), (h1, Sum.inl (cint, 50, Sum.inl f1)), (h2, Sum.inl (cint, 24, Sum.inl f2))]) (w1 := []) hP hD [] [0, 1, 2] rfl rfl (by decide) (by decide) hk1 hFc hP1 hD1
        generalize H1 = H at hP hS ⊢
        have hP : va_P (dC, dI) vwCl [(h0, Sum.inr (5, [Value.ref h1, Value.int n0_size, Value.ref h2, Value.int n0_ran])), (h1, Sum.inl (cint, 50, Sum.inl f1)), (h2, Sum.inl (cint, 24, Sum.inl f2))] H := hP
        have hD : va_D A [(h0, Sum.inr (5, [Value.ref h1, Value.int n0_size, Value.ref h2, Value.int n0_ran])), (h1, Sum.inl (cint, 50, Sum.inl f1)), (h2, Sum.inl (cint, 24, Sum.inl f2))] := hD
        rcases hw with ⟨rfl⟩ | ⟨t_70_0, t_70_1, rfl⟩
        · skip
          refine lv_if_eq (tgt := 63) hx hb dX5_call_53 (by decide) (fun _ => ?_) (fun c => absurd c (by decide))
          refine lv_iconst (v := 0) hx hb dX5_call_63 (by decide) ?_
          obtain ⟨hP9, hD9⟩ := kk_leafout (wc := [(h0, Sum.inr (5, [Value.ref h1, Value.int n0_size, Value.ref h2, Value.int n0_ran])), (h1, Sum.inl (cint, 50, Sum.inl f1)), (h2, Sum.inl (cint, 24, Sum.inl f2))]) hP hD [0, 1, 2] (by decide) rfl
          have hK9 := hK.sub (tys' := []) [] rfl
          exact W.iret (v := 0) hx hb hr (fun t ht hW => ⟨⟨0, (), rfl, trivial, n0_ran, f2, (by show 0 ≤ (n0_ran : Int32).toInt ∧ (n0_ran : Int32).toInt ≤ 1000; first | decide | (constructor <;> (omega))), (by show (n0_ran : Int32).toInt ≤ (n0_ran : Int32).toInt + 3; first | decide | (omega)), by rw [ht]; exact hP9, va_K.moved hW.alike hK9, hD9⟩, hS.F ht⟩) hS.2.2 dX5_call_64
        · skip
          have t_70_0 : (0 : Int) ≤ 0 := t_70_0
          have t_70_1 : (0 : Int) < 8 := t_70_1
          refine lv_if_eq (tgt := 63) hx hb dX5_call_53 (by decide) (fun c => absurd c (by decide)) (fun _ => ?_)
          refine lv_iload hx hb dX5_call_56 (lv_at hl 7 rfl) ?_
          refine lv_bipush (v := 40) hx hb dX5_call_58 (by decide) ?_
          refine lv_icmp_le (tgt := 65) hx hb dX5_call_60 (by decide) (fun c_71 => ?_) (fun c_71 => ?_)
          · have t_71 : p4.toInt ≤ 40 := kk_le c_71
            refine va_gets hx hb hZOWN_BODIES hS hown (hts (.fieldLink RX5 43 "KinkStreet$Lines" "OWN_BODIES" "[I") (List.mem_of_getElem? (i := 1) rfl)) (fun _ h9 => h9) dX5_call_65 ?_
            refine lv_iload hx hb dX5_call_68 (lv_at hl 1 rfl) ?_
            refine lv_iconst (v := 4) hx hb dX5_call_70 (by decide) ?_
            refine lv_imul hx hb dX5_call_71 ?_
            refine lv_topi (fun y_72 e_72 => ?_)
            obtain rfl : y_72 = 0 := e_72.trans (by decide)
            refine lv_iload_n hx hb dX5_call_72 rfl (lv_at hl 5 rfl) ?_
            refine lv_iadd hx hb dX5_call_73 ?_
            refine lv_topi (fun y_73 e_73 => ?_)
            obtain rfl : y_73 = 0 := e_73.trans (by decide)
            refine va_ti (v := .int 1) hx hb hTOWN_BODIES hS (by unfold vp_in; decide) rfl dX5_call_74 ?_
            refine lv_istore (lv' := [(7, .int 1), (6, .int 0), (0, .ref h0), (1, .int p0), (2, .int 2), (3, .int 0), (4, .int p3), (5, .int p4)]) hx hb dX5_call_75 hl (by decide) rfl (fun ls hl => ?_)
            refine lv_aload_n hx hb dX5_call_77 rfl (lv_at hl 2 rfl) ?_
            refine va_get (D := (dC, dI)) (ci := 5) (v := .int n0_ran) (C := RX5) (T := TX5) (N := 4) hx hb hts (fun _ h => List.mem_cons_of_mem _ (List.mem_append_right _ h)) hown hK hP 0 rfl rfl 3 (by decide) (hts (.fieldLink RX5 36 "KinkStreet$Lines" "ran" "I") (List.mem_of_getElem? (i := 3) rfl)) (fun _ h9 => h9) rfl dX5_call_78 ?_
            refine lv_bipush (v := 24) hx hb dX5_call_81 (by decide) ?_
            refine kk_cut (σ := (Nat → Int32)) (pc' := 97) (fun x H locs ls => va_P (dC, dI) vwCl [(h0, Sum.inr (5, [Value.ref h1, Value.int n0_size, Value.ref h2, Value.int n0_ran])), (h1, Sum.inl (cint, 50, Sum.inl f1)), (h2, Sum.inl (cint, 24, Sum.inl x))] H ∧ va_D A [(h0, Sum.inr (5, [Value.ref h1, Value.int n0_size, Value.ref h2, Value.int n0_ran])), (h1, Sum.inl (cint, 50, Sum.inl f1)), (h2, Sum.inl (cint, 24, Sum.inl x))] ∧ va_S A s.heap H locs ∧ lv_has ls 8 [(7, .int 1), (6, .int 0), (0, .ref h0), (1, .int p0), (2, .int 2), (3, .int 0), (4, .int p3), (5, .int p4)]) ?_ (fun hcut_76 => ?_)
            · rintro f_76_0 H locs ls ⟨hP, hD, hS, hl⟩
              have hl : lv_has ls 8 [(7, .int 1), (6, .int 0), (0, .ref h0), (1, .int p0), (2, .int 2), (3, .int 0), (4, .int p3), (5, .int p4)] := hl
              have hP : va_P (dC, dI) vwCl [(h0, Sum.inr (5, [Value.ref h1, Value.int n0_size, Value.ref h2, Value.int n0_ran])), (h1, Sum.inl (cint, 50, Sum.inl f1)), (h2, Sum.inl (cint, 24, Sum.inl f_76_0))] H := hP
              have hD : va_D A [(h0, Sum.inr (5, [Value.ref h1, Value.int n0_size, Value.ref h2, Value.int n0_ran])), (h1, Sum.inl (cint, 50, Sum.inl f1)), (h2, Sum.inl (cint, 24, Sum.inl f_76_0))] := hD
              refine lv_aload_n hx hb dX5_call_97 rfl (lv_at hl 2 rfl) ?_
              refine lv_dup hx hb dX5_call_98 rfl ?_
              refine va_get (D := (dC, dI)) (ci := 5) (v := .int n0_ran) (C := RX5) (T := TX5) (N := 4) hx hb hts (fun _ h => List.mem_cons_of_mem _ (List.mem_append_right _ h)) hown hK hP 0 rfl rfl 3 (by decide) (hts (.fieldLink RX5 36 "KinkStreet$Lines" "ran" "I") (List.mem_of_getElem? (i := 3) rfl)) (fun _ h9 => h9) rfl dX5_call_99 ?_
              refine lv_iconst (v := 1) hx hb dX5_call_102 (by decide) ?_
              refine lv_iadd hx hb dX5_call_103 ?_
              refine va_put (D := (dC, dI)) (ci := 5) (v := .int (n0_ran + 1)) (ty := .int) (C := RX5) (T := TX5) (N := 4) hx hb hts (fun _ h => List.mem_cons_of_mem _ (List.mem_append_right _ h)) tyX5 tyX5_ok nmX5 hown hK hP hD hS 0 rfl rfl 3 (by decide) (hts (.fieldLink RX5 36 "KinkStreet$Lines" "ran" "I") (List.mem_of_getElem? (i := 3) rfl)) (fun _ h9 => h9) rfl (by decide +kernel) rfl rfl (Nat.le_of_ble_eq_true rfl) dX5_call_104 (fun H locs hP hD hS => ?_)
              have hP : va_P (dC, dI) vwCl [(h0, Sum.inr (5, [Value.ref h1, Value.int n0_size, Value.ref h2, Value.int (n0_ran + 1)])), (h1, Sum.inl (cint, 50, Sum.inl f1)), (h2, Sum.inl (cint, 24, Sum.inl f_76_0))] H := hP
              have hD : va_D A [(h0, Sum.inr (5, [Value.ref h1, Value.int n0_size, Value.ref h2, Value.int (n0_ran + 1)])), (h1, Sum.inl (cint, 50, Sum.inl f1)), (h2, Sum.inl (cint, 24, Sum.inl f_76_0))] := hD
              refine lv_iload hx hb dX5_call_107 (lv_at hl 1 rfl) ?_
              refine lv_if_ne (tgt := 128) hx hb dX5_call_109 (by decide) (fun c => absurd c (by decide)) (fun _ => ?_)
              refine lv_aload_n hx hb dX5_call_112 rfl (lv_at hl 2 rfl) ?_
              refine lv_iload_n hx hb dX5_call_113 rfl (lv_at hl 3 rfl) ?_
              refine lv_iload hx hb dX5_call_114 (lv_at hl 0 rfl) ?_
              refine lv_iload hx hb dX5_call_116 (lv_at hl 6 rfl) ?_
              refine lv_iload hx hb dX5_call_118 (lv_at hl 7 rfl) ?_
              refine lv_iconst (v := 1) hx hb dX5_call_120 (by decide) ?_
              refine lv_iadd hx hb dX5_call_121 ?_
              obtain ⟨hPc, hDc, hFc⟩ := kk_cutout (wc := [(h0, Sum.inr (5, [Value.ref h1, Value.int n0_size, Value.ref h2, Value.int (n0_ran + 1)])), (h1, Sum.inl (cint, 50, Sum.inl f1))]) hP hD hS hA [0, 1] (by decide) rfl
              have hKc := hK.sub (tys' := [(cint, .int)]) [0] rfl
              refine va_calli (va_runV (As := [.int p0, .int 1, .int p3, .int (p4 + 1)]) (rest := []) ⟨hx, hb, hml, hown, hts⟩ (g_X5_runLine_0 l dC dI h0 h1 h2 cint H.size p0 p3 (p4 + 1) n0_size (n0_ran + 1) f1 tn0_size (by show 0 ≤ ((n0_ran + 1) : Int32).toInt ∧ ((n0_ran + 1) : Int32).toInt ≤ 1000; first | decide | (constructor <;> (have := kk_rng p4; have := kk_add2 (x := n0_ran) (y := 1) (a := n0_ran.toInt) (b := 1) rfl rfl (by omega) (by omega); have := kk_rng p4; have := kk_add2 (x := p4) (y := 1) (a := p4.toInt) (b := 1) rfl rfl (by omega) (by omega); omega))) bf1) (cwV 4 hts gX5_call_X5_runLine rfl rfl rfl (by decide +kernel) ⟨Nat.le_of_ble_eq_true rfl, Nat.le_of_ble_eq_true rfl⟩) ⟨fun a U g mk q => by obtain ⟨q0, q1, qP, qK, qD⟩ := q; exact ⟨q0, q1, qP, va_K.moved (u := U) (U := U.calling g mk a) (Vm.Alike.refl U.vm) qK, qD⟩, va_recv hKc hPc (ci := 5) (q0 := 0) rfl rfl, fun U hU hW => ⟨rfl, by rw [hU], by rw [hU]; exact hPc, va_K.moved hW.alike hKc, hDc.weaken (fun _ _ _ _ => trivial)⟩⟩ rfl rfl hl.1 rfl (lv_room (Nat.le_of_ble_eq_true rfl)) dX5_call_122 ⟨Nat.le_of_ble_eq_true rfl, Nat.le_of_ble_eq_true rfl⟩) hS (fun q _ h => hFc q h) hFc (fun r_77 u t H1 locs ht hvm hw hB hz1 hk1 hS => ?_)
              obtain ⟨hP1, hK1, hD1⟩ := hB
              rw [ht] at hP1
              have hK1 := va_K.moved hvm.symm hK1
              obtain ⟨hP, hD⟩ := va_join (wr := [(h2, Sum.inl (cint, 24, Sum.inl f_76_0))]) (w1 := [(h0, Sum.inr (5, [Value.ref h1, Value.int n0_size, Value.ref h2, Value.int (n0_ran + 1)])), (h1, Sum.inl (cint, 50, Sum.inl f1))]) hP hD [0, 1] [2] rfl rfl (by decide) (by decide) hk1 hFc hP1 hD1
              generalize H1 = H at hP hS ⊢
              have hP : va_P (dC, dI) vwCl [(h2, Sum.inl (cint, 24, Sum.inl f_76_0)), (h0, Sum.inr (5, [Value.ref h1, Value.int n0_size, Value.ref h2, Value.int (n0_ran + 1)])), (h1, Sum.inl (cint, 50, Sum.inl f1))] H := hP
              have hD : va_D A [(h2, Sum.inl (cint, 24, Sum.inl f_76_0)), (h0, Sum.inr (5, [Value.ref h1, Value.int n0_size, Value.ref h2, Value.int (n0_ran + 1)])), (h1, Sum.inl (cint, 50, Sum.inl f1))] := hD
              obtain rfl := hw
              refine lv_goto (tgt := 143) hx hb dX5_call_125 (by decide) ?_
              obtain ⟨hP9, hD9⟩ := kk_leafout (wc := [(h0, Sum.inr (5, [Value.ref h1, Value.int n0_size, Value.ref h2, Value.int (n0_ran + 1)])), (h1, Sum.inl (cint, 50, Sum.inl f1)), (h2, Sum.inl (cint, 24, Sum.inl f_76_0))]) hP hD [1, 2, 0] (by decide) rfl
              have hK9 := hK.sub (tys' := []) [] rfl
              exact W.iret (v := (p3 + p0)) hx hb hr (fun t ht hW => ⟨⟨(p3 + p0), (), rfl, trivial, (n0_ran + 1), f_76_0, (by show 0 ≤ ((n0_ran + 1) : Int32).toInt ∧ ((n0_ran + 1) : Int32).toInt ≤ 1000; first | decide | (constructor <;> (have := kk_rng p4; have := kk_add2 (x := n0_ran) (y := 1) (a := n0_ran.toInt) (b := 1) rfl rfl (by omega) (by omega); have := kk_rng p4; have := kk_add2 (x := p4) (y := 1) (a := p4.toInt) (b := 1) rfl rfl (by omega) (by omega); omega))), (by show ((n0_ran + 1) : Int32).toInt ≤ (n0_ran : Int32).toInt + 3; first | decide | (have := kk_rng p4; have := kk_add2 (x := n0_ran) (y := 1) (a := n0_ran.toInt) (b := 1) rfl rfl (by omega) (by omega); have := kk_rng p4; have := kk_add2 (x := p4) (y := 1) (a := p4.toInt) (b := 1) rfl rfl (by omega) (by omega); omega)), by rw [ht]; exact hP9, va_K.moved hW.alike hK9, hD9⟩, hS.F ht⟩) hS.2.2 dX5_call_143
            · skip
              refine lv_icmp_ge (tgt := 97) hx hb dX5_call_83 (by decide) (fun c_78 => ?_) (fun c_78 => ?_)
              · have t_78 : 24 ≤ n0_ran.toInt := kk_le c_78
                exact hcut_76 (f2) _ _ _ ⟨hP, hD, hS, lv_sub hl [0, 1, 2, 3, 4, 5, 6, 7] rfl⟩
              · have t_78 : n0_ran.toInt < 24 := kk_nle c_78
                refine lv_aload_n hx hb dX5_call_86 rfl (lv_at hl 2 rfl) ?_
                refine va_get (D := (dC, dI)) (ci := 5) (v := .ref h2) (C := RX5) (T := TX5) (N := 4) hx hb hts (fun _ h => List.mem_cons_of_mem _ (List.mem_append_right _ h)) hown hK hP 0 rfl rfl 2 (by decide) (hts (.fieldLink RX5 15 "KinkStreet$Lines" "trace" "[I") (List.mem_of_getElem? (i := 4) rfl)) (fun _ h9 => h9) rfl dX5_call_87 ?_
                refine lv_aload_n hx hb dX5_call_90 rfl (lv_at hl 2 rfl) ?_
                refine va_get (D := (dC, dI)) (ci := 5) (v := .int n0_ran) (C := RX5) (T := TX5) (N := 4) hx hb hts (fun _ h => List.mem_cons_of_mem _ (List.mem_append_right _ h)) hown hK hP 0 rfl rfl 3 (by decide) (hts (.fieldLink RX5 36 "KinkStreet$Lines" "ran" "I") (List.mem_of_getElem? (i := 3) rfl)) (fun _ h9 => h9) rfl dX5_call_91 ?_
                refine lv_iload hx hb dX5_call_94 (lv_at hl 0 rfl) ?_
                refine va_iast hx hb hK hP hD hS 2 0 rfl rfl (vp_in_iff.mpr ⟨by have := kk_rng p4; omega, by have := kk_rng p4; omega⟩) dX5_call_96 (fun H locs hP hD hS => ?_)
                generalize upd f2 (n0_ran : Int32).toNatClampNeg 1 = f_79 at hP hD
                have hP : va_P (dC, dI) vwCl [(h0, Sum.inr (5, [Value.ref h1, Value.int n0_size, Value.ref h2, Value.int n0_ran])), (h1, Sum.inl (cint, 50, Sum.inl f1)), (h2, Sum.inl (cint, 24, Sum.inl f_79))] H := hP
                have hD : va_D A [(h0, Sum.inr (5, [Value.ref h1, Value.int n0_size, Value.ref h2, Value.int n0_ran])), (h1, Sum.inl (cint, 50, Sum.inl f1)), (h2, Sum.inl (cint, 24, Sum.inl f_79))] := hD
                exact hcut_76 (f_79) _ _ _ ⟨hP, hD, hS, lv_sub hl [0, 1, 2, 3, 4, 5, 6, 7] rfl⟩
          · have t_71 : 40 < p4.toInt := kk_nle c_71
            refine lv_iconst (v := 0) hx hb dX5_call_63 (by decide) ?_
            obtain ⟨hP9, hD9⟩ := kk_leafout (wc := [(h0, Sum.inr (5, [Value.ref h1, Value.int n0_size, Value.ref h2, Value.int n0_ran])), (h1, Sum.inl (cint, 50, Sum.inl f1)), (h2, Sum.inl (cint, 24, Sum.inl f2))]) hP hD [0, 1, 2] (by decide) rfl
            have hK9 := hK.sub (tys' := []) [] rfl
            exact W.iret (v := 0) hx hb hr (fun t ht hW => ⟨⟨0, (), rfl, trivial, n0_ran, f2, (by show 0 ≤ (n0_ran : Int32).toInt ∧ (n0_ran : Int32).toInt ≤ 1000; first | decide | (constructor <;> (have := kk_rng p4; omega))), (by show (n0_ran : Int32).toInt ≤ (n0_ran : Int32).toInt + 3; first | decide | (have := kk_rng p4; omega)), by rw [ht]; exact hP9, va_K.moved hW.alike hK9, hD9⟩, hS.F ht⟩) hS.2.2 dX5_call_64
      · skip
        have t_69_0 : (0 : Int) ≤ 0 := t_69_0
        have t_69_1 : (0 : Int) < 8 := t_69_1
        refine lv_if_eq (tgt := 48) hx hb dX5_call_18 (by decide) (fun c => absurd c (by decide)) (fun _ => ?_)
        refine va_gets hx hb hZOWN_BODIES hS hown (hts (.fieldLink RX5 43 "KinkStreet$Lines" "OWN_BODIES" "[I") (List.mem_of_getElem? (i := 1) rfl)) (fun _ h9 => h9) dX5_call_21 ?_
        refine lv_iload hx hb dX5_call_24 (lv_at hl 1 rfl) ?_
        refine lv_iconst (v := 4) hx hb dX5_call_26 (by decide) ?_
        refine lv_imul hx hb dX5_call_27 ?_
        refine lv_topi (fun y_80 e_80 => ?_)
        obtain rfl : y_80 = 0 := e_80.trans (by decide)
        refine lv_iload_n hx hb dX5_call_28 rfl (lv_at hl 5 rfl) ?_
        refine lv_iadd hx hb dX5_call_29 ?_
        refine lv_topi (fun y_81 e_81 => ?_)
        obtain rfl : y_81 = 0 := e_81.trans (by decide)
        refine va_ti (v := .int 1) hx hb hTOWN_BODIES hS (by unfold vp_in; decide) rfl dX5_call_30 ?_
        refine lv_if_ne (tgt := 48) hx hb dX5_call_31 (by decide) (fun _ => ?_) (fun c => absurd c (by decide))
        refine lv_iload hx hb dX5_call_48 (lv_at hl 1 rfl) ?_
        obtain ⟨hPc, hDc, hFc⟩ := kk_cutout (wc := []) hP hD hS hA [] (by decide) rfl
        have hKc := hK.sub (tys' := []) [] rfl
        refine va_calli (va_runS (As := [.int 0]) (rest := []) ⟨hx, hb, hml, hown, hts⟩ (g_X5_isKind_0 l dC dI H.size 0) (va_cwS 1 hts gX5_call_X5_isKind rfl rfl rfl (by decide +kernel) ⟨Nat.le_of_ble_eq_true rfl, Nat.le_of_ble_eq_true rfl⟩) ⟨fun a U g mk q => by obtain ⟨q0, q1, qP, qK, qD⟩ := q; exact ⟨q0, q1, qP, va_K.moved (u := U) (U := U.calling g mk a) (Vm.Alike.refl U.vm) qK, qD⟩, fun U hU hW => ⟨rfl, by rw [hU], by rw [hU]; exact hPc, va_K.moved hW.alike hKc, hDc.weaken (fun _ _ _ _ => trivial)⟩⟩ rfl rfl hl.1 rfl (lv_room (Nat.le_of_ble_eq_true rfl)) dX5_call_50 ⟨Nat.le_of_ble_eq_true rfl, Nat.le_of_ble_eq_true rfl⟩) hS (fun q _ h => hFc q h) hFc (fun r_82 u t H1 locs ht hvm hw hB hz1 hk1 hS => ?_)
        obtain ⟨hP1, hK1, hD1⟩ := hB
        rw [ht] at hP1
        have hK1 := va_K.moved hvm.symm hK1
        obtain ⟨hP, hD⟩ := va_join (wr := [(h0, Sum.inr (5, [Value.ref h1, Value.int n0_size, Value.ref h2, Value.int n0_ran])), (h1, Sum.inl (cint, 50, Sum.inl f1)), (h2, Sum.inl (cint, 24, Sum.inl f2))]) (w1 := []) hP hD [] [0, 1, 2] rfl rfl (by decide) (by decide) hk1 hFc hP1 hD1
        generalize H1 = H at hP hS ⊢
        have hP : va_P (dC, dI) vwCl [(h0, Sum.inr (5, [Value.ref h1, Value.int n0_size, Value.ref h2, Value.int n0_ran])), (h1, Sum.inl (cint, 50, Sum.inl f1)), (h2, Sum.inl (cint, 24, Sum.inl f2))] H := hP
        have hD : va_D A [(h0, Sum.inr (5, [Value.ref h1, Value.int n0_size, Value.ref h2, Value.int n0_ran])), (h1, Sum.inl (cint, 50, Sum.inl f1)), (h2, Sum.inl (cint, 24, Sum.inl f2))] := hD
        rcases hw with ⟨rfl⟩ | ⟨t_82_0, t_82_1, rfl⟩
        · skip
          refine lv_if_eq (tgt := 63) hx hb dX5_call_53 (by decide) (fun _ => ?_) (fun c => absurd c (by decide))
          refine lv_iconst (v := 0) hx hb dX5_call_63 (by decide) ?_
          obtain ⟨hP9, hD9⟩ := kk_leafout (wc := [(h0, Sum.inr (5, [Value.ref h1, Value.int n0_size, Value.ref h2, Value.int n0_ran])), (h1, Sum.inl (cint, 50, Sum.inl f1)), (h2, Sum.inl (cint, 24, Sum.inl f2))]) hP hD [0, 1, 2] (by decide) rfl
          have hK9 := hK.sub (tys' := []) [] rfl
          exact W.iret (v := 0) hx hb hr (fun t ht hW => ⟨⟨0, (), rfl, trivial, n0_ran, f2, (by show 0 ≤ (n0_ran : Int32).toInt ∧ (n0_ran : Int32).toInt ≤ 1000; first | decide | (constructor <;> (omega))), (by show (n0_ran : Int32).toInt ≤ (n0_ran : Int32).toInt + 3; first | decide | (omega)), by rw [ht]; exact hP9, va_K.moved hW.alike hK9, hD9⟩, hS.F ht⟩) hS.2.2 dX5_call_64
        · skip
          have t_82_0 : (0 : Int) ≤ 0 := t_82_0
          have t_82_1 : (0 : Int) < 8 := t_82_1
          refine lv_if_eq (tgt := 63) hx hb dX5_call_53 (by decide) (fun c => absurd c (by decide)) (fun _ => ?_)
          refine lv_iload hx hb dX5_call_56 (lv_at hl 7 rfl) ?_
          refine lv_bipush (v := 40) hx hb dX5_call_58 (by decide) ?_
          refine lv_icmp_le (tgt := 65) hx hb dX5_call_60 (by decide) (fun c_83 => ?_) (fun c_83 => ?_)
          · have t_83 : p4.toInt ≤ 40 := kk_le c_83
            refine va_gets hx hb hZOWN_BODIES hS hown (hts (.fieldLink RX5 43 "KinkStreet$Lines" "OWN_BODIES" "[I") (List.mem_of_getElem? (i := 1) rfl)) (fun _ h9 => h9) dX5_call_65 ?_
            refine lv_iload hx hb dX5_call_68 (lv_at hl 1 rfl) ?_
            refine lv_iconst (v := 4) hx hb dX5_call_70 (by decide) ?_
            refine lv_imul hx hb dX5_call_71 ?_
            refine lv_topi (fun y_84 e_84 => ?_)
            obtain rfl : y_84 = 0 := e_84.trans (by decide)
            refine lv_iload_n hx hb dX5_call_72 rfl (lv_at hl 5 rfl) ?_
            refine lv_iadd hx hb dX5_call_73 ?_
            refine lv_topi (fun y_85 e_85 => ?_)
            obtain rfl : y_85 = 0 := e_85.trans (by decide)
            refine va_ti (v := .int 1) hx hb hTOWN_BODIES hS (by unfold vp_in; decide) rfl dX5_call_74 ?_
            refine lv_istore (lv' := [(7, .int 1), (6, .int 0), (0, .ref h0), (1, .int p0), (2, .int 2), (3, .int 0), (4, .int p3), (5, .int p4)]) hx hb dX5_call_75 hl (by decide) rfl (fun ls hl => ?_)
            refine lv_aload_n hx hb dX5_call_77 rfl (lv_at hl 2 rfl) ?_
            refine va_get (D := (dC, dI)) (ci := 5) (v := .int n0_ran) (C := RX5) (T := TX5) (N := 4) hx hb hts (fun _ h => List.mem_cons_of_mem _ (List.mem_append_right _ h)) hown hK hP 0 rfl rfl 3 (by decide) (hts (.fieldLink RX5 36 "KinkStreet$Lines" "ran" "I") (List.mem_of_getElem? (i := 3) rfl)) (fun _ h9 => h9) rfl dX5_call_78 ?_
            refine lv_bipush (v := 24) hx hb dX5_call_81 (by decide) ?_
            refine kk_cut (σ := (Nat → Int32)) (pc' := 97) (fun x H locs ls => va_P (dC, dI) vwCl [(h0, Sum.inr (5, [Value.ref h1, Value.int n0_size, Value.ref h2, Value.int n0_ran])), (h1, Sum.inl (cint, 50, Sum.inl f1)), (h2, Sum.inl (cint, 24, Sum.inl x))] H ∧ va_D A [(h0, Sum.inr (5, [Value.ref h1, Value.int n0_size, Value.ref h2, Value.int n0_ran])), (h1, Sum.inl (cint, 50, Sum.inl f1)), (h2, Sum.inl (cint, 24, Sum.inl x))] ∧ va_S A s.heap H locs ∧ lv_has ls 8 [(7, .int 1), (6, .int 0), (0, .ref h0), (1, .int p0), (2, .int 2), (3, .int 0), (4, .int p3), (5, .int p4)]) ?_ (fun hcut_88 => ?_)
            · rintro f_88_0 H locs ls ⟨hP, hD, hS, hl⟩
              have hl : lv_has ls 8 [(7, .int 1), (6, .int 0), (0, .ref h0), (1, .int p0), (2, .int 2), (3, .int 0), (4, .int p3), (5, .int p4)] := hl
              have hP : va_P (dC, dI) vwCl [(h0, Sum.inr (5, [Value.ref h1, Value.int n0_size, Value.ref h2, Value.int n0_ran])), (h1, Sum.inl (cint, 50, Sum.inl f1)), (h2, Sum.inl (cint, 24, Sum.inl f_88_0))] H := hP
              have hD : va_D A [(h0, Sum.inr (5, [Value.ref h1, Value.int n0_size, Value.ref h2, Value.int n0_ran])), (h1, Sum.inl (cint, 50, Sum.inl f1)), (h2, Sum.inl (cint, 24, Sum.inl f_88_0))] := hD
              refine lv_aload_n hx hb dX5_call_97 rfl (lv_at hl 2 rfl) ?_
              refine lv_dup hx hb dX5_call_98 rfl ?_
              refine va_get (D := (dC, dI)) (ci := 5) (v := .int n0_ran) (C := RX5) (T := TX5) (N := 4) hx hb hts (fun _ h => List.mem_cons_of_mem _ (List.mem_append_right _ h)) hown hK hP 0 rfl rfl 3 (by decide) (hts (.fieldLink RX5 36 "KinkStreet$Lines" "ran" "I") (List.mem_of_getElem? (i := 3) rfl)) (fun _ h9 => h9) rfl dX5_call_99 ?_
              refine lv_iconst (v := 1) hx hb dX5_call_102 (by decide) ?_
              refine lv_iadd hx hb dX5_call_103 ?_
              refine va_put (D := (dC, dI)) (ci := 5) (v := .int (n0_ran + 1)) (ty := .int) (C := RX5) (T := TX5) (N := 4) hx hb hts (fun _ h => List.mem_cons_of_mem _ (List.mem_append_right _ h)) tyX5 tyX5_ok nmX5 hown hK hP hD hS 0 rfl rfl 3 (by decide) (hts (.fieldLink RX5 36 "KinkStreet$Lines" "ran" "I") (List.mem_of_getElem? (i := 3) rfl)) (fun _ h9 => h9) rfl (by decide +kernel) rfl rfl (Nat.le_of_ble_eq_true rfl) dX5_call_104 (fun H locs hP hD hS => ?_)
              have hP : va_P (dC, dI) vwCl [(h0, Sum.inr (5, [Value.ref h1, Value.int n0_size, Value.ref h2, Value.int (n0_ran + 1)])), (h1, Sum.inl (cint, 50, Sum.inl f1)), (h2, Sum.inl (cint, 24, Sum.inl f_88_0))] H := hP
              have hD : va_D A [(h0, Sum.inr (5, [Value.ref h1, Value.int n0_size, Value.ref h2, Value.int (n0_ran + 1)])), (h1, Sum.inl (cint, 50, Sum.inl f1)), (h2, Sum.inl (cint, 24, Sum.inl f_88_0))] := hD
              refine lv_iload hx hb dX5_call_107 (lv_at hl 1 rfl) ?_
              refine lv_if_ne (tgt := 128) hx hb dX5_call_109 (by decide) (fun c => absurd c (by decide)) (fun _ => ?_)
              refine lv_aload_n hx hb dX5_call_112 rfl (lv_at hl 2 rfl) ?_
              refine lv_iload_n hx hb dX5_call_113 rfl (lv_at hl 3 rfl) ?_
              refine lv_iload hx hb dX5_call_114 (lv_at hl 0 rfl) ?_
              refine lv_iload hx hb dX5_call_116 (lv_at hl 6 rfl) ?_
              refine lv_iload hx hb dX5_call_118 (lv_at hl 7 rfl) ?_
              refine lv_iconst (v := 1) hx hb dX5_call_120 (by decide) ?_
              refine lv_iadd hx hb dX5_call_121 ?_
              obtain ⟨hPc, hDc, hFc⟩ := kk_cutout (wc := [(h0, Sum.inr (5, [Value.ref h1, Value.int n0_size, Value.ref h2, Value.int (n0_ran + 1)])), (h1, Sum.inl (cint, 50, Sum.inl f1))]) hP hD hS hA [0, 1] (by decide) rfl
              have hKc := hK.sub (tys' := [(cint, .int)]) [0] rfl
              refine va_calli (va_runV (As := [.int p0, .int 1, .int p3, .int (p4 + 1)]) (rest := []) ⟨hx, hb, hml, hown, hts⟩ (g_X5_runLine_0 l dC dI h0 h1 h2 cint H.size p0 p3 (p4 + 1) n0_size (n0_ran + 1) f1 tn0_size (by show 0 ≤ ((n0_ran + 1) : Int32).toInt ∧ ((n0_ran + 1) : Int32).toInt ≤ 1000; first | decide | (constructor <;> (have := kk_rng p4; have := kk_add2 (x := n0_ran) (y := 1) (a := n0_ran.toInt) (b := 1) rfl rfl (by omega) (by omega); have := kk_rng p4; have := kk_add2 (x := p4) (y := 1) (a := p4.toInt) (b := 1) rfl rfl (by omega) (by omega); omega))) bf1) (cwV 4 hts gX5_call_X5_runLine rfl rfl rfl (by decide +kernel) ⟨Nat.le_of_ble_eq_true rfl, Nat.le_of_ble_eq_true rfl⟩) ⟨fun a U g mk q => by obtain ⟨q0, q1, qP, qK, qD⟩ := q; exact ⟨q0, q1, qP, va_K.moved (u := U) (U := U.calling g mk a) (Vm.Alike.refl U.vm) qK, qD⟩, va_recv hKc hPc (ci := 5) (q0 := 0) rfl rfl, fun U hU hW => ⟨rfl, by rw [hU], by rw [hU]; exact hPc, va_K.moved hW.alike hKc, hDc.weaken (fun _ _ _ _ => trivial)⟩⟩ rfl rfl hl.1 rfl (lv_room (Nat.le_of_ble_eq_true rfl)) dX5_call_122 ⟨Nat.le_of_ble_eq_true rfl, Nat.le_of_ble_eq_true rfl⟩) hS (fun q _ h => hFc q h) hFc (fun r_89 u t H1 locs ht hvm hw hB hz1 hk1 hS => ?_)
              obtain ⟨hP1, hK1, hD1⟩ := hB
              rw [ht] at hP1
              have hK1 := va_K.moved hvm.symm hK1
              obtain ⟨hP, hD⟩ := va_join (wr := [(h2, Sum.inl (cint, 24, Sum.inl f_88_0))]) (w1 := [(h0, Sum.inr (5, [Value.ref h1, Value.int n0_size, Value.ref h2, Value.int (n0_ran + 1)])), (h1, Sum.inl (cint, 50, Sum.inl f1))]) hP hD [0, 1] [2] rfl rfl (by decide) (by decide) hk1 hFc hP1 hD1
              generalize H1 = H at hP hS ⊢
              have hP : va_P (dC, dI) vwCl [(h2, Sum.inl (cint, 24, Sum.inl f_88_0)), (h0, Sum.inr (5, [Value.ref h1, Value.int n0_size, Value.ref h2, Value.int (n0_ran + 1)])), (h1, Sum.inl (cint, 50, Sum.inl f1))] H := hP
              have hD : va_D A [(h2, Sum.inl (cint, 24, Sum.inl f_88_0)), (h0, Sum.inr (5, [Value.ref h1, Value.int n0_size, Value.ref h2, Value.int (n0_ran + 1)])), (h1, Sum.inl (cint, 50, Sum.inl f1))] := hD
              obtain rfl := hw
              refine lv_goto (tgt := 143) hx hb dX5_call_125 (by decide) ?_
              obtain ⟨hP9, hD9⟩ := kk_leafout (wc := [(h0, Sum.inr (5, [Value.ref h1, Value.int n0_size, Value.ref h2, Value.int (n0_ran + 1)])), (h1, Sum.inl (cint, 50, Sum.inl f1)), (h2, Sum.inl (cint, 24, Sum.inl f_88_0))]) hP hD [1, 2, 0] (by decide) rfl
              have hK9 := hK.sub (tys' := []) [] rfl
              exact W.iret (v := (p3 + p0)) hx hb hr (fun t ht hW => ⟨⟨(p3 + p0), (), rfl, trivial, (n0_ran + 1), f_88_0, (by show 0 ≤ ((n0_ran + 1) : Int32).toInt ∧ ((n0_ran + 1) : Int32).toInt ≤ 1000; first | decide | (constructor <;> (have := kk_rng p4; have := kk_add2 (x := n0_ran) (y := 1) (a := n0_ran.toInt) (b := 1) rfl rfl (by omega) (by omega); have := kk_rng p4; have := kk_add2 (x := p4) (y := 1) (a := p4.toInt) (b := 1) rfl rfl (by omega) (by omega); omega))), (by show ((n0_ran + 1) : Int32).toInt ≤ (n0_ran : Int32).toInt + 3; first | decide | (have := kk_rng p4; have := kk_add2 (x := n0_ran) (y := 1) (a := n0_ran.toInt) (b := 1) rfl rfl (by omega) (by omega); have := kk_rng p4; have := kk_add2 (x := p4) (y := 1) (a := p4.toInt) (b := 1) rfl rfl (by omega) (by omega); omega)), by rw [ht]; exact hP9, va_K.moved hW.alike hK9, hD9⟩, hS.F ht⟩) hS.2.2 dX5_call_143
            · skip
              refine lv_icmp_ge (tgt := 97) hx hb dX5_call_83 (by decide) (fun c_90 => ?_) (fun c_90 => ?_)
              · have t_90 : 24 ≤ n0_ran.toInt := kk_le c_90
                exact hcut_88 (f2) _ _ _ ⟨hP, hD, hS, lv_sub hl [0, 1, 2, 3, 4, 5, 6, 7] rfl⟩
              · have t_90 : n0_ran.toInt < 24 := kk_nle c_90
                refine lv_aload_n hx hb dX5_call_86 rfl (lv_at hl 2 rfl) ?_
                refine va_get (D := (dC, dI)) (ci := 5) (v := .ref h2) (C := RX5) (T := TX5) (N := 4) hx hb hts (fun _ h => List.mem_cons_of_mem _ (List.mem_append_right _ h)) hown hK hP 0 rfl rfl 2 (by decide) (hts (.fieldLink RX5 15 "KinkStreet$Lines" "trace" "[I") (List.mem_of_getElem? (i := 4) rfl)) (fun _ h9 => h9) rfl dX5_call_87 ?_
                refine lv_aload_n hx hb dX5_call_90 rfl (lv_at hl 2 rfl) ?_
                refine va_get (D := (dC, dI)) (ci := 5) (v := .int n0_ran) (C := RX5) (T := TX5) (N := 4) hx hb hts (fun _ h => List.mem_cons_of_mem _ (List.mem_append_right _ h)) hown hK hP 0 rfl rfl 3 (by decide) (hts (.fieldLink RX5 36 "KinkStreet$Lines" "ran" "I") (List.mem_of_getElem? (i := 3) rfl)) (fun _ h9 => h9) rfl dX5_call_91 ?_
                refine lv_iload hx hb dX5_call_94 (lv_at hl 0 rfl) ?_
                refine va_iast hx hb hK hP hD hS 2 0 rfl rfl (vp_in_iff.mpr ⟨by have := kk_rng p4; omega, by have := kk_rng p4; omega⟩) dX5_call_96 (fun H locs hP hD hS => ?_)
                generalize upd f2 (n0_ran : Int32).toNatClampNeg 1 = f_91 at hP hD
                have hP : va_P (dC, dI) vwCl [(h0, Sum.inr (5, [Value.ref h1, Value.int n0_size, Value.ref h2, Value.int n0_ran])), (h1, Sum.inl (cint, 50, Sum.inl f1)), (h2, Sum.inl (cint, 24, Sum.inl f_91))] H := hP
                have hD : va_D A [(h0, Sum.inr (5, [Value.ref h1, Value.int n0_size, Value.ref h2, Value.int n0_ran])), (h1, Sum.inl (cint, 50, Sum.inl f1)), (h2, Sum.inl (cint, 24, Sum.inl f_91))] := hD
                exact hcut_88 (f_91) _ _ _ ⟨hP, hD, hS, lv_sub hl [0, 1, 2, 3, 4, 5, 6, 7] rfl⟩
          · have t_83 : 40 < p4.toInt := kk_nle c_83
            refine lv_iconst (v := 0) hx hb dX5_call_63 (by decide) ?_
            obtain ⟨hP9, hD9⟩ := kk_leafout (wc := [(h0, Sum.inr (5, [Value.ref h1, Value.int n0_size, Value.ref h2, Value.int n0_ran])), (h1, Sum.inl (cint, 50, Sum.inl f1)), (h2, Sum.inl (cint, 24, Sum.inl f2))]) hP hD [0, 1, 2] (by decide) rfl
            have hK9 := hK.sub (tys' := []) [] rfl
            exact W.iret (v := 0) hx hb hr (fun t ht hW => ⟨⟨0, (), rfl, trivial, n0_ran, f2, (by show 0 ≤ (n0_ran : Int32).toInt ∧ (n0_ran : Int32).toInt ≤ 1000; first | decide | (constructor <;> (have := kk_rng p4; omega))), (by show (n0_ran : Int32).toInt ≤ (n0_ran : Int32).toInt + 3; first | decide | (have := kk_rng p4; omega)), by rw [ht]; exact hP9, va_K.moved hW.alike hK9, hD9⟩, hS.F ht⟩) hS.2.2 dX5_call_64
  · have t_1 : p1.toInt = 3 := by rw [e_1]; rfl
    subst e_1
    refine lv_iload_n hx hb dX5_call_0 rfl (lv_at hl 2 rfl) ?_
    refine lv_istore (lv' := [(6, .int 3), (0, .ref h0), (1, .int p0), (2, .int 3), (3, .int 0), (4, .int p3), (5, .int p4)]) hx hb dX5_call_1 hl (by decide) rfl (fun ls hl => ?_)
    refine lv_iconst (v := 0) hx hb dX5_call_3 (by decide) ?_
    refine lv_istore (lv' := [(7, .int 0), (6, .int 3), (0, .ref h0), (1, .int p0), (2, .int 3), (3, .int 0), (4, .int p3), (5, .int p4)]) hx hb dX5_call_4 hl (by decide) rfl (fun ls hl => ?_)
    refine lv_iload hx hb dX5_call_6 (lv_at hl 0 rfl) ?_
    refine lv_bipush (v := 8) hx hb dX5_call_8 (by decide) ?_
    refine lv_icmp_ge (tgt := 48) hx hb dX5_call_10 (by decide) (fun c => absurd c (by decide)) (fun _ => ?_)
    refine lv_iload hx hb dX5_call_13 (lv_at hl 1 rfl) ?_
    obtain ⟨hPc, hDc, hFc⟩ := kk_cutout (wc := []) hP hD hS hA [] (by decide) rfl
    have hKc := hK.sub (tys' := []) [] rfl
    refine va_calli (va_runS (As := [.int 3]) (rest := []) ⟨hx, hb, hml, hown, hts⟩ (g_X5_isKind_0 l dC dI s.heap.size 3) (va_cwS 1 hts gX5_call_X5_isKind rfl rfl rfl (by decide +kernel) ⟨Nat.le_of_ble_eq_true rfl, Nat.le_of_ble_eq_true rfl⟩) ⟨fun a U g mk q => by obtain ⟨q0, q1, qP, qK, qD⟩ := q; exact ⟨q0, q1, qP, va_K.moved (u := U) (U := U.calling g mk a) (Vm.Alike.refl U.vm) qK, qD⟩, fun U hU hW => ⟨rfl, by rw [hU], by rw [hU]; exact hPc, va_K.moved hW.alike hKc, hDc.weaken (fun _ _ _ _ => trivial)⟩⟩ rfl rfl hl.1 rfl (lv_room (Nat.le_of_ble_eq_true rfl)) dX5_call_15 ⟨Nat.le_of_ble_eq_true rfl, Nat.le_of_ble_eq_true rfl⟩) hS (fun q _ h => hFc q h) hFc (fun r_92 u t H1 locs ht hvm hw hB hz1 hk1 hS => ?_)
    obtain ⟨hP1, hK1, hD1⟩ := hB
    rw [ht] at hP1
    have hK1 := va_K.moved hvm.symm hK1
    obtain ⟨hP, hD⟩ := va_join (wr := [(h0, Sum.inr (5, [Value.ref h1, Value.int n0_size, Value.ref h2, Value.int n0_ran])), (h1, Sum.inl (cint, 50, Sum.inl f1)), (h2, Sum.inl (cint, 24, Sum.inl f2))]) (w1 := []) hP hD [] [0, 1, 2] rfl rfl (by decide) (by decide) hk1 hFc hP1 hD1
    generalize H1 = H at hP hS ⊢
    have hP : va_P (dC, dI) vwCl [(h0, Sum.inr (5, [Value.ref h1, Value.int n0_size, Value.ref h2, Value.int n0_ran])), (h1, Sum.inl (cint, 50, Sum.inl f1)), (h2, Sum.inl (cint, 24, Sum.inl f2))] H := hP
    have hD : va_D A [(h0, Sum.inr (5, [Value.ref h1, Value.int n0_size, Value.ref h2, Value.int n0_ran])), (h1, Sum.inl (cint, 50, Sum.inl f1)), (h2, Sum.inl (cint, 24, Sum.inl f2))] := hD
    rcases hw with ⟨rfl⟩ | ⟨t_92_0, t_92_1, rfl⟩
    · skip
      refine lv_if_eq (tgt := 48) hx hb dX5_call_18 (by decide) (fun _ => ?_) (fun c => absurd c (by decide))
      refine lv_iload hx hb dX5_call_48 (lv_at hl 1 rfl) ?_
      obtain ⟨hPc, hDc, hFc⟩ := kk_cutout (wc := []) hP hD hS hA [] (by decide) rfl
      have hKc := hK.sub (tys' := []) [] rfl
      refine va_calli (va_runS (As := [.int 3]) (rest := []) ⟨hx, hb, hml, hown, hts⟩ (g_X5_isKind_0 l dC dI H.size 3) (va_cwS 1 hts gX5_call_X5_isKind rfl rfl rfl (by decide +kernel) ⟨Nat.le_of_ble_eq_true rfl, Nat.le_of_ble_eq_true rfl⟩) ⟨fun a U g mk q => by obtain ⟨q0, q1, qP, qK, qD⟩ := q; exact ⟨q0, q1, qP, va_K.moved (u := U) (U := U.calling g mk a) (Vm.Alike.refl U.vm) qK, qD⟩, fun U hU hW => ⟨rfl, by rw [hU], by rw [hU]; exact hPc, va_K.moved hW.alike hKc, hDc.weaken (fun _ _ _ _ => trivial)⟩⟩ rfl rfl hl.1 rfl (lv_room (Nat.le_of_ble_eq_true rfl)) dX5_call_50 ⟨Nat.le_of_ble_eq_true rfl, Nat.le_of_ble_eq_true rfl⟩) hS (fun q _ h => hFc q h) hFc (fun r_93 u t H1 locs ht hvm hw hB hz1 hk1 hS => ?_)
      obtain ⟨hP1, hK1, hD1⟩ := hB
      rw [ht] at hP1
      have hK1 := va_K.moved hvm.symm hK1
      obtain ⟨hP, hD⟩ := va_join (wr := [(h0, Sum.inr (5, [Value.ref h1, Value.int n0_size, Value.ref h2, Value.int n0_ran])), (h1, Sum.inl (cint, 50, Sum.inl f1)), (h2, Sum.inl (cint, 24, Sum.inl f2))]) (w1 := []) hP hD [] [0, 1, 2] rfl rfl (by decide) (by decide) hk1 hFc hP1 hD1
      generalize H1 = H at hP hS ⊢
      have hP : va_P (dC, dI) vwCl [(h0, Sum.inr (5, [Value.ref h1, Value.int n0_size, Value.ref h2, Value.int n0_ran])), (h1, Sum.inl (cint, 50, Sum.inl f1)), (h2, Sum.inl (cint, 24, Sum.inl f2))] H := hP
      have hD : va_D A [(h0, Sum.inr (5, [Value.ref h1, Value.int n0_size, Value.ref h2, Value.int n0_ran])), (h1, Sum.inl (cint, 50, Sum.inl f1)), (h2, Sum.inl (cint, 24, Sum.inl f2))] := hD
      rcases hw with ⟨rfl⟩ | ⟨t_93_0, t_93_1, rfl⟩
      · skip
        refine lv_if_eq (tgt := 63) hx hb dX5_call_53 (by decide) (fun _ => ?_) (fun c => absurd c (by decide))
        refine lv_iconst (v := 0) hx hb dX5_call_63 (by decide) ?_
        obtain ⟨hP9, hD9⟩ := kk_leafout (wc := [(h0, Sum.inr (5, [Value.ref h1, Value.int n0_size, Value.ref h2, Value.int n0_ran])), (h1, Sum.inl (cint, 50, Sum.inl f1)), (h2, Sum.inl (cint, 24, Sum.inl f2))]) hP hD [0, 1, 2] (by decide) rfl
        have hK9 := hK.sub (tys' := []) [] rfl
        exact W.iret (v := 0) hx hb hr (fun t ht hW => ⟨⟨0, (), rfl, trivial, n0_ran, f2, (by show 0 ≤ (n0_ran : Int32).toInt ∧ (n0_ran : Int32).toInt ≤ 1000; first | decide | (constructor <;> (omega))), (by show (n0_ran : Int32).toInt ≤ (n0_ran : Int32).toInt + 3; first | decide | (omega)), by rw [ht]; exact hP9, va_K.moved hW.alike hK9, hD9⟩, hS.F ht⟩) hS.2.2 dX5_call_64
      · skip
        have t_93_0 : (0 : Int) ≤ 3 := t_93_0
        have t_93_1 : (3 : Int) < 8 := t_93_1
        refine lv_if_eq (tgt := 63) hx hb dX5_call_53 (by decide) (fun c => absurd c (by decide)) (fun _ => ?_)
        refine lv_iload hx hb dX5_call_56 (lv_at hl 7 rfl) ?_
        refine lv_bipush (v := 40) hx hb dX5_call_58 (by decide) ?_
        refine lv_icmp_le (tgt := 65) hx hb dX5_call_60 (by decide) (fun c_94 => ?_) (fun c_94 => ?_)
        · have t_94 : p4.toInt ≤ 40 := kk_le c_94
          refine va_gets hx hb hZOWN_BODIES hS hown (hts (.fieldLink RX5 43 "KinkStreet$Lines" "OWN_BODIES" "[I") (List.mem_of_getElem? (i := 1) rfl)) (fun _ h9 => h9) dX5_call_65 ?_
          refine lv_iload hx hb dX5_call_68 (lv_at hl 1 rfl) ?_
          refine lv_iconst (v := 4) hx hb dX5_call_70 (by decide) ?_
          refine lv_imul hx hb dX5_call_71 ?_
          refine lv_topi (fun y_95 e_95 => ?_)
          obtain rfl : y_95 = 12 := e_95.trans (by decide)
          refine lv_iload_n hx hb dX5_call_72 rfl (lv_at hl 5 rfl) ?_
          refine lv_iadd hx hb dX5_call_73 ?_
          refine lv_topi (fun y_96 e_96 => ?_)
          obtain rfl : y_96 = 12 := e_96.trans (by decide)
          refine va_ti (v := .int 0) hx hb hTOWN_BODIES hS (by unfold vp_in; decide) rfl dX5_call_74 ?_
          refine lv_istore (lv' := [(7, .int 0), (6, .int 3), (0, .ref h0), (1, .int p0), (2, .int 3), (3, .int 0), (4, .int p3), (5, .int p4)]) hx hb dX5_call_75 hl (by decide) rfl (fun ls hl => ?_)
          refine lv_aload_n hx hb dX5_call_77 rfl (lv_at hl 2 rfl) ?_
          refine va_get (D := (dC, dI)) (ci := 5) (v := .int n0_ran) (C := RX5) (T := TX5) (N := 4) hx hb hts (fun _ h => List.mem_cons_of_mem _ (List.mem_append_right _ h)) hown hK hP 0 rfl rfl 3 (by decide) (hts (.fieldLink RX5 36 "KinkStreet$Lines" "ran" "I") (List.mem_of_getElem? (i := 3) rfl)) (fun _ h9 => h9) rfl dX5_call_78 ?_
          refine lv_bipush (v := 24) hx hb dX5_call_81 (by decide) ?_
          refine kk_cut (σ := (Nat → Int32)) (pc' := 97) (fun x H locs ls => va_P (dC, dI) vwCl [(h0, Sum.inr (5, [Value.ref h1, Value.int n0_size, Value.ref h2, Value.int n0_ran])), (h1, Sum.inl (cint, 50, Sum.inl f1)), (h2, Sum.inl (cint, 24, Sum.inl x))] H ∧ va_D A [(h0, Sum.inr (5, [Value.ref h1, Value.int n0_size, Value.ref h2, Value.int n0_ran])), (h1, Sum.inl (cint, 50, Sum.inl f1)), (h2, Sum.inl (cint, 24, Sum.inl x))] ∧ va_S A s.heap H locs ∧ lv_has ls 8 [(7, .int 0), (6, .int 3), (0, .ref h0), (1, .int p0), (2, .int 3), (3, .int 0), (4, .int p3), (5, .int p4)]) ?_ (fun hcut_99 => ?_)
          · rintro f_99_0 H locs ls ⟨hP, hD, hS, hl⟩
            have hl : lv_has ls 8 [(7, .int 0), (6, .int 3), (0, .ref h0), (1, .int p0), (2, .int 3), (3, .int 0), (4, .int p3), (5, .int p4)] := hl
            have hP : va_P (dC, dI) vwCl [(h0, Sum.inr (5, [Value.ref h1, Value.int n0_size, Value.ref h2, Value.int n0_ran])), (h1, Sum.inl (cint, 50, Sum.inl f1)), (h2, Sum.inl (cint, 24, Sum.inl f_99_0))] H := hP
            have hD : va_D A [(h0, Sum.inr (5, [Value.ref h1, Value.int n0_size, Value.ref h2, Value.int n0_ran])), (h1, Sum.inl (cint, 50, Sum.inl f1)), (h2, Sum.inl (cint, 24, Sum.inl f_99_0))] := hD
            refine lv_aload_n hx hb dX5_call_97 rfl (lv_at hl 2 rfl) ?_
            refine lv_dup hx hb dX5_call_98 rfl ?_
            refine va_get (D := (dC, dI)) (ci := 5) (v := .int n0_ran) (C := RX5) (T := TX5) (N := 4) hx hb hts (fun _ h => List.mem_cons_of_mem _ (List.mem_append_right _ h)) hown hK hP 0 rfl rfl 3 (by decide) (hts (.fieldLink RX5 36 "KinkStreet$Lines" "ran" "I") (List.mem_of_getElem? (i := 3) rfl)) (fun _ h9 => h9) rfl dX5_call_99 ?_
            refine lv_iconst (v := 1) hx hb dX5_call_102 (by decide) ?_
            refine lv_iadd hx hb dX5_call_103 ?_
            refine va_put (D := (dC, dI)) (ci := 5) (v := .int (n0_ran + 1)) (ty := .int) (C := RX5) (T := TX5) (N := 4) hx hb hts (fun _ h => List.mem_cons_of_mem _ (List.mem_append_right _ h)) tyX5 tyX5_ok nmX5 hown hK hP hD hS 0 rfl rfl 3 (by decide) (hts (.fieldLink RX5 36 "KinkStreet$Lines" "ran" "I") (List.mem_of_getElem? (i := 3) rfl)) (fun _ h9 => h9) rfl (by decide +kernel) rfl rfl (Nat.le_of_ble_eq_true rfl) dX5_call_104 (fun H locs hP hD hS => ?_)
            have hP : va_P (dC, dI) vwCl [(h0, Sum.inr (5, [Value.ref h1, Value.int n0_size, Value.ref h2, Value.int (n0_ran + 1)])), (h1, Sum.inl (cint, 50, Sum.inl f1)), (h2, Sum.inl (cint, 24, Sum.inl f_99_0))] H := hP
            have hD : va_D A [(h0, Sum.inr (5, [Value.ref h1, Value.int n0_size, Value.ref h2, Value.int (n0_ran + 1)])), (h1, Sum.inl (cint, 50, Sum.inl f1)), (h2, Sum.inl (cint, 24, Sum.inl f_99_0))] := hD
            refine lv_iload hx hb dX5_call_107 (lv_at hl 1 rfl) ?_
            refine lv_if_ne (tgt := 128) hx hb dX5_call_109 (by decide) (fun _ => ?_) (fun c => absurd c (by decide))
            refine lv_aload_n hx hb dX5_call_128 rfl (lv_at hl 2 rfl) ?_
            refine lv_iload_n hx hb dX5_call_129 rfl (lv_at hl 3 rfl) ?_
            refine lv_iload hx hb dX5_call_130 (lv_at hl 1 rfl) ?_
            refine lv_iload hx hb dX5_call_132 (lv_at hl 0 rfl) ?_
            refine lv_iload hx hb dX5_call_134 (lv_at hl 6 rfl) ?_
            refine lv_iload hx hb dX5_call_136 (lv_at hl 7 rfl) ?_
            refine lv_iconst (v := 1) hx hb dX5_call_138 (by decide) ?_
            refine lv_iadd hx hb dX5_call_139 ?_
            obtain ⟨hPc, hDc, hFc⟩ := kk_cutout (wc := [(h0, Sum.inr (5, [Value.ref h1, Value.int n0_size, Value.ref h2, Value.int (n0_ran + 1)])), (h1, Sum.inl (cint, 50, Sum.inl f1)), (h2, Sum.inl (cint, 24, Sum.inl f_99_0))]) hP hD hS hA [0, 1, 2] (by decide) rfl
            have hKc := hK.sub (tys' := [(cint, .int)]) [0] rfl
            refine va_calli (va_runV (As := [.int p0, .int 3, .int 0, .int p3, .int (p4 + 1)]) (rest := []) ⟨hx, hb, hml, hown, hts⟩ (g_X5_runUnder_2 l dC dI h0 h1 h2 cint H.size p0 p3 (p4 + 1) n0_size (n0_ran + 1) f1 f_99_0 tn0_size (by show 0 ≤ ((n0_ran + 1) : Int32).toInt ∧ ((n0_ran + 1) : Int32).toInt ≤ 999; first | decide | (constructor <;> (have := kk_rng p4; have := kk_add2 (x := n0_ran) (y := 1) (a := n0_ran.toInt) (b := 1) rfl rfl (by omega) (by omega); have := kk_rng p4; have := kk_add2 (x := p4) (y := 1) (a := p4.toInt) (b := 1) rfl rfl (by omega) (by omega); omega))) bf1 aOWN_BODIES aABOVE) (cwV 5 hts gX5_call_X5_runUnder rfl rfl rfl (by decide +kernel) ⟨Nat.le_of_ble_eq_true rfl, Nat.le_of_ble_eq_true rfl⟩) ⟨fun a U g mk q => by obtain ⟨q0, q1, qP, qK, qD, qx0, qx1, qx2, qx3⟩ := q; exact ⟨q0, q1, qP, va_K.moved (u := U) (U := U.calling g mk a) (Vm.Alike.refl U.vm) qK, qD, va_Z.moved (u := U) (U := U.calling g mk a) (Vm.Alike.refl U.vm) qx0, va_T.moved (u := U) (U := U.calling g mk a) (Vm.Alike.refl U.vm) qx1, va_Z.moved (u := U) (U := U.calling g mk a) (Vm.Alike.refl U.vm) qx2, va_T.moved (u := U) (U := U.calling g mk a) (Vm.Alike.refl U.vm) qx3⟩, va_recv hKc hPc (ci := 5) (q0 := 0) rfl rfl, fun U hU hW => ⟨rfl, by rw [hU], by rw [hU]; exact hPc, va_K.moved hW.alike hKc, hDc.weaken (fun _ _ _ _ => trivial), by rw [hU]; exact ((hZOWN_BODIES.kept (fun a h1 h2 => hS.2.1 a h1 h2)).narrow hFc).moved hW.alike, by rw [hU]; exact ((hTOWN_BODIES.kept (fun a h1 h2 => hS.2.1 a h1 h2)).narrow hFc).moved hW.alike, by rw [hU]; exact ((hZABOVE.kept (fun a h1 h2 => hS.2.1 a h1 h2)).narrow hFc).moved hW.alike, by rw [hU]; exact ((hTABOVE.kept (fun a h1 h2 => hS.2.1 a h1 h2)).narrow hFc).moved hW.alike⟩⟩ rfl rfl hl.1 rfl (lv_room (Nat.le_of_ble_eq_true rfl)) dX5_call_140 ⟨Nat.le_of_ble_eq_true rfl, Nat.le_of_ble_eq_true rfl⟩) hS (fun q _ h => hFc q h) hFc (fun r_100 u t H1 locs ht hvm hw hB hz1 hk1 hS => ?_)
            obtain ⟨y_101, f_102, by_101, v_102_0, hP1, hK1, hD1⟩ := hB
            have v_102_0 : y_101.toInt ≤ (n0_ran + 1).toInt + 1 := v_102_0
            rw [ht] at hP1
            have hK1 := va_K.moved hvm.symm hK1
            obtain ⟨hP, hD⟩ := va_join (wr := []) (w1 := [(h0, Sum.inr (5, [Value.ref h1, Value.int n0_size, Value.ref h2, Value.int y_101])), (h1, Sum.inl (cint, 50, Sum.inl f1)), (h2, Sum.inl (cint, 24, Sum.inl f_102))]) hP hD [0, 1, 2] [] rfl rfl (by decide) (by decide) hk1 hFc hP1 hD1
            generalize H1 = H at hP hS ⊢
            have hP : va_P (dC, dI) vwCl [(h0, Sum.inr (5, [Value.ref h1, Value.int n0_size, Value.ref h2, Value.int y_101])), (h1, Sum.inl (cint, 50, Sum.inl f1)), (h2, Sum.inl (cint, 24, Sum.inl f_102))] H := hP
            have hD : va_D A [(h0, Sum.inr (5, [Value.ref h1, Value.int n0_size, Value.ref h2, Value.int y_101])), (h1, Sum.inl (cint, 50, Sum.inl f1)), (h2, Sum.inl (cint, 24, Sum.inl f_102))] := hD
            obtain ⟨hP9, hD9⟩ := kk_leafout (wc := [(h0, Sum.inr (5, [Value.ref h1, Value.int n0_size, Value.ref h2, Value.int y_101])), (h1, Sum.inl (cint, 50, Sum.inl f1)), (h2, Sum.inl (cint, 24, Sum.inl f_102))]) hP hD [0, 1, 2] (by decide) rfl
            have hK9 := hK.sub (tys' := []) [] rfl
            exact W.iret (v := r_100) hx hb hr (fun t ht hW => ⟨⟨r_100, (), rfl, trivial, y_101, f_102, (by show 0 ≤ (y_101 : Int32).toInt ∧ (y_101 : Int32).toInt ≤ 1000; first | decide | (constructor <;> (have := kk_rng p4; have := kk_add2 (x := n0_ran) (y := 1) (a := n0_ran.toInt) (b := 1) rfl rfl (by omega) (by omega); have := kk_rng p4; have := kk_add2 (x := p4) (y := 1) (a := p4.toInt) (b := 1) rfl rfl (by omega) (by omega); omega))), (by show (y_101 : Int32).toInt ≤ (n0_ran : Int32).toInt + 3; first | decide | (have := kk_rng p4; have := kk_add2 (x := n0_ran) (y := 1) (a := n0_ran.toInt) (b := 1) rfl rfl (by omega) (by omega); have := kk_rng p4; have := kk_add2 (x := p4) (y := 1) (a := p4.toInt) (b := 1) rfl rfl (by omega) (by omega); omega)), by rw [ht]; exact hP9, va_K.moved hW.alike hK9, hD9⟩, hS.F ht⟩) hS.2.2 dX5_call_143
          · skip
            refine lv_icmp_ge (tgt := 97) hx hb dX5_call_83 (by decide) (fun c_103 => ?_) (fun c_103 => ?_)
            · have t_103 : 24 ≤ n0_ran.toInt := kk_le c_103
              exact hcut_99 (f2) _ _ _ ⟨hP, hD, hS, lv_sub hl [0, 1, 2, 3, 4, 5, 6, 7] rfl⟩
            · have t_103 : n0_ran.toInt < 24 := kk_nle c_103
              refine lv_aload_n hx hb dX5_call_86 rfl (lv_at hl 2 rfl) ?_
              refine va_get (D := (dC, dI)) (ci := 5) (v := .ref h2) (C := RX5) (T := TX5) (N := 4) hx hb hts (fun _ h => List.mem_cons_of_mem _ (List.mem_append_right _ h)) hown hK hP 0 rfl rfl 2 (by decide) (hts (.fieldLink RX5 15 "KinkStreet$Lines" "trace" "[I") (List.mem_of_getElem? (i := 4) rfl)) (fun _ h9 => h9) rfl dX5_call_87 ?_
              refine lv_aload_n hx hb dX5_call_90 rfl (lv_at hl 2 rfl) ?_
              refine va_get (D := (dC, dI)) (ci := 5) (v := .int n0_ran) (C := RX5) (T := TX5) (N := 4) hx hb hts (fun _ h => List.mem_cons_of_mem _ (List.mem_append_right _ h)) hown hK hP 0 rfl rfl 3 (by decide) (hts (.fieldLink RX5 36 "KinkStreet$Lines" "ran" "I") (List.mem_of_getElem? (i := 3) rfl)) (fun _ h9 => h9) rfl dX5_call_91 ?_
              refine lv_iload hx hb dX5_call_94 (lv_at hl 0 rfl) ?_
              refine va_iast hx hb hK hP hD hS 2 0 rfl rfl (vp_in_iff.mpr ⟨by have := kk_rng p4; omega, by have := kk_rng p4; omega⟩) dX5_call_96 (fun H locs hP hD hS => ?_)
              generalize upd f2 (n0_ran : Int32).toNatClampNeg 0 = f_104 at hP hD
              have hP : va_P (dC, dI) vwCl [(h0, Sum.inr (5, [Value.ref h1, Value.int n0_size, Value.ref h2, Value.int n0_ran])), (h1, Sum.inl (cint, 50, Sum.inl f1)), (h2, Sum.inl (cint, 24, Sum.inl f_104))] H := hP
              have hD : va_D A [(h0, Sum.inr (5, [Value.ref h1, Value.int n0_size, Value.ref h2, Value.int n0_ran])), (h1, Sum.inl (cint, 50, Sum.inl f1)), (h2, Sum.inl (cint, 24, Sum.inl f_104))] := hD
              exact hcut_99 (f_104) _ _ _ ⟨hP, hD, hS, lv_sub hl [0, 1, 2, 3, 4, 5, 6, 7] rfl⟩
        · have t_94 : 40 < p4.toInt := kk_nle c_94
          refine lv_iconst (v := 0) hx hb dX5_call_63 (by decide) ?_
          obtain ⟨hP9, hD9⟩ := kk_leafout (wc := [(h0, Sum.inr (5, [Value.ref h1, Value.int n0_size, Value.ref h2, Value.int n0_ran])), (h1, Sum.inl (cint, 50, Sum.inl f1)), (h2, Sum.inl (cint, 24, Sum.inl f2))]) hP hD [0, 1, 2] (by decide) rfl
          have hK9 := hK.sub (tys' := []) [] rfl
          exact W.iret (v := 0) hx hb hr (fun t ht hW => ⟨⟨0, (), rfl, trivial, n0_ran, f2, (by show 0 ≤ (n0_ran : Int32).toInt ∧ (n0_ran : Int32).toInt ≤ 1000; first | decide | (constructor <;> (have := kk_rng p4; omega))), (by show (n0_ran : Int32).toInt ≤ (n0_ran : Int32).toInt + 3; first | decide | (have := kk_rng p4; omega)), by rw [ht]; exact hP9, va_K.moved hW.alike hK9, hD9⟩, hS.F ht⟩) hS.2.2 dX5_call_64
    · skip
      have t_92_0 : (0 : Int) ≤ 3 := t_92_0
      have t_92_1 : (3 : Int) < 8 := t_92_1
      refine lv_if_eq (tgt := 48) hx hb dX5_call_18 (by decide) (fun c => absurd c (by decide)) (fun _ => ?_)
      refine va_gets hx hb hZOWN_BODIES hS hown (hts (.fieldLink RX5 43 "KinkStreet$Lines" "OWN_BODIES" "[I") (List.mem_of_getElem? (i := 1) rfl)) (fun _ h9 => h9) dX5_call_21 ?_
      refine lv_iload hx hb dX5_call_24 (lv_at hl 1 rfl) ?_
      refine lv_iconst (v := 4) hx hb dX5_call_26 (by decide) ?_
      refine lv_imul hx hb dX5_call_27 ?_
      refine lv_topi (fun y_105 e_105 => ?_)
      obtain rfl : y_105 = 12 := e_105.trans (by decide)
      refine lv_iload_n hx hb dX5_call_28 rfl (lv_at hl 5 rfl) ?_
      refine lv_iadd hx hb dX5_call_29 ?_
      refine lv_topi (fun y_106 e_106 => ?_)
      obtain rfl : y_106 = 12 := e_106.trans (by decide)
      refine va_ti (v := .int 0) hx hb hTOWN_BODIES hS (by unfold vp_in; decide) rfl dX5_call_30 ?_
      refine lv_if_ne (tgt := 48) hx hb dX5_call_31 (by decide) (fun c => absurd c (by decide)) (fun _ => ?_)
      refine va_gets hx hb hZABOVE hS hown (hts (.fieldLink RX5 22 "KinkStreet$Lines" "ABOVE" "[I") (List.mem_of_getElem? (i := 2) rfl)) (fun _ h9 => h9) dX5_call_34 ?_
      refine lv_iload hx hb dX5_call_37 (lv_at hl 1 rfl) ?_
      refine va_ti (v := .int 0) hx hb hTABOVE hS (by unfold vp_in; decide) rfl dX5_call_39 ?_
      refine lv_istore (lv' := [(6, .int 0), (7, .int 0), (0, .ref h0), (1, .int p0), (2, .int 3), (3, .int 0), (4, .int p3), (5, .int p4)]) hx hb dX5_call_40 hl (by decide) rfl (fun ls hl => ?_)
      refine lv_iinc (v := 1) (lv' := [(7, .int 1), (6, .int 0), (0, .ref h0), (1, .int p0), (2, .int 3), (3, .int 0), (4, .int p3), (5, .int p4)]) hx hb dX5_call_42 hl (k := 1) rfl (by first | rfl | decide) (by decide) rfl (fun ls hl => ?_)
      refine lv_goto (tgt := 6) hx hb dX5_call_45 (by decide) ?_
      refine lv_iload hx hb dX5_call_6 (lv_at hl 0 rfl) ?_
      refine lv_bipush (v := 8) hx hb dX5_call_8 (by decide) ?_
      refine lv_icmp_ge (tgt := 48) hx hb dX5_call_10 (by decide) (fun c => absurd c (by decide)) (fun _ => ?_)
      refine lv_iload hx hb dX5_call_13 (lv_at hl 1 rfl) ?_
      obtain ⟨hPc, hDc, hFc⟩ := kk_cutout (wc := []) hP hD hS hA [] (by decide) rfl
      have hKc := hK.sub (tys' := []) [] rfl
      refine va_calli (va_runS (As := [.int 0]) (rest := []) ⟨hx, hb, hml, hown, hts⟩ (g_X5_isKind_0 l dC dI H.size 0) (va_cwS 1 hts gX5_call_X5_isKind rfl rfl rfl (by decide +kernel) ⟨Nat.le_of_ble_eq_true rfl, Nat.le_of_ble_eq_true rfl⟩) ⟨fun a U g mk q => by obtain ⟨q0, q1, qP, qK, qD⟩ := q; exact ⟨q0, q1, qP, va_K.moved (u := U) (U := U.calling g mk a) (Vm.Alike.refl U.vm) qK, qD⟩, fun U hU hW => ⟨rfl, by rw [hU], by rw [hU]; exact hPc, va_K.moved hW.alike hKc, hDc.weaken (fun _ _ _ _ => trivial)⟩⟩ rfl rfl hl.1 rfl (lv_room (Nat.le_of_ble_eq_true rfl)) dX5_call_15 ⟨Nat.le_of_ble_eq_true rfl, Nat.le_of_ble_eq_true rfl⟩) hS (fun q _ h => hFc q h) hFc (fun r_107 u t H1 locs ht hvm hw hB hz1 hk1 hS => ?_)
      obtain ⟨hP1, hK1, hD1⟩ := hB
      rw [ht] at hP1
      have hK1 := va_K.moved hvm.symm hK1
      obtain ⟨hP, hD⟩ := va_join (wr := [(h0, Sum.inr (5, [Value.ref h1, Value.int n0_size, Value.ref h2, Value.int n0_ran])), (h1, Sum.inl (cint, 50, Sum.inl f1)), (h2, Sum.inl (cint, 24, Sum.inl f2))]) (w1 := []) hP hD [] [0, 1, 2] rfl rfl (by decide) (by decide) hk1 hFc hP1 hD1
      generalize H1 = H at hP hS ⊢
      have hP : va_P (dC, dI) vwCl [(h0, Sum.inr (5, [Value.ref h1, Value.int n0_size, Value.ref h2, Value.int n0_ran])), (h1, Sum.inl (cint, 50, Sum.inl f1)), (h2, Sum.inl (cint, 24, Sum.inl f2))] H := hP
      have hD : va_D A [(h0, Sum.inr (5, [Value.ref h1, Value.int n0_size, Value.ref h2, Value.int n0_ran])), (h1, Sum.inl (cint, 50, Sum.inl f1)), (h2, Sum.inl (cint, 24, Sum.inl f2))] := hD
      rcases hw with ⟨rfl⟩ | ⟨t_107_0, t_107_1, rfl⟩
      · skip
        refine lv_if_eq (tgt := 48) hx hb dX5_call_18 (by decide) (fun _ => ?_) (fun c => absurd c (by decide))
        refine lv_iload hx hb dX5_call_48 (lv_at hl 1 rfl) ?_
        obtain ⟨hPc, hDc, hFc⟩ := kk_cutout (wc := []) hP hD hS hA [] (by decide) rfl
        have hKc := hK.sub (tys' := []) [] rfl
        refine va_calli (va_runS (As := [.int 0]) (rest := []) ⟨hx, hb, hml, hown, hts⟩ (g_X5_isKind_0 l dC dI H.size 0) (va_cwS 1 hts gX5_call_X5_isKind rfl rfl rfl (by decide +kernel) ⟨Nat.le_of_ble_eq_true rfl, Nat.le_of_ble_eq_true rfl⟩) ⟨fun a U g mk q => by obtain ⟨q0, q1, qP, qK, qD⟩ := q; exact ⟨q0, q1, qP, va_K.moved (u := U) (U := U.calling g mk a) (Vm.Alike.refl U.vm) qK, qD⟩, fun U hU hW => ⟨rfl, by rw [hU], by rw [hU]; exact hPc, va_K.moved hW.alike hKc, hDc.weaken (fun _ _ _ _ => trivial)⟩⟩ rfl rfl hl.1 rfl (lv_room (Nat.le_of_ble_eq_true rfl)) dX5_call_50 ⟨Nat.le_of_ble_eq_true rfl, Nat.le_of_ble_eq_true rfl⟩) hS (fun q _ h => hFc q h) hFc (fun r_108 u t H1 locs ht hvm hw hB hz1 hk1 hS => ?_)
        obtain ⟨hP1, hK1, hD1⟩ := hB
        rw [ht] at hP1
        have hK1 := va_K.moved hvm.symm hK1
        obtain ⟨hP, hD⟩ := va_join (wr := [(h0, Sum.inr (5, [Value.ref h1, Value.int n0_size, Value.ref h2, Value.int n0_ran])), (h1, Sum.inl (cint, 50, Sum.inl f1)), (h2, Sum.inl (cint, 24, Sum.inl f2))]) (w1 := []) hP hD [] [0, 1, 2] rfl rfl (by decide) (by decide) hk1 hFc hP1 hD1
        generalize H1 = H at hP hS ⊢
        have hP : va_P (dC, dI) vwCl [(h0, Sum.inr (5, [Value.ref h1, Value.int n0_size, Value.ref h2, Value.int n0_ran])), (h1, Sum.inl (cint, 50, Sum.inl f1)), (h2, Sum.inl (cint, 24, Sum.inl f2))] H := hP
        have hD : va_D A [(h0, Sum.inr (5, [Value.ref h1, Value.int n0_size, Value.ref h2, Value.int n0_ran])), (h1, Sum.inl (cint, 50, Sum.inl f1)), (h2, Sum.inl (cint, 24, Sum.inl f2))] := hD
        rcases hw with ⟨rfl⟩ | ⟨t_108_0, t_108_1, rfl⟩
        · skip
          refine lv_if_eq (tgt := 63) hx hb dX5_call_53 (by decide) (fun _ => ?_) (fun c => absurd c (by decide))
          refine lv_iconst (v := 0) hx hb dX5_call_63 (by decide) ?_
          obtain ⟨hP9, hD9⟩ := kk_leafout (wc := [(h0, Sum.inr (5, [Value.ref h1, Value.int n0_size, Value.ref h2, Value.int n0_ran])), (h1, Sum.inl (cint, 50, Sum.inl f1)), (h2, Sum.inl (cint, 24, Sum.inl f2))]) hP hD [0, 1, 2] (by decide) rfl
          have hK9 := hK.sub (tys' := []) [] rfl
          exact W.iret (v := 0) hx hb hr (fun t ht hW => ⟨⟨0, (), rfl, trivial, n0_ran, f2, (by show 0 ≤ (n0_ran : Int32).toInt ∧ (n0_ran : Int32).toInt ≤ 1000; first | decide | (constructor <;> (omega))), (by show (n0_ran : Int32).toInt ≤ (n0_ran : Int32).toInt + 3; first | decide | (omega)), by rw [ht]; exact hP9, va_K.moved hW.alike hK9, hD9⟩, hS.F ht⟩) hS.2.2 dX5_call_64
        · skip
          have t_108_0 : (0 : Int) ≤ 0 := t_108_0
          have t_108_1 : (0 : Int) < 8 := t_108_1
          refine lv_if_eq (tgt := 63) hx hb dX5_call_53 (by decide) (fun c => absurd c (by decide)) (fun _ => ?_)
          refine lv_iload hx hb dX5_call_56 (lv_at hl 7 rfl) ?_
          refine lv_bipush (v := 40) hx hb dX5_call_58 (by decide) ?_
          refine lv_icmp_le (tgt := 65) hx hb dX5_call_60 (by decide) (fun c_109 => ?_) (fun c_109 => ?_)
          · have t_109 : p4.toInt ≤ 40 := kk_le c_109
            refine va_gets hx hb hZOWN_BODIES hS hown (hts (.fieldLink RX5 43 "KinkStreet$Lines" "OWN_BODIES" "[I") (List.mem_of_getElem? (i := 1) rfl)) (fun _ h9 => h9) dX5_call_65 ?_
            refine lv_iload hx hb dX5_call_68 (lv_at hl 1 rfl) ?_
            refine lv_iconst (v := 4) hx hb dX5_call_70 (by decide) ?_
            refine lv_imul hx hb dX5_call_71 ?_
            refine lv_topi (fun y_110 e_110 => ?_)
            obtain rfl : y_110 = 0 := e_110.trans (by decide)
            refine lv_iload_n hx hb dX5_call_72 rfl (lv_at hl 5 rfl) ?_
            refine lv_iadd hx hb dX5_call_73 ?_
            refine lv_topi (fun y_111 e_111 => ?_)
            obtain rfl : y_111 = 0 := e_111.trans (by decide)
            refine va_ti (v := .int 1) hx hb hTOWN_BODIES hS (by unfold vp_in; decide) rfl dX5_call_74 ?_
            refine lv_istore (lv' := [(7, .int 1), (6, .int 0), (0, .ref h0), (1, .int p0), (2, .int 3), (3, .int 0), (4, .int p3), (5, .int p4)]) hx hb dX5_call_75 hl (by decide) rfl (fun ls hl => ?_)
            refine lv_aload_n hx hb dX5_call_77 rfl (lv_at hl 2 rfl) ?_
            refine va_get (D := (dC, dI)) (ci := 5) (v := .int n0_ran) (C := RX5) (T := TX5) (N := 4) hx hb hts (fun _ h => List.mem_cons_of_mem _ (List.mem_append_right _ h)) hown hK hP 0 rfl rfl 3 (by decide) (hts (.fieldLink RX5 36 "KinkStreet$Lines" "ran" "I") (List.mem_of_getElem? (i := 3) rfl)) (fun _ h9 => h9) rfl dX5_call_78 ?_
            refine lv_bipush (v := 24) hx hb dX5_call_81 (by decide) ?_
            refine kk_cut (σ := (Nat → Int32)) (pc' := 97) (fun x H locs ls => va_P (dC, dI) vwCl [(h0, Sum.inr (5, [Value.ref h1, Value.int n0_size, Value.ref h2, Value.int n0_ran])), (h1, Sum.inl (cint, 50, Sum.inl f1)), (h2, Sum.inl (cint, 24, Sum.inl x))] H ∧ va_D A [(h0, Sum.inr (5, [Value.ref h1, Value.int n0_size, Value.ref h2, Value.int n0_ran])), (h1, Sum.inl (cint, 50, Sum.inl f1)), (h2, Sum.inl (cint, 24, Sum.inl x))] ∧ va_S A s.heap H locs ∧ lv_has ls 8 [(7, .int 1), (6, .int 0), (0, .ref h0), (1, .int p0), (2, .int 3), (3, .int 0), (4, .int p3), (5, .int p4)]) ?_ (fun hcut_114 => ?_)
            · rintro f_114_0 H locs ls ⟨hP, hD, hS, hl⟩
              have hl : lv_has ls 8 [(7, .int 1), (6, .int 0), (0, .ref h0), (1, .int p0), (2, .int 3), (3, .int 0), (4, .int p3), (5, .int p4)] := hl
              have hP : va_P (dC, dI) vwCl [(h0, Sum.inr (5, [Value.ref h1, Value.int n0_size, Value.ref h2, Value.int n0_ran])), (h1, Sum.inl (cint, 50, Sum.inl f1)), (h2, Sum.inl (cint, 24, Sum.inl f_114_0))] H := hP
              have hD : va_D A [(h0, Sum.inr (5, [Value.ref h1, Value.int n0_size, Value.ref h2, Value.int n0_ran])), (h1, Sum.inl (cint, 50, Sum.inl f1)), (h2, Sum.inl (cint, 24, Sum.inl f_114_0))] := hD
              refine lv_aload_n hx hb dX5_call_97 rfl (lv_at hl 2 rfl) ?_
              refine lv_dup hx hb dX5_call_98 rfl ?_
              refine va_get (D := (dC, dI)) (ci := 5) (v := .int n0_ran) (C := RX5) (T := TX5) (N := 4) hx hb hts (fun _ h => List.mem_cons_of_mem _ (List.mem_append_right _ h)) hown hK hP 0 rfl rfl 3 (by decide) (hts (.fieldLink RX5 36 "KinkStreet$Lines" "ran" "I") (List.mem_of_getElem? (i := 3) rfl)) (fun _ h9 => h9) rfl dX5_call_99 ?_
              refine lv_iconst (v := 1) hx hb dX5_call_102 (by decide) ?_
              refine lv_iadd hx hb dX5_call_103 ?_
              refine va_put (D := (dC, dI)) (ci := 5) (v := .int (n0_ran + 1)) (ty := .int) (C := RX5) (T := TX5) (N := 4) hx hb hts (fun _ h => List.mem_cons_of_mem _ (List.mem_append_right _ h)) tyX5 tyX5_ok nmX5 hown hK hP hD hS 0 rfl rfl 3 (by decide) (hts (.fieldLink RX5 36 "KinkStreet$Lines" "ran" "I") (List.mem_of_getElem? (i := 3) rfl)) (fun _ h9 => h9) rfl (by decide +kernel) rfl rfl (Nat.le_of_ble_eq_true rfl) dX5_call_104 (fun H locs hP hD hS => ?_)
              have hP : va_P (dC, dI) vwCl [(h0, Sum.inr (5, [Value.ref h1, Value.int n0_size, Value.ref h2, Value.int (n0_ran + 1)])), (h1, Sum.inl (cint, 50, Sum.inl f1)), (h2, Sum.inl (cint, 24, Sum.inl f_114_0))] H := hP
              have hD : va_D A [(h0, Sum.inr (5, [Value.ref h1, Value.int n0_size, Value.ref h2, Value.int (n0_ran + 1)])), (h1, Sum.inl (cint, 50, Sum.inl f1)), (h2, Sum.inl (cint, 24, Sum.inl f_114_0))] := hD
              refine lv_iload hx hb dX5_call_107 (lv_at hl 1 rfl) ?_
              refine lv_if_ne (tgt := 128) hx hb dX5_call_109 (by decide) (fun c => absurd c (by decide)) (fun _ => ?_)
              refine lv_aload_n hx hb dX5_call_112 rfl (lv_at hl 2 rfl) ?_
              refine lv_iload_n hx hb dX5_call_113 rfl (lv_at hl 3 rfl) ?_
              refine lv_iload hx hb dX5_call_114 (lv_at hl 0 rfl) ?_
              refine lv_iload hx hb dX5_call_116 (lv_at hl 6 rfl) ?_
              refine lv_iload hx hb dX5_call_118 (lv_at hl 7 rfl) ?_
              refine lv_iconst (v := 1) hx hb dX5_call_120 (by decide) ?_
              refine lv_iadd hx hb dX5_call_121 ?_
              obtain ⟨hPc, hDc, hFc⟩ := kk_cutout (wc := [(h0, Sum.inr (5, [Value.ref h1, Value.int n0_size, Value.ref h2, Value.int (n0_ran + 1)])), (h1, Sum.inl (cint, 50, Sum.inl f1))]) hP hD hS hA [0, 1] (by decide) rfl
              have hKc := hK.sub (tys' := [(cint, .int)]) [0] rfl
              refine va_calli (va_runV (As := [.int p0, .int 1, .int p3, .int (p4 + 1)]) (rest := []) ⟨hx, hb, hml, hown, hts⟩ (g_X5_runLine_0 l dC dI h0 h1 h2 cint H.size p0 p3 (p4 + 1) n0_size (n0_ran + 1) f1 tn0_size (by show 0 ≤ ((n0_ran + 1) : Int32).toInt ∧ ((n0_ran + 1) : Int32).toInt ≤ 1000; first | decide | (constructor <;> (have := kk_rng p4; have := kk_add2 (x := n0_ran) (y := 1) (a := n0_ran.toInt) (b := 1) rfl rfl (by omega) (by omega); have := kk_rng p4; have := kk_add2 (x := p4) (y := 1) (a := p4.toInt) (b := 1) rfl rfl (by omega) (by omega); omega))) bf1) (cwV 4 hts gX5_call_X5_runLine rfl rfl rfl (by decide +kernel) ⟨Nat.le_of_ble_eq_true rfl, Nat.le_of_ble_eq_true rfl⟩) ⟨fun a U g mk q => by obtain ⟨q0, q1, qP, qK, qD⟩ := q; exact ⟨q0, q1, qP, va_K.moved (u := U) (U := U.calling g mk a) (Vm.Alike.refl U.vm) qK, qD⟩, va_recv hKc hPc (ci := 5) (q0 := 0) rfl rfl, fun U hU hW => ⟨rfl, by rw [hU], by rw [hU]; exact hPc, va_K.moved hW.alike hKc, hDc.weaken (fun _ _ _ _ => trivial)⟩⟩ rfl rfl hl.1 rfl (lv_room (Nat.le_of_ble_eq_true rfl)) dX5_call_122 ⟨Nat.le_of_ble_eq_true rfl, Nat.le_of_ble_eq_true rfl⟩) hS (fun q _ h => hFc q h) hFc (fun r_115 u t H1 locs ht hvm hw hB hz1 hk1 hS => ?_)
              obtain ⟨hP1, hK1, hD1⟩ := hB
              rw [ht] at hP1
              have hK1 := va_K.moved hvm.symm hK1
              obtain ⟨hP, hD⟩ := va_join (wr := [(h2, Sum.inl (cint, 24, Sum.inl f_114_0))]) (w1 := [(h0, Sum.inr (5, [Value.ref h1, Value.int n0_size, Value.ref h2, Value.int (n0_ran + 1)])), (h1, Sum.inl (cint, 50, Sum.inl f1))]) hP hD [0, 1] [2] rfl rfl (by decide) (by decide) hk1 hFc hP1 hD1
              generalize H1 = H at hP hS ⊢
              have hP : va_P (dC, dI) vwCl [(h2, Sum.inl (cint, 24, Sum.inl f_114_0)), (h0, Sum.inr (5, [Value.ref h1, Value.int n0_size, Value.ref h2, Value.int (n0_ran + 1)])), (h1, Sum.inl (cint, 50, Sum.inl f1))] H := hP
              have hD : va_D A [(h2, Sum.inl (cint, 24, Sum.inl f_114_0)), (h0, Sum.inr (5, [Value.ref h1, Value.int n0_size, Value.ref h2, Value.int (n0_ran + 1)])), (h1, Sum.inl (cint, 50, Sum.inl f1))] := hD
              obtain rfl := hw
              refine lv_goto (tgt := 143) hx hb dX5_call_125 (by decide) ?_
              obtain ⟨hP9, hD9⟩ := kk_leafout (wc := [(h0, Sum.inr (5, [Value.ref h1, Value.int n0_size, Value.ref h2, Value.int (n0_ran + 1)])), (h1, Sum.inl (cint, 50, Sum.inl f1)), (h2, Sum.inl (cint, 24, Sum.inl f_114_0))]) hP hD [1, 2, 0] (by decide) rfl
              have hK9 := hK.sub (tys' := []) [] rfl
              exact W.iret (v := (p3 + p0)) hx hb hr (fun t ht hW => ⟨⟨(p3 + p0), (), rfl, trivial, (n0_ran + 1), f_114_0, (by show 0 ≤ ((n0_ran + 1) : Int32).toInt ∧ ((n0_ran + 1) : Int32).toInt ≤ 1000; first | decide | (constructor <;> (have := kk_rng p4; have := kk_add2 (x := n0_ran) (y := 1) (a := n0_ran.toInt) (b := 1) rfl rfl (by omega) (by omega); have := kk_rng p4; have := kk_add2 (x := p4) (y := 1) (a := p4.toInt) (b := 1) rfl rfl (by omega) (by omega); omega))), (by show ((n0_ran + 1) : Int32).toInt ≤ (n0_ran : Int32).toInt + 3; first | decide | (have := kk_rng p4; have := kk_add2 (x := n0_ran) (y := 1) (a := n0_ran.toInt) (b := 1) rfl rfl (by omega) (by omega); have := kk_rng p4; have := kk_add2 (x := p4) (y := 1) (a := p4.toInt) (b := 1) rfl rfl (by omega) (by omega); omega)), by rw [ht]; exact hP9, va_K.moved hW.alike hK9, hD9⟩, hS.F ht⟩) hS.2.2 dX5_call_143
            · skip
              refine lv_icmp_ge (tgt := 97) hx hb dX5_call_83 (by decide) (fun c_116 => ?_) (fun c_116 => ?_)
              · have t_116 : 24 ≤ n0_ran.toInt := kk_le c_116
                exact hcut_114 (f2) _ _ _ ⟨hP, hD, hS, lv_sub hl [0, 1, 2, 3, 4, 5, 6, 7] rfl⟩
              · have t_116 : n0_ran.toInt < 24 := kk_nle c_116
                refine lv_aload_n hx hb dX5_call_86 rfl (lv_at hl 2 rfl) ?_
                refine va_get (D := (dC, dI)) (ci := 5) (v := .ref h2) (C := RX5) (T := TX5) (N := 4) hx hb hts (fun _ h => List.mem_cons_of_mem _ (List.mem_append_right _ h)) hown hK hP 0 rfl rfl 2 (by decide) (hts (.fieldLink RX5 15 "KinkStreet$Lines" "trace" "[I") (List.mem_of_getElem? (i := 4) rfl)) (fun _ h9 => h9) rfl dX5_call_87 ?_
                refine lv_aload_n hx hb dX5_call_90 rfl (lv_at hl 2 rfl) ?_
                refine va_get (D := (dC, dI)) (ci := 5) (v := .int n0_ran) (C := RX5) (T := TX5) (N := 4) hx hb hts (fun _ h => List.mem_cons_of_mem _ (List.mem_append_right _ h)) hown hK hP 0 rfl rfl 3 (by decide) (hts (.fieldLink RX5 36 "KinkStreet$Lines" "ran" "I") (List.mem_of_getElem? (i := 3) rfl)) (fun _ h9 => h9) rfl dX5_call_91 ?_
                refine lv_iload hx hb dX5_call_94 (lv_at hl 0 rfl) ?_
                refine va_iast hx hb hK hP hD hS 2 0 rfl rfl (vp_in_iff.mpr ⟨by have := kk_rng p4; omega, by have := kk_rng p4; omega⟩) dX5_call_96 (fun H locs hP hD hS => ?_)
                generalize upd f2 (n0_ran : Int32).toNatClampNeg 1 = f_117 at hP hD
                have hP : va_P (dC, dI) vwCl [(h0, Sum.inr (5, [Value.ref h1, Value.int n0_size, Value.ref h2, Value.int n0_ran])), (h1, Sum.inl (cint, 50, Sum.inl f1)), (h2, Sum.inl (cint, 24, Sum.inl f_117))] H := hP
                have hD : va_D A [(h0, Sum.inr (5, [Value.ref h1, Value.int n0_size, Value.ref h2, Value.int n0_ran])), (h1, Sum.inl (cint, 50, Sum.inl f1)), (h2, Sum.inl (cint, 24, Sum.inl f_117))] := hD
                exact hcut_114 (f_117) _ _ _ ⟨hP, hD, hS, lv_sub hl [0, 1, 2, 3, 4, 5, 6, 7] rfl⟩
          · have t_109 : 40 < p4.toInt := kk_nle c_109
            refine lv_iconst (v := 0) hx hb dX5_call_63 (by decide) ?_
            obtain ⟨hP9, hD9⟩ := kk_leafout (wc := [(h0, Sum.inr (5, [Value.ref h1, Value.int n0_size, Value.ref h2, Value.int n0_ran])), (h1, Sum.inl (cint, 50, Sum.inl f1)), (h2, Sum.inl (cint, 24, Sum.inl f2))]) hP hD [0, 1, 2] (by decide) rfl
            have hK9 := hK.sub (tys' := []) [] rfl
            exact W.iret (v := 0) hx hb hr (fun t ht hW => ⟨⟨0, (), rfl, trivial, n0_ran, f2, (by show 0 ≤ (n0_ran : Int32).toInt ∧ (n0_ran : Int32).toInt ≤ 1000; first | decide | (constructor <;> (have := kk_rng p4; omega))), (by show (n0_ran : Int32).toInt ≤ (n0_ran : Int32).toInt + 3; first | decide | (have := kk_rng p4; omega)), by rw [ht]; exact hP9, va_K.moved hW.alike hK9, hD9⟩, hS.F ht⟩) hS.2.2 dX5_call_64
      · skip
        have t_107_0 : (0 : Int) ≤ 0 := t_107_0
        have t_107_1 : (0 : Int) < 8 := t_107_1
        refine lv_if_eq (tgt := 48) hx hb dX5_call_18 (by decide) (fun c => absurd c (by decide)) (fun _ => ?_)
        refine va_gets hx hb hZOWN_BODIES hS hown (hts (.fieldLink RX5 43 "KinkStreet$Lines" "OWN_BODIES" "[I") (List.mem_of_getElem? (i := 1) rfl)) (fun _ h9 => h9) dX5_call_21 ?_
        refine lv_iload hx hb dX5_call_24 (lv_at hl 1 rfl) ?_
        refine lv_iconst (v := 4) hx hb dX5_call_26 (by decide) ?_
        refine lv_imul hx hb dX5_call_27 ?_
        refine lv_topi (fun y_118 e_118 => ?_)
        obtain rfl : y_118 = 0 := e_118.trans (by decide)
        refine lv_iload_n hx hb dX5_call_28 rfl (lv_at hl 5 rfl) ?_
        refine lv_iadd hx hb dX5_call_29 ?_
        refine lv_topi (fun y_119 e_119 => ?_)
        obtain rfl : y_119 = 0 := e_119.trans (by decide)
        refine va_ti (v := .int 1) hx hb hTOWN_BODIES hS (by unfold vp_in; decide) rfl dX5_call_30 ?_
        refine lv_if_ne (tgt := 48) hx hb dX5_call_31 (by decide) (fun _ => ?_) (fun c => absurd c (by decide))
        refine lv_iload hx hb dX5_call_48 (lv_at hl 1 rfl) ?_
        obtain ⟨hPc, hDc, hFc⟩ := kk_cutout (wc := []) hP hD hS hA [] (by decide) rfl
        have hKc := hK.sub (tys' := []) [] rfl
        refine va_calli (va_runS (As := [.int 0]) (rest := []) ⟨hx, hb, hml, hown, hts⟩ (g_X5_isKind_0 l dC dI H.size 0) (va_cwS 1 hts gX5_call_X5_isKind rfl rfl rfl (by decide +kernel) ⟨Nat.le_of_ble_eq_true rfl, Nat.le_of_ble_eq_true rfl⟩) ⟨fun a U g mk q => by obtain ⟨q0, q1, qP, qK, qD⟩ := q; exact ⟨q0, q1, qP, va_K.moved (u := U) (U := U.calling g mk a) (Vm.Alike.refl U.vm) qK, qD⟩, fun U hU hW => ⟨rfl, by rw [hU], by rw [hU]; exact hPc, va_K.moved hW.alike hKc, hDc.weaken (fun _ _ _ _ => trivial)⟩⟩ rfl rfl hl.1 rfl (lv_room (Nat.le_of_ble_eq_true rfl)) dX5_call_50 ⟨Nat.le_of_ble_eq_true rfl, Nat.le_of_ble_eq_true rfl⟩) hS (fun q _ h => hFc q h) hFc (fun r_120 u t H1 locs ht hvm hw hB hz1 hk1 hS => ?_)
        obtain ⟨hP1, hK1, hD1⟩ := hB
        rw [ht] at hP1
        have hK1 := va_K.moved hvm.symm hK1
        obtain ⟨hP, hD⟩ := va_join (wr := [(h0, Sum.inr (5, [Value.ref h1, Value.int n0_size, Value.ref h2, Value.int n0_ran])), (h1, Sum.inl (cint, 50, Sum.inl f1)), (h2, Sum.inl (cint, 24, Sum.inl f2))]) (w1 := []) hP hD [] [0, 1, 2] rfl rfl (by decide) (by decide) hk1 hFc hP1 hD1
        generalize H1 = H at hP hS ⊢
        have hP : va_P (dC, dI) vwCl [(h0, Sum.inr (5, [Value.ref h1, Value.int n0_size, Value.ref h2, Value.int n0_ran])), (h1, Sum.inl (cint, 50, Sum.inl f1)), (h2, Sum.inl (cint, 24, Sum.inl f2))] H := hP
        have hD : va_D A [(h0, Sum.inr (5, [Value.ref h1, Value.int n0_size, Value.ref h2, Value.int n0_ran])), (h1, Sum.inl (cint, 50, Sum.inl f1)), (h2, Sum.inl (cint, 24, Sum.inl f2))] := hD
        rcases hw with ⟨rfl⟩ | ⟨t_120_0, t_120_1, rfl⟩
        · skip
          refine lv_if_eq (tgt := 63) hx hb dX5_call_53 (by decide) (fun _ => ?_) (fun c => absurd c (by decide))
          refine lv_iconst (v := 0) hx hb dX5_call_63 (by decide) ?_
          obtain ⟨hP9, hD9⟩ := kk_leafout (wc := [(h0, Sum.inr (5, [Value.ref h1, Value.int n0_size, Value.ref h2, Value.int n0_ran])), (h1, Sum.inl (cint, 50, Sum.inl f1)), (h2, Sum.inl (cint, 24, Sum.inl f2))]) hP hD [0, 1, 2] (by decide) rfl
          have hK9 := hK.sub (tys' := []) [] rfl
          exact W.iret (v := 0) hx hb hr (fun t ht hW => ⟨⟨0, (), rfl, trivial, n0_ran, f2, (by show 0 ≤ (n0_ran : Int32).toInt ∧ (n0_ran : Int32).toInt ≤ 1000; first | decide | (constructor <;> (omega))), (by show (n0_ran : Int32).toInt ≤ (n0_ran : Int32).toInt + 3; first | decide | (omega)), by rw [ht]; exact hP9, va_K.moved hW.alike hK9, hD9⟩, hS.F ht⟩) hS.2.2 dX5_call_64
        · skip
          have t_120_0 : (0 : Int) ≤ 0 := t_120_0
          have t_120_1 : (0 : Int) < 8 := t_120_1
          refine lv_if_eq (tgt := 63) hx hb dX5_call_53 (by decide) (fun c => absurd c (by decide)) (fun _ => ?_)
          refine lv_iload hx hb dX5_call_56 (lv_at hl 7 rfl) ?_
          refine lv_bipush (v := 40) hx hb dX5_call_58 (by decide) ?_
          refine lv_icmp_le (tgt := 65) hx hb dX5_call_60 (by decide) (fun c_121 => ?_) (fun c_121 => ?_)
          · have t_121 : p4.toInt ≤ 40 := kk_le c_121
            refine va_gets hx hb hZOWN_BODIES hS hown (hts (.fieldLink RX5 43 "KinkStreet$Lines" "OWN_BODIES" "[I") (List.mem_of_getElem? (i := 1) rfl)) (fun _ h9 => h9) dX5_call_65 ?_
            refine lv_iload hx hb dX5_call_68 (lv_at hl 1 rfl) ?_
            refine lv_iconst (v := 4) hx hb dX5_call_70 (by decide) ?_
            refine lv_imul hx hb dX5_call_71 ?_
            refine lv_topi (fun y_122 e_122 => ?_)
            obtain rfl : y_122 = 0 := e_122.trans (by decide)
            refine lv_iload_n hx hb dX5_call_72 rfl (lv_at hl 5 rfl) ?_
            refine lv_iadd hx hb dX5_call_73 ?_
            refine lv_topi (fun y_123 e_123 => ?_)
            obtain rfl : y_123 = 0 := e_123.trans (by decide)
            refine va_ti (v := .int 1) hx hb hTOWN_BODIES hS (by unfold vp_in; decide) rfl dX5_call_74 ?_
            refine lv_istore (lv' := [(7, .int 1), (6, .int 0), (0, .ref h0), (1, .int p0), (2, .int 3), (3, .int 0), (4, .int p3), (5, .int p4)]) hx hb dX5_call_75 hl (by decide) rfl (fun ls hl => ?_)
            refine lv_aload_n hx hb dX5_call_77 rfl (lv_at hl 2 rfl) ?_
            refine va_get (D := (dC, dI)) (ci := 5) (v := .int n0_ran) (C := RX5) (T := TX5) (N := 4) hx hb hts (fun _ h => List.mem_cons_of_mem _ (List.mem_append_right _ h)) hown hK hP 0 rfl rfl 3 (by decide) (hts (.fieldLink RX5 36 "KinkStreet$Lines" "ran" "I") (List.mem_of_getElem? (i := 3) rfl)) (fun _ h9 => h9) rfl dX5_call_78 ?_
            refine lv_bipush (v := 24) hx hb dX5_call_81 (by decide) ?_
            refine kk_cut (σ := (Nat → Int32)) (pc' := 97) (fun x H locs ls => va_P (dC, dI) vwCl [(h0, Sum.inr (5, [Value.ref h1, Value.int n0_size, Value.ref h2, Value.int n0_ran])), (h1, Sum.inl (cint, 50, Sum.inl f1)), (h2, Sum.inl (cint, 24, Sum.inl x))] H ∧ va_D A [(h0, Sum.inr (5, [Value.ref h1, Value.int n0_size, Value.ref h2, Value.int n0_ran])), (h1, Sum.inl (cint, 50, Sum.inl f1)), (h2, Sum.inl (cint, 24, Sum.inl x))] ∧ va_S A s.heap H locs ∧ lv_has ls 8 [(7, .int 1), (6, .int 0), (0, .ref h0), (1, .int p0), (2, .int 3), (3, .int 0), (4, .int p3), (5, .int p4)]) ?_ (fun hcut_126 => ?_)
            · rintro f_126_0 H locs ls ⟨hP, hD, hS, hl⟩
              have hl : lv_has ls 8 [(7, .int 1), (6, .int 0), (0, .ref h0), (1, .int p0), (2, .int 3), (3, .int 0), (4, .int p3), (5, .int p4)] := hl
              have hP : va_P (dC, dI) vwCl [(h0, Sum.inr (5, [Value.ref h1, Value.int n0_size, Value.ref h2, Value.int n0_ran])), (h1, Sum.inl (cint, 50, Sum.inl f1)), (h2, Sum.inl (cint, 24, Sum.inl f_126_0))] H := hP
              have hD : va_D A [(h0, Sum.inr (5, [Value.ref h1, Value.int n0_size, Value.ref h2, Value.int n0_ran])), (h1, Sum.inl (cint, 50, Sum.inl f1)), (h2, Sum.inl (cint, 24, Sum.inl f_126_0))] := hD
              refine lv_aload_n hx hb dX5_call_97 rfl (lv_at hl 2 rfl) ?_
              refine lv_dup hx hb dX5_call_98 rfl ?_
              refine va_get (D := (dC, dI)) (ci := 5) (v := .int n0_ran) (C := RX5) (T := TX5) (N := 4) hx hb hts (fun _ h => List.mem_cons_of_mem _ (List.mem_append_right _ h)) hown hK hP 0 rfl rfl 3 (by decide) (hts (.fieldLink RX5 36 "KinkStreet$Lines" "ran" "I") (List.mem_of_getElem? (i := 3) rfl)) (fun _ h9 => h9) rfl dX5_call_99 ?_
              refine lv_iconst (v := 1) hx hb dX5_call_102 (by decide) ?_
              refine lv_iadd hx hb dX5_call_103 ?_
              refine va_put (D := (dC, dI)) (ci := 5) (v := .int (n0_ran + 1)) (ty := .int) (C := RX5) (T := TX5) (N := 4) hx hb hts (fun _ h => List.mem_cons_of_mem _ (List.mem_append_right _ h)) tyX5 tyX5_ok nmX5 hown hK hP hD hS 0 rfl rfl 3 (by decide) (hts (.fieldLink RX5 36 "KinkStreet$Lines" "ran" "I") (List.mem_of_getElem? (i := 3) rfl)) (fun _ h9 => h9) rfl (by decide +kernel) rfl rfl (Nat.le_of_ble_eq_true rfl) dX5_call_104 (fun H locs hP hD hS => ?_)
              have hP : va_P (dC, dI) vwCl [(h0, Sum.inr (5, [Value.ref h1, Value.int n0_size, Value.ref h2, Value.int (n0_ran + 1)])), (h1, Sum.inl (cint, 50, Sum.inl f1)), (h2, Sum.inl (cint, 24, Sum.inl f_126_0))] H := hP
              have hD : va_D A [(h0, Sum.inr (5, [Value.ref h1, Value.int n0_size, Value.ref h2, Value.int (n0_ran + 1)])), (h1, Sum.inl (cint, 50, Sum.inl f1)), (h2, Sum.inl (cint, 24, Sum.inl f_126_0))] := hD
              refine lv_iload hx hb dX5_call_107 (lv_at hl 1 rfl) ?_
              refine lv_if_ne (tgt := 128) hx hb dX5_call_109 (by decide) (fun c => absurd c (by decide)) (fun _ => ?_)
              refine lv_aload_n hx hb dX5_call_112 rfl (lv_at hl 2 rfl) ?_
              refine lv_iload_n hx hb dX5_call_113 rfl (lv_at hl 3 rfl) ?_
              refine lv_iload hx hb dX5_call_114 (lv_at hl 0 rfl) ?_
              refine lv_iload hx hb dX5_call_116 (lv_at hl 6 rfl) ?_
              refine lv_iload hx hb dX5_call_118 (lv_at hl 7 rfl) ?_
              refine lv_iconst (v := 1) hx hb dX5_call_120 (by decide) ?_
              refine lv_iadd hx hb dX5_call_121 ?_
              obtain ⟨hPc, hDc, hFc⟩ := kk_cutout (wc := [(h0, Sum.inr (5, [Value.ref h1, Value.int n0_size, Value.ref h2, Value.int (n0_ran + 1)])), (h1, Sum.inl (cint, 50, Sum.inl f1))]) hP hD hS hA [0, 1] (by decide) rfl
              have hKc := hK.sub (tys' := [(cint, .int)]) [0] rfl
              refine va_calli (va_runV (As := [.int p0, .int 1, .int p3, .int (p4 + 1)]) (rest := []) ⟨hx, hb, hml, hown, hts⟩ (g_X5_runLine_0 l dC dI h0 h1 h2 cint H.size p0 p3 (p4 + 1) n0_size (n0_ran + 1) f1 tn0_size (by show 0 ≤ ((n0_ran + 1) : Int32).toInt ∧ ((n0_ran + 1) : Int32).toInt ≤ 1000; first | decide | (constructor <;> (have := kk_rng p4; have := kk_add2 (x := n0_ran) (y := 1) (a := n0_ran.toInt) (b := 1) rfl rfl (by omega) (by omega); have := kk_rng p4; have := kk_add2 (x := p4) (y := 1) (a := p4.toInt) (b := 1) rfl rfl (by omega) (by omega); omega))) bf1) (cwV 4 hts gX5_call_X5_runLine rfl rfl rfl (by decide +kernel) ⟨Nat.le_of_ble_eq_true rfl, Nat.le_of_ble_eq_true rfl⟩) ⟨fun a U g mk q => by obtain ⟨q0, q1, qP, qK, qD⟩ := q; exact ⟨q0, q1, qP, va_K.moved (u := U) (U := U.calling g mk a) (Vm.Alike.refl U.vm) qK, qD⟩, va_recv hKc hPc (ci := 5) (q0 := 0) rfl rfl, fun U hU hW => ⟨rfl, by rw [hU], by rw [hU]; exact hPc, va_K.moved hW.alike hKc, hDc.weaken (fun _ _ _ _ => trivial)⟩⟩ rfl rfl hl.1 rfl (lv_room (Nat.le_of_ble_eq_true rfl)) dX5_call_122 ⟨Nat.le_of_ble_eq_true rfl, Nat.le_of_ble_eq_true rfl⟩) hS (fun q _ h => hFc q h) hFc (fun r_127 u t H1 locs ht hvm hw hB hz1 hk1 hS => ?_)
              obtain ⟨hP1, hK1, hD1⟩ := hB
              rw [ht] at hP1
              have hK1 := va_K.moved hvm.symm hK1
              obtain ⟨hP, hD⟩ := va_join (wr := [(h2, Sum.inl (cint, 24, Sum.inl f_126_0))]) (w1 := [(h0, Sum.inr (5, [Value.ref h1, Value.int n0_size, Value.ref h2, Value.int (n0_ran + 1)])), (h1, Sum.inl (cint, 50, Sum.inl f1))]) hP hD [0, 1] [2] rfl rfl (by decide) (by decide) hk1 hFc hP1 hD1
              generalize H1 = H at hP hS ⊢
              have hP : va_P (dC, dI) vwCl [(h2, Sum.inl (cint, 24, Sum.inl f_126_0)), (h0, Sum.inr (5, [Value.ref h1, Value.int n0_size, Value.ref h2, Value.int (n0_ran + 1)])), (h1, Sum.inl (cint, 50, Sum.inl f1))] H := hP
              have hD : va_D A [(h2, Sum.inl (cint, 24, Sum.inl f_126_0)), (h0, Sum.inr (5, [Value.ref h1, Value.int n0_size, Value.ref h2, Value.int (n0_ran + 1)])), (h1, Sum.inl (cint, 50, Sum.inl f1))] := hD
              obtain rfl := hw
              refine lv_goto (tgt := 143) hx hb dX5_call_125 (by decide) ?_
              obtain ⟨hP9, hD9⟩ := kk_leafout (wc := [(h0, Sum.inr (5, [Value.ref h1, Value.int n0_size, Value.ref h2, Value.int (n0_ran + 1)])), (h1, Sum.inl (cint, 50, Sum.inl f1)), (h2, Sum.inl (cint, 24, Sum.inl f_126_0))]) hP hD [1, 2, 0] (by decide) rfl
              have hK9 := hK.sub (tys' := []) [] rfl
              exact W.iret (v := (p3 + p0)) hx hb hr (fun t ht hW => ⟨⟨(p3 + p0), (), rfl, trivial, (n0_ran + 1), f_126_0, (by show 0 ≤ ((n0_ran + 1) : Int32).toInt ∧ ((n0_ran + 1) : Int32).toInt ≤ 1000; first | decide | (constructor <;> (have := kk_rng p4; have := kk_add2 (x := n0_ran) (y := 1) (a := n0_ran.toInt) (b := 1) rfl rfl (by omega) (by omega); have := kk_rng p4; have := kk_add2 (x := p4) (y := 1) (a := p4.toInt) (b := 1) rfl rfl (by omega) (by omega); omega))), (by show ((n0_ran + 1) : Int32).toInt ≤ (n0_ran : Int32).toInt + 3; first | decide | (have := kk_rng p4; have := kk_add2 (x := n0_ran) (y := 1) (a := n0_ran.toInt) (b := 1) rfl rfl (by omega) (by omega); have := kk_rng p4; have := kk_add2 (x := p4) (y := 1) (a := p4.toInt) (b := 1) rfl rfl (by omega) (by omega); omega)), by rw [ht]; exact hP9, va_K.moved hW.alike hK9, hD9⟩, hS.F ht⟩) hS.2.2 dX5_call_143
            · skip
              refine lv_icmp_ge (tgt := 97) hx hb dX5_call_83 (by decide) (fun c_128 => ?_) (fun c_128 => ?_)
              · have t_128 : 24 ≤ n0_ran.toInt := kk_le c_128
                exact hcut_126 (f2) _ _ _ ⟨hP, hD, hS, lv_sub hl [0, 1, 2, 3, 4, 5, 6, 7] rfl⟩
              · have t_128 : n0_ran.toInt < 24 := kk_nle c_128
                refine lv_aload_n hx hb dX5_call_86 rfl (lv_at hl 2 rfl) ?_
                refine va_get (D := (dC, dI)) (ci := 5) (v := .ref h2) (C := RX5) (T := TX5) (N := 4) hx hb hts (fun _ h => List.mem_cons_of_mem _ (List.mem_append_right _ h)) hown hK hP 0 rfl rfl 2 (by decide) (hts (.fieldLink RX5 15 "KinkStreet$Lines" "trace" "[I") (List.mem_of_getElem? (i := 4) rfl)) (fun _ h9 => h9) rfl dX5_call_87 ?_
                refine lv_aload_n hx hb dX5_call_90 rfl (lv_at hl 2 rfl) ?_
                refine va_get (D := (dC, dI)) (ci := 5) (v := .int n0_ran) (C := RX5) (T := TX5) (N := 4) hx hb hts (fun _ h => List.mem_cons_of_mem _ (List.mem_append_right _ h)) hown hK hP 0 rfl rfl 3 (by decide) (hts (.fieldLink RX5 36 "KinkStreet$Lines" "ran" "I") (List.mem_of_getElem? (i := 3) rfl)) (fun _ h9 => h9) rfl dX5_call_91 ?_
                refine lv_iload hx hb dX5_call_94 (lv_at hl 0 rfl) ?_
                refine va_iast hx hb hK hP hD hS 2 0 rfl rfl (vp_in_iff.mpr ⟨by have := kk_rng p4; omega, by have := kk_rng p4; omega⟩) dX5_call_96 (fun H locs hP hD hS => ?_)
                generalize upd f2 (n0_ran : Int32).toNatClampNeg 1 = f_129 at hP hD
                have hP : va_P (dC, dI) vwCl [(h0, Sum.inr (5, [Value.ref h1, Value.int n0_size, Value.ref h2, Value.int n0_ran])), (h1, Sum.inl (cint, 50, Sum.inl f1)), (h2, Sum.inl (cint, 24, Sum.inl f_129))] H := hP
                have hD : va_D A [(h0, Sum.inr (5, [Value.ref h1, Value.int n0_size, Value.ref h2, Value.int n0_ran])), (h1, Sum.inl (cint, 50, Sum.inl f1)), (h2, Sum.inl (cint, 24, Sum.inl f_129))] := hD
                exact hcut_126 (f_129) _ _ _ ⟨hP, hD, hS, lv_sub hl [0, 1, 2, 3, 4, 5, 6, 7] rfl⟩
          · have t_121 : 40 < p4.toInt := kk_nle c_121
            refine lv_iconst (v := 0) hx hb dX5_call_63 (by decide) ?_
            obtain ⟨hP9, hD9⟩ := kk_leafout (wc := [(h0, Sum.inr (5, [Value.ref h1, Value.int n0_size, Value.ref h2, Value.int n0_ran])), (h1, Sum.inl (cint, 50, Sum.inl f1)), (h2, Sum.inl (cint, 24, Sum.inl f2))]) hP hD [0, 1, 2] (by decide) rfl
            have hK9 := hK.sub (tys' := []) [] rfl
            exact W.iret (v := 0) hx hb hr (fun t ht hW => ⟨⟨0, (), rfl, trivial, n0_ran, f2, (by show 0 ≤ (n0_ran : Int32).toInt ∧ (n0_ran : Int32).toInt ≤ 1000; first | decide | (constructor <;> (have := kk_rng p4; omega))), (by show (n0_ran : Int32).toInt ≤ (n0_ran : Int32).toInt + 3; first | decide | (have := kk_rng p4; omega)), by rw [ht]; exact hP9, va_K.moved hW.alike hK9, hD9⟩, hS.F ht⟩) hS.2.2 dX5_call_64
  · have t_1 : p1.toInt = 4 := by rw [e_1]; rfl
    subst e_1
    refine lv_iload_n hx hb dX5_call_0 rfl (lv_at hl 2 rfl) ?_
    refine lv_istore (lv' := [(6, .int 4), (0, .ref h0), (1, .int p0), (2, .int 4), (3, .int 0), (4, .int p3), (5, .int p4)]) hx hb dX5_call_1 hl (by decide) rfl (fun ls hl => ?_)
    refine lv_iconst (v := 0) hx hb dX5_call_3 (by decide) ?_
    refine lv_istore (lv' := [(7, .int 0), (6, .int 4), (0, .ref h0), (1, .int p0), (2, .int 4), (3, .int 0), (4, .int p3), (5, .int p4)]) hx hb dX5_call_4 hl (by decide) rfl (fun ls hl => ?_)
    refine lv_iload hx hb dX5_call_6 (lv_at hl 0 rfl) ?_
    refine lv_bipush (v := 8) hx hb dX5_call_8 (by decide) ?_
    refine lv_icmp_ge (tgt := 48) hx hb dX5_call_10 (by decide) (fun c => absurd c (by decide)) (fun _ => ?_)
    refine lv_iload hx hb dX5_call_13 (lv_at hl 1 rfl) ?_
    obtain ⟨hPc, hDc, hFc⟩ := kk_cutout (wc := []) hP hD hS hA [] (by decide) rfl
    have hKc := hK.sub (tys' := []) [] rfl
    refine va_calli (va_runS (As := [.int 4]) (rest := []) ⟨hx, hb, hml, hown, hts⟩ (g_X5_isKind_0 l dC dI s.heap.size 4) (va_cwS 1 hts gX5_call_X5_isKind rfl rfl rfl (by decide +kernel) ⟨Nat.le_of_ble_eq_true rfl, Nat.le_of_ble_eq_true rfl⟩) ⟨fun a U g mk q => by obtain ⟨q0, q1, qP, qK, qD⟩ := q; exact ⟨q0, q1, qP, va_K.moved (u := U) (U := U.calling g mk a) (Vm.Alike.refl U.vm) qK, qD⟩, fun U hU hW => ⟨rfl, by rw [hU], by rw [hU]; exact hPc, va_K.moved hW.alike hKc, hDc.weaken (fun _ _ _ _ => trivial)⟩⟩ rfl rfl hl.1 rfl (lv_room (Nat.le_of_ble_eq_true rfl)) dX5_call_15 ⟨Nat.le_of_ble_eq_true rfl, Nat.le_of_ble_eq_true rfl⟩) hS (fun q _ h => hFc q h) hFc (fun r_130 u t H1 locs ht hvm hw hB hz1 hk1 hS => ?_)
    obtain ⟨hP1, hK1, hD1⟩ := hB
    rw [ht] at hP1
    have hK1 := va_K.moved hvm.symm hK1
    obtain ⟨hP, hD⟩ := va_join (wr := [(h0, Sum.inr (5, [Value.ref h1, Value.int n0_size, Value.ref h2, Value.int n0_ran])), (h1, Sum.inl (cint, 50, Sum.inl f1)), (h2, Sum.inl (cint, 24, Sum.inl f2))]) (w1 := []) hP hD [] [0, 1, 2] rfl rfl (by decide) (by decide) hk1 hFc hP1 hD1
    generalize H1 = H at hP hS ⊢
    have hP : va_P (dC, dI) vwCl [(h0, Sum.inr (5, [Value.ref h1, Value.int n0_size, Value.ref h2, Value.int n0_ran])), (h1, Sum.inl (cint, 50, Sum.inl f1)), (h2, Sum.inl (cint, 24, Sum.inl f2))] H := hP
    have hD : va_D A [(h0, Sum.inr (5, [Value.ref h1, Value.int n0_size, Value.ref h2, Value.int n0_ran])), (h1, Sum.inl (cint, 50, Sum.inl f1)), (h2, Sum.inl (cint, 24, Sum.inl f2))] := hD
    rcases hw with ⟨rfl⟩ | ⟨t_130_0, t_130_1, rfl⟩
    · skip
      refine lv_if_eq (tgt := 48) hx hb dX5_call_18 (by decide) (fun _ => ?_) (fun c => absurd c (by decide))
      refine lv_iload hx hb dX5_call_48 (lv_at hl 1 rfl) ?_
      obtain ⟨hPc, hDc, hFc⟩ := kk_cutout (wc := []) hP hD hS hA [] (by decide) rfl
      have hKc := hK.sub (tys' := []) [] rfl
      refine va_calli (va_runS (As := [.int 4]) (rest := []) ⟨hx, hb, hml, hown, hts⟩ (g_X5_isKind_0 l dC dI H.size 4) (va_cwS 1 hts gX5_call_X5_isKind rfl rfl rfl (by decide +kernel) ⟨Nat.le_of_ble_eq_true rfl, Nat.le_of_ble_eq_true rfl⟩) ⟨fun a U g mk q => by obtain ⟨q0, q1, qP, qK, qD⟩ := q; exact ⟨q0, q1, qP, va_K.moved (u := U) (U := U.calling g mk a) (Vm.Alike.refl U.vm) qK, qD⟩, fun U hU hW => ⟨rfl, by rw [hU], by rw [hU]; exact hPc, va_K.moved hW.alike hKc, hDc.weaken (fun _ _ _ _ => trivial)⟩⟩ rfl rfl hl.1 rfl (lv_room (Nat.le_of_ble_eq_true rfl)) dX5_call_50 ⟨Nat.le_of_ble_eq_true rfl, Nat.le_of_ble_eq_true rfl⟩) hS (fun q _ h => hFc q h) hFc (fun r_131 u t H1 locs ht hvm hw hB hz1 hk1 hS => ?_)
      obtain ⟨hP1, hK1, hD1⟩ := hB
      rw [ht] at hP1
      have hK1 := va_K.moved hvm.symm hK1
      obtain ⟨hP, hD⟩ := va_join (wr := [(h0, Sum.inr (5, [Value.ref h1, Value.int n0_size, Value.ref h2, Value.int n0_ran])), (h1, Sum.inl (cint, 50, Sum.inl f1)), (h2, Sum.inl (cint, 24, Sum.inl f2))]) (w1 := []) hP hD [] [0, 1, 2] rfl rfl (by decide) (by decide) hk1 hFc hP1 hD1
      generalize H1 = H at hP hS ⊢
      have hP : va_P (dC, dI) vwCl [(h0, Sum.inr (5, [Value.ref h1, Value.int n0_size, Value.ref h2, Value.int n0_ran])), (h1, Sum.inl (cint, 50, Sum.inl f1)), (h2, Sum.inl (cint, 24, Sum.inl f2))] H := hP
      have hD : va_D A [(h0, Sum.inr (5, [Value.ref h1, Value.int n0_size, Value.ref h2, Value.int n0_ran])), (h1, Sum.inl (cint, 50, Sum.inl f1)), (h2, Sum.inl (cint, 24, Sum.inl f2))] := hD
      rcases hw with ⟨rfl⟩ | ⟨t_131_0, t_131_1, rfl⟩
      · skip
        refine lv_if_eq (tgt := 63) hx hb dX5_call_53 (by decide) (fun _ => ?_) (fun c => absurd c (by decide))
        refine lv_iconst (v := 0) hx hb dX5_call_63 (by decide) ?_
        obtain ⟨hP9, hD9⟩ := kk_leafout (wc := [(h0, Sum.inr (5, [Value.ref h1, Value.int n0_size, Value.ref h2, Value.int n0_ran])), (h1, Sum.inl (cint, 50, Sum.inl f1)), (h2, Sum.inl (cint, 24, Sum.inl f2))]) hP hD [0, 1, 2] (by decide) rfl
        have hK9 := hK.sub (tys' := []) [] rfl
        exact W.iret (v := 0) hx hb hr (fun t ht hW => ⟨⟨0, (), rfl, trivial, n0_ran, f2, (by show 0 ≤ (n0_ran : Int32).toInt ∧ (n0_ran : Int32).toInt ≤ 1000; first | decide | (constructor <;> (omega))), (by show (n0_ran : Int32).toInt ≤ (n0_ran : Int32).toInt + 3; first | decide | (omega)), by rw [ht]; exact hP9, va_K.moved hW.alike hK9, hD9⟩, hS.F ht⟩) hS.2.2 dX5_call_64
      · skip
        have t_131_0 : (0 : Int) ≤ 4 := t_131_0
        have t_131_1 : (4 : Int) < 8 := t_131_1
        refine lv_if_eq (tgt := 63) hx hb dX5_call_53 (by decide) (fun c => absurd c (by decide)) (fun _ => ?_)
        refine lv_iload hx hb dX5_call_56 (lv_at hl 7 rfl) ?_
        refine lv_bipush (v := 40) hx hb dX5_call_58 (by decide) ?_
        refine lv_icmp_le (tgt := 65) hx hb dX5_call_60 (by decide) (fun c_132 => ?_) (fun c_132 => ?_)
        · have t_132 : p4.toInt ≤ 40 := kk_le c_132
          refine va_gets hx hb hZOWN_BODIES hS hown (hts (.fieldLink RX5 43 "KinkStreet$Lines" "OWN_BODIES" "[I") (List.mem_of_getElem? (i := 1) rfl)) (fun _ h9 => h9) dX5_call_65 ?_
          refine lv_iload hx hb dX5_call_68 (lv_at hl 1 rfl) ?_
          refine lv_iconst (v := 4) hx hb dX5_call_70 (by decide) ?_
          refine lv_imul hx hb dX5_call_71 ?_
          refine lv_topi (fun y_133 e_133 => ?_)
          obtain rfl : y_133 = 16 := e_133.trans (by decide)
          refine lv_iload_n hx hb dX5_call_72 rfl (lv_at hl 5 rfl) ?_
          refine lv_iadd hx hb dX5_call_73 ?_
          refine lv_topi (fun y_134 e_134 => ?_)
          obtain rfl : y_134 = 16 := e_134.trans (by decide)
          refine va_ti (v := .int 0) hx hb hTOWN_BODIES hS (by unfold vp_in; decide) rfl dX5_call_74 ?_
          refine lv_istore (lv' := [(7, .int 0), (6, .int 4), (0, .ref h0), (1, .int p0), (2, .int 4), (3, .int 0), (4, .int p3), (5, .int p4)]) hx hb dX5_call_75 hl (by decide) rfl (fun ls hl => ?_)
          refine lv_aload_n hx hb dX5_call_77 rfl (lv_at hl 2 rfl) ?_
          refine va_get (D := (dC, dI)) (ci := 5) (v := .int n0_ran) (C := RX5) (T := TX5) (N := 4) hx hb hts (fun _ h => List.mem_cons_of_mem _ (List.mem_append_right _ h)) hown hK hP 0 rfl rfl 3 (by decide) (hts (.fieldLink RX5 36 "KinkStreet$Lines" "ran" "I") (List.mem_of_getElem? (i := 3) rfl)) (fun _ h9 => h9) rfl dX5_call_78 ?_
          refine lv_bipush (v := 24) hx hb dX5_call_81 (by decide) ?_
          refine kk_cut (σ := (Nat → Int32)) (pc' := 97) (fun x H locs ls => va_P (dC, dI) vwCl [(h0, Sum.inr (5, [Value.ref h1, Value.int n0_size, Value.ref h2, Value.int n0_ran])), (h1, Sum.inl (cint, 50, Sum.inl f1)), (h2, Sum.inl (cint, 24, Sum.inl x))] H ∧ va_D A [(h0, Sum.inr (5, [Value.ref h1, Value.int n0_size, Value.ref h2, Value.int n0_ran])), (h1, Sum.inl (cint, 50, Sum.inl f1)), (h2, Sum.inl (cint, 24, Sum.inl x))] ∧ va_S A s.heap H locs ∧ lv_has ls 8 [(7, .int 0), (6, .int 4), (0, .ref h0), (1, .int p0), (2, .int 4), (3, .int 0), (4, .int p3), (5, .int p4)]) ?_ (fun hcut_137 => ?_)
          · rintro f_137_0 H locs ls ⟨hP, hD, hS, hl⟩
            have hl : lv_has ls 8 [(7, .int 0), (6, .int 4), (0, .ref h0), (1, .int p0), (2, .int 4), (3, .int 0), (4, .int p3), (5, .int p4)] := hl
            have hP : va_P (dC, dI) vwCl [(h0, Sum.inr (5, [Value.ref h1, Value.int n0_size, Value.ref h2, Value.int n0_ran])), (h1, Sum.inl (cint, 50, Sum.inl f1)), (h2, Sum.inl (cint, 24, Sum.inl f_137_0))] H := hP
            have hD : va_D A [(h0, Sum.inr (5, [Value.ref h1, Value.int n0_size, Value.ref h2, Value.int n0_ran])), (h1, Sum.inl (cint, 50, Sum.inl f1)), (h2, Sum.inl (cint, 24, Sum.inl f_137_0))] := hD
            refine lv_aload_n hx hb dX5_call_97 rfl (lv_at hl 2 rfl) ?_
            refine lv_dup hx hb dX5_call_98 rfl ?_
            refine va_get (D := (dC, dI)) (ci := 5) (v := .int n0_ran) (C := RX5) (T := TX5) (N := 4) hx hb hts (fun _ h => List.mem_cons_of_mem _ (List.mem_append_right _ h)) hown hK hP 0 rfl rfl 3 (by decide) (hts (.fieldLink RX5 36 "KinkStreet$Lines" "ran" "I") (List.mem_of_getElem? (i := 3) rfl)) (fun _ h9 => h9) rfl dX5_call_99 ?_
            refine lv_iconst (v := 1) hx hb dX5_call_102 (by decide) ?_
            refine lv_iadd hx hb dX5_call_103 ?_
            refine va_put (D := (dC, dI)) (ci := 5) (v := .int (n0_ran + 1)) (ty := .int) (C := RX5) (T := TX5) (N := 4) hx hb hts (fun _ h => List.mem_cons_of_mem _ (List.mem_append_right _ h)) tyX5 tyX5_ok nmX5 hown hK hP hD hS 0 rfl rfl 3 (by decide) (hts (.fieldLink RX5 36 "KinkStreet$Lines" "ran" "I") (List.mem_of_getElem? (i := 3) rfl)) (fun _ h9 => h9) rfl (by decide +kernel) rfl rfl (Nat.le_of_ble_eq_true rfl) dX5_call_104 (fun H locs hP hD hS => ?_)
            have hP : va_P (dC, dI) vwCl [(h0, Sum.inr (5, [Value.ref h1, Value.int n0_size, Value.ref h2, Value.int (n0_ran + 1)])), (h1, Sum.inl (cint, 50, Sum.inl f1)), (h2, Sum.inl (cint, 24, Sum.inl f_137_0))] H := hP
            have hD : va_D A [(h0, Sum.inr (5, [Value.ref h1, Value.int n0_size, Value.ref h2, Value.int (n0_ran + 1)])), (h1, Sum.inl (cint, 50, Sum.inl f1)), (h2, Sum.inl (cint, 24, Sum.inl f_137_0))] := hD
            refine lv_iload hx hb dX5_call_107 (lv_at hl 1 rfl) ?_
            refine lv_if_ne (tgt := 128) hx hb dX5_call_109 (by decide) (fun _ => ?_) (fun c => absurd c (by decide))
            refine lv_aload_n hx hb dX5_call_128 rfl (lv_at hl 2 rfl) ?_
            refine lv_iload_n hx hb dX5_call_129 rfl (lv_at hl 3 rfl) ?_
            refine lv_iload hx hb dX5_call_130 (lv_at hl 1 rfl) ?_
            refine lv_iload hx hb dX5_call_132 (lv_at hl 0 rfl) ?_
            refine lv_iload hx hb dX5_call_134 (lv_at hl 6 rfl) ?_
            refine lv_iload hx hb dX5_call_136 (lv_at hl 7 rfl) ?_
            refine lv_iconst (v := 1) hx hb dX5_call_138 (by decide) ?_
            refine lv_iadd hx hb dX5_call_139 ?_
            obtain ⟨hPc, hDc, hFc⟩ := kk_cutout (wc := [(h0, Sum.inr (5, [Value.ref h1, Value.int n0_size, Value.ref h2, Value.int (n0_ran + 1)])), (h1, Sum.inl (cint, 50, Sum.inl f1)), (h2, Sum.inl (cint, 24, Sum.inl f_137_0))]) hP hD hS hA [0, 1, 2] (by decide) rfl
            have hKc := hK.sub (tys' := [(cint, .int)]) [0] rfl
            refine va_calli (va_runV (As := [.int p0, .int 4, .int 0, .int p3, .int (p4 + 1)]) (rest := []) ⟨hx, hb, hml, hown, hts⟩ (g_X5_runUnder_4 l dC dI h0 h1 h2 cint H.size p0 p3 (p4 + 1) n0_size (n0_ran + 1) f1 f_137_0 tn0_size (by show 0 ≤ ((n0_ran + 1) : Int32).toInt ∧ ((n0_ran + 1) : Int32).toInt ≤ 998; first | decide | (constructor <;> (have := kk_rng p4; have := kk_add2 (x := n0_ran) (y := 1) (a := n0_ran.toInt) (b := 1) rfl rfl (by omega) (by omega); have := kk_rng p4; have := kk_add2 (x := p4) (y := 1) (a := p4.toInt) (b := 1) rfl rfl (by omega) (by omega); omega))) bf1 aOWN_BODIES aABOVE) (cwV 5 hts gX5_call_X5_runUnder rfl rfl rfl (by decide +kernel) ⟨Nat.le_of_ble_eq_true rfl, Nat.le_of_ble_eq_true rfl⟩) ⟨fun a U g mk q => by obtain ⟨q0, q1, qP, qK, qD, qx0, qx1, qx2, qx3⟩ := q; exact ⟨q0, q1, qP, va_K.moved (u := U) (U := U.calling g mk a) (Vm.Alike.refl U.vm) qK, qD, va_Z.moved (u := U) (U := U.calling g mk a) (Vm.Alike.refl U.vm) qx0, va_T.moved (u := U) (U := U.calling g mk a) (Vm.Alike.refl U.vm) qx1, va_Z.moved (u := U) (U := U.calling g mk a) (Vm.Alike.refl U.vm) qx2, va_T.moved (u := U) (U := U.calling g mk a) (Vm.Alike.refl U.vm) qx3⟩, va_recv hKc hPc (ci := 5) (q0 := 0) rfl rfl, fun U hU hW => ⟨rfl, by rw [hU], by rw [hU]; exact hPc, va_K.moved hW.alike hKc, hDc.weaken (fun _ _ _ _ => trivial), by rw [hU]; exact ((hZOWN_BODIES.kept (fun a h1 h2 => hS.2.1 a h1 h2)).narrow hFc).moved hW.alike, by rw [hU]; exact ((hTOWN_BODIES.kept (fun a h1 h2 => hS.2.1 a h1 h2)).narrow hFc).moved hW.alike, by rw [hU]; exact ((hZABOVE.kept (fun a h1 h2 => hS.2.1 a h1 h2)).narrow hFc).moved hW.alike, by rw [hU]; exact ((hTABOVE.kept (fun a h1 h2 => hS.2.1 a h1 h2)).narrow hFc).moved hW.alike⟩⟩ rfl rfl hl.1 rfl (lv_room (Nat.le_of_ble_eq_true rfl)) dX5_call_140 ⟨Nat.le_of_ble_eq_true rfl, Nat.le_of_ble_eq_true rfl⟩) hS (fun q _ h => hFc q h) hFc (fun r_138 u t H1 locs ht hvm hw hB hz1 hk1 hS => ?_)
            obtain ⟨y_139, f_140, by_139, v_140_0, hP1, hK1, hD1⟩ := hB
            have v_140_0 : y_139.toInt ≤ (n0_ran + 1).toInt + 2 := v_140_0
            rw [ht] at hP1
            have hK1 := va_K.moved hvm.symm hK1
            obtain ⟨hP, hD⟩ := va_join (wr := []) (w1 := [(h0, Sum.inr (5, [Value.ref h1, Value.int n0_size, Value.ref h2, Value.int y_139])), (h1, Sum.inl (cint, 50, Sum.inl f1)), (h2, Sum.inl (cint, 24, Sum.inl f_140))]) hP hD [0, 1, 2] [] rfl rfl (by decide) (by decide) hk1 hFc hP1 hD1
            generalize H1 = H at hP hS ⊢
            have hP : va_P (dC, dI) vwCl [(h0, Sum.inr (5, [Value.ref h1, Value.int n0_size, Value.ref h2, Value.int y_139])), (h1, Sum.inl (cint, 50, Sum.inl f1)), (h2, Sum.inl (cint, 24, Sum.inl f_140))] H := hP
            have hD : va_D A [(h0, Sum.inr (5, [Value.ref h1, Value.int n0_size, Value.ref h2, Value.int y_139])), (h1, Sum.inl (cint, 50, Sum.inl f1)), (h2, Sum.inl (cint, 24, Sum.inl f_140))] := hD
            obtain ⟨hP9, hD9⟩ := kk_leafout (wc := [(h0, Sum.inr (5, [Value.ref h1, Value.int n0_size, Value.ref h2, Value.int y_139])), (h1, Sum.inl (cint, 50, Sum.inl f1)), (h2, Sum.inl (cint, 24, Sum.inl f_140))]) hP hD [0, 1, 2] (by decide) rfl
            have hK9 := hK.sub (tys' := []) [] rfl
            exact W.iret (v := r_138) hx hb hr (fun t ht hW => ⟨⟨r_138, (), rfl, trivial, y_139, f_140, (by show 0 ≤ (y_139 : Int32).toInt ∧ (y_139 : Int32).toInt ≤ 1000; first | decide | (constructor <;> (have := kk_rng p4; have := kk_add2 (x := n0_ran) (y := 1) (a := n0_ran.toInt) (b := 1) rfl rfl (by omega) (by omega); have := kk_rng p4; have := kk_add2 (x := p4) (y := 1) (a := p4.toInt) (b := 1) rfl rfl (by omega) (by omega); omega))), (by show (y_139 : Int32).toInt ≤ (n0_ran : Int32).toInt + 3; first | decide | (have := kk_rng p4; have := kk_add2 (x := n0_ran) (y := 1) (a := n0_ran.toInt) (b := 1) rfl rfl (by omega) (by omega); have := kk_rng p4; have := kk_add2 (x := p4) (y := 1) (a := p4.toInt) (b := 1) rfl rfl (by omega) (by omega); omega)), by rw [ht]; exact hP9, va_K.moved hW.alike hK9, hD9⟩, hS.F ht⟩) hS.2.2 dX5_call_143
          · skip
            refine lv_icmp_ge (tgt := 97) hx hb dX5_call_83 (by decide) (fun c_141 => ?_) (fun c_141 => ?_)
            · have t_141 : 24 ≤ n0_ran.toInt := kk_le c_141
              exact hcut_137 (f2) _ _ _ ⟨hP, hD, hS, lv_sub hl [0, 1, 2, 3, 4, 5, 6, 7] rfl⟩
            · have t_141 : n0_ran.toInt < 24 := kk_nle c_141
              refine lv_aload_n hx hb dX5_call_86 rfl (lv_at hl 2 rfl) ?_
              refine va_get (D := (dC, dI)) (ci := 5) (v := .ref h2) (C := RX5) (T := TX5) (N := 4) hx hb hts (fun _ h => List.mem_cons_of_mem _ (List.mem_append_right _ h)) hown hK hP 0 rfl rfl 2 (by decide) (hts (.fieldLink RX5 15 "KinkStreet$Lines" "trace" "[I") (List.mem_of_getElem? (i := 4) rfl)) (fun _ h9 => h9) rfl dX5_call_87 ?_
              refine lv_aload_n hx hb dX5_call_90 rfl (lv_at hl 2 rfl) ?_
              refine va_get (D := (dC, dI)) (ci := 5) (v := .int n0_ran) (C := RX5) (T := TX5) (N := 4) hx hb hts (fun _ h => List.mem_cons_of_mem _ (List.mem_append_right _ h)) hown hK hP 0 rfl rfl 3 (by decide) (hts (.fieldLink RX5 36 "KinkStreet$Lines" "ran" "I") (List.mem_of_getElem? (i := 3) rfl)) (fun _ h9 => h9) rfl dX5_call_91 ?_
              refine lv_iload hx hb dX5_call_94 (lv_at hl 0 rfl) ?_
              refine va_iast hx hb hK hP hD hS 2 0 rfl rfl (vp_in_iff.mpr ⟨by have := kk_rng p4; omega, by have := kk_rng p4; omega⟩) dX5_call_96 (fun H locs hP hD hS => ?_)
              generalize upd f2 (n0_ran : Int32).toNatClampNeg 0 = f_142 at hP hD
              have hP : va_P (dC, dI) vwCl [(h0, Sum.inr (5, [Value.ref h1, Value.int n0_size, Value.ref h2, Value.int n0_ran])), (h1, Sum.inl (cint, 50, Sum.inl f1)), (h2, Sum.inl (cint, 24, Sum.inl f_142))] H := hP
              have hD : va_D A [(h0, Sum.inr (5, [Value.ref h1, Value.int n0_size, Value.ref h2, Value.int n0_ran])), (h1, Sum.inl (cint, 50, Sum.inl f1)), (h2, Sum.inl (cint, 24, Sum.inl f_142))] := hD
              exact hcut_137 (f_142) _ _ _ ⟨hP, hD, hS, lv_sub hl [0, 1, 2, 3, 4, 5, 6, 7] rfl⟩
        · have t_132 : 40 < p4.toInt := kk_nle c_132
          refine lv_iconst (v := 0) hx hb dX5_call_63 (by decide) ?_
          obtain ⟨hP9, hD9⟩ := kk_leafout (wc := [(h0, Sum.inr (5, [Value.ref h1, Value.int n0_size, Value.ref h2, Value.int n0_ran])), (h1, Sum.inl (cint, 50, Sum.inl f1)), (h2, Sum.inl (cint, 24, Sum.inl f2))]) hP hD [0, 1, 2] (by decide) rfl
          have hK9 := hK.sub (tys' := []) [] rfl
          exact W.iret (v := 0) hx hb hr (fun t ht hW => ⟨⟨0, (), rfl, trivial, n0_ran, f2, (by show 0 ≤ (n0_ran : Int32).toInt ∧ (n0_ran : Int32).toInt ≤ 1000; first | decide | (constructor <;> (have := kk_rng p4; omega))), (by show (n0_ran : Int32).toInt ≤ (n0_ran : Int32).toInt + 3; first | decide | (have := kk_rng p4; omega)), by rw [ht]; exact hP9, va_K.moved hW.alike hK9, hD9⟩, hS.F ht⟩) hS.2.2 dX5_call_64
    · skip
      have t_130_0 : (0 : Int) ≤ 4 := t_130_0
      have t_130_1 : (4 : Int) < 8 := t_130_1
      refine lv_if_eq (tgt := 48) hx hb dX5_call_18 (by decide) (fun c => absurd c (by decide)) (fun _ => ?_)
      refine va_gets hx hb hZOWN_BODIES hS hown (hts (.fieldLink RX5 43 "KinkStreet$Lines" "OWN_BODIES" "[I") (List.mem_of_getElem? (i := 1) rfl)) (fun _ h9 => h9) dX5_call_21 ?_
      refine lv_iload hx hb dX5_call_24 (lv_at hl 1 rfl) ?_
      refine lv_iconst (v := 4) hx hb dX5_call_26 (by decide) ?_
      refine lv_imul hx hb dX5_call_27 ?_
      refine lv_topi (fun y_143 e_143 => ?_)
      obtain rfl : y_143 = 16 := e_143.trans (by decide)
      refine lv_iload_n hx hb dX5_call_28 rfl (lv_at hl 5 rfl) ?_
      refine lv_iadd hx hb dX5_call_29 ?_
      refine lv_topi (fun y_144 e_144 => ?_)
      obtain rfl : y_144 = 16 := e_144.trans (by decide)
      refine va_ti (v := .int 0) hx hb hTOWN_BODIES hS (by unfold vp_in; decide) rfl dX5_call_30 ?_
      refine lv_if_ne (tgt := 48) hx hb dX5_call_31 (by decide) (fun c => absurd c (by decide)) (fun _ => ?_)
      refine va_gets hx hb hZABOVE hS hown (hts (.fieldLink RX5 22 "KinkStreet$Lines" "ABOVE" "[I") (List.mem_of_getElem? (i := 2) rfl)) (fun _ h9 => h9) dX5_call_34 ?_
      refine lv_iload hx hb dX5_call_37 (lv_at hl 1 rfl) ?_
      refine va_ti (v := .int 3) hx hb hTABOVE hS (by unfold vp_in; decide) rfl dX5_call_39 ?_
      refine lv_istore (lv' := [(6, .int 3), (7, .int 0), (0, .ref h0), (1, .int p0), (2, .int 4), (3, .int 0), (4, .int p3), (5, .int p4)]) hx hb dX5_call_40 hl (by decide) rfl (fun ls hl => ?_)
      refine lv_iinc (v := 1) (lv' := [(7, .int 1), (6, .int 3), (0, .ref h0), (1, .int p0), (2, .int 4), (3, .int 0), (4, .int p3), (5, .int p4)]) hx hb dX5_call_42 hl (k := 1) rfl (by first | rfl | decide) (by decide) rfl (fun ls hl => ?_)
      refine lv_goto (tgt := 6) hx hb dX5_call_45 (by decide) ?_
      refine lv_iload hx hb dX5_call_6 (lv_at hl 0 rfl) ?_
      refine lv_bipush (v := 8) hx hb dX5_call_8 (by decide) ?_
      refine lv_icmp_ge (tgt := 48) hx hb dX5_call_10 (by decide) (fun c => absurd c (by decide)) (fun _ => ?_)
      refine lv_iload hx hb dX5_call_13 (lv_at hl 1 rfl) ?_
      obtain ⟨hPc, hDc, hFc⟩ := kk_cutout (wc := []) hP hD hS hA [] (by decide) rfl
      have hKc := hK.sub (tys' := []) [] rfl
      refine va_calli (va_runS (As := [.int 3]) (rest := []) ⟨hx, hb, hml, hown, hts⟩ (g_X5_isKind_0 l dC dI H.size 3) (va_cwS 1 hts gX5_call_X5_isKind rfl rfl rfl (by decide +kernel) ⟨Nat.le_of_ble_eq_true rfl, Nat.le_of_ble_eq_true rfl⟩) ⟨fun a U g mk q => by obtain ⟨q0, q1, qP, qK, qD⟩ := q; exact ⟨q0, q1, qP, va_K.moved (u := U) (U := U.calling g mk a) (Vm.Alike.refl U.vm) qK, qD⟩, fun U hU hW => ⟨rfl, by rw [hU], by rw [hU]; exact hPc, va_K.moved hW.alike hKc, hDc.weaken (fun _ _ _ _ => trivial)⟩⟩ rfl rfl hl.1 rfl (lv_room (Nat.le_of_ble_eq_true rfl)) dX5_call_15 ⟨Nat.le_of_ble_eq_true rfl, Nat.le_of_ble_eq_true rfl⟩) hS (fun q _ h => hFc q h) hFc (fun r_145 u t H1 locs ht hvm hw hB hz1 hk1 hS => ?_)
      obtain ⟨hP1, hK1, hD1⟩ := hB
      rw [ht] at hP1
      have hK1 := va_K.moved hvm.symm hK1
      obtain ⟨hP, hD⟩ := va_join (wr := [(h0, Sum.inr (5, [Value.ref h1, Value.int n0_size, Value.ref h2, Value.int n0_ran])), (h1, Sum.inl (cint, 50, Sum.inl f1)), (h2, Sum.inl (cint, 24, Sum.inl f2))]) (w1 := []) hP hD [] [0, 1, 2] rfl rfl (by decide) (by decide) hk1 hFc hP1 hD1
      generalize H1 = H at hP hS ⊢
      have hP : va_P (dC, dI) vwCl [(h0, Sum.inr (5, [Value.ref h1, Value.int n0_size, Value.ref h2, Value.int n0_ran])), (h1, Sum.inl (cint, 50, Sum.inl f1)), (h2, Sum.inl (cint, 24, Sum.inl f2))] H := hP
      have hD : va_D A [(h0, Sum.inr (5, [Value.ref h1, Value.int n0_size, Value.ref h2, Value.int n0_ran])), (h1, Sum.inl (cint, 50, Sum.inl f1)), (h2, Sum.inl (cint, 24, Sum.inl f2))] := hD
      rcases hw with ⟨rfl⟩ | ⟨t_145_0, t_145_1, rfl⟩
      · skip
        refine lv_if_eq (tgt := 48) hx hb dX5_call_18 (by decide) (fun _ => ?_) (fun c => absurd c (by decide))
        refine lv_iload hx hb dX5_call_48 (lv_at hl 1 rfl) ?_
        obtain ⟨hPc, hDc, hFc⟩ := kk_cutout (wc := []) hP hD hS hA [] (by decide) rfl
        have hKc := hK.sub (tys' := []) [] rfl
        refine va_calli (va_runS (As := [.int 3]) (rest := []) ⟨hx, hb, hml, hown, hts⟩ (g_X5_isKind_0 l dC dI H.size 3) (va_cwS 1 hts gX5_call_X5_isKind rfl rfl rfl (by decide +kernel) ⟨Nat.le_of_ble_eq_true rfl, Nat.le_of_ble_eq_true rfl⟩) ⟨fun a U g mk q => by obtain ⟨q0, q1, qP, qK, qD⟩ := q; exact ⟨q0, q1, qP, va_K.moved (u := U) (U := U.calling g mk a) (Vm.Alike.refl U.vm) qK, qD⟩, fun U hU hW => ⟨rfl, by rw [hU], by rw [hU]; exact hPc, va_K.moved hW.alike hKc, hDc.weaken (fun _ _ _ _ => trivial)⟩⟩ rfl rfl hl.1 rfl (lv_room (Nat.le_of_ble_eq_true rfl)) dX5_call_50 ⟨Nat.le_of_ble_eq_true rfl, Nat.le_of_ble_eq_true rfl⟩) hS (fun q _ h => hFc q h) hFc (fun r_146 u t H1 locs ht hvm hw hB hz1 hk1 hS => ?_)
        obtain ⟨hP1, hK1, hD1⟩ := hB
        rw [ht] at hP1
        have hK1 := va_K.moved hvm.symm hK1
        obtain ⟨hP, hD⟩ := va_join (wr := [(h0, Sum.inr (5, [Value.ref h1, Value.int n0_size, Value.ref h2, Value.int n0_ran])), (h1, Sum.inl (cint, 50, Sum.inl f1)), (h2, Sum.inl (cint, 24, Sum.inl f2))]) (w1 := []) hP hD [] [0, 1, 2] rfl rfl (by decide) (by decide) hk1 hFc hP1 hD1
        generalize H1 = H at hP hS ⊢
        have hP : va_P (dC, dI) vwCl [(h0, Sum.inr (5, [Value.ref h1, Value.int n0_size, Value.ref h2, Value.int n0_ran])), (h1, Sum.inl (cint, 50, Sum.inl f1)), (h2, Sum.inl (cint, 24, Sum.inl f2))] H := hP
        have hD : va_D A [(h0, Sum.inr (5, [Value.ref h1, Value.int n0_size, Value.ref h2, Value.int n0_ran])), (h1, Sum.inl (cint, 50, Sum.inl f1)), (h2, Sum.inl (cint, 24, Sum.inl f2))] := hD
        rcases hw with ⟨rfl⟩ | ⟨t_146_0, t_146_1, rfl⟩
        · skip
          refine lv_if_eq (tgt := 63) hx hb dX5_call_53 (by decide) (fun _ => ?_) (fun c => absurd c (by decide))
          refine lv_iconst (v := 0) hx hb dX5_call_63 (by decide) ?_
          obtain ⟨hP9, hD9⟩ := kk_leafout (wc := [(h0, Sum.inr (5, [Value.ref h1, Value.int n0_size, Value.ref h2, Value.int n0_ran])), (h1, Sum.inl (cint, 50, Sum.inl f1)), (h2, Sum.inl (cint, 24, Sum.inl f2))]) hP hD [0, 1, 2] (by decide) rfl
          have hK9 := hK.sub (tys' := []) [] rfl
          exact W.iret (v := 0) hx hb hr (fun t ht hW => ⟨⟨0, (), rfl, trivial, n0_ran, f2, (by show 0 ≤ (n0_ran : Int32).toInt ∧ (n0_ran : Int32).toInt ≤ 1000; first | decide | (constructor <;> (omega))), (by show (n0_ran : Int32).toInt ≤ (n0_ran : Int32).toInt + 3; first | decide | (omega)), by rw [ht]; exact hP9, va_K.moved hW.alike hK9, hD9⟩, hS.F ht⟩) hS.2.2 dX5_call_64
        · skip
          have t_146_0 : (0 : Int) ≤ 3 := t_146_0
          have t_146_1 : (3 : Int) < 8 := t_146_1
          refine lv_if_eq (tgt := 63) hx hb dX5_call_53 (by decide) (fun c => absurd c (by decide)) (fun _ => ?_)
          refine lv_iload hx hb dX5_call_56 (lv_at hl 7 rfl) ?_
          refine lv_bipush (v := 40) hx hb dX5_call_58 (by decide) ?_
          refine lv_icmp_le (tgt := 65) hx hb dX5_call_60 (by decide) (fun c_147 => ?_) (fun c_147 => ?_)
          · have t_147 : p4.toInt ≤ 40 := kk_le c_147
            refine va_gets hx hb hZOWN_BODIES hS hown (hts (.fieldLink RX5 43 "KinkStreet$Lines" "OWN_BODIES" "[I") (List.mem_of_getElem? (i := 1) rfl)) (fun _ h9 => h9) dX5_call_65 ?_
            refine lv_iload hx hb dX5_call_68 (lv_at hl 1 rfl) ?_
            refine lv_iconst (v := 4) hx hb dX5_call_70 (by decide) ?_
            refine lv_imul hx hb dX5_call_71 ?_
            refine lv_topi (fun y_148 e_148 => ?_)
            obtain rfl : y_148 = 12 := e_148.trans (by decide)
            refine lv_iload_n hx hb dX5_call_72 rfl (lv_at hl 5 rfl) ?_
            refine lv_iadd hx hb dX5_call_73 ?_
            refine lv_topi (fun y_149 e_149 => ?_)
            obtain rfl : y_149 = 12 := e_149.trans (by decide)
            refine va_ti (v := .int 0) hx hb hTOWN_BODIES hS (by unfold vp_in; decide) rfl dX5_call_74 ?_
            refine lv_istore (lv' := [(7, .int 0), (6, .int 3), (0, .ref h0), (1, .int p0), (2, .int 4), (3, .int 0), (4, .int p3), (5, .int p4)]) hx hb dX5_call_75 hl (by decide) rfl (fun ls hl => ?_)
            refine lv_aload_n hx hb dX5_call_77 rfl (lv_at hl 2 rfl) ?_
            refine va_get (D := (dC, dI)) (ci := 5) (v := .int n0_ran) (C := RX5) (T := TX5) (N := 4) hx hb hts (fun _ h => List.mem_cons_of_mem _ (List.mem_append_right _ h)) hown hK hP 0 rfl rfl 3 (by decide) (hts (.fieldLink RX5 36 "KinkStreet$Lines" "ran" "I") (List.mem_of_getElem? (i := 3) rfl)) (fun _ h9 => h9) rfl dX5_call_78 ?_
            refine lv_bipush (v := 24) hx hb dX5_call_81 (by decide) ?_
            refine kk_cut (σ := (Nat → Int32)) (pc' := 97) (fun x H locs ls => va_P (dC, dI) vwCl [(h0, Sum.inr (5, [Value.ref h1, Value.int n0_size, Value.ref h2, Value.int n0_ran])), (h1, Sum.inl (cint, 50, Sum.inl f1)), (h2, Sum.inl (cint, 24, Sum.inl x))] H ∧ va_D A [(h0, Sum.inr (5, [Value.ref h1, Value.int n0_size, Value.ref h2, Value.int n0_ran])), (h1, Sum.inl (cint, 50, Sum.inl f1)), (h2, Sum.inl (cint, 24, Sum.inl x))] ∧ va_S A s.heap H locs ∧ lv_has ls 8 [(7, .int 0), (6, .int 3), (0, .ref h0), (1, .int p0), (2, .int 4), (3, .int 0), (4, .int p3), (5, .int p4)]) ?_ (fun hcut_152 => ?_)
            · rintro f_152_0 H locs ls ⟨hP, hD, hS, hl⟩
              have hl : lv_has ls 8 [(7, .int 0), (6, .int 3), (0, .ref h0), (1, .int p0), (2, .int 4), (3, .int 0), (4, .int p3), (5, .int p4)] := hl
              have hP : va_P (dC, dI) vwCl [(h0, Sum.inr (5, [Value.ref h1, Value.int n0_size, Value.ref h2, Value.int n0_ran])), (h1, Sum.inl (cint, 50, Sum.inl f1)), (h2, Sum.inl (cint, 24, Sum.inl f_152_0))] H := hP
              have hD : va_D A [(h0, Sum.inr (5, [Value.ref h1, Value.int n0_size, Value.ref h2, Value.int n0_ran])), (h1, Sum.inl (cint, 50, Sum.inl f1)), (h2, Sum.inl (cint, 24, Sum.inl f_152_0))] := hD
              refine lv_aload_n hx hb dX5_call_97 rfl (lv_at hl 2 rfl) ?_
              refine lv_dup hx hb dX5_call_98 rfl ?_
              refine va_get (D := (dC, dI)) (ci := 5) (v := .int n0_ran) (C := RX5) (T := TX5) (N := 4) hx hb hts (fun _ h => List.mem_cons_of_mem _ (List.mem_append_right _ h)) hown hK hP 0 rfl rfl 3 (by decide) (hts (.fieldLink RX5 36 "KinkStreet$Lines" "ran" "I") (List.mem_of_getElem? (i := 3) rfl)) (fun _ h9 => h9) rfl dX5_call_99 ?_
              refine lv_iconst (v := 1) hx hb dX5_call_102 (by decide) ?_
              refine lv_iadd hx hb dX5_call_103 ?_
              refine va_put (D := (dC, dI)) (ci := 5) (v := .int (n0_ran + 1)) (ty := .int) (C := RX5) (T := TX5) (N := 4) hx hb hts (fun _ h => List.mem_cons_of_mem _ (List.mem_append_right _ h)) tyX5 tyX5_ok nmX5 hown hK hP hD hS 0 rfl rfl 3 (by decide) (hts (.fieldLink RX5 36 "KinkStreet$Lines" "ran" "I") (List.mem_of_getElem? (i := 3) rfl)) (fun _ h9 => h9) rfl (by decide +kernel) rfl rfl (Nat.le_of_ble_eq_true rfl) dX5_call_104 (fun H locs hP hD hS => ?_)
              have hP : va_P (dC, dI) vwCl [(h0, Sum.inr (5, [Value.ref h1, Value.int n0_size, Value.ref h2, Value.int (n0_ran + 1)])), (h1, Sum.inl (cint, 50, Sum.inl f1)), (h2, Sum.inl (cint, 24, Sum.inl f_152_0))] H := hP
              have hD : va_D A [(h0, Sum.inr (5, [Value.ref h1, Value.int n0_size, Value.ref h2, Value.int (n0_ran + 1)])), (h1, Sum.inl (cint, 50, Sum.inl f1)), (h2, Sum.inl (cint, 24, Sum.inl f_152_0))] := hD
              refine lv_iload hx hb dX5_call_107 (lv_at hl 1 rfl) ?_
              refine lv_if_ne (tgt := 128) hx hb dX5_call_109 (by decide) (fun _ => ?_) (fun c => absurd c (by decide))
              refine lv_aload_n hx hb dX5_call_128 rfl (lv_at hl 2 rfl) ?_
              refine lv_iload_n hx hb dX5_call_129 rfl (lv_at hl 3 rfl) ?_
              refine lv_iload hx hb dX5_call_130 (lv_at hl 1 rfl) ?_
              refine lv_iload hx hb dX5_call_132 (lv_at hl 0 rfl) ?_
              refine lv_iload hx hb dX5_call_134 (lv_at hl 6 rfl) ?_
              refine lv_iload hx hb dX5_call_136 (lv_at hl 7 rfl) ?_
              refine lv_iconst (v := 1) hx hb dX5_call_138 (by decide) ?_
              refine lv_iadd hx hb dX5_call_139 ?_
              obtain ⟨hPc, hDc, hFc⟩ := kk_cutout (wc := [(h0, Sum.inr (5, [Value.ref h1, Value.int n0_size, Value.ref h2, Value.int (n0_ran + 1)])), (h1, Sum.inl (cint, 50, Sum.inl f1)), (h2, Sum.inl (cint, 24, Sum.inl f_152_0))]) hP hD hS hA [0, 1, 2] (by decide) rfl
              have hKc := hK.sub (tys' := [(cint, .int)]) [0] rfl
              refine va_calli (va_runV (As := [.int p0, .int 3, .int 0, .int p3, .int (p4 + 1)]) (rest := []) ⟨hx, hb, hml, hown, hts⟩ (g_X5_runUnder_2 l dC dI h0 h1 h2 cint H.size p0 p3 (p4 + 1) n0_size (n0_ran + 1) f1 f_152_0 tn0_size (by show 0 ≤ ((n0_ran + 1) : Int32).toInt ∧ ((n0_ran + 1) : Int32).toInt ≤ 999; first | decide | (constructor <;> (have := kk_rng p4; have := kk_add2 (x := n0_ran) (y := 1) (a := n0_ran.toInt) (b := 1) rfl rfl (by omega) (by omega); have := kk_rng p4; have := kk_add2 (x := p4) (y := 1) (a := p4.toInt) (b := 1) rfl rfl (by omega) (by omega); omega))) bf1 aOWN_BODIES aABOVE) (cwV 5 hts gX5_call_X5_runUnder rfl rfl rfl (by decide +kernel) ⟨Nat.le_of_ble_eq_true rfl, Nat.le_of_ble_eq_true rfl⟩) ⟨fun a U g mk q => by obtain ⟨q0, q1, qP, qK, qD, qx0, qx1, qx2, qx3⟩ := q; exact ⟨q0, q1, qP, va_K.moved (u := U) (U := U.calling g mk a) (Vm.Alike.refl U.vm) qK, qD, va_Z.moved (u := U) (U := U.calling g mk a) (Vm.Alike.refl U.vm) qx0, va_T.moved (u := U) (U := U.calling g mk a) (Vm.Alike.refl U.vm) qx1, va_Z.moved (u := U) (U := U.calling g mk a) (Vm.Alike.refl U.vm) qx2, va_T.moved (u := U) (U := U.calling g mk a) (Vm.Alike.refl U.vm) qx3⟩, va_recv hKc hPc (ci := 5) (q0 := 0) rfl rfl, fun U hU hW => ⟨rfl, by rw [hU], by rw [hU]; exact hPc, va_K.moved hW.alike hKc, hDc.weaken (fun _ _ _ _ => trivial), by rw [hU]; exact ((hZOWN_BODIES.kept (fun a h1 h2 => hS.2.1 a h1 h2)).narrow hFc).moved hW.alike, by rw [hU]; exact ((hTOWN_BODIES.kept (fun a h1 h2 => hS.2.1 a h1 h2)).narrow hFc).moved hW.alike, by rw [hU]; exact ((hZABOVE.kept (fun a h1 h2 => hS.2.1 a h1 h2)).narrow hFc).moved hW.alike, by rw [hU]; exact ((hTABOVE.kept (fun a h1 h2 => hS.2.1 a h1 h2)).narrow hFc).moved hW.alike⟩⟩ rfl rfl hl.1 rfl (lv_room (Nat.le_of_ble_eq_true rfl)) dX5_call_140 ⟨Nat.le_of_ble_eq_true rfl, Nat.le_of_ble_eq_true rfl⟩) hS (fun q _ h => hFc q h) hFc (fun r_153 u t H1 locs ht hvm hw hB hz1 hk1 hS => ?_)
              obtain ⟨y_154, f_155, by_154, v_155_0, hP1, hK1, hD1⟩ := hB
              have v_155_0 : y_154.toInt ≤ (n0_ran + 1).toInt + 1 := v_155_0
              rw [ht] at hP1
              have hK1 := va_K.moved hvm.symm hK1
              obtain ⟨hP, hD⟩ := va_join (wr := []) (w1 := [(h0, Sum.inr (5, [Value.ref h1, Value.int n0_size, Value.ref h2, Value.int y_154])), (h1, Sum.inl (cint, 50, Sum.inl f1)), (h2, Sum.inl (cint, 24, Sum.inl f_155))]) hP hD [0, 1, 2] [] rfl rfl (by decide) (by decide) hk1 hFc hP1 hD1
              generalize H1 = H at hP hS ⊢
              have hP : va_P (dC, dI) vwCl [(h0, Sum.inr (5, [Value.ref h1, Value.int n0_size, Value.ref h2, Value.int y_154])), (h1, Sum.inl (cint, 50, Sum.inl f1)), (h2, Sum.inl (cint, 24, Sum.inl f_155))] H := hP
              have hD : va_D A [(h0, Sum.inr (5, [Value.ref h1, Value.int n0_size, Value.ref h2, Value.int y_154])), (h1, Sum.inl (cint, 50, Sum.inl f1)), (h2, Sum.inl (cint, 24, Sum.inl f_155))] := hD
              obtain ⟨hP9, hD9⟩ := kk_leafout (wc := [(h0, Sum.inr (5, [Value.ref h1, Value.int n0_size, Value.ref h2, Value.int y_154])), (h1, Sum.inl (cint, 50, Sum.inl f1)), (h2, Sum.inl (cint, 24, Sum.inl f_155))]) hP hD [0, 1, 2] (by decide) rfl
              have hK9 := hK.sub (tys' := []) [] rfl
              exact W.iret (v := r_153) hx hb hr (fun t ht hW => ⟨⟨r_153, (), rfl, trivial, y_154, f_155, (by show 0 ≤ (y_154 : Int32).toInt ∧ (y_154 : Int32).toInt ≤ 1000; first | decide | (constructor <;> (have := kk_rng p4; have := kk_add2 (x := n0_ran) (y := 1) (a := n0_ran.toInt) (b := 1) rfl rfl (by omega) (by omega); have := kk_rng p4; have := kk_add2 (x := p4) (y := 1) (a := p4.toInt) (b := 1) rfl rfl (by omega) (by omega); omega))), (by show (y_154 : Int32).toInt ≤ (n0_ran : Int32).toInt + 3; first | decide | (have := kk_rng p4; have := kk_add2 (x := n0_ran) (y := 1) (a := n0_ran.toInt) (b := 1) rfl rfl (by omega) (by omega); have := kk_rng p4; have := kk_add2 (x := p4) (y := 1) (a := p4.toInt) (b := 1) rfl rfl (by omega) (by omega); omega)), by rw [ht]; exact hP9, va_K.moved hW.alike hK9, hD9⟩, hS.F ht⟩) hS.2.2 dX5_call_143
            · skip
              refine lv_icmp_ge (tgt := 97) hx hb dX5_call_83 (by decide) (fun c_156 => ?_) (fun c_156 => ?_)
              · have t_156 : 24 ≤ n0_ran.toInt := kk_le c_156
                exact hcut_152 (f2) _ _ _ ⟨hP, hD, hS, lv_sub hl [0, 1, 2, 3, 4, 5, 6, 7] rfl⟩
              · have t_156 : n0_ran.toInt < 24 := kk_nle c_156
                refine lv_aload_n hx hb dX5_call_86 rfl (lv_at hl 2 rfl) ?_
                refine va_get (D := (dC, dI)) (ci := 5) (v := .ref h2) (C := RX5) (T := TX5) (N := 4) hx hb hts (fun _ h => List.mem_cons_of_mem _ (List.mem_append_right _ h)) hown hK hP 0 rfl rfl 2 (by decide) (hts (.fieldLink RX5 15 "KinkStreet$Lines" "trace" "[I") (List.mem_of_getElem? (i := 4) rfl)) (fun _ h9 => h9) rfl dX5_call_87 ?_
                refine lv_aload_n hx hb dX5_call_90 rfl (lv_at hl 2 rfl) ?_
                refine va_get (D := (dC, dI)) (ci := 5) (v := .int n0_ran) (C := RX5) (T := TX5) (N := 4) hx hb hts (fun _ h => List.mem_cons_of_mem _ (List.mem_append_right _ h)) hown hK hP 0 rfl rfl 3 (by decide) (hts (.fieldLink RX5 36 "KinkStreet$Lines" "ran" "I") (List.mem_of_getElem? (i := 3) rfl)) (fun _ h9 => h9) rfl dX5_call_91 ?_
                refine lv_iload hx hb dX5_call_94 (lv_at hl 0 rfl) ?_
                refine va_iast hx hb hK hP hD hS 2 0 rfl rfl (vp_in_iff.mpr ⟨by have := kk_rng p4; omega, by have := kk_rng p4; omega⟩) dX5_call_96 (fun H locs hP hD hS => ?_)
                generalize upd f2 (n0_ran : Int32).toNatClampNeg 0 = f_157 at hP hD
                have hP : va_P (dC, dI) vwCl [(h0, Sum.inr (5, [Value.ref h1, Value.int n0_size, Value.ref h2, Value.int n0_ran])), (h1, Sum.inl (cint, 50, Sum.inl f1)), (h2, Sum.inl (cint, 24, Sum.inl f_157))] H := hP
                have hD : va_D A [(h0, Sum.inr (5, [Value.ref h1, Value.int n0_size, Value.ref h2, Value.int n0_ran])), (h1, Sum.inl (cint, 50, Sum.inl f1)), (h2, Sum.inl (cint, 24, Sum.inl f_157))] := hD
                exact hcut_152 (f_157) _ _ _ ⟨hP, hD, hS, lv_sub hl [0, 1, 2, 3, 4, 5, 6, 7] rfl⟩
          · have t_147 : 40 < p4.toInt := kk_nle c_147
            refine lv_iconst (v := 0) hx hb dX5_call_63 (by decide) ?_
            obtain ⟨hP9, hD9⟩ := kk_leafout (wc := [(h0, Sum.inr (5, [Value.ref h1, Value.int n0_size, Value.ref h2, Value.int n0_ran])), (h1, Sum.inl (cint, 50, Sum.inl f1)), (h2, Sum.inl (cint, 24, Sum.inl f2))]) hP hD [0, 1, 2] (by decide) rfl
            have hK9 := hK.sub (tys' := []) [] rfl
            exact W.iret (v := 0) hx hb hr (fun t ht hW => ⟨⟨0, (), rfl, trivial, n0_ran, f2, (by show 0 ≤ (n0_ran : Int32).toInt ∧ (n0_ran : Int32).toInt ≤ 1000; first | decide | (constructor <;> (have := kk_rng p4; omega))), (by show (n0_ran : Int32).toInt ≤ (n0_ran : Int32).toInt + 3; first | decide | (have := kk_rng p4; omega)), by rw [ht]; exact hP9, va_K.moved hW.alike hK9, hD9⟩, hS.F ht⟩) hS.2.2 dX5_call_64
      · skip
        have t_145_0 : (0 : Int) ≤ 3 := t_145_0
        have t_145_1 : (3 : Int) < 8 := t_145_1
        refine lv_if_eq (tgt := 48) hx hb dX5_call_18 (by decide) (fun c => absurd c (by decide)) (fun _ => ?_)
        refine va_gets hx hb hZOWN_BODIES hS hown (hts (.fieldLink RX5 43 "KinkStreet$Lines" "OWN_BODIES" "[I") (List.mem_of_getElem? (i := 1) rfl)) (fun _ h9 => h9) dX5_call_21 ?_
        refine lv_iload hx hb dX5_call_24 (lv_at hl 1 rfl) ?_
        refine lv_iconst (v := 4) hx hb dX5_call_26 (by decide) ?_
        refine lv_imul hx hb dX5_call_27 ?_
        refine lv_topi (fun y_158 e_158 => ?_)
        obtain rfl : y_158 = 12 := e_158.trans (by decide)
        refine lv_iload_n hx hb dX5_call_28 rfl (lv_at hl 5 rfl) ?_
        refine lv_iadd hx hb dX5_call_29 ?_
        refine lv_topi (fun y_159 e_159 => ?_)
        obtain rfl : y_159 = 12 := e_159.trans (by decide)
        refine va_ti (v := .int 0) hx hb hTOWN_BODIES hS (by unfold vp_in; decide) rfl dX5_call_30 ?_
        refine lv_if_ne (tgt := 48) hx hb dX5_call_31 (by decide) (fun c => absurd c (by decide)) (fun _ => ?_)
        refine va_gets hx hb hZABOVE hS hown (hts (.fieldLink RX5 22 "KinkStreet$Lines" "ABOVE" "[I") (List.mem_of_getElem? (i := 2) rfl)) (fun _ h9 => h9) dX5_call_34 ?_
        refine lv_iload hx hb dX5_call_37 (lv_at hl 1 rfl) ?_
        refine va_ti (v := .int 0) hx hb hTABOVE hS (by unfold vp_in; decide) rfl dX5_call_39 ?_
        refine lv_istore (lv' := [(6, .int 0), (7, .int 1), (0, .ref h0), (1, .int p0), (2, .int 4), (3, .int 0), (4, .int p3), (5, .int p4)]) hx hb dX5_call_40 hl (by decide) rfl (fun ls hl => ?_)
        refine lv_iinc (v := 2) (lv' := [(7, .int 2), (6, .int 0), (0, .ref h0), (1, .int p0), (2, .int 4), (3, .int 0), (4, .int p3), (5, .int p4)]) hx hb dX5_call_42 hl (k := 1) rfl (by first | rfl | decide) (by decide) rfl (fun ls hl => ?_)
        refine lv_goto (tgt := 6) hx hb dX5_call_45 (by decide) ?_
        refine lv_iload hx hb dX5_call_6 (lv_at hl 0 rfl) ?_
        refine lv_bipush (v := 8) hx hb dX5_call_8 (by decide) ?_
        refine lv_icmp_ge (tgt := 48) hx hb dX5_call_10 (by decide) (fun c => absurd c (by decide)) (fun _ => ?_)
        refine lv_iload hx hb dX5_call_13 (lv_at hl 1 rfl) ?_
        obtain ⟨hPc, hDc, hFc⟩ := kk_cutout (wc := []) hP hD hS hA [] (by decide) rfl
        have hKc := hK.sub (tys' := []) [] rfl
        refine va_calli (va_runS (As := [.int 0]) (rest := []) ⟨hx, hb, hml, hown, hts⟩ (g_X5_isKind_0 l dC dI H.size 0) (va_cwS 1 hts gX5_call_X5_isKind rfl rfl rfl (by decide +kernel) ⟨Nat.le_of_ble_eq_true rfl, Nat.le_of_ble_eq_true rfl⟩) ⟨fun a U g mk q => by obtain ⟨q0, q1, qP, qK, qD⟩ := q; exact ⟨q0, q1, qP, va_K.moved (u := U) (U := U.calling g mk a) (Vm.Alike.refl U.vm) qK, qD⟩, fun U hU hW => ⟨rfl, by rw [hU], by rw [hU]; exact hPc, va_K.moved hW.alike hKc, hDc.weaken (fun _ _ _ _ => trivial)⟩⟩ rfl rfl hl.1 rfl (lv_room (Nat.le_of_ble_eq_true rfl)) dX5_call_15 ⟨Nat.le_of_ble_eq_true rfl, Nat.le_of_ble_eq_true rfl⟩) hS (fun q _ h => hFc q h) hFc (fun r_160 u t H1 locs ht hvm hw hB hz1 hk1 hS => ?_)
        obtain ⟨hP1, hK1, hD1⟩ := hB
        rw [ht] at hP1
        have hK1 := va_K.moved hvm.symm hK1
        obtain ⟨hP, hD⟩ := va_join (wr := [(h0, Sum.inr (5, [Value.ref h1, Value.int n0_size, Value.ref h2, Value.int n0_ran])), (h1, Sum.inl (cint, 50, Sum.inl f1)), (h2, Sum.inl (cint, 24, Sum.inl f2))]) (w1 := []) hP hD [] [0, 1, 2] rfl rfl (by decide) (by decide) hk1 hFc hP1 hD1
        generalize H1 = H at hP hS ⊢
        have hP : va_P (dC, dI) vwCl [(h0, Sum.inr (5, [Value.ref h1, Value.int n0_size, Value.ref h2, Value.int n0_ran])), (h1, Sum.inl (cint, 50, Sum.inl f1)), (h2, Sum.inl (cint, 24, Sum.inl f2))] H := hP
        have hD : va_D A [(h0, Sum.inr (5, [Value.ref h1, Value.int n0_size, Value.ref h2, Value.int n0_ran])), (h1, Sum.inl (cint, 50, Sum.inl f1)), (h2, Sum.inl (cint, 24, Sum.inl f2))] := hD
        rcases hw with ⟨rfl⟩ | ⟨t_160_0, t_160_1, rfl⟩
        · skip
          refine lv_if_eq (tgt := 48) hx hb dX5_call_18 (by decide) (fun _ => ?_) (fun c => absurd c (by decide))
          refine lv_iload hx hb dX5_call_48 (lv_at hl 1 rfl) ?_
          obtain ⟨hPc, hDc, hFc⟩ := kk_cutout (wc := []) hP hD hS hA [] (by decide) rfl
          have hKc := hK.sub (tys' := []) [] rfl
          refine va_calli (va_runS (As := [.int 0]) (rest := []) ⟨hx, hb, hml, hown, hts⟩ (g_X5_isKind_0 l dC dI H.size 0) (va_cwS 1 hts gX5_call_X5_isKind rfl rfl rfl (by decide +kernel) ⟨Nat.le_of_ble_eq_true rfl, Nat.le_of_ble_eq_true rfl⟩) ⟨fun a U g mk q => by obtain ⟨q0, q1, qP, qK, qD⟩ := q; exact ⟨q0, q1, qP, va_K.moved (u := U) (U := U.calling g mk a) (Vm.Alike.refl U.vm) qK, qD⟩, fun U hU hW => ⟨rfl, by rw [hU], by rw [hU]; exact hPc, va_K.moved hW.alike hKc, hDc.weaken (fun _ _ _ _ => trivial)⟩⟩ rfl rfl hl.1 rfl (lv_room (Nat.le_of_ble_eq_true rfl)) dX5_call_50 ⟨Nat.le_of_ble_eq_true rfl, Nat.le_of_ble_eq_true rfl⟩) hS (fun q _ h => hFc q h) hFc (fun r_161 u t H1 locs ht hvm hw hB hz1 hk1 hS => ?_)
          obtain ⟨hP1, hK1, hD1⟩ := hB
          rw [ht] at hP1
          have hK1 := va_K.moved hvm.symm hK1
          obtain ⟨hP, hD⟩ := va_join (wr := [(h0, Sum.inr (5, [Value.ref h1, Value.int n0_size, Value.ref h2, Value.int n0_ran])), (h1, Sum.inl (cint, 50, Sum.inl f1)), (h2, Sum.inl (cint, 24, Sum.inl f2))]) (w1 := []) hP hD [] [0, 1, 2] rfl rfl (by decide) (by decide) hk1 hFc hP1 hD1
          generalize H1 = H at hP hS ⊢
          have hP : va_P (dC, dI) vwCl [(h0, Sum.inr (5, [Value.ref h1, Value.int n0_size, Value.ref h2, Value.int n0_ran])), (h1, Sum.inl (cint, 50, Sum.inl f1)), (h2, Sum.inl (cint, 24, Sum.inl f2))] H := hP
          have hD : va_D A [(h0, Sum.inr (5, [Value.ref h1, Value.int n0_size, Value.ref h2, Value.int n0_ran])), (h1, Sum.inl (cint, 50, Sum.inl f1)), (h2, Sum.inl (cint, 24, Sum.inl f2))] := hD
          rcases hw with ⟨rfl⟩ | ⟨t_161_0, t_161_1, rfl⟩
          · skip
            refine lv_if_eq (tgt := 63) hx hb dX5_call_53 (by decide) (fun _ => ?_) (fun c => absurd c (by decide))
            refine lv_iconst (v := 0) hx hb dX5_call_63 (by decide) ?_
            obtain ⟨hP9, hD9⟩ := kk_leafout (wc := [(h0, Sum.inr (5, [Value.ref h1, Value.int n0_size, Value.ref h2, Value.int n0_ran])), (h1, Sum.inl (cint, 50, Sum.inl f1)), (h2, Sum.inl (cint, 24, Sum.inl f2))]) hP hD [0, 1, 2] (by decide) rfl
            have hK9 := hK.sub (tys' := []) [] rfl
            exact W.iret (v := 0) hx hb hr (fun t ht hW => ⟨⟨0, (), rfl, trivial, n0_ran, f2, (by show 0 ≤ (n0_ran : Int32).toInt ∧ (n0_ran : Int32).toInt ≤ 1000; first | decide | (constructor <;> (omega))), (by show (n0_ran : Int32).toInt ≤ (n0_ran : Int32).toInt + 3; first | decide | (omega)), by rw [ht]; exact hP9, va_K.moved hW.alike hK9, hD9⟩, hS.F ht⟩) hS.2.2 dX5_call_64
          · skip
            have t_161_0 : (0 : Int) ≤ 0 := t_161_0
            have t_161_1 : (0 : Int) < 8 := t_161_1
            refine lv_if_eq (tgt := 63) hx hb dX5_call_53 (by decide) (fun c => absurd c (by decide)) (fun _ => ?_)
            refine lv_iload hx hb dX5_call_56 (lv_at hl 7 rfl) ?_
            refine lv_bipush (v := 40) hx hb dX5_call_58 (by decide) ?_
            refine lv_icmp_le (tgt := 65) hx hb dX5_call_60 (by decide) (fun c_162 => ?_) (fun c_162 => ?_)
            · have t_162 : p4.toInt ≤ 40 := kk_le c_162
              refine va_gets hx hb hZOWN_BODIES hS hown (hts (.fieldLink RX5 43 "KinkStreet$Lines" "OWN_BODIES" "[I") (List.mem_of_getElem? (i := 1) rfl)) (fun _ h9 => h9) dX5_call_65 ?_
              refine lv_iload hx hb dX5_call_68 (lv_at hl 1 rfl) ?_
              refine lv_iconst (v := 4) hx hb dX5_call_70 (by decide) ?_
              refine lv_imul hx hb dX5_call_71 ?_
              refine lv_topi (fun y_163 e_163 => ?_)
              obtain rfl : y_163 = 0 := e_163.trans (by decide)
              refine lv_iload_n hx hb dX5_call_72 rfl (lv_at hl 5 rfl) ?_
              refine lv_iadd hx hb dX5_call_73 ?_
              refine lv_topi (fun y_164 e_164 => ?_)
              obtain rfl : y_164 = 0 := e_164.trans (by decide)
              refine va_ti (v := .int 1) hx hb hTOWN_BODIES hS (by unfold vp_in; decide) rfl dX5_call_74 ?_
              refine lv_istore (lv' := [(7, .int 1), (6, .int 0), (0, .ref h0), (1, .int p0), (2, .int 4), (3, .int 0), (4, .int p3), (5, .int p4)]) hx hb dX5_call_75 hl (by decide) rfl (fun ls hl => ?_)
              refine lv_aload_n hx hb dX5_call_77 rfl (lv_at hl 2 rfl) ?_
              refine va_get (D := (dC, dI)) (ci := 5) (v := .int n0_ran) (C := RX5) (T := TX5) (N := 4) hx hb hts (fun _ h => List.mem_cons_of_mem _ (List.mem_append_right _ h)) hown hK hP 0 rfl rfl 3 (by decide) (hts (.fieldLink RX5 36 "KinkStreet$Lines" "ran" "I") (List.mem_of_getElem? (i := 3) rfl)) (fun _ h9 => h9) rfl dX5_call_78 ?_
              refine lv_bipush (v := 24) hx hb dX5_call_81 (by decide) ?_
              refine kk_cut (σ := (Nat → Int32)) (pc' := 97) (fun x H locs ls => va_P (dC, dI) vwCl [(h0, Sum.inr (5, [Value.ref h1, Value.int n0_size, Value.ref h2, Value.int n0_ran])), (h1, Sum.inl (cint, 50, Sum.inl f1)), (h2, Sum.inl (cint, 24, Sum.inl x))] H ∧ va_D A [(h0, Sum.inr (5, [Value.ref h1, Value.int n0_size, Value.ref h2, Value.int n0_ran])), (h1, Sum.inl (cint, 50, Sum.inl f1)), (h2, Sum.inl (cint, 24, Sum.inl x))] ∧ va_S A s.heap H locs ∧ lv_has ls 8 [(7, .int 1), (6, .int 0), (0, .ref h0), (1, .int p0), (2, .int 4), (3, .int 0), (4, .int p3), (5, .int p4)]) ?_ (fun hcut_167 => ?_)
              · rintro f_167_0 H locs ls ⟨hP, hD, hS, hl⟩
                have hl : lv_has ls 8 [(7, .int 1), (6, .int 0), (0, .ref h0), (1, .int p0), (2, .int 4), (3, .int 0), (4, .int p3), (5, .int p4)] := hl
                have hP : va_P (dC, dI) vwCl [(h0, Sum.inr (5, [Value.ref h1, Value.int n0_size, Value.ref h2, Value.int n0_ran])), (h1, Sum.inl (cint, 50, Sum.inl f1)), (h2, Sum.inl (cint, 24, Sum.inl f_167_0))] H := hP
                have hD : va_D A [(h0, Sum.inr (5, [Value.ref h1, Value.int n0_size, Value.ref h2, Value.int n0_ran])), (h1, Sum.inl (cint, 50, Sum.inl f1)), (h2, Sum.inl (cint, 24, Sum.inl f_167_0))] := hD
                refine lv_aload_n hx hb dX5_call_97 rfl (lv_at hl 2 rfl) ?_
                refine lv_dup hx hb dX5_call_98 rfl ?_
                refine va_get (D := (dC, dI)) (ci := 5) (v := .int n0_ran) (C := RX5) (T := TX5) (N := 4) hx hb hts (fun _ h => List.mem_cons_of_mem _ (List.mem_append_right _ h)) hown hK hP 0 rfl rfl 3 (by decide) (hts (.fieldLink RX5 36 "KinkStreet$Lines" "ran" "I") (List.mem_of_getElem? (i := 3) rfl)) (fun _ h9 => h9) rfl dX5_call_99 ?_
                refine lv_iconst (v := 1) hx hb dX5_call_102 (by decide) ?_
                refine lv_iadd hx hb dX5_call_103 ?_
                refine va_put (D := (dC, dI)) (ci := 5) (v := .int (n0_ran + 1)) (ty := .int) (C := RX5) (T := TX5) (N := 4) hx hb hts (fun _ h => List.mem_cons_of_mem _ (List.mem_append_right _ h)) tyX5 tyX5_ok nmX5 hown hK hP hD hS 0 rfl rfl 3 (by decide) (hts (.fieldLink RX5 36 "KinkStreet$Lines" "ran" "I") (List.mem_of_getElem? (i := 3) rfl)) (fun _ h9 => h9) rfl (by decide +kernel) rfl rfl (Nat.le_of_ble_eq_true rfl) dX5_call_104 (fun H locs hP hD hS => ?_)
                have hP : va_P (dC, dI) vwCl [(h0, Sum.inr (5, [Value.ref h1, Value.int n0_size, Value.ref h2, Value.int (n0_ran + 1)])), (h1, Sum.inl (cint, 50, Sum.inl f1)), (h2, Sum.inl (cint, 24, Sum.inl f_167_0))] H := hP
                have hD : va_D A [(h0, Sum.inr (5, [Value.ref h1, Value.int n0_size, Value.ref h2, Value.int (n0_ran + 1)])), (h1, Sum.inl (cint, 50, Sum.inl f1)), (h2, Sum.inl (cint, 24, Sum.inl f_167_0))] := hD
                refine lv_iload hx hb dX5_call_107 (lv_at hl 1 rfl) ?_
                refine lv_if_ne (tgt := 128) hx hb dX5_call_109 (by decide) (fun c => absurd c (by decide)) (fun _ => ?_)
                refine lv_aload_n hx hb dX5_call_112 rfl (lv_at hl 2 rfl) ?_
                refine lv_iload_n hx hb dX5_call_113 rfl (lv_at hl 3 rfl) ?_
                refine lv_iload hx hb dX5_call_114 (lv_at hl 0 rfl) ?_
                refine lv_iload hx hb dX5_call_116 (lv_at hl 6 rfl) ?_
                refine lv_iload hx hb dX5_call_118 (lv_at hl 7 rfl) ?_
                refine lv_iconst (v := 1) hx hb dX5_call_120 (by decide) ?_
                refine lv_iadd hx hb dX5_call_121 ?_
                obtain ⟨hPc, hDc, hFc⟩ := kk_cutout (wc := [(h0, Sum.inr (5, [Value.ref h1, Value.int n0_size, Value.ref h2, Value.int (n0_ran + 1)])), (h1, Sum.inl (cint, 50, Sum.inl f1))]) hP hD hS hA [0, 1] (by decide) rfl
                have hKc := hK.sub (tys' := [(cint, .int)]) [0] rfl
                refine va_calli (va_runV (As := [.int p0, .int 1, .int p3, .int (p4 + 1)]) (rest := []) ⟨hx, hb, hml, hown, hts⟩ (g_X5_runLine_0 l dC dI h0 h1 h2 cint H.size p0 p3 (p4 + 1) n0_size (n0_ran + 1) f1 tn0_size (by show 0 ≤ ((n0_ran + 1) : Int32).toInt ∧ ((n0_ran + 1) : Int32).toInt ≤ 1000; first | decide | (constructor <;> (have := kk_rng p4; have := kk_add2 (x := n0_ran) (y := 1) (a := n0_ran.toInt) (b := 1) rfl rfl (by omega) (by omega); have := kk_rng p4; have := kk_add2 (x := p4) (y := 1) (a := p4.toInt) (b := 1) rfl rfl (by omega) (by omega); omega))) bf1) (cwV 4 hts gX5_call_X5_runLine rfl rfl rfl (by decide +kernel) ⟨Nat.le_of_ble_eq_true rfl, Nat.le_of_ble_eq_true rfl⟩) ⟨fun a U g mk q => by obtain ⟨q0, q1, qP, qK, qD⟩ := q; exact ⟨q0, q1, qP, va_K.moved (u := U) (U := U.calling g mk a) (Vm.Alike.refl U.vm) qK, qD⟩, va_recv hKc hPc (ci := 5) (q0 := 0) rfl rfl, fun U hU hW => ⟨rfl, by rw [hU], by rw [hU]; exact hPc, va_K.moved hW.alike hKc, hDc.weaken (fun _ _ _ _ => trivial)⟩⟩ rfl rfl hl.1 rfl (lv_room (Nat.le_of_ble_eq_true rfl)) dX5_call_122 ⟨Nat.le_of_ble_eq_true rfl, Nat.le_of_ble_eq_true rfl⟩) hS (fun q _ h => hFc q h) hFc (fun r_168 u t H1 locs ht hvm hw hB hz1 hk1 hS => ?_)
                obtain ⟨hP1, hK1, hD1⟩ := hB
                rw [ht] at hP1
                have hK1 := va_K.moved hvm.symm hK1
                obtain ⟨hP, hD⟩ := va_join (wr := [(h2, Sum.inl (cint, 24, Sum.inl f_167_0))]) (w1 := [(h0, Sum.inr (5, [Value.ref h1, Value.int n0_size, Value.ref h2, Value.int (n0_ran + 1)])), (h1, Sum.inl (cint, 50, Sum.inl f1))]) hP hD [0, 1] [2] rfl rfl (by decide) (by decide) hk1 hFc hP1 hD1
                generalize H1 = H at hP hS ⊢
                have hP : va_P (dC, dI) vwCl [(h2, Sum.inl (cint, 24, Sum.inl f_167_0)), (h0, Sum.inr (5, [Value.ref h1, Value.int n0_size, Value.ref h2, Value.int (n0_ran + 1)])), (h1, Sum.inl (cint, 50, Sum.inl f1))] H := hP
                have hD : va_D A [(h2, Sum.inl (cint, 24, Sum.inl f_167_0)), (h0, Sum.inr (5, [Value.ref h1, Value.int n0_size, Value.ref h2, Value.int (n0_ran + 1)])), (h1, Sum.inl (cint, 50, Sum.inl f1))] := hD
                obtain rfl := hw
                refine lv_goto (tgt := 143) hx hb dX5_call_125 (by decide) ?_
                obtain ⟨hP9, hD9⟩ := kk_leafout (wc := [(h0, Sum.inr (5, [Value.ref h1, Value.int n0_size, Value.ref h2, Value.int (n0_ran + 1)])), (h1, Sum.inl (cint, 50, Sum.inl f1)), (h2, Sum.inl (cint, 24, Sum.inl f_167_0))]) hP hD [1, 2, 0] (by decide) rfl
                have hK9 := hK.sub (tys' := []) [] rfl
                exact W.iret (v := (p3 + p0)) hx hb hr (fun t ht hW => ⟨⟨(p3 + p0), (), rfl, trivial, (n0_ran + 1), f_167_0, (by show 0 ≤ ((n0_ran + 1) : Int32).toInt ∧ ((n0_ran + 1) : Int32).toInt ≤ 1000; first | decide | (constructor <;> (have := kk_rng p4; have := kk_add2 (x := n0_ran) (y := 1) (a := n0_ran.toInt) (b := 1) rfl rfl (by omega) (by omega); have := kk_rng p4; have := kk_add2 (x := p4) (y := 1) (a := p4.toInt) (b := 1) rfl rfl (by omega) (by omega); omega))), (by show ((n0_ran + 1) : Int32).toInt ≤ (n0_ran : Int32).toInt + 3; first | decide | (have := kk_rng p4; have := kk_add2 (x := n0_ran) (y := 1) (a := n0_ran.toInt) (b := 1) rfl rfl (by omega) (by omega); have := kk_rng p4; have := kk_add2 (x := p4) (y := 1) (a := p4.toInt) (b := 1) rfl rfl (by omega) (by omega); omega)), by rw [ht]; exact hP9, va_K.moved hW.alike hK9, hD9⟩, hS.F ht⟩) hS.2.2 dX5_call_143
              · skip
                refine lv_icmp_ge (tgt := 97) hx hb dX5_call_83 (by decide) (fun c_169 => ?_) (fun c_169 => ?_)
                · have t_169 : 24 ≤ n0_ran.toInt := kk_le c_169
                  exact hcut_167 (f2) _ _ _ ⟨hP, hD, hS, lv_sub hl [0, 1, 2, 3, 4, 5, 6, 7] rfl⟩
                · have t_169 : n0_ran.toInt < 24 := kk_nle c_169
                  refine lv_aload_n hx hb dX5_call_86 rfl (lv_at hl 2 rfl) ?_
                  refine va_get (D := (dC, dI)) (ci := 5) (v := .ref h2) (C := RX5) (T := TX5) (N := 4) hx hb hts (fun _ h => List.mem_cons_of_mem _ (List.mem_append_right _ h)) hown hK hP 0 rfl rfl 2 (by decide) (hts (.fieldLink RX5 15 "KinkStreet$Lines" "trace" "[I") (List.mem_of_getElem? (i := 4) rfl)) (fun _ h9 => h9) rfl dX5_call_87 ?_
                  refine lv_aload_n hx hb dX5_call_90 rfl (lv_at hl 2 rfl) ?_
                  refine va_get (D := (dC, dI)) (ci := 5) (v := .int n0_ran) (C := RX5) (T := TX5) (N := 4) hx hb hts (fun _ h => List.mem_cons_of_mem _ (List.mem_append_right _ h)) hown hK hP 0 rfl rfl 3 (by decide) (hts (.fieldLink RX5 36 "KinkStreet$Lines" "ran" "I") (List.mem_of_getElem? (i := 3) rfl)) (fun _ h9 => h9) rfl dX5_call_91 ?_
                  refine lv_iload hx hb dX5_call_94 (lv_at hl 0 rfl) ?_
                  refine va_iast hx hb hK hP hD hS 2 0 rfl rfl (vp_in_iff.mpr ⟨by have := kk_rng p4; omega, by have := kk_rng p4; omega⟩) dX5_call_96 (fun H locs hP hD hS => ?_)
                  generalize upd f2 (n0_ran : Int32).toNatClampNeg 1 = f_170 at hP hD
                  have hP : va_P (dC, dI) vwCl [(h0, Sum.inr (5, [Value.ref h1, Value.int n0_size, Value.ref h2, Value.int n0_ran])), (h1, Sum.inl (cint, 50, Sum.inl f1)), (h2, Sum.inl (cint, 24, Sum.inl f_170))] H := hP
                  have hD : va_D A [(h0, Sum.inr (5, [Value.ref h1, Value.int n0_size, Value.ref h2, Value.int n0_ran])), (h1, Sum.inl (cint, 50, Sum.inl f1)), (h2, Sum.inl (cint, 24, Sum.inl f_170))] := hD
                  exact hcut_167 (f_170) _ _ _ ⟨hP, hD, hS, lv_sub hl [0, 1, 2, 3, 4, 5, 6, 7] rfl⟩
            · have t_162 : 40 < p4.toInt := kk_nle c_162
              refine lv_iconst (v := 0) hx hb dX5_call_63 (by decide) ?_
              obtain ⟨hP9, hD9⟩ := kk_leafout (wc := [(h0, Sum.inr (5, [Value.ref h1, Value.int n0_size, Value.ref h2, Value.int n0_ran])), (h1, Sum.inl (cint, 50, Sum.inl f1)), (h2, Sum.inl (cint, 24, Sum.inl f2))]) hP hD [0, 1, 2] (by decide) rfl
              have hK9 := hK.sub (tys' := []) [] rfl
              exact W.iret (v := 0) hx hb hr (fun t ht hW => ⟨⟨0, (), rfl, trivial, n0_ran, f2, (by show 0 ≤ (n0_ran : Int32).toInt ∧ (n0_ran : Int32).toInt ≤ 1000; first | decide | (constructor <;> (have := kk_rng p4; omega))), (by show (n0_ran : Int32).toInt ≤ (n0_ran : Int32).toInt + 3; first | decide | (have := kk_rng p4; omega)), by rw [ht]; exact hP9, va_K.moved hW.alike hK9, hD9⟩, hS.F ht⟩) hS.2.2 dX5_call_64
        · skip
          have t_160_0 : (0 : Int) ≤ 0 := t_160_0
          have t_160_1 : (0 : Int) < 8 := t_160_1
          refine lv_if_eq (tgt := 48) hx hb dX5_call_18 (by decide) (fun c => absurd c (by decide)) (fun _ => ?_)
          refine va_gets hx hb hZOWN_BODIES hS hown (hts (.fieldLink RX5 43 "KinkStreet$Lines" "OWN_BODIES" "[I") (List.mem_of_getElem? (i := 1) rfl)) (fun _ h9 => h9) dX5_call_21 ?_
          refine lv_iload hx hb dX5_call_24 (lv_at hl 1 rfl) ?_
          refine lv_iconst (v := 4) hx hb dX5_call_26 (by decide) ?_
          refine lv_imul hx hb dX5_call_27 ?_
          refine lv_topi (fun y_171 e_171 => ?_)
          obtain rfl : y_171 = 0 := e_171.trans (by decide)
          refine lv_iload_n hx hb dX5_call_28 rfl (lv_at hl 5 rfl) ?_
          refine lv_iadd hx hb dX5_call_29 ?_
          refine lv_topi (fun y_172 e_172 => ?_)
          obtain rfl : y_172 = 0 := e_172.trans (by decide)
          refine va_ti (v := .int 1) hx hb hTOWN_BODIES hS (by unfold vp_in; decide) rfl dX5_call_30 ?_
          refine lv_if_ne (tgt := 48) hx hb dX5_call_31 (by decide) (fun _ => ?_) (fun c => absurd c (by decide))
          refine lv_iload hx hb dX5_call_48 (lv_at hl 1 rfl) ?_
          obtain ⟨hPc, hDc, hFc⟩ := kk_cutout (wc := []) hP hD hS hA [] (by decide) rfl
          have hKc := hK.sub (tys' := []) [] rfl
          refine va_calli (va_runS (As := [.int 0]) (rest := []) ⟨hx, hb, hml, hown, hts⟩ (g_X5_isKind_0 l dC dI H.size 0) (va_cwS 1 hts gX5_call_X5_isKind rfl rfl rfl (by decide +kernel) ⟨Nat.le_of_ble_eq_true rfl, Nat.le_of_ble_eq_true rfl⟩) ⟨fun a U g mk q => by obtain ⟨q0, q1, qP, qK, qD⟩ := q; exact ⟨q0, q1, qP, va_K.moved (u := U) (U := U.calling g mk a) (Vm.Alike.refl U.vm) qK, qD⟩, fun U hU hW => ⟨rfl, by rw [hU], by rw [hU]; exact hPc, va_K.moved hW.alike hKc, hDc.weaken (fun _ _ _ _ => trivial)⟩⟩ rfl rfl hl.1 rfl (lv_room (Nat.le_of_ble_eq_true rfl)) dX5_call_50 ⟨Nat.le_of_ble_eq_true rfl, Nat.le_of_ble_eq_true rfl⟩) hS (fun q _ h => hFc q h) hFc (fun r_173 u t H1 locs ht hvm hw hB hz1 hk1 hS => ?_)
          obtain ⟨hP1, hK1, hD1⟩ := hB
          rw [ht] at hP1
          have hK1 := va_K.moved hvm.symm hK1
          obtain ⟨hP, hD⟩ := va_join (wr := [(h0, Sum.inr (5, [Value.ref h1, Value.int n0_size, Value.ref h2, Value.int n0_ran])), (h1, Sum.inl (cint, 50, Sum.inl f1)), (h2, Sum.inl (cint, 24, Sum.inl f2))]) (w1 := []) hP hD [] [0, 1, 2] rfl rfl (by decide) (by decide) hk1 hFc hP1 hD1
          generalize H1 = H at hP hS ⊢
          have hP : va_P (dC, dI) vwCl [(h0, Sum.inr (5, [Value.ref h1, Value.int n0_size, Value.ref h2, Value.int n0_ran])), (h1, Sum.inl (cint, 50, Sum.inl f1)), (h2, Sum.inl (cint, 24, Sum.inl f2))] H := hP
          have hD : va_D A [(h0, Sum.inr (5, [Value.ref h1, Value.int n0_size, Value.ref h2, Value.int n0_ran])), (h1, Sum.inl (cint, 50, Sum.inl f1)), (h2, Sum.inl (cint, 24, Sum.inl f2))] := hD
          rcases hw with ⟨rfl⟩ | ⟨t_173_0, t_173_1, rfl⟩
          · skip
            refine lv_if_eq (tgt := 63) hx hb dX5_call_53 (by decide) (fun _ => ?_) (fun c => absurd c (by decide))
            refine lv_iconst (v := 0) hx hb dX5_call_63 (by decide) ?_
            obtain ⟨hP9, hD9⟩ := kk_leafout (wc := [(h0, Sum.inr (5, [Value.ref h1, Value.int n0_size, Value.ref h2, Value.int n0_ran])), (h1, Sum.inl (cint, 50, Sum.inl f1)), (h2, Sum.inl (cint, 24, Sum.inl f2))]) hP hD [0, 1, 2] (by decide) rfl
            have hK9 := hK.sub (tys' := []) [] rfl
            exact W.iret (v := 0) hx hb hr (fun t ht hW => ⟨⟨0, (), rfl, trivial, n0_ran, f2, (by show 0 ≤ (n0_ran : Int32).toInt ∧ (n0_ran : Int32).toInt ≤ 1000; first | decide | (constructor <;> (omega))), (by show (n0_ran : Int32).toInt ≤ (n0_ran : Int32).toInt + 3; first | decide | (omega)), by rw [ht]; exact hP9, va_K.moved hW.alike hK9, hD9⟩, hS.F ht⟩) hS.2.2 dX5_call_64
          · skip
            have t_173_0 : (0 : Int) ≤ 0 := t_173_0
            have t_173_1 : (0 : Int) < 8 := t_173_1
            refine lv_if_eq (tgt := 63) hx hb dX5_call_53 (by decide) (fun c => absurd c (by decide)) (fun _ => ?_)
            refine lv_iload hx hb dX5_call_56 (lv_at hl 7 rfl) ?_
            refine lv_bipush (v := 40) hx hb dX5_call_58 (by decide) ?_
            refine lv_icmp_le (tgt := 65) hx hb dX5_call_60 (by decide) (fun c_174 => ?_) (fun c_174 => ?_)
            · have t_174 : p4.toInt ≤ 40 := kk_le c_174
              refine va_gets hx hb hZOWN_BODIES hS hown (hts (.fieldLink RX5 43 "KinkStreet$Lines" "OWN_BODIES" "[I") (List.mem_of_getElem? (i := 1) rfl)) (fun _ h9 => h9) dX5_call_65 ?_
              refine lv_iload hx hb dX5_call_68 (lv_at hl 1 rfl) ?_
              refine lv_iconst (v := 4) hx hb dX5_call_70 (by decide) ?_
              refine lv_imul hx hb dX5_call_71 ?_
              refine lv_topi (fun y_175 e_175 => ?_)
              obtain rfl : y_175 = 0 := e_175.trans (by decide)
              refine lv_iload_n hx hb dX5_call_72 rfl (lv_at hl 5 rfl) ?_
              refine lv_iadd hx hb dX5_call_73 ?_
              refine lv_topi (fun y_176 e_176 => ?_)
              obtain rfl : y_176 = 0 := e_176.trans (by decide)
              refine va_ti (v := .int 1) hx hb hTOWN_BODIES hS (by unfold vp_in; decide) rfl dX5_call_74 ?_
              refine lv_istore (lv' := [(7, .int 1), (6, .int 0), (0, .ref h0), (1, .int p0), (2, .int 4), (3, .int 0), (4, .int p3), (5, .int p4)]) hx hb dX5_call_75 hl (by decide) rfl (fun ls hl => ?_)
              refine lv_aload_n hx hb dX5_call_77 rfl (lv_at hl 2 rfl) ?_
              refine va_get (D := (dC, dI)) (ci := 5) (v := .int n0_ran) (C := RX5) (T := TX5) (N := 4) hx hb hts (fun _ h => List.mem_cons_of_mem _ (List.mem_append_right _ h)) hown hK hP 0 rfl rfl 3 (by decide) (hts (.fieldLink RX5 36 "KinkStreet$Lines" "ran" "I") (List.mem_of_getElem? (i := 3) rfl)) (fun _ h9 => h9) rfl dX5_call_78 ?_
              refine lv_bipush (v := 24) hx hb dX5_call_81 (by decide) ?_
              refine kk_cut (σ := (Nat → Int32)) (pc' := 97) (fun x H locs ls => va_P (dC, dI) vwCl [(h0, Sum.inr (5, [Value.ref h1, Value.int n0_size, Value.ref h2, Value.int n0_ran])), (h1, Sum.inl (cint, 50, Sum.inl f1)), (h2, Sum.inl (cint, 24, Sum.inl x))] H ∧ va_D A [(h0, Sum.inr (5, [Value.ref h1, Value.int n0_size, Value.ref h2, Value.int n0_ran])), (h1, Sum.inl (cint, 50, Sum.inl f1)), (h2, Sum.inl (cint, 24, Sum.inl x))] ∧ va_S A s.heap H locs ∧ lv_has ls 8 [(7, .int 1), (6, .int 0), (0, .ref h0), (1, .int p0), (2, .int 4), (3, .int 0), (4, .int p3), (5, .int p4)]) ?_ (fun hcut_179 => ?_)
              · rintro f_179_0 H locs ls ⟨hP, hD, hS, hl⟩
                have hl : lv_has ls 8 [(7, .int 1), (6, .int 0), (0, .ref h0), (1, .int p0), (2, .int 4), (3, .int 0), (4, .int p3), (5, .int p4)] := hl
                have hP : va_P (dC, dI) vwCl [(h0, Sum.inr (5, [Value.ref h1, Value.int n0_size, Value.ref h2, Value.int n0_ran])), (h1, Sum.inl (cint, 50, Sum.inl f1)), (h2, Sum.inl (cint, 24, Sum.inl f_179_0))] H := hP
                have hD : va_D A [(h0, Sum.inr (5, [Value.ref h1, Value.int n0_size, Value.ref h2, Value.int n0_ran])), (h1, Sum.inl (cint, 50, Sum.inl f1)), (h2, Sum.inl (cint, 24, Sum.inl f_179_0))] := hD
                refine lv_aload_n hx hb dX5_call_97 rfl (lv_at hl 2 rfl) ?_
                refine lv_dup hx hb dX5_call_98 rfl ?_
                refine va_get (D := (dC, dI)) (ci := 5) (v := .int n0_ran) (C := RX5) (T := TX5) (N := 4) hx hb hts (fun _ h => List.mem_cons_of_mem _ (List.mem_append_right _ h)) hown hK hP 0 rfl rfl 3 (by decide) (hts (.fieldLink RX5 36 "KinkStreet$Lines" "ran" "I") (List.mem_of_getElem? (i := 3) rfl)) (fun _ h9 => h9) rfl dX5_call_99 ?_
                refine lv_iconst (v := 1) hx hb dX5_call_102 (by decide) ?_
                refine lv_iadd hx hb dX5_call_103 ?_
                refine va_put (D := (dC, dI)) (ci := 5) (v := .int (n0_ran + 1)) (ty := .int) (C := RX5) (T := TX5) (N := 4) hx hb hts (fun _ h => List.mem_cons_of_mem _ (List.mem_append_right _ h)) tyX5 tyX5_ok nmX5 hown hK hP hD hS 0 rfl rfl 3 (by decide) (hts (.fieldLink RX5 36 "KinkStreet$Lines" "ran" "I") (List.mem_of_getElem? (i := 3) rfl)) (fun _ h9 => h9) rfl (by decide +kernel) rfl rfl (Nat.le_of_ble_eq_true rfl) dX5_call_104 (fun H locs hP hD hS => ?_)
                have hP : va_P (dC, dI) vwCl [(h0, Sum.inr (5, [Value.ref h1, Value.int n0_size, Value.ref h2, Value.int (n0_ran + 1)])), (h1, Sum.inl (cint, 50, Sum.inl f1)), (h2, Sum.inl (cint, 24, Sum.inl f_179_0))] H := hP
                have hD : va_D A [(h0, Sum.inr (5, [Value.ref h1, Value.int n0_size, Value.ref h2, Value.int (n0_ran + 1)])), (h1, Sum.inl (cint, 50, Sum.inl f1)), (h2, Sum.inl (cint, 24, Sum.inl f_179_0))] := hD
                refine lv_iload hx hb dX5_call_107 (lv_at hl 1 rfl) ?_
                refine lv_if_ne (tgt := 128) hx hb dX5_call_109 (by decide) (fun c => absurd c (by decide)) (fun _ => ?_)
                refine lv_aload_n hx hb dX5_call_112 rfl (lv_at hl 2 rfl) ?_
                refine lv_iload_n hx hb dX5_call_113 rfl (lv_at hl 3 rfl) ?_
                refine lv_iload hx hb dX5_call_114 (lv_at hl 0 rfl) ?_
                refine lv_iload hx hb dX5_call_116 (lv_at hl 6 rfl) ?_
                refine lv_iload hx hb dX5_call_118 (lv_at hl 7 rfl) ?_
                refine lv_iconst (v := 1) hx hb dX5_call_120 (by decide) ?_
                refine lv_iadd hx hb dX5_call_121 ?_
                obtain ⟨hPc, hDc, hFc⟩ := kk_cutout (wc := [(h0, Sum.inr (5, [Value.ref h1, Value.int n0_size, Value.ref h2, Value.int (n0_ran + 1)])), (h1, Sum.inl (cint, 50, Sum.inl f1))]) hP hD hS hA [0, 1] (by decide) rfl
                have hKc := hK.sub (tys' := [(cint, .int)]) [0] rfl
                refine va_calli (va_runV (As := [.int p0, .int 1, .int p3, .int (p4 + 1)]) (rest := []) ⟨hx, hb, hml, hown, hts⟩ (g_X5_runLine_0 l dC dI h0 h1 h2 cint H.size p0 p3 (p4 + 1) n0_size (n0_ran + 1) f1 tn0_size (by show 0 ≤ ((n0_ran + 1) : Int32).toInt ∧ ((n0_ran + 1) : Int32).toInt ≤ 1000; first | decide | (constructor <;> (have := kk_rng p4; have := kk_add2 (x := n0_ran) (y := 1) (a := n0_ran.toInt) (b := 1) rfl rfl (by omega) (by omega); have := kk_rng p4; have := kk_add2 (x := p4) (y := 1) (a := p4.toInt) (b := 1) rfl rfl (by omega) (by omega); omega))) bf1) (cwV 4 hts gX5_call_X5_runLine rfl rfl rfl (by decide +kernel) ⟨Nat.le_of_ble_eq_true rfl, Nat.le_of_ble_eq_true rfl⟩) ⟨fun a U g mk q => by obtain ⟨q0, q1, qP, qK, qD⟩ := q; exact ⟨q0, q1, qP, va_K.moved (u := U) (U := U.calling g mk a) (Vm.Alike.refl U.vm) qK, qD⟩, va_recv hKc hPc (ci := 5) (q0 := 0) rfl rfl, fun U hU hW => ⟨rfl, by rw [hU], by rw [hU]; exact hPc, va_K.moved hW.alike hKc, hDc.weaken (fun _ _ _ _ => trivial)⟩⟩ rfl rfl hl.1 rfl (lv_room (Nat.le_of_ble_eq_true rfl)) dX5_call_122 ⟨Nat.le_of_ble_eq_true rfl, Nat.le_of_ble_eq_true rfl⟩) hS (fun q _ h => hFc q h) hFc (fun r_180 u t H1 locs ht hvm hw hB hz1 hk1 hS => ?_)
                obtain ⟨hP1, hK1, hD1⟩ := hB
                rw [ht] at hP1
                have hK1 := va_K.moved hvm.symm hK1
                obtain ⟨hP, hD⟩ := va_join (wr := [(h2, Sum.inl (cint, 24, Sum.inl f_179_0))]) (w1 := [(h0, Sum.inr (5, [Value.ref h1, Value.int n0_size, Value.ref h2, Value.int (n0_ran + 1)])), (h1, Sum.inl (cint, 50, Sum.inl f1))]) hP hD [0, 1] [2] rfl rfl (by decide) (by decide) hk1 hFc hP1 hD1
                generalize H1 = H at hP hS ⊢
                have hP : va_P (dC, dI) vwCl [(h2, Sum.inl (cint, 24, Sum.inl f_179_0)), (h0, Sum.inr (5, [Value.ref h1, Value.int n0_size, Value.ref h2, Value.int (n0_ran + 1)])), (h1, Sum.inl (cint, 50, Sum.inl f1))] H := hP
                have hD : va_D A [(h2, Sum.inl (cint, 24, Sum.inl f_179_0)), (h0, Sum.inr (5, [Value.ref h1, Value.int n0_size, Value.ref h2, Value.int (n0_ran + 1)])), (h1, Sum.inl (cint, 50, Sum.inl f1))] := hD
                obtain rfl := hw
                refine lv_goto (tgt := 143) hx hb dX5_call_125 (by decide) ?_
                obtain ⟨hP9, hD9⟩ := kk_leafout (wc := [(h0, Sum.inr (5, [Value.ref h1, Value.int n0_size, Value.ref h2, Value.int (n0_ran + 1)])), (h1, Sum.inl (cint, 50, Sum.inl f1)), (h2, Sum.inl (cint, 24, Sum.inl f_179_0))]) hP hD [1, 2, 0] (by decide) rfl
                have hK9 := hK.sub (tys' := []) [] rfl
                exact W.iret (v := (p3 + p0)) hx hb hr (fun t ht hW => ⟨⟨(p3 + p0), (), rfl, trivial, (n0_ran + 1), f_179_0, (by show 0 ≤ ((n0_ran + 1) : Int32).toInt ∧ ((n0_ran + 1) : Int32).toInt ≤ 1000; first | decide | (constructor <;> (have := kk_rng p4; have := kk_add2 (x := n0_ran) (y := 1) (a := n0_ran.toInt) (b := 1) rfl rfl (by omega) (by omega); have := kk_rng p4; have := kk_add2 (x := p4) (y := 1) (a := p4.toInt) (b := 1) rfl rfl (by omega) (by omega); omega))), (by show ((n0_ran + 1) : Int32).toInt ≤ (n0_ran : Int32).toInt + 3; first | decide | (have := kk_rng p4; have := kk_add2 (x := n0_ran) (y := 1) (a := n0_ran.toInt) (b := 1) rfl rfl (by omega) (by omega); have := kk_rng p4; have := kk_add2 (x := p4) (y := 1) (a := p4.toInt) (b := 1) rfl rfl (by omega) (by omega); omega)), by rw [ht]; exact hP9, va_K.moved hW.alike hK9, hD9⟩, hS.F ht⟩) hS.2.2 dX5_call_143
              · skip
                refine lv_icmp_ge (tgt := 97) hx hb dX5_call_83 (by decide) (fun c_181 => ?_) (fun c_181 => ?_)
                · have t_181 : 24 ≤ n0_ran.toInt := kk_le c_181
                  exact hcut_179 (f2) _ _ _ ⟨hP, hD, hS, lv_sub hl [0, 1, 2, 3, 4, 5, 6, 7] rfl⟩
                · have t_181 : n0_ran.toInt < 24 := kk_nle c_181
                  refine lv_aload_n hx hb dX5_call_86 rfl (lv_at hl 2 rfl) ?_
                  refine va_get (D := (dC, dI)) (ci := 5) (v := .ref h2) (C := RX5) (T := TX5) (N := 4) hx hb hts (fun _ h => List.mem_cons_of_mem _ (List.mem_append_right _ h)) hown hK hP 0 rfl rfl 2 (by decide) (hts (.fieldLink RX5 15 "KinkStreet$Lines" "trace" "[I") (List.mem_of_getElem? (i := 4) rfl)) (fun _ h9 => h9) rfl dX5_call_87 ?_
                  refine lv_aload_n hx hb dX5_call_90 rfl (lv_at hl 2 rfl) ?_
                  refine va_get (D := (dC, dI)) (ci := 5) (v := .int n0_ran) (C := RX5) (T := TX5) (N := 4) hx hb hts (fun _ h => List.mem_cons_of_mem _ (List.mem_append_right _ h)) hown hK hP 0 rfl rfl 3 (by decide) (hts (.fieldLink RX5 36 "KinkStreet$Lines" "ran" "I") (List.mem_of_getElem? (i := 3) rfl)) (fun _ h9 => h9) rfl dX5_call_91 ?_
                  refine lv_iload hx hb dX5_call_94 (lv_at hl 0 rfl) ?_
                  refine va_iast hx hb hK hP hD hS 2 0 rfl rfl (vp_in_iff.mpr ⟨by have := kk_rng p4; omega, by have := kk_rng p4; omega⟩) dX5_call_96 (fun H locs hP hD hS => ?_)
                  generalize upd f2 (n0_ran : Int32).toNatClampNeg 1 = f_182 at hP hD
                  have hP : va_P (dC, dI) vwCl [(h0, Sum.inr (5, [Value.ref h1, Value.int n0_size, Value.ref h2, Value.int n0_ran])), (h1, Sum.inl (cint, 50, Sum.inl f1)), (h2, Sum.inl (cint, 24, Sum.inl f_182))] H := hP
                  have hD : va_D A [(h0, Sum.inr (5, [Value.ref h1, Value.int n0_size, Value.ref h2, Value.int n0_ran])), (h1, Sum.inl (cint, 50, Sum.inl f1)), (h2, Sum.inl (cint, 24, Sum.inl f_182))] := hD
                  exact hcut_179 (f_182) _ _ _ ⟨hP, hD, hS, lv_sub hl [0, 1, 2, 3, 4, 5, 6, 7] rfl⟩
            · have t_174 : 40 < p4.toInt := kk_nle c_174
              refine lv_iconst (v := 0) hx hb dX5_call_63 (by decide) ?_
              obtain ⟨hP9, hD9⟩ := kk_leafout (wc := [(h0, Sum.inr (5, [Value.ref h1, Value.int n0_size, Value.ref h2, Value.int n0_ran])), (h1, Sum.inl (cint, 50, Sum.inl f1)), (h2, Sum.inl (cint, 24, Sum.inl f2))]) hP hD [0, 1, 2] (by decide) rfl
              have hK9 := hK.sub (tys' := []) [] rfl
              exact W.iret (v := 0) hx hb hr (fun t ht hW => ⟨⟨0, (), rfl, trivial, n0_ran, f2, (by show 0 ≤ (n0_ran : Int32).toInt ∧ (n0_ran : Int32).toInt ≤ 1000; first | decide | (constructor <;> (have := kk_rng p4; omega))), (by show (n0_ran : Int32).toInt ≤ (n0_ran : Int32).toInt + 3; first | decide | (have := kk_rng p4; omega)), by rw [ht]; exact hP9, va_K.moved hW.alike hK9, hD9⟩, hS.F ht⟩) hS.2.2 dX5_call_64
  · have t_1 : p1.toInt = 5 := by rw [e_1]; rfl
    subst e_1
    refine lv_iload_n hx hb dX5_call_0 rfl (lv_at hl 2 rfl) ?_
    refine lv_istore (lv' := [(6, .int 5), (0, .ref h0), (1, .int p0), (2, .int 5), (3, .int 0), (4, .int p3), (5, .int p4)]) hx hb dX5_call_1 hl (by decide) rfl (fun ls hl => ?_)
    refine lv_iconst (v := 0) hx hb dX5_call_3 (by decide) ?_
    refine lv_istore (lv' := [(7, .int 0), (6, .int 5), (0, .ref h0), (1, .int p0), (2, .int 5), (3, .int 0), (4, .int p3), (5, .int p4)]) hx hb dX5_call_4 hl (by decide) rfl (fun ls hl => ?_)
    refine lv_iload hx hb dX5_call_6 (lv_at hl 0 rfl) ?_
    refine lv_bipush (v := 8) hx hb dX5_call_8 (by decide) ?_
    refine lv_icmp_ge (tgt := 48) hx hb dX5_call_10 (by decide) (fun c => absurd c (by decide)) (fun _ => ?_)
    refine lv_iload hx hb dX5_call_13 (lv_at hl 1 rfl) ?_
    obtain ⟨hPc, hDc, hFc⟩ := kk_cutout (wc := []) hP hD hS hA [] (by decide) rfl
    have hKc := hK.sub (tys' := []) [] rfl
    refine va_calli (va_runS (As := [.int 5]) (rest := []) ⟨hx, hb, hml, hown, hts⟩ (g_X5_isKind_0 l dC dI s.heap.size 5) (va_cwS 1 hts gX5_call_X5_isKind rfl rfl rfl (by decide +kernel) ⟨Nat.le_of_ble_eq_true rfl, Nat.le_of_ble_eq_true rfl⟩) ⟨fun a U g mk q => by obtain ⟨q0, q1, qP, qK, qD⟩ := q; exact ⟨q0, q1, qP, va_K.moved (u := U) (U := U.calling g mk a) (Vm.Alike.refl U.vm) qK, qD⟩, fun U hU hW => ⟨rfl, by rw [hU], by rw [hU]; exact hPc, va_K.moved hW.alike hKc, hDc.weaken (fun _ _ _ _ => trivial)⟩⟩ rfl rfl hl.1 rfl (lv_room (Nat.le_of_ble_eq_true rfl)) dX5_call_15 ⟨Nat.le_of_ble_eq_true rfl, Nat.le_of_ble_eq_true rfl⟩) hS (fun q _ h => hFc q h) hFc (fun r_183 u t H1 locs ht hvm hw hB hz1 hk1 hS => ?_)
    obtain ⟨hP1, hK1, hD1⟩ := hB
    rw [ht] at hP1
    have hK1 := va_K.moved hvm.symm hK1
    obtain ⟨hP, hD⟩ := va_join (wr := [(h0, Sum.inr (5, [Value.ref h1, Value.int n0_size, Value.ref h2, Value.int n0_ran])), (h1, Sum.inl (cint, 50, Sum.inl f1)), (h2, Sum.inl (cint, 24, Sum.inl f2))]) (w1 := []) hP hD [] [0, 1, 2] rfl rfl (by decide) (by decide) hk1 hFc hP1 hD1
    generalize H1 = H at hP hS ⊢
    have hP : va_P (dC, dI) vwCl [(h0, Sum.inr (5, [Value.ref h1, Value.int n0_size, Value.ref h2, Value.int n0_ran])), (h1, Sum.inl (cint, 50, Sum.inl f1)), (h2, Sum.inl (cint, 24, Sum.inl f2))] H := hP
    have hD : va_D A [(h0, Sum.inr (5, [Value.ref h1, Value.int n0_size, Value.ref h2, Value.int n0_ran])), (h1, Sum.inl (cint, 50, Sum.inl f1)), (h2, Sum.inl (cint, 24, Sum.inl f2))] := hD
    rcases hw with ⟨rfl⟩ | ⟨t_183_0, t_183_1, rfl⟩
    · skip
      refine lv_if_eq (tgt := 48) hx hb dX5_call_18 (by decide) (fun _ => ?_) (fun c => absurd c (by decide))
      refine lv_iload hx hb dX5_call_48 (lv_at hl 1 rfl) ?_
      obtain ⟨hPc, hDc, hFc⟩ := kk_cutout (wc := []) hP hD hS hA [] (by decide) rfl
      have hKc := hK.sub (tys' := []) [] rfl
      refine va_calli (va_runS (As := [.int 5]) (rest := []) ⟨hx, hb, hml, hown, hts⟩ (g_X5_isKind_0 l dC dI H.size 5) (va_cwS 1 hts gX5_call_X5_isKind rfl rfl rfl (by decide +kernel) ⟨Nat.le_of_ble_eq_true rfl, Nat.le_of_ble_eq_true rfl⟩) ⟨fun a U g mk q => by obtain ⟨q0, q1, qP, qK, qD⟩ := q; exact ⟨q0, q1, qP, va_K.moved (u := U) (U := U.calling g mk a) (Vm.Alike.refl U.vm) qK, qD⟩, fun U hU hW => ⟨rfl, by rw [hU], by rw [hU]; exact hPc, va_K.moved hW.alike hKc, hDc.weaken (fun _ _ _ _ => trivial)⟩⟩ rfl rfl hl.1 rfl (lv_room (Nat.le_of_ble_eq_true rfl)) dX5_call_50 ⟨Nat.le_of_ble_eq_true rfl, Nat.le_of_ble_eq_true rfl⟩) hS (fun q _ h => hFc q h) hFc (fun r_184 u t H1 locs ht hvm hw hB hz1 hk1 hS => ?_)
      obtain ⟨hP1, hK1, hD1⟩ := hB
      rw [ht] at hP1
      have hK1 := va_K.moved hvm.symm hK1
      obtain ⟨hP, hD⟩ := va_join (wr := [(h0, Sum.inr (5, [Value.ref h1, Value.int n0_size, Value.ref h2, Value.int n0_ran])), (h1, Sum.inl (cint, 50, Sum.inl f1)), (h2, Sum.inl (cint, 24, Sum.inl f2))]) (w1 := []) hP hD [] [0, 1, 2] rfl rfl (by decide) (by decide) hk1 hFc hP1 hD1
      generalize H1 = H at hP hS ⊢
      have hP : va_P (dC, dI) vwCl [(h0, Sum.inr (5, [Value.ref h1, Value.int n0_size, Value.ref h2, Value.int n0_ran])), (h1, Sum.inl (cint, 50, Sum.inl f1)), (h2, Sum.inl (cint, 24, Sum.inl f2))] H := hP
      have hD : va_D A [(h0, Sum.inr (5, [Value.ref h1, Value.int n0_size, Value.ref h2, Value.int n0_ran])), (h1, Sum.inl (cint, 50, Sum.inl f1)), (h2, Sum.inl (cint, 24, Sum.inl f2))] := hD
      rcases hw with ⟨rfl⟩ | ⟨t_184_0, t_184_1, rfl⟩
      · skip
        refine lv_if_eq (tgt := 63) hx hb dX5_call_53 (by decide) (fun _ => ?_) (fun c => absurd c (by decide))
        refine lv_iconst (v := 0) hx hb dX5_call_63 (by decide) ?_
        obtain ⟨hP9, hD9⟩ := kk_leafout (wc := [(h0, Sum.inr (5, [Value.ref h1, Value.int n0_size, Value.ref h2, Value.int n0_ran])), (h1, Sum.inl (cint, 50, Sum.inl f1)), (h2, Sum.inl (cint, 24, Sum.inl f2))]) hP hD [0, 1, 2] (by decide) rfl
        have hK9 := hK.sub (tys' := []) [] rfl
        exact W.iret (v := 0) hx hb hr (fun t ht hW => ⟨⟨0, (), rfl, trivial, n0_ran, f2, (by show 0 ≤ (n0_ran : Int32).toInt ∧ (n0_ran : Int32).toInt ≤ 1000; first | decide | (constructor <;> (omega))), (by show (n0_ran : Int32).toInt ≤ (n0_ran : Int32).toInt + 3; first | decide | (omega)), by rw [ht]; exact hP9, va_K.moved hW.alike hK9, hD9⟩, hS.F ht⟩) hS.2.2 dX5_call_64
      · skip
        have t_184_0 : (0 : Int) ≤ 5 := t_184_0
        have t_184_1 : (5 : Int) < 8 := t_184_1
        refine lv_if_eq (tgt := 63) hx hb dX5_call_53 (by decide) (fun c => absurd c (by decide)) (fun _ => ?_)
        refine lv_iload hx hb dX5_call_56 (lv_at hl 7 rfl) ?_
        refine lv_bipush (v := 40) hx hb dX5_call_58 (by decide) ?_
        refine lv_icmp_le (tgt := 65) hx hb dX5_call_60 (by decide) (fun c_185 => ?_) (fun c_185 => ?_)
        · have t_185 : p4.toInt ≤ 40 := kk_le c_185
          refine va_gets hx hb hZOWN_BODIES hS hown (hts (.fieldLink RX5 43 "KinkStreet$Lines" "OWN_BODIES" "[I") (List.mem_of_getElem? (i := 1) rfl)) (fun _ h9 => h9) dX5_call_65 ?_
          refine lv_iload hx hb dX5_call_68 (lv_at hl 1 rfl) ?_
          refine lv_iconst (v := 4) hx hb dX5_call_70 (by decide) ?_
          refine lv_imul hx hb dX5_call_71 ?_
          refine lv_topi (fun y_186 e_186 => ?_)
          obtain rfl : y_186 = 20 := e_186.trans (by decide)
          refine lv_iload_n hx hb dX5_call_72 rfl (lv_at hl 5 rfl) ?_
          refine lv_iadd hx hb dX5_call_73 ?_
          refine lv_topi (fun y_187 e_187 => ?_)
          obtain rfl : y_187 = 20 := e_187.trans (by decide)
          refine va_ti (v := .int 0) hx hb hTOWN_BODIES hS (by unfold vp_in; decide) rfl dX5_call_74 ?_
          refine lv_istore (lv' := [(7, .int 0), (6, .int 5), (0, .ref h0), (1, .int p0), (2, .int 5), (3, .int 0), (4, .int p3), (5, .int p4)]) hx hb dX5_call_75 hl (by decide) rfl (fun ls hl => ?_)
          refine lv_aload_n hx hb dX5_call_77 rfl (lv_at hl 2 rfl) ?_
          refine va_get (D := (dC, dI)) (ci := 5) (v := .int n0_ran) (C := RX5) (T := TX5) (N := 4) hx hb hts (fun _ h => List.mem_cons_of_mem _ (List.mem_append_right _ h)) hown hK hP 0 rfl rfl 3 (by decide) (hts (.fieldLink RX5 36 "KinkStreet$Lines" "ran" "I") (List.mem_of_getElem? (i := 3) rfl)) (fun _ h9 => h9) rfl dX5_call_78 ?_
          refine lv_bipush (v := 24) hx hb dX5_call_81 (by decide) ?_
          refine kk_cut (σ := (Nat → Int32)) (pc' := 97) (fun x H locs ls => va_P (dC, dI) vwCl [(h0, Sum.inr (5, [Value.ref h1, Value.int n0_size, Value.ref h2, Value.int n0_ran])), (h1, Sum.inl (cint, 50, Sum.inl f1)), (h2, Sum.inl (cint, 24, Sum.inl x))] H ∧ va_D A [(h0, Sum.inr (5, [Value.ref h1, Value.int n0_size, Value.ref h2, Value.int n0_ran])), (h1, Sum.inl (cint, 50, Sum.inl f1)), (h2, Sum.inl (cint, 24, Sum.inl x))] ∧ va_S A s.heap H locs ∧ lv_has ls 8 [(7, .int 0), (6, .int 5), (0, .ref h0), (1, .int p0), (2, .int 5), (3, .int 0), (4, .int p3), (5, .int p4)]) ?_ (fun hcut_190 => ?_)
          · rintro f_190_0 H locs ls ⟨hP, hD, hS, hl⟩
            have hl : lv_has ls 8 [(7, .int 0), (6, .int 5), (0, .ref h0), (1, .int p0), (2, .int 5), (3, .int 0), (4, .int p3), (5, .int p4)] := hl
            have hP : va_P (dC, dI) vwCl [(h0, Sum.inr (5, [Value.ref h1, Value.int n0_size, Value.ref h2, Value.int n0_ran])), (h1, Sum.inl (cint, 50, Sum.inl f1)), (h2, Sum.inl (cint, 24, Sum.inl f_190_0))] H := hP
            have hD : va_D A [(h0, Sum.inr (5, [Value.ref h1, Value.int n0_size, Value.ref h2, Value.int n0_ran])), (h1, Sum.inl (cint, 50, Sum.inl f1)), (h2, Sum.inl (cint, 24, Sum.inl f_190_0))] := hD
            refine lv_aload_n hx hb dX5_call_97 rfl (lv_at hl 2 rfl) ?_
            refine lv_dup hx hb dX5_call_98 rfl ?_
            refine va_get (D := (dC, dI)) (ci := 5) (v := .int n0_ran) (C := RX5) (T := TX5) (N := 4) hx hb hts (fun _ h => List.mem_cons_of_mem _ (List.mem_append_right _ h)) hown hK hP 0 rfl rfl 3 (by decide) (hts (.fieldLink RX5 36 "KinkStreet$Lines" "ran" "I") (List.mem_of_getElem? (i := 3) rfl)) (fun _ h9 => h9) rfl dX5_call_99 ?_
            refine lv_iconst (v := 1) hx hb dX5_call_102 (by decide) ?_
            refine lv_iadd hx hb dX5_call_103 ?_
            refine va_put (D := (dC, dI)) (ci := 5) (v := .int (n0_ran + 1)) (ty := .int) (C := RX5) (T := TX5) (N := 4) hx hb hts (fun _ h => List.mem_cons_of_mem _ (List.mem_append_right _ h)) tyX5 tyX5_ok nmX5 hown hK hP hD hS 0 rfl rfl 3 (by decide) (hts (.fieldLink RX5 36 "KinkStreet$Lines" "ran" "I") (List.mem_of_getElem? (i := 3) rfl)) (fun _ h9 => h9) rfl (by decide +kernel) rfl rfl (Nat.le_of_ble_eq_true rfl) dX5_call_104 (fun H locs hP hD hS => ?_)
            have hP : va_P (dC, dI) vwCl [(h0, Sum.inr (5, [Value.ref h1, Value.int n0_size, Value.ref h2, Value.int (n0_ran + 1)])), (h1, Sum.inl (cint, 50, Sum.inl f1)), (h2, Sum.inl (cint, 24, Sum.inl f_190_0))] H := hP
            have hD : va_D A [(h0, Sum.inr (5, [Value.ref h1, Value.int n0_size, Value.ref h2, Value.int (n0_ran + 1)])), (h1, Sum.inl (cint, 50, Sum.inl f1)), (h2, Sum.inl (cint, 24, Sum.inl f_190_0))] := hD
            refine lv_iload hx hb dX5_call_107 (lv_at hl 1 rfl) ?_
            refine lv_if_ne (tgt := 128) hx hb dX5_call_109 (by decide) (fun _ => ?_) (fun c => absurd c (by decide))
            refine lv_aload_n hx hb dX5_call_128 rfl (lv_at hl 2 rfl) ?_
            refine lv_iload_n hx hb dX5_call_129 rfl (lv_at hl 3 rfl) ?_
            refine lv_iload hx hb dX5_call_130 (lv_at hl 1 rfl) ?_
            refine lv_iload hx hb dX5_call_132 (lv_at hl 0 rfl) ?_
            refine lv_iload hx hb dX5_call_134 (lv_at hl 6 rfl) ?_
            refine lv_iload hx hb dX5_call_136 (lv_at hl 7 rfl) ?_
            refine lv_iconst (v := 1) hx hb dX5_call_138 (by decide) ?_
            refine lv_iadd hx hb dX5_call_139 ?_
            obtain ⟨hPc, hDc, hFc⟩ := kk_cutout (wc := [(h0, Sum.inr (5, [Value.ref h1, Value.int n0_size, Value.ref h2, Value.int (n0_ran + 1)])), (h1, Sum.inl (cint, 50, Sum.inl f1)), (h2, Sum.inl (cint, 24, Sum.inl f_190_0))]) hP hD hS hA [0, 1, 2] (by decide) rfl
            have hKc := hK.sub (tys' := [(cint, .int)]) [0] rfl
            refine va_calli (va_runV (As := [.int p0, .int 5, .int 0, .int p3, .int (p4 + 1)]) (rest := []) ⟨hx, hb, hml, hown, hts⟩ (g_X5_runUnder_6 l dC dI h0 h1 h2 cint H.size p0 p3 (p4 + 1) n0_size (n0_ran + 1) f1 f_190_0 tn0_size (by show 0 ≤ ((n0_ran + 1) : Int32).toInt ∧ ((n0_ran + 1) : Int32).toInt ≤ 998; first | decide | (constructor <;> (have := kk_rng p4; have := kk_add2 (x := n0_ran) (y := 1) (a := n0_ran.toInt) (b := 1) rfl rfl (by omega) (by omega); have := kk_rng p4; have := kk_add2 (x := p4) (y := 1) (a := p4.toInt) (b := 1) rfl rfl (by omega) (by omega); omega))) bf1 aOWN_BODIES aABOVE) (cwV 5 hts gX5_call_X5_runUnder rfl rfl rfl (by decide +kernel) ⟨Nat.le_of_ble_eq_true rfl, Nat.le_of_ble_eq_true rfl⟩) ⟨fun a U g mk q => by obtain ⟨q0, q1, qP, qK, qD, qx0, qx1, qx2, qx3⟩ := q; exact ⟨q0, q1, qP, va_K.moved (u := U) (U := U.calling g mk a) (Vm.Alike.refl U.vm) qK, qD, va_Z.moved (u := U) (U := U.calling g mk a) (Vm.Alike.refl U.vm) qx0, va_T.moved (u := U) (U := U.calling g mk a) (Vm.Alike.refl U.vm) qx1, va_Z.moved (u := U) (U := U.calling g mk a) (Vm.Alike.refl U.vm) qx2, va_T.moved (u := U) (U := U.calling g mk a) (Vm.Alike.refl U.vm) qx3⟩, va_recv hKc hPc (ci := 5) (q0 := 0) rfl rfl, fun U hU hW => ⟨rfl, by rw [hU], by rw [hU]; exact hPc, va_K.moved hW.alike hKc, hDc.weaken (fun _ _ _ _ => trivial), by rw [hU]; exact ((hZOWN_BODIES.kept (fun a h1 h2 => hS.2.1 a h1 h2)).narrow hFc).moved hW.alike, by rw [hU]; exact ((hTOWN_BODIES.kept (fun a h1 h2 => hS.2.1 a h1 h2)).narrow hFc).moved hW.alike, by rw [hU]; exact ((hZABOVE.kept (fun a h1 h2 => hS.2.1 a h1 h2)).narrow hFc).moved hW.alike, by rw [hU]; exact ((hTABOVE.kept (fun a h1 h2 => hS.2.1 a h1 h2)).narrow hFc).moved hW.alike⟩⟩ rfl rfl hl.1 rfl (lv_room (Nat.le_of_ble_eq_true rfl)) dX5_call_140 ⟨Nat.le_of_ble_eq_true rfl, Nat.le_of_ble_eq_true rfl⟩) hS (fun q _ h => hFc q h) hFc (fun r_191 u t H1 locs ht hvm hw hB hz1 hk1 hS => ?_)
            obtain ⟨y_192, f_193, by_192, v_193_0, hP1, hK1, hD1⟩ := hB
            have v_193_0 : y_192.toInt ≤ (n0_ran + 1).toInt + 2 := v_193_0
            rw [ht] at hP1
            have hK1 := va_K.moved hvm.symm hK1
            obtain ⟨hP, hD⟩ := va_join (wr := []) (w1 := [(h0, Sum.inr (5, [Value.ref h1, Value.int n0_size, Value.ref h2, Value.int y_192])), (h1, Sum.inl (cint, 50, Sum.inl f1)), (h2, Sum.inl (cint, 24, Sum.inl f_193))]) hP hD [0, 1, 2] [] rfl rfl (by decide) (by decide) hk1 hFc hP1 hD1
            generalize H1 = H at hP hS ⊢
            have hP : va_P (dC, dI) vwCl [(h0, Sum.inr (5, [Value.ref h1, Value.int n0_size, Value.ref h2, Value.int y_192])), (h1, Sum.inl (cint, 50, Sum.inl f1)), (h2, Sum.inl (cint, 24, Sum.inl f_193))] H := hP
            have hD : va_D A [(h0, Sum.inr (5, [Value.ref h1, Value.int n0_size, Value.ref h2, Value.int y_192])), (h1, Sum.inl (cint, 50, Sum.inl f1)), (h2, Sum.inl (cint, 24, Sum.inl f_193))] := hD
            obtain ⟨hP9, hD9⟩ := kk_leafout (wc := [(h0, Sum.inr (5, [Value.ref h1, Value.int n0_size, Value.ref h2, Value.int y_192])), (h1, Sum.inl (cint, 50, Sum.inl f1)), (h2, Sum.inl (cint, 24, Sum.inl f_193))]) hP hD [0, 1, 2] (by decide) rfl
            have hK9 := hK.sub (tys' := []) [] rfl
            exact W.iret (v := r_191) hx hb hr (fun t ht hW => ⟨⟨r_191, (), rfl, trivial, y_192, f_193, (by show 0 ≤ (y_192 : Int32).toInt ∧ (y_192 : Int32).toInt ≤ 1000; first | decide | (constructor <;> (have := kk_rng p4; have := kk_add2 (x := n0_ran) (y := 1) (a := n0_ran.toInt) (b := 1) rfl rfl (by omega) (by omega); have := kk_rng p4; have := kk_add2 (x := p4) (y := 1) (a := p4.toInt) (b := 1) rfl rfl (by omega) (by omega); omega))), (by show (y_192 : Int32).toInt ≤ (n0_ran : Int32).toInt + 3; first | decide | (have := kk_rng p4; have := kk_add2 (x := n0_ran) (y := 1) (a := n0_ran.toInt) (b := 1) rfl rfl (by omega) (by omega); have := kk_rng p4; have := kk_add2 (x := p4) (y := 1) (a := p4.toInt) (b := 1) rfl rfl (by omega) (by omega); omega)), by rw [ht]; exact hP9, va_K.moved hW.alike hK9, hD9⟩, hS.F ht⟩) hS.2.2 dX5_call_143
          · skip
            refine lv_icmp_ge (tgt := 97) hx hb dX5_call_83 (by decide) (fun c_194 => ?_) (fun c_194 => ?_)
            · have t_194 : 24 ≤ n0_ran.toInt := kk_le c_194
              exact hcut_190 (f2) _ _ _ ⟨hP, hD, hS, lv_sub hl [0, 1, 2, 3, 4, 5, 6, 7] rfl⟩
            · have t_194 : n0_ran.toInt < 24 := kk_nle c_194
              refine lv_aload_n hx hb dX5_call_86 rfl (lv_at hl 2 rfl) ?_
              refine va_get (D := (dC, dI)) (ci := 5) (v := .ref h2) (C := RX5) (T := TX5) (N := 4) hx hb hts (fun _ h => List.mem_cons_of_mem _ (List.mem_append_right _ h)) hown hK hP 0 rfl rfl 2 (by decide) (hts (.fieldLink RX5 15 "KinkStreet$Lines" "trace" "[I") (List.mem_of_getElem? (i := 4) rfl)) (fun _ h9 => h9) rfl dX5_call_87 ?_
              refine lv_aload_n hx hb dX5_call_90 rfl (lv_at hl 2 rfl) ?_
              refine va_get (D := (dC, dI)) (ci := 5) (v := .int n0_ran) (C := RX5) (T := TX5) (N := 4) hx hb hts (fun _ h => List.mem_cons_of_mem _ (List.mem_append_right _ h)) hown hK hP 0 rfl rfl 3 (by decide) (hts (.fieldLink RX5 36 "KinkStreet$Lines" "ran" "I") (List.mem_of_getElem? (i := 3) rfl)) (fun _ h9 => h9) rfl dX5_call_91 ?_
              refine lv_iload hx hb dX5_call_94 (lv_at hl 0 rfl) ?_
              refine va_iast hx hb hK hP hD hS 2 0 rfl rfl (vp_in_iff.mpr ⟨by have := kk_rng p4; omega, by have := kk_rng p4; omega⟩) dX5_call_96 (fun H locs hP hD hS => ?_)
              generalize upd f2 (n0_ran : Int32).toNatClampNeg 0 = f_195 at hP hD
              have hP : va_P (dC, dI) vwCl [(h0, Sum.inr (5, [Value.ref h1, Value.int n0_size, Value.ref h2, Value.int n0_ran])), (h1, Sum.inl (cint, 50, Sum.inl f1)), (h2, Sum.inl (cint, 24, Sum.inl f_195))] H := hP
              have hD : va_D A [(h0, Sum.inr (5, [Value.ref h1, Value.int n0_size, Value.ref h2, Value.int n0_ran])), (h1, Sum.inl (cint, 50, Sum.inl f1)), (h2, Sum.inl (cint, 24, Sum.inl f_195))] := hD
              exact hcut_190 (f_195) _ _ _ ⟨hP, hD, hS, lv_sub hl [0, 1, 2, 3, 4, 5, 6, 7] rfl⟩
        · have t_185 : 40 < p4.toInt := kk_nle c_185
          refine lv_iconst (v := 0) hx hb dX5_call_63 (by decide) ?_
          obtain ⟨hP9, hD9⟩ := kk_leafout (wc := [(h0, Sum.inr (5, [Value.ref h1, Value.int n0_size, Value.ref h2, Value.int n0_ran])), (h1, Sum.inl (cint, 50, Sum.inl f1)), (h2, Sum.inl (cint, 24, Sum.inl f2))]) hP hD [0, 1, 2] (by decide) rfl
          have hK9 := hK.sub (tys' := []) [] rfl
          exact W.iret (v := 0) hx hb hr (fun t ht hW => ⟨⟨0, (), rfl, trivial, n0_ran, f2, (by show 0 ≤ (n0_ran : Int32).toInt ∧ (n0_ran : Int32).toInt ≤ 1000; first | decide | (constructor <;> (have := kk_rng p4; omega))), (by show (n0_ran : Int32).toInt ≤ (n0_ran : Int32).toInt + 3; first | decide | (have := kk_rng p4; omega)), by rw [ht]; exact hP9, va_K.moved hW.alike hK9, hD9⟩, hS.F ht⟩) hS.2.2 dX5_call_64
    · skip
      have t_183_0 : (0 : Int) ≤ 5 := t_183_0
      have t_183_1 : (5 : Int) < 8 := t_183_1
      refine lv_if_eq (tgt := 48) hx hb dX5_call_18 (by decide) (fun c => absurd c (by decide)) (fun _ => ?_)
      refine va_gets hx hb hZOWN_BODIES hS hown (hts (.fieldLink RX5 43 "KinkStreet$Lines" "OWN_BODIES" "[I") (List.mem_of_getElem? (i := 1) rfl)) (fun _ h9 => h9) dX5_call_21 ?_
      refine lv_iload hx hb dX5_call_24 (lv_at hl 1 rfl) ?_
      refine lv_iconst (v := 4) hx hb dX5_call_26 (by decide) ?_
      refine lv_imul hx hb dX5_call_27 ?_
      refine lv_topi (fun y_196 e_196 => ?_)
      obtain rfl : y_196 = 20 := e_196.trans (by decide)
      refine lv_iload_n hx hb dX5_call_28 rfl (lv_at hl 5 rfl) ?_
      refine lv_iadd hx hb dX5_call_29 ?_
      refine lv_topi (fun y_197 e_197 => ?_)
      obtain rfl : y_197 = 20 := e_197.trans (by decide)
      refine va_ti (v := .int 0) hx hb hTOWN_BODIES hS (by unfold vp_in; decide) rfl dX5_call_30 ?_
      refine lv_if_ne (tgt := 48) hx hb dX5_call_31 (by decide) (fun c => absurd c (by decide)) (fun _ => ?_)
      refine va_gets hx hb hZABOVE hS hown (hts (.fieldLink RX5 22 "KinkStreet$Lines" "ABOVE" "[I") (List.mem_of_getElem? (i := 2) rfl)) (fun _ h9 => h9) dX5_call_34 ?_
      refine lv_iload hx hb dX5_call_37 (lv_at hl 1 rfl) ?_
      refine va_ti (v := .int 1) hx hb hTABOVE hS (by unfold vp_in; decide) rfl dX5_call_39 ?_
      refine lv_istore (lv' := [(6, .int 1), (7, .int 0), (0, .ref h0), (1, .int p0), (2, .int 5), (3, .int 0), (4, .int p3), (5, .int p4)]) hx hb dX5_call_40 hl (by decide) rfl (fun ls hl => ?_)
      refine lv_iinc (v := 1) (lv' := [(7, .int 1), (6, .int 1), (0, .ref h0), (1, .int p0), (2, .int 5), (3, .int 0), (4, .int p3), (5, .int p4)]) hx hb dX5_call_42 hl (k := 1) rfl (by first | rfl | decide) (by decide) rfl (fun ls hl => ?_)
      refine lv_goto (tgt := 6) hx hb dX5_call_45 (by decide) ?_
      refine lv_iload hx hb dX5_call_6 (lv_at hl 0 rfl) ?_
      refine lv_bipush (v := 8) hx hb dX5_call_8 (by decide) ?_
      refine lv_icmp_ge (tgt := 48) hx hb dX5_call_10 (by decide) (fun c => absurd c (by decide)) (fun _ => ?_)
      refine lv_iload hx hb dX5_call_13 (lv_at hl 1 rfl) ?_
      obtain ⟨hPc, hDc, hFc⟩ := kk_cutout (wc := []) hP hD hS hA [] (by decide) rfl
      have hKc := hK.sub (tys' := []) [] rfl
      refine va_calli (va_runS (As := [.int 1]) (rest := []) ⟨hx, hb, hml, hown, hts⟩ (g_X5_isKind_0 l dC dI H.size 1) (va_cwS 1 hts gX5_call_X5_isKind rfl rfl rfl (by decide +kernel) ⟨Nat.le_of_ble_eq_true rfl, Nat.le_of_ble_eq_true rfl⟩) ⟨fun a U g mk q => by obtain ⟨q0, q1, qP, qK, qD⟩ := q; exact ⟨q0, q1, qP, va_K.moved (u := U) (U := U.calling g mk a) (Vm.Alike.refl U.vm) qK, qD⟩, fun U hU hW => ⟨rfl, by rw [hU], by rw [hU]; exact hPc, va_K.moved hW.alike hKc, hDc.weaken (fun _ _ _ _ => trivial)⟩⟩ rfl rfl hl.1 rfl (lv_room (Nat.le_of_ble_eq_true rfl)) dX5_call_15 ⟨Nat.le_of_ble_eq_true rfl, Nat.le_of_ble_eq_true rfl⟩) hS (fun q _ h => hFc q h) hFc (fun r_198 u t H1 locs ht hvm hw hB hz1 hk1 hS => ?_)
      obtain ⟨hP1, hK1, hD1⟩ := hB
      rw [ht] at hP1
      have hK1 := va_K.moved hvm.symm hK1
      obtain ⟨hP, hD⟩ := va_join (wr := [(h0, Sum.inr (5, [Value.ref h1, Value.int n0_size, Value.ref h2, Value.int n0_ran])), (h1, Sum.inl (cint, 50, Sum.inl f1)), (h2, Sum.inl (cint, 24, Sum.inl f2))]) (w1 := []) hP hD [] [0, 1, 2] rfl rfl (by decide) (by decide) hk1 hFc hP1 hD1
      generalize H1 = H at hP hS ⊢
      have hP : va_P (dC, dI) vwCl [(h0, Sum.inr (5, [Value.ref h1, Value.int n0_size, Value.ref h2, Value.int n0_ran])), (h1, Sum.inl (cint, 50, Sum.inl f1)), (h2, Sum.inl (cint, 24, Sum.inl f2))] H := hP
      have hD : va_D A [(h0, Sum.inr (5, [Value.ref h1, Value.int n0_size, Value.ref h2, Value.int n0_ran])), (h1, Sum.inl (cint, 50, Sum.inl f1)), (h2, Sum.inl (cint, 24, Sum.inl f2))] := hD
      rcases hw with ⟨rfl⟩ | ⟨t_198_0, t_198_1, rfl⟩
      · skip
        refine lv_if_eq (tgt := 48) hx hb dX5_call_18 (by decide) (fun _ => ?_) (fun c => absurd c (by decide))
        refine lv_iload hx hb dX5_call_48 (lv_at hl 1 rfl) ?_
        obtain ⟨hPc, hDc, hFc⟩ := kk_cutout (wc := []) hP hD hS hA [] (by decide) rfl
        have hKc := hK.sub (tys' := []) [] rfl
        refine va_calli (va_runS (As := [.int 1]) (rest := []) ⟨hx, hb, hml, hown, hts⟩ (g_X5_isKind_0 l dC dI H.size 1) (va_cwS 1 hts gX5_call_X5_isKind rfl rfl rfl (by decide +kernel) ⟨Nat.le_of_ble_eq_true rfl, Nat.le_of_ble_eq_true rfl⟩) ⟨fun a U g mk q => by obtain ⟨q0, q1, qP, qK, qD⟩ := q; exact ⟨q0, q1, qP, va_K.moved (u := U) (U := U.calling g mk a) (Vm.Alike.refl U.vm) qK, qD⟩, fun U hU hW => ⟨rfl, by rw [hU], by rw [hU]; exact hPc, va_K.moved hW.alike hKc, hDc.weaken (fun _ _ _ _ => trivial)⟩⟩ rfl rfl hl.1 rfl (lv_room (Nat.le_of_ble_eq_true rfl)) dX5_call_50 ⟨Nat.le_of_ble_eq_true rfl, Nat.le_of_ble_eq_true rfl⟩) hS (fun q _ h => hFc q h) hFc (fun r_199 u t H1 locs ht hvm hw hB hz1 hk1 hS => ?_)
        obtain ⟨hP1, hK1, hD1⟩ := hB
        rw [ht] at hP1
        have hK1 := va_K.moved hvm.symm hK1
        obtain ⟨hP, hD⟩ := va_join (wr := [(h0, Sum.inr (5, [Value.ref h1, Value.int n0_size, Value.ref h2, Value.int n0_ran])), (h1, Sum.inl (cint, 50, Sum.inl f1)), (h2, Sum.inl (cint, 24, Sum.inl f2))]) (w1 := []) hP hD [] [0, 1, 2] rfl rfl (by decide) (by decide) hk1 hFc hP1 hD1
        generalize H1 = H at hP hS ⊢
        have hP : va_P (dC, dI) vwCl [(h0, Sum.inr (5, [Value.ref h1, Value.int n0_size, Value.ref h2, Value.int n0_ran])), (h1, Sum.inl (cint, 50, Sum.inl f1)), (h2, Sum.inl (cint, 24, Sum.inl f2))] H := hP
        have hD : va_D A [(h0, Sum.inr (5, [Value.ref h1, Value.int n0_size, Value.ref h2, Value.int n0_ran])), (h1, Sum.inl (cint, 50, Sum.inl f1)), (h2, Sum.inl (cint, 24, Sum.inl f2))] := hD
        rcases hw with ⟨rfl⟩ | ⟨t_199_0, t_199_1, rfl⟩
        · skip
          refine lv_if_eq (tgt := 63) hx hb dX5_call_53 (by decide) (fun _ => ?_) (fun c => absurd c (by decide))
          refine lv_iconst (v := 0) hx hb dX5_call_63 (by decide) ?_
          obtain ⟨hP9, hD9⟩ := kk_leafout (wc := [(h0, Sum.inr (5, [Value.ref h1, Value.int n0_size, Value.ref h2, Value.int n0_ran])), (h1, Sum.inl (cint, 50, Sum.inl f1)), (h2, Sum.inl (cint, 24, Sum.inl f2))]) hP hD [0, 1, 2] (by decide) rfl
          have hK9 := hK.sub (tys' := []) [] rfl
          exact W.iret (v := 0) hx hb hr (fun t ht hW => ⟨⟨0, (), rfl, trivial, n0_ran, f2, (by show 0 ≤ (n0_ran : Int32).toInt ∧ (n0_ran : Int32).toInt ≤ 1000; first | decide | (constructor <;> (omega))), (by show (n0_ran : Int32).toInt ≤ (n0_ran : Int32).toInt + 3; first | decide | (omega)), by rw [ht]; exact hP9, va_K.moved hW.alike hK9, hD9⟩, hS.F ht⟩) hS.2.2 dX5_call_64
        · skip
          have t_199_0 : (0 : Int) ≤ 1 := t_199_0
          have t_199_1 : (1 : Int) < 8 := t_199_1
          refine lv_if_eq (tgt := 63) hx hb dX5_call_53 (by decide) (fun c => absurd c (by decide)) (fun _ => ?_)
          refine lv_iload hx hb dX5_call_56 (lv_at hl 7 rfl) ?_
          refine lv_bipush (v := 40) hx hb dX5_call_58 (by decide) ?_
          refine lv_icmp_le (tgt := 65) hx hb dX5_call_60 (by decide) (fun c_200 => ?_) (fun c_200 => ?_)
          · have t_200 : p4.toInt ≤ 40 := kk_le c_200
            refine va_gets hx hb hZOWN_BODIES hS hown (hts (.fieldLink RX5 43 "KinkStreet$Lines" "OWN_BODIES" "[I") (List.mem_of_getElem? (i := 1) rfl)) (fun _ h9 => h9) dX5_call_65 ?_
            refine lv_iload hx hb dX5_call_68 (lv_at hl 1 rfl) ?_
            refine lv_iconst (v := 4) hx hb dX5_call_70 (by decide) ?_
            refine lv_imul hx hb dX5_call_71 ?_
            refine lv_topi (fun y_201 e_201 => ?_)
            obtain rfl : y_201 = 4 := e_201.trans (by decide)
            refine lv_iload_n hx hb dX5_call_72 rfl (lv_at hl 5 rfl) ?_
            refine lv_iadd hx hb dX5_call_73 ?_
            refine lv_topi (fun y_202 e_202 => ?_)
            obtain rfl : y_202 = 4 := e_202.trans (by decide)
            refine va_ti (v := .int 20) hx hb hTOWN_BODIES hS (by unfold vp_in; decide) rfl dX5_call_74 ?_
            refine lv_istore (lv' := [(7, .int 20), (6, .int 1), (0, .ref h0), (1, .int p0), (2, .int 5), (3, .int 0), (4, .int p3), (5, .int p4)]) hx hb dX5_call_75 hl (by decide) rfl (fun ls hl => ?_)
            refine lv_aload_n hx hb dX5_call_77 rfl (lv_at hl 2 rfl) ?_
            refine va_get (D := (dC, dI)) (ci := 5) (v := .int n0_ran) (C := RX5) (T := TX5) (N := 4) hx hb hts (fun _ h => List.mem_cons_of_mem _ (List.mem_append_right _ h)) hown hK hP 0 rfl rfl 3 (by decide) (hts (.fieldLink RX5 36 "KinkStreet$Lines" "ran" "I") (List.mem_of_getElem? (i := 3) rfl)) (fun _ h9 => h9) rfl dX5_call_78 ?_
            refine lv_bipush (v := 24) hx hb dX5_call_81 (by decide) ?_
            refine kk_cut (σ := (Nat → Int32)) (pc' := 97) (fun x H locs ls => va_P (dC, dI) vwCl [(h0, Sum.inr (5, [Value.ref h1, Value.int n0_size, Value.ref h2, Value.int n0_ran])), (h1, Sum.inl (cint, 50, Sum.inl f1)), (h2, Sum.inl (cint, 24, Sum.inl x))] H ∧ va_D A [(h0, Sum.inr (5, [Value.ref h1, Value.int n0_size, Value.ref h2, Value.int n0_ran])), (h1, Sum.inl (cint, 50, Sum.inl f1)), (h2, Sum.inl (cint, 24, Sum.inl x))] ∧ va_S A s.heap H locs ∧ lv_has ls 8 [(7, .int 20), (6, .int 1), (0, .ref h0), (1, .int p0), (2, .int 5), (3, .int 0), (4, .int p3), (5, .int p4)]) ?_ (fun hcut_205 => ?_)
            · rintro f_205_0 H locs ls ⟨hP, hD, hS, hl⟩
              have hl : lv_has ls 8 [(7, .int 20), (6, .int 1), (0, .ref h0), (1, .int p0), (2, .int 5), (3, .int 0), (4, .int p3), (5, .int p4)] := hl
              have hP : va_P (dC, dI) vwCl [(h0, Sum.inr (5, [Value.ref h1, Value.int n0_size, Value.ref h2, Value.int n0_ran])), (h1, Sum.inl (cint, 50, Sum.inl f1)), (h2, Sum.inl (cint, 24, Sum.inl f_205_0))] H := hP
              have hD : va_D A [(h0, Sum.inr (5, [Value.ref h1, Value.int n0_size, Value.ref h2, Value.int n0_ran])), (h1, Sum.inl (cint, 50, Sum.inl f1)), (h2, Sum.inl (cint, 24, Sum.inl f_205_0))] := hD
              refine lv_aload_n hx hb dX5_call_97 rfl (lv_at hl 2 rfl) ?_
              refine lv_dup hx hb dX5_call_98 rfl ?_
              refine va_get (D := (dC, dI)) (ci := 5) (v := .int n0_ran) (C := RX5) (T := TX5) (N := 4) hx hb hts (fun _ h => List.mem_cons_of_mem _ (List.mem_append_right _ h)) hown hK hP 0 rfl rfl 3 (by decide) (hts (.fieldLink RX5 36 "KinkStreet$Lines" "ran" "I") (List.mem_of_getElem? (i := 3) rfl)) (fun _ h9 => h9) rfl dX5_call_99 ?_
              refine lv_iconst (v := 1) hx hb dX5_call_102 (by decide) ?_
              refine lv_iadd hx hb dX5_call_103 ?_
              refine va_put (D := (dC, dI)) (ci := 5) (v := .int (n0_ran + 1)) (ty := .int) (C := RX5) (T := TX5) (N := 4) hx hb hts (fun _ h => List.mem_cons_of_mem _ (List.mem_append_right _ h)) tyX5 tyX5_ok nmX5 hown hK hP hD hS 0 rfl rfl 3 (by decide) (hts (.fieldLink RX5 36 "KinkStreet$Lines" "ran" "I") (List.mem_of_getElem? (i := 3) rfl)) (fun _ h9 => h9) rfl (by decide +kernel) rfl rfl (Nat.le_of_ble_eq_true rfl) dX5_call_104 (fun H locs hP hD hS => ?_)
              have hP : va_P (dC, dI) vwCl [(h0, Sum.inr (5, [Value.ref h1, Value.int n0_size, Value.ref h2, Value.int (n0_ran + 1)])), (h1, Sum.inl (cint, 50, Sum.inl f1)), (h2, Sum.inl (cint, 24, Sum.inl f_205_0))] H := hP
              have hD : va_D A [(h0, Sum.inr (5, [Value.ref h1, Value.int n0_size, Value.ref h2, Value.int (n0_ran + 1)])), (h1, Sum.inl (cint, 50, Sum.inl f1)), (h2, Sum.inl (cint, 24, Sum.inl f_205_0))] := hD
              refine lv_iload hx hb dX5_call_107 (lv_at hl 1 rfl) ?_
              refine lv_if_ne (tgt := 128) hx hb dX5_call_109 (by decide) (fun _ => ?_) (fun c => absurd c (by decide))
              refine lv_aload_n hx hb dX5_call_128 rfl (lv_at hl 2 rfl) ?_
              refine lv_iload_n hx hb dX5_call_129 rfl (lv_at hl 3 rfl) ?_
              refine lv_iload hx hb dX5_call_130 (lv_at hl 1 rfl) ?_
              refine lv_iload hx hb dX5_call_132 (lv_at hl 0 rfl) ?_
              refine lv_iload hx hb dX5_call_134 (lv_at hl 6 rfl) ?_
              refine lv_iload hx hb dX5_call_136 (lv_at hl 7 rfl) ?_
              refine lv_iconst (v := 1) hx hb dX5_call_138 (by decide) ?_
              refine lv_iadd hx hb dX5_call_139 ?_
              obtain ⟨hPc, hDc, hFc⟩ := kk_cutout (wc := [(h0, Sum.inr (5, [Value.ref h1, Value.int n0_size, Value.ref h2, Value.int (n0_ran + 1)])), (h1, Sum.inl (cint, 50, Sum.inl f1)), (h2, Sum.inl (cint, 24, Sum.inl f_205_0))]) hP hD hS hA [0, 1, 2] (by decide) rfl
              have hKc := hK.sub (tys' := [(cint, .int)]) [0] rfl
              refine va_calli (va_runV (As := [.int p0, .int 1, .int 20, .int p3, .int (p4 + 1)]) (rest := []) ⟨hx, hb, hml, hown, hts⟩ (g_X5_runUnder_0 l dC dI h0 h1 h2 cint H.size p0 p3 (p4 + 1) n0_size (n0_ran + 1) f1 f_205_0 tn0_size (by show 0 ≤ ((n0_ran + 1) : Int32).toInt ∧ ((n0_ran + 1) : Int32).toInt ≤ 999; first | decide | (constructor <;> (have := kk_rng p4; have := kk_add2 (x := n0_ran) (y := 1) (a := n0_ran.toInt) (b := 1) rfl rfl (by omega) (by omega); have := kk_rng p4; have := kk_add2 (x := p4) (y := 1) (a := p4.toInt) (b := 1) rfl rfl (by omega) (by omega); omega))) bf1 aOWN_BODIES aABOVE) (cwV 5 hts gX5_call_X5_runUnder rfl rfl rfl (by decide +kernel) ⟨Nat.le_of_ble_eq_true rfl, Nat.le_of_ble_eq_true rfl⟩) ⟨fun a U g mk q => by obtain ⟨q0, q1, qP, qK, qD, qx0, qx1, qx2, qx3⟩ := q; exact ⟨q0, q1, qP, va_K.moved (u := U) (U := U.calling g mk a) (Vm.Alike.refl U.vm) qK, qD, va_Z.moved (u := U) (U := U.calling g mk a) (Vm.Alike.refl U.vm) qx0, va_T.moved (u := U) (U := U.calling g mk a) (Vm.Alike.refl U.vm) qx1, va_Z.moved (u := U) (U := U.calling g mk a) (Vm.Alike.refl U.vm) qx2, va_T.moved (u := U) (U := U.calling g mk a) (Vm.Alike.refl U.vm) qx3⟩, va_recv hKc hPc (ci := 5) (q0 := 0) rfl rfl, fun U hU hW => ⟨rfl, by rw [hU], by rw [hU]; exact hPc, va_K.moved hW.alike hKc, hDc.weaken (fun _ _ _ _ => trivial), by rw [hU]; exact ((hZOWN_BODIES.kept (fun a h1 h2 => hS.2.1 a h1 h2)).narrow hFc).moved hW.alike, by rw [hU]; exact ((hTOWN_BODIES.kept (fun a h1 h2 => hS.2.1 a h1 h2)).narrow hFc).moved hW.alike, by rw [hU]; exact ((hZABOVE.kept (fun a h1 h2 => hS.2.1 a h1 h2)).narrow hFc).moved hW.alike, by rw [hU]; exact ((hTABOVE.kept (fun a h1 h2 => hS.2.1 a h1 h2)).narrow hFc).moved hW.alike⟩⟩ rfl rfl hl.1 rfl (lv_room (Nat.le_of_ble_eq_true rfl)) dX5_call_140 ⟨Nat.le_of_ble_eq_true rfl, Nat.le_of_ble_eq_true rfl⟩) hS (fun q _ h => hFc q h) hFc (fun r_206 u t H1 locs ht hvm hw hB hz1 hk1 hS => ?_)
              obtain ⟨y_207, f_208, by_207, v_208_0, hP1, hK1, hD1⟩ := hB
              have v_208_0 : y_207.toInt ≤ (n0_ran + 1).toInt + 1 := v_208_0
              rw [ht] at hP1
              have hK1 := va_K.moved hvm.symm hK1
              obtain ⟨hP, hD⟩ := va_join (wr := []) (w1 := [(h0, Sum.inr (5, [Value.ref h1, Value.int n0_size, Value.ref h2, Value.int y_207])), (h1, Sum.inl (cint, 50, Sum.inl f1)), (h2, Sum.inl (cint, 24, Sum.inl f_208))]) hP hD [0, 1, 2] [] rfl rfl (by decide) (by decide) hk1 hFc hP1 hD1
              generalize H1 = H at hP hS ⊢
              have hP : va_P (dC, dI) vwCl [(h0, Sum.inr (5, [Value.ref h1, Value.int n0_size, Value.ref h2, Value.int y_207])), (h1, Sum.inl (cint, 50, Sum.inl f1)), (h2, Sum.inl (cint, 24, Sum.inl f_208))] H := hP
              have hD : va_D A [(h0, Sum.inr (5, [Value.ref h1, Value.int n0_size, Value.ref h2, Value.int y_207])), (h1, Sum.inl (cint, 50, Sum.inl f1)), (h2, Sum.inl (cint, 24, Sum.inl f_208))] := hD
              obtain ⟨hP9, hD9⟩ := kk_leafout (wc := [(h0, Sum.inr (5, [Value.ref h1, Value.int n0_size, Value.ref h2, Value.int y_207])), (h1, Sum.inl (cint, 50, Sum.inl f1)), (h2, Sum.inl (cint, 24, Sum.inl f_208))]) hP hD [0, 1, 2] (by decide) rfl
              have hK9 := hK.sub (tys' := []) [] rfl
              exact W.iret (v := r_206) hx hb hr (fun t ht hW => ⟨⟨r_206, (), rfl, trivial, y_207, f_208, (by show 0 ≤ (y_207 : Int32).toInt ∧ (y_207 : Int32).toInt ≤ 1000; first | decide | (constructor <;> (have := kk_rng p4; have := kk_add2 (x := n0_ran) (y := 1) (a := n0_ran.toInt) (b := 1) rfl rfl (by omega) (by omega); have := kk_rng p4; have := kk_add2 (x := p4) (y := 1) (a := p4.toInt) (b := 1) rfl rfl (by omega) (by omega); omega))), (by show (y_207 : Int32).toInt ≤ (n0_ran : Int32).toInt + 3; first | decide | (have := kk_rng p4; have := kk_add2 (x := n0_ran) (y := 1) (a := n0_ran.toInt) (b := 1) rfl rfl (by omega) (by omega); have := kk_rng p4; have := kk_add2 (x := p4) (y := 1) (a := p4.toInt) (b := 1) rfl rfl (by omega) (by omega); omega)), by rw [ht]; exact hP9, va_K.moved hW.alike hK9, hD9⟩, hS.F ht⟩) hS.2.2 dX5_call_143
            · skip
              refine lv_icmp_ge (tgt := 97) hx hb dX5_call_83 (by decide) (fun c_209 => ?_) (fun c_209 => ?_)
              · have t_209 : 24 ≤ n0_ran.toInt := kk_le c_209
                exact hcut_205 (f2) _ _ _ ⟨hP, hD, hS, lv_sub hl [0, 1, 2, 3, 4, 5, 6, 7] rfl⟩
              · have t_209 : n0_ran.toInt < 24 := kk_nle c_209
                refine lv_aload_n hx hb dX5_call_86 rfl (lv_at hl 2 rfl) ?_
                refine va_get (D := (dC, dI)) (ci := 5) (v := .ref h2) (C := RX5) (T := TX5) (N := 4) hx hb hts (fun _ h => List.mem_cons_of_mem _ (List.mem_append_right _ h)) hown hK hP 0 rfl rfl 2 (by decide) (hts (.fieldLink RX5 15 "KinkStreet$Lines" "trace" "[I") (List.mem_of_getElem? (i := 4) rfl)) (fun _ h9 => h9) rfl dX5_call_87 ?_
                refine lv_aload_n hx hb dX5_call_90 rfl (lv_at hl 2 rfl) ?_
                refine va_get (D := (dC, dI)) (ci := 5) (v := .int n0_ran) (C := RX5) (T := TX5) (N := 4) hx hb hts (fun _ h => List.mem_cons_of_mem _ (List.mem_append_right _ h)) hown hK hP 0 rfl rfl 3 (by decide) (hts (.fieldLink RX5 36 "KinkStreet$Lines" "ran" "I") (List.mem_of_getElem? (i := 3) rfl)) (fun _ h9 => h9) rfl dX5_call_91 ?_
                refine lv_iload hx hb dX5_call_94 (lv_at hl 0 rfl) ?_
                refine va_iast hx hb hK hP hD hS 2 0 rfl rfl (vp_in_iff.mpr ⟨by have := kk_rng p4; omega, by have := kk_rng p4; omega⟩) dX5_call_96 (fun H locs hP hD hS => ?_)
                generalize upd f2 (n0_ran : Int32).toNatClampNeg 20 = f_210 at hP hD
                have hP : va_P (dC, dI) vwCl [(h0, Sum.inr (5, [Value.ref h1, Value.int n0_size, Value.ref h2, Value.int n0_ran])), (h1, Sum.inl (cint, 50, Sum.inl f1)), (h2, Sum.inl (cint, 24, Sum.inl f_210))] H := hP
                have hD : va_D A [(h0, Sum.inr (5, [Value.ref h1, Value.int n0_size, Value.ref h2, Value.int n0_ran])), (h1, Sum.inl (cint, 50, Sum.inl f1)), (h2, Sum.inl (cint, 24, Sum.inl f_210))] := hD
                exact hcut_205 (f_210) _ _ _ ⟨hP, hD, hS, lv_sub hl [0, 1, 2, 3, 4, 5, 6, 7] rfl⟩
          · have t_200 : 40 < p4.toInt := kk_nle c_200
            refine lv_iconst (v := 0) hx hb dX5_call_63 (by decide) ?_
            obtain ⟨hP9, hD9⟩ := kk_leafout (wc := [(h0, Sum.inr (5, [Value.ref h1, Value.int n0_size, Value.ref h2, Value.int n0_ran])), (h1, Sum.inl (cint, 50, Sum.inl f1)), (h2, Sum.inl (cint, 24, Sum.inl f2))]) hP hD [0, 1, 2] (by decide) rfl
            have hK9 := hK.sub (tys' := []) [] rfl
            exact W.iret (v := 0) hx hb hr (fun t ht hW => ⟨⟨0, (), rfl, trivial, n0_ran, f2, (by show 0 ≤ (n0_ran : Int32).toInt ∧ (n0_ran : Int32).toInt ≤ 1000; first | decide | (constructor <;> (have := kk_rng p4; omega))), (by show (n0_ran : Int32).toInt ≤ (n0_ran : Int32).toInt + 3; first | decide | (have := kk_rng p4; omega)), by rw [ht]; exact hP9, va_K.moved hW.alike hK9, hD9⟩, hS.F ht⟩) hS.2.2 dX5_call_64
      · skip
        have t_198_0 : (0 : Int) ≤ 1 := t_198_0
        have t_198_1 : (1 : Int) < 8 := t_198_1
        refine lv_if_eq (tgt := 48) hx hb dX5_call_18 (by decide) (fun c => absurd c (by decide)) (fun _ => ?_)
        refine va_gets hx hb hZOWN_BODIES hS hown (hts (.fieldLink RX5 43 "KinkStreet$Lines" "OWN_BODIES" "[I") (List.mem_of_getElem? (i := 1) rfl)) (fun _ h9 => h9) dX5_call_21 ?_
        refine lv_iload hx hb dX5_call_24 (lv_at hl 1 rfl) ?_
        refine lv_iconst (v := 4) hx hb dX5_call_26 (by decide) ?_
        refine lv_imul hx hb dX5_call_27 ?_
        refine lv_topi (fun y_211 e_211 => ?_)
        obtain rfl : y_211 = 4 := e_211.trans (by decide)
        refine lv_iload_n hx hb dX5_call_28 rfl (lv_at hl 5 rfl) ?_
        refine lv_iadd hx hb dX5_call_29 ?_
        refine lv_topi (fun y_212 e_212 => ?_)
        obtain rfl : y_212 = 4 := e_212.trans (by decide)
        refine va_ti (v := .int 20) hx hb hTOWN_BODIES hS (by unfold vp_in; decide) rfl dX5_call_30 ?_
        refine lv_if_ne (tgt := 48) hx hb dX5_call_31 (by decide) (fun _ => ?_) (fun c => absurd c (by decide))
        refine lv_iload hx hb dX5_call_48 (lv_at hl 1 rfl) ?_
        obtain ⟨hPc, hDc, hFc⟩ := kk_cutout (wc := []) hP hD hS hA [] (by decide) rfl
        have hKc := hK.sub (tys' := []) [] rfl
        refine va_calli (va_runS (As := [.int 1]) (rest := []) ⟨hx, hb, hml, hown, hts⟩ (g_X5_isKind_0 l dC dI H.size 1) (va_cwS 1 hts gX5_call_X5_isKind rfl rfl rfl (by decide +kernel) ⟨Nat.le_of_ble_eq_true rfl, Nat.le_of_ble_eq_true rfl⟩) ⟨fun a U g mk q => by obtain ⟨q0, q1, qP, qK, qD⟩ := q; exact ⟨q0, q1, qP, va_K.moved (u := U) (U := U.calling g mk a) (Vm.Alike.refl U.vm) qK, qD⟩, fun U hU hW => ⟨rfl, by rw [hU], by rw [hU]; exact hPc, va_K.moved hW.alike hKc, hDc.weaken (fun _ _ _ _ => trivial)⟩⟩ rfl rfl hl.1 rfl (lv_room (Nat.le_of_ble_eq_true rfl)) dX5_call_50 ⟨Nat.le_of_ble_eq_true rfl, Nat.le_of_ble_eq_true rfl⟩) hS (fun q _ h => hFc q h) hFc (fun r_213 u t H1 locs ht hvm hw hB hz1 hk1 hS => ?_)
        obtain ⟨hP1, hK1, hD1⟩ := hB
        rw [ht] at hP1
        have hK1 := va_K.moved hvm.symm hK1
        obtain ⟨hP, hD⟩ := va_join (wr := [(h0, Sum.inr (5, [Value.ref h1, Value.int n0_size, Value.ref h2, Value.int n0_ran])), (h1, Sum.inl (cint, 50, Sum.inl f1)), (h2, Sum.inl (cint, 24, Sum.inl f2))]) (w1 := []) hP hD [] [0, 1, 2] rfl rfl (by decide) (by decide) hk1 hFc hP1 hD1
        generalize H1 = H at hP hS ⊢
        have hP : va_P (dC, dI) vwCl [(h0, Sum.inr (5, [Value.ref h1, Value.int n0_size, Value.ref h2, Value.int n0_ran])), (h1, Sum.inl (cint, 50, Sum.inl f1)), (h2, Sum.inl (cint, 24, Sum.inl f2))] H := hP
        have hD : va_D A [(h0, Sum.inr (5, [Value.ref h1, Value.int n0_size, Value.ref h2, Value.int n0_ran])), (h1, Sum.inl (cint, 50, Sum.inl f1)), (h2, Sum.inl (cint, 24, Sum.inl f2))] := hD
        rcases hw with ⟨rfl⟩ | ⟨t_213_0, t_213_1, rfl⟩
        · skip
          refine lv_if_eq (tgt := 63) hx hb dX5_call_53 (by decide) (fun _ => ?_) (fun c => absurd c (by decide))
          refine lv_iconst (v := 0) hx hb dX5_call_63 (by decide) ?_
          obtain ⟨hP9, hD9⟩ := kk_leafout (wc := [(h0, Sum.inr (5, [Value.ref h1, Value.int n0_size, Value.ref h2, Value.int n0_ran])), (h1, Sum.inl (cint, 50, Sum.inl f1)), (h2, Sum.inl (cint, 24, Sum.inl f2))]) hP hD [0, 1, 2] (by decide) rfl
          have hK9 := hK.sub (tys' := []) [] rfl
          exact W.iret (v := 0) hx hb hr (fun t ht hW => ⟨⟨0, (), rfl, trivial, n0_ran, f2, (by show 0 ≤ (n0_ran : Int32).toInt ∧ (n0_ran : Int32).toInt ≤ 1000; first | decide | (constructor <;> (omega))), (by show (n0_ran : Int32).toInt ≤ (n0_ran : Int32).toInt + 3; first | decide | (omega)), by rw [ht]; exact hP9, va_K.moved hW.alike hK9, hD9⟩, hS.F ht⟩) hS.2.2 dX5_call_64
        · skip
          have t_213_0 : (0 : Int) ≤ 1 := t_213_0
          have t_213_1 : (1 : Int) < 8 := t_213_1
          refine lv_if_eq (tgt := 63) hx hb dX5_call_53 (by decide) (fun c => absurd c (by decide)) (fun _ => ?_)
          refine lv_iload hx hb dX5_call_56 (lv_at hl 7 rfl) ?_
          refine lv_bipush (v := 40) hx hb dX5_call_58 (by decide) ?_
          refine lv_icmp_le (tgt := 65) hx hb dX5_call_60 (by decide) (fun c_214 => ?_) (fun c_214 => ?_)
          · have t_214 : p4.toInt ≤ 40 := kk_le c_214
            refine va_gets hx hb hZOWN_BODIES hS hown (hts (.fieldLink RX5 43 "KinkStreet$Lines" "OWN_BODIES" "[I") (List.mem_of_getElem? (i := 1) rfl)) (fun _ h9 => h9) dX5_call_65 ?_
            refine lv_iload hx hb dX5_call_68 (lv_at hl 1 rfl) ?_
            refine lv_iconst (v := 4) hx hb dX5_call_70 (by decide) ?_
            refine lv_imul hx hb dX5_call_71 ?_
            refine lv_topi (fun y_215 e_215 => ?_)
            obtain rfl : y_215 = 4 := e_215.trans (by decide)
            refine lv_iload_n hx hb dX5_call_72 rfl (lv_at hl 5 rfl) ?_
            refine lv_iadd hx hb dX5_call_73 ?_
            refine lv_topi (fun y_216 e_216 => ?_)
            obtain rfl : y_216 = 4 := e_216.trans (by decide)
            refine va_ti (v := .int 20) hx hb hTOWN_BODIES hS (by unfold vp_in; decide) rfl dX5_call_74 ?_
            refine lv_istore (lv' := [(7, .int 20), (6, .int 1), (0, .ref h0), (1, .int p0), (2, .int 5), (3, .int 0), (4, .int p3), (5, .int p4)]) hx hb dX5_call_75 hl (by decide) rfl (fun ls hl => ?_)
            refine lv_aload_n hx hb dX5_call_77 rfl (lv_at hl 2 rfl) ?_
            refine va_get (D := (dC, dI)) (ci := 5) (v := .int n0_ran) (C := RX5) (T := TX5) (N := 4) hx hb hts (fun _ h => List.mem_cons_of_mem _ (List.mem_append_right _ h)) hown hK hP 0 rfl rfl 3 (by decide) (hts (.fieldLink RX5 36 "KinkStreet$Lines" "ran" "I") (List.mem_of_getElem? (i := 3) rfl)) (fun _ h9 => h9) rfl dX5_call_78 ?_
            refine lv_bipush (v := 24) hx hb dX5_call_81 (by decide) ?_
            refine kk_cut (σ := (Nat → Int32)) (pc' := 97) (fun x H locs ls => va_P (dC, dI) vwCl [(h0, Sum.inr (5, [Value.ref h1, Value.int n0_size, Value.ref h2, Value.int n0_ran])), (h1, Sum.inl (cint, 50, Sum.inl f1)), (h2, Sum.inl (cint, 24, Sum.inl x))] H ∧ va_D A [(h0, Sum.inr (5, [Value.ref h1, Value.int n0_size, Value.ref h2, Value.int n0_ran])), (h1, Sum.inl (cint, 50, Sum.inl f1)), (h2, Sum.inl (cint, 24, Sum.inl x))] ∧ va_S A s.heap H locs ∧ lv_has ls 8 [(7, .int 20), (6, .int 1), (0, .ref h0), (1, .int p0), (2, .int 5), (3, .int 0), (4, .int p3), (5, .int p4)]) ?_ (fun hcut_219 => ?_)
            · rintro f_219_0 H locs ls ⟨hP, hD, hS, hl⟩
              have hl : lv_has ls 8 [(7, .int 20), (6, .int 1), (0, .ref h0), (1, .int p0), (2, .int 5), (3, .int 0), (4, .int p3), (5, .int p4)] := hl
              have hP : va_P (dC, dI) vwCl [(h0, Sum.inr (5, [Value.ref h1, Value.int n0_size, Value.ref h2, Value.int n0_ran])), (h1, Sum.inl (cint, 50, Sum.inl f1)), (h2, Sum.inl (cint, 24, Sum.inl f_219_0))] H := hP
              have hD : va_D A [(h0, Sum.inr (5, [Value.ref h1, Value.int n0_size, Value.ref h2, Value.int n0_ran])), (h1, Sum.inl (cint, 50, Sum.inl f1)), (h2, Sum.inl (cint, 24, Sum.inl f_219_0))] := hD
              refine lv_aload_n hx hb dX5_call_97 rfl (lv_at hl 2 rfl) ?_
              refine lv_dup hx hb dX5_call_98 rfl ?_
              refine va_get (D := (dC, dI)) (ci := 5) (v := .int n0_ran) (C := RX5) (T := TX5) (N := 4) hx hb hts (fun _ h => List.mem_cons_of_mem _ (List.mem_append_right _ h)) hown hK hP 0 rfl rfl 3 (by decide) (hts (.fieldLink RX5 36 "KinkStreet$Lines" "ran" "I") (List.mem_of_getElem? (i := 3) rfl)) (fun _ h9 => h9) rfl dX5_call_99 ?_
              refine lv_iconst (v := 1) hx hb dX5_call_102 (by decide) ?_
              refine lv_iadd hx hb dX5_call_103 ?_
              refine va_put (D := (dC, dI)) (ci := 5) (v := .int (n0_ran + 1)) (ty := .int) (C := RX5) (T := TX5) (N := 4) hx hb hts (fun _ h => List.mem_cons_of_mem _ (List.mem_append_right _ h)) tyX5 tyX5_ok nmX5 hown hK hP hD hS 0 rfl rfl 3 (by decide) (hts (.fieldLink RX5 36 "KinkStreet$Lines" "ran" "I") (List.mem_of_getElem? (i := 3) rfl)) (fun _ h9 => h9) rfl (by decide +kernel) rfl rfl (Nat.le_of_ble_eq_true rfl) dX5_call_104 (fun H locs hP hD hS => ?_)
              have hP : va_P (dC, dI) vwCl [(h0, Sum.inr (5, [Value.ref h1, Value.int n0_size, Value.ref h2, Value.int (n0_ran + 1)])), (h1, Sum.inl (cint, 50, Sum.inl f1)), (h2, Sum.inl (cint, 24, Sum.inl f_219_0))] H := hP
              have hD : va_D A [(h0, Sum.inr (5, [Value.ref h1, Value.int n0_size, Value.ref h2, Value.int (n0_ran + 1)])), (h1, Sum.inl (cint, 50, Sum.inl f1)), (h2, Sum.inl (cint, 24, Sum.inl f_219_0))] := hD
              refine lv_iload hx hb dX5_call_107 (lv_at hl 1 rfl) ?_
              refine lv_if_ne (tgt := 128) hx hb dX5_call_109 (by decide) (fun _ => ?_) (fun c => absurd c (by decide))
              refine lv_aload_n hx hb dX5_call_128 rfl (lv_at hl 2 rfl) ?_
              refine lv_iload_n hx hb dX5_call_129 rfl (lv_at hl 3 rfl) ?_
              refine lv_iload hx hb dX5_call_130 (lv_at hl 1 rfl) ?_
              refine lv_iload hx hb dX5_call_132 (lv_at hl 0 rfl) ?_
              refine lv_iload hx hb dX5_call_134 (lv_at hl 6 rfl) ?_
              refine lv_iload hx hb dX5_call_136 (lv_at hl 7 rfl) ?_
              refine lv_iconst (v := 1) hx hb dX5_call_138 (by decide) ?_
              refine lv_iadd hx hb dX5_call_139 ?_
              obtain ⟨hPc, hDc, hFc⟩ := kk_cutout (wc := [(h0, Sum.inr (5, [Value.ref h1, Value.int n0_size, Value.ref h2, Value.int (n0_ran + 1)])), (h1, Sum.inl (cint, 50, Sum.inl f1)), (h2, Sum.inl (cint, 24, Sum.inl f_219_0))]) hP hD hS hA [0, 1, 2] (by decide) rfl
              have hKc := hK.sub (tys' := [(cint, .int)]) [0] rfl
              refine va_calli (va_runV (As := [.int p0, .int 1, .int 20, .int p3, .int (p4 + 1)]) (rest := []) ⟨hx, hb, hml, hown, hts⟩ (g_X5_runUnder_0 l dC dI h0 h1 h2 cint H.size p0 p3 (p4 + 1) n0_size (n0_ran + 1) f1 f_219_0 tn0_size (by show 0 ≤ ((n0_ran + 1) : Int32).toInt ∧ ((n0_ran + 1) : Int32).toInt ≤ 999; first | decide | (constructor <;> (have := kk_rng p4; have := kk_add2 (x := n0_ran) (y := 1) (a := n0_ran.toInt) (b := 1) rfl rfl (by omega) (by omega); have := kk_rng p4; have := kk_add2 (x := p4) (y := 1) (a := p4.toInt) (b := 1) rfl rfl (by omega) (by omega); omega))) bf1 aOWN_BODIES aABOVE) (cwV 5 hts gX5_call_X5_runUnder rfl rfl rfl (by decide +kernel) ⟨Nat.le_of_ble_eq_true rfl, Nat.le_of_ble_eq_true rfl⟩) ⟨fun a U g mk q => by obtain ⟨q0, q1, qP, qK, qD, qx0, qx1, qx2, qx3⟩ := q; exact ⟨q0, q1, qP, va_K.moved (u := U) (U := U.calling g mk a) (Vm.Alike.refl U.vm) qK, qD, va_Z.moved (u := U) (U := U.calling g mk a) (Vm.Alike.refl U.vm) qx0, va_T.moved (u := U) (U := U.calling g mk a) (Vm.Alike.refl U.vm) qx1, va_Z.moved (u := U) (U := U.calling g mk a) (Vm.Alike.refl U.vm) qx2, va_T.moved (u := U) (U := U.calling g mk a) (Vm.Alike.refl U.vm) qx3⟩, va_recv hKc hPc (ci := 5) (q0 := 0) rfl rfl, fun U hU hW => ⟨rfl, by rw [hU], by rw [hU]; exact hPc, va_K.moved hW.alike hKc, hDc.weaken (fun _ _ _ _ => trivial), by rw [hU]; exact ((hZOWN_BODIES.kept (fun a h1 h2 => hS.2.1 a h1 h2)).narrow hFc).moved hW.alike, by rw [hU]; exact ((hTOWN_BODIES.kept (fun a h1 h2 => hS.2.1 a h1 h2)).narrow hFc).moved hW.alike, by rw [hU]; exact ((hZABOVE.kept (fun a h1 h2 => hS.2.1 a h1 h2)).narrow hFc).moved hW.alike, by rw [hU]; exact ((hTABOVE.kept (fun a h1 h2 => hS.2.1 a h1 h2)).narrow hFc).moved hW.alike⟩⟩ rfl rfl hl.1 rfl (lv_room (Nat.le_of_ble_eq_true rfl)) dX5_call_140 ⟨Nat.le_of_ble_eq_true rfl, Nat.le_of_ble_eq_true rfl⟩) hS (fun q _ h => hFc q h) hFc (fun r_220 u t H1 locs ht hvm hw hB hz1 hk1 hS => ?_)
              obtain ⟨y_221, f_222, by_221, v_222_0, hP1, hK1, hD1⟩ := hB
              have v_222_0 : y_221.toInt ≤ (n0_ran + 1).toInt + 1 := v_222_0
              rw [ht] at hP1
              have hK1 := va_K.moved hvm.symm hK1
              obtain ⟨hP, hD⟩ := va_join (wr := []) (w1 := [(h0, Sum.inr (5, [Value.ref h1, Value.int n0_size, Value.ref h2, Value.int y_221])), (h1, Sum.inl (cint, 50, Sum.inl f1)), (h2, Sum.inl (cint, 24, Sum.inl f_222))]) hP hD [0, 1, 2] [] rfl rfl (by decide) (by decide) hk1 hFc hP1 hD1
              generalize H1 = H at hP hS ⊢
              have hP : va_P (dC, dI) vwCl [(h0, Sum.inr (5, [Value.ref h1, Value.int n0_size, Value.ref h2, Value.int y_221])), (h1, Sum.inl (cint, 50, Sum.inl f1)), (h2, Sum.inl (cint, 24, Sum.inl f_222))] H := hP
              have hD : va_D A [(h0, Sum.inr (5, [Value.ref h1, Value.int n0_size, Value.ref h2, Value.int y_221])), (h1, Sum.inl (cint, 50, Sum.inl f1)), (h2, Sum.inl (cint, 24, Sum.inl f_222))] := hD
              obtain ⟨hP9, hD9⟩ := kk_leafout (wc := [(h0, Sum.inr (5, [Value.ref h1, Value.int n0_size, Value.ref h2, Value.int y_221])), (h1, Sum.inl (cint, 50, Sum.inl f1)), (h2, Sum.inl (cint, 24, Sum.inl f_222))]) hP hD [0, 1, 2] (by decide) rfl
              have hK9 := hK.sub (tys' := []) [] rfl
              exact W.iret (v := r_220) hx hb hr (fun t ht hW => ⟨⟨r_220, (), rfl, trivial, y_221, f_222, (by show 0 ≤ (y_221 : Int32).toInt ∧ (y_221 : Int32).toInt ≤ 1000; first | decide | (constructor <;> (have := kk_rng p4; have := kk_add2 (x := n0_ran) (y := 1) (a := n0_ran.toInt) (b := 1) rfl rfl (by omega) (by omega); have := kk_rng p4; have := kk_add2 (x := p4) (y := 1) (a := p4.toInt) (b := 1) rfl rfl (by omega) (by omega); omega))), (by show (y_221 : Int32).toInt ≤ (n0_ran : Int32).toInt + 3; first | decide | (have := kk_rng p4; have := kk_add2 (x := n0_ran) (y := 1) (a := n0_ran.toInt) (b := 1) rfl rfl (by omega) (by omega); have := kk_rng p4; have := kk_add2 (x := p4) (y := 1) (a := p4.toInt) (b := 1) rfl rfl (by omega) (by omega); omega)), by rw [ht]; exact hP9, va_K.moved hW.alike hK9, hD9⟩, hS.F ht⟩) hS.2.2 dX5_call_143
            · skip
              refine lv_icmp_ge (tgt := 97) hx hb dX5_call_83 (by decide) (fun c_223 => ?_) (fun c_223 => ?_)
              · have t_223 : 24 ≤ n0_ran.toInt := kk_le c_223
                exact hcut_219 (f2) _ _ _ ⟨hP, hD, hS, lv_sub hl [0, 1, 2, 3, 4, 5, 6, 7] rfl⟩
              · have t_223 : n0_ran.toInt < 24 := kk_nle c_223
                refine lv_aload_n hx hb dX5_call_86 rfl (lv_at hl 2 rfl) ?_
                refine va_get (D := (dC, dI)) (ci := 5) (v := .ref h2) (C := RX5) (T := TX5) (N := 4) hx hb hts (fun _ h => List.mem_cons_of_mem _ (List.mem_append_right _ h)) hown hK hP 0 rfl rfl 2 (by decide) (hts (.fieldLink RX5 15 "KinkStreet$Lines" "trace" "[I") (List.mem_of_getElem? (i := 4) rfl)) (fun _ h9 => h9) rfl dX5_call_87 ?_
                refine lv_aload_n hx hb dX5_call_90 rfl (lv_at hl 2 rfl) ?_
                refine va_get (D := (dC, dI)) (ci := 5) (v := .int n0_ran) (C := RX5) (T := TX5) (N := 4) hx hb hts (fun _ h => List.mem_cons_of_mem _ (List.mem_append_right _ h)) hown hK hP 0 rfl rfl 3 (by decide) (hts (.fieldLink RX5 36 "KinkStreet$Lines" "ran" "I") (List.mem_of_getElem? (i := 3) rfl)) (fun _ h9 => h9) rfl dX5_call_91 ?_
                refine lv_iload hx hb dX5_call_94 (lv_at hl 0 rfl) ?_
                refine va_iast hx hb hK hP hD hS 2 0 rfl rfl (vp_in_iff.mpr ⟨by have := kk_rng p4; omega, by have := kk_rng p4; omega⟩) dX5_call_96 (fun H locs hP hD hS => ?_)
                generalize upd f2 (n0_ran : Int32).toNatClampNeg 20 = f_224 at hP hD
                have hP : va_P (dC, dI) vwCl [(h0, Sum.inr (5, [Value.ref h1, Value.int n0_size, Value.ref h2, Value.int n0_ran])), (h1, Sum.inl (cint, 50, Sum.inl f1)), (h2, Sum.inl (cint, 24, Sum.inl f_224))] H := hP
                have hD : va_D A [(h0, Sum.inr (5, [Value.ref h1, Value.int n0_size, Value.ref h2, Value.int n0_ran])), (h1, Sum.inl (cint, 50, Sum.inl f1)), (h2, Sum.inl (cint, 24, Sum.inl f_224))] := hD
                exact hcut_219 (f_224) _ _ _ ⟨hP, hD, hS, lv_sub hl [0, 1, 2, 3, 4, 5, 6, 7] rfl⟩
          · have t_214 : 40 < p4.toInt := kk_nle c_214
            refine lv_iconst (v := 0) hx hb dX5_call_63 (by decide) ?_
            obtain ⟨hP9, hD9⟩ := kk_leafout (wc := [(h0, Sum.inr (5, [Value.ref h1, Value.int n0_size, Value.ref h2, Value.int n0_ran])), (h1, Sum.inl (cint, 50, Sum.inl f1)), (h2, Sum.inl (cint, 24, Sum.inl f2))]) hP hD [0, 1, 2] (by decide) rfl
            have hK9 := hK.sub (tys' := []) [] rfl
            exact W.iret (v := 0) hx hb hr (fun t ht hW => ⟨⟨0, (), rfl, trivial, n0_ran, f2, (by show 0 ≤ (n0_ran : Int32).toInt ∧ (n0_ran : Int32).toInt ≤ 1000; first | decide | (constructor <;> (have := kk_rng p4; omega))), (by show (n0_ran : Int32).toInt ≤ (n0_ran : Int32).toInt + 3; first | decide | (have := kk_rng p4; omega)), by rw [ht]; exact hP9, va_K.moved hW.alike hK9, hD9⟩, hS.F ht⟩) hS.2.2 dX5_call_64
  · have t_1 : p1.toInt = 6 := by rw [e_1]; rfl
    subst e_1
    refine lv_iload_n hx hb dX5_call_0 rfl (lv_at hl 2 rfl) ?_
    refine lv_istore (lv' := [(6, .int 6), (0, .ref h0), (1, .int p0), (2, .int 6), (3, .int 0), (4, .int p3), (5, .int p4)]) hx hb dX5_call_1 hl (by decide) rfl (fun ls hl => ?_)
    refine lv_iconst (v := 0) hx hb dX5_call_3 (by decide) ?_
    refine lv_istore (lv' := [(7, .int 0), (6, .int 6), (0, .ref h0), (1, .int p0), (2, .int 6), (3, .int 0), (4, .int p3), (5, .int p4)]) hx hb dX5_call_4 hl (by decide) rfl (fun ls hl => ?_)
    refine lv_iload hx hb dX5_call_6 (lv_at hl 0 rfl) ?_
    refine lv_bipush (v := 8) hx hb dX5_call_8 (by decide) ?_
    refine lv_icmp_ge (tgt := 48) hx hb dX5_call_10 (by decide) (fun c => absurd c (by decide)) (fun _ => ?_)
    refine lv_iload hx hb dX5_call_13 (lv_at hl 1 rfl) ?_
    obtain ⟨hPc, hDc, hFc⟩ := kk_cutout (wc := []) hP hD hS hA [] (by decide) rfl
    have hKc := hK.sub (tys' := []) [] rfl
    refine va_calli (va_runS (As := [.int 6]) (rest := []) ⟨hx, hb, hml, hown, hts⟩ (g_X5_isKind_0 l dC dI s.heap.size 6) (va_cwS 1 hts gX5_call_X5_isKind rfl rfl rfl (by decide +kernel) ⟨Nat.le_of_ble_eq_true rfl, Nat.le_of_ble_eq_true rfl⟩) ⟨fun a U g mk q => by obtain ⟨q0, q1, qP, qK, qD⟩ := q; exact ⟨q0, q1, qP, va_K.moved (u := U) (U := U.calling g mk a) (Vm.Alike.refl U.vm) qK, qD⟩, fun U hU hW => ⟨rfl, by rw [hU], by rw [hU]; exact hPc, va_K.moved hW.alike hKc, hDc.weaken (fun _ _ _ _ => trivial)⟩⟩ rfl rfl hl.1 rfl (lv_room (Nat.le_of_ble_eq_true rfl)) dX5_call_15 ⟨Nat.le_of_ble_eq_true rfl, Nat.le_of_ble_eq_true rfl⟩) hS (fun q _ h => hFc q h) hFc (fun r_225 u t H1 locs ht hvm hw hB hz1 hk1 hS => ?_)
    obtain ⟨hP1, hK1, hD1⟩ := hB
    rw [ht] at hP1
    have hK1 := va_K.moved hvm.symm hK1
    obtain ⟨hP, hD⟩ := va_join (wr := [(h0, Sum.inr (5, [Value.ref h1, Value.int n0_size, Value.ref h2, Value.int n0_ran])), (h1, Sum.inl (cint, 50, Sum.inl f1)), (h2, Sum.inl (cint, 24, Sum.inl f2))]) (w1 := []) hP hD [] [0, 1, 2] rfl rfl (by decide) (by decide) hk1 hFc hP1 hD1
    generalize H1 = H at hP hS ⊢
    have hP : va_P (dC, dI) vwCl [(h0, Sum.inr (5, [Value.ref h1, Value.int n0_size, Value.ref h2, Value.int n0_ran])), (h1, Sum.inl (cint, 50, Sum.inl f1)), (h2, Sum.inl (cint, 24, Sum.inl f2))] H := hP
    have hD : va_D A [(h0, Sum.inr (5, [Value.ref h1, Value.int n0_size, Value.ref h2, Value.int n0_ran])), (h1, Sum.inl (cint, 50, Sum.inl f1)), (h2, Sum.inl (cint, 24, Sum.inl f2))] := hD
    rcases hw with ⟨rfl⟩ | ⟨t_225_0, t_225_1, rfl⟩
    · skip
      refine lv_if_eq (tgt := 48) hx hb dX5_call_18 (by decide) (fun _ => ?_) (fun c => absurd c (by decide))
      refine lv_iload hx hb dX5_call_48 (lv_at hl 1 rfl) ?_
      obtain ⟨hPc, hDc, hFc⟩ := kk_cutout (wc := []) hP hD hS hA [] (by decide) rfl
      have hKc := hK.sub (tys' := []) [] rfl
      refine va_calli (va_runS (As := [.int 6]) (rest := []) ⟨hx, hb, hml, hown, hts⟩ (g_X5_isKind_0 l dC dI H.size 6) (va_cwS 1 hts gX5_call_X5_isKind rfl rfl rfl (by decide +kernel) ⟨Nat.le_of_ble_eq_true rfl, Nat.le_of_ble_eq_true rfl⟩) ⟨fun a U g mk q => by obtain ⟨q0, q1, qP, qK, qD⟩ := q; exact ⟨q0, q1, qP, va_K.moved (u := U) (U := U.calling g mk a) (Vm.Alike.refl U.vm) qK, qD⟩, fun U hU hW => ⟨rfl, by rw [hU], by rw [hU]; exact hPc, va_K.moved hW.alike hKc, hDc.weaken (fun _ _ _ _ => trivial)⟩⟩ rfl rfl hl.1 rfl (lv_room (Nat.le_of_ble_eq_true rfl)) dX5_call_50 ⟨Nat.le_of_ble_eq_true rfl, Nat.le_of_ble_eq_true rfl⟩) hS (fun q _ h => hFc q h) hFc (fun r_226 u t H1 locs ht hvm hw hB hz1 hk1 hS => ?_)
      obtain ⟨hP1, hK1, hD1⟩ := hB
      rw [ht] at hP1
      have hK1 := va_K.moved hvm.symm hK1
      obtain ⟨hP, hD⟩ := va_join (wr := [(h0, Sum.inr (5, [Value.ref h1, Value.int n0_size, Value.ref h2, Value.int n0_ran])), (h1, Sum.inl (cint, 50, Sum.inl f1)), (h2, Sum.inl (cint, 24, Sum.inl f2))]) (w1 := []) hP hD [] [0, 1, 2] rfl rfl (by decide) (by decide) hk1 hFc hP1 hD1
      generalize H1 = H at hP hS ⊢
      have hP : va_P (dC, dI) vwCl [(h0, Sum.inr (5, [Value.ref h1, Value.int n0_size, Value.ref h2, Value.int n0_ran])), (h1, Sum.inl (cint, 50, Sum.inl f1)), (h2, Sum.inl (cint, 24, Sum.inl f2))] H := hP
      have hD : va_D A [(h0, Sum.inr (5, [Value.ref h1, Value.int n0_size, Value.ref h2, Value.int n0_ran])), (h1, Sum.inl (cint, 50, Sum.inl f1)), (h2, Sum.inl (cint, 24, Sum.inl f2))] := hD
      rcases hw with ⟨rfl⟩ | ⟨t_226_0, t_226_1, rfl⟩
      · skip
        refine lv_if_eq (tgt := 63) hx hb dX5_call_53 (by decide) (fun _ => ?_) (fun c => absurd c (by decide))
        refine lv_iconst (v := 0) hx hb dX5_call_63 (by decide) ?_
        obtain ⟨hP9, hD9⟩ := kk_leafout (wc := [(h0, Sum.inr (5, [Value.ref h1, Value.int n0_size, Value.ref h2, Value.int n0_ran])), (h1, Sum.inl (cint, 50, Sum.inl f1)), (h2, Sum.inl (cint, 24, Sum.inl f2))]) hP hD [0, 1, 2] (by decide) rfl
        have hK9 := hK.sub (tys' := []) [] rfl
        exact W.iret (v := 0) hx hb hr (fun t ht hW => ⟨⟨0, (), rfl, trivial, n0_ran, f2, (by show 0 ≤ (n0_ran : Int32).toInt ∧ (n0_ran : Int32).toInt ≤ 1000; first | decide | (constructor <;> (omega))), (by show (n0_ran : Int32).toInt ≤ (n0_ran : Int32).toInt + 3; first | decide | (omega)), by rw [ht]; exact hP9, va_K.moved hW.alike hK9, hD9⟩, hS.F ht⟩) hS.2.2 dX5_call_64
      · skip
        have t_226_0 : (0 : Int) ≤ 6 := t_226_0
        have t_226_1 : (6 : Int) < 8 := t_226_1
        refine lv_if_eq (tgt := 63) hx hb dX5_call_53 (by decide) (fun c => absurd c (by decide)) (fun _ => ?_)
        refine lv_iload hx hb dX5_call_56 (lv_at hl 7 rfl) ?_
        refine lv_bipush (v := 40) hx hb dX5_call_58 (by decide) ?_
        refine lv_icmp_le (tgt := 65) hx hb dX5_call_60 (by decide) (fun c_227 => ?_) (fun c_227 => ?_)
        · have t_227 : p4.toInt ≤ 40 := kk_le c_227
          refine va_gets hx hb hZOWN_BODIES hS hown (hts (.fieldLink RX5 43 "KinkStreet$Lines" "OWN_BODIES" "[I") (List.mem_of_getElem? (i := 1) rfl)) (fun _ h9 => h9) dX5_call_65 ?_
          refine lv_iload hx hb dX5_call_68 (lv_at hl 1 rfl) ?_
          refine lv_iconst (v := 4) hx hb dX5_call_70 (by decide) ?_
          refine lv_imul hx hb dX5_call_71 ?_
          refine lv_topi (fun y_228 e_228 => ?_)
          obtain rfl : y_228 = 24 := e_228.trans (by decide)
          refine lv_iload_n hx hb dX5_call_72 rfl (lv_at hl 5 rfl) ?_
          refine lv_iadd hx hb dX5_call_73 ?_
          refine lv_topi (fun y_229 e_229 => ?_)
          obtain rfl : y_229 = 24 := e_229.trans (by decide)
          refine va_ti (v := .int 70) hx hb hTOWN_BODIES hS (by unfold vp_in; decide) rfl dX5_call_74 ?_
          refine lv_istore (lv' := [(7, .int 70), (6, .int 6), (0, .ref h0), (1, .int p0), (2, .int 6), (3, .int 0), (4, .int p3), (5, .int p4)]) hx hb dX5_call_75 hl (by decide) rfl (fun ls hl => ?_)
          refine lv_aload_n hx hb dX5_call_77 rfl (lv_at hl 2 rfl) ?_
          refine va_get (D := (dC, dI)) (ci := 5) (v := .int n0_ran) (C := RX5) (T := TX5) (N := 4) hx hb hts (fun _ h => List.mem_cons_of_mem _ (List.mem_append_right _ h)) hown hK hP 0 rfl rfl 3 (by decide) (hts (.fieldLink RX5 36 "KinkStreet$Lines" "ran" "I") (List.mem_of_getElem? (i := 3) rfl)) (fun _ h9 => h9) rfl dX5_call_78 ?_
          refine lv_bipush (v := 24) hx hb dX5_call_81 (by decide) ?_
          refine kk_cut (σ := (Nat → Int32)) (pc' := 97) (fun x H locs ls => va_P (dC, dI) vwCl [(h0, Sum.inr (5, [Value.ref h1, Value.int n0_size, Value.ref h2, Value.int n0_ran])), (h1, Sum.inl (cint, 50, Sum.inl f1)), (h2, Sum.inl (cint, 24, Sum.inl x))] H ∧ va_D A [(h0, Sum.inr (5, [Value.ref h1, Value.int n0_size, Value.ref h2, Value.int n0_ran])), (h1, Sum.inl (cint, 50, Sum.inl f1)), (h2, Sum.inl (cint, 24, Sum.inl x))] ∧ va_S A s.heap H locs ∧ lv_has ls 8 [(7, .int 70), (6, .int 6), (0, .ref h0), (1, .int p0), (2, .int 6), (3, .int 0), (4, .int p3), (5, .int p4)]) ?_ (fun hcut_232 => ?_)
          · rintro f_232_0 H locs ls ⟨hP, hD, hS, hl⟩
            have hl : lv_has ls 8 [(7, .int 70), (6, .int 6), (0, .ref h0), (1, .int p0), (2, .int 6), (3, .int 0), (4, .int p3), (5, .int p4)] := hl
            have hP : va_P (dC, dI) vwCl [(h0, Sum.inr (5, [Value.ref h1, Value.int n0_size, Value.ref h2, Value.int n0_ran])), (h1, Sum.inl (cint, 50, Sum.inl f1)), (h2, Sum.inl (cint, 24, Sum.inl f_232_0))] H := hP
            have hD : va_D A [(h0, Sum.inr (5, [Value.ref h1, Value.int n0_size, Value.ref h2, Value.int n0_ran])), (h1, Sum.inl (cint, 50, Sum.inl f1)), (h2, Sum.inl (cint, 24, Sum.inl f_232_0))] := hD
            refine lv_aload_n hx hb dX5_call_97 rfl (lv_at hl 2 rfl) ?_
            refine lv_dup hx hb dX5_call_98 rfl ?_
            refine va_get (D := (dC, dI)) (ci := 5) (v := .int n0_ran) (C := RX5) (T := TX5) (N := 4) hx hb hts (fun _ h => List.mem_cons_of_mem _ (List.mem_append_right _ h)) hown hK hP 0 rfl rfl 3 (by decide) (hts (.fieldLink RX5 36 "KinkStreet$Lines" "ran" "I") (List.mem_of_getElem? (i := 3) rfl)) (fun _ h9 => h9) rfl dX5_call_99 ?_
            refine lv_iconst (v := 1) hx hb dX5_call_102 (by decide) ?_
            refine lv_iadd hx hb dX5_call_103 ?_
            refine va_put (D := (dC, dI)) (ci := 5) (v := .int (n0_ran + 1)) (ty := .int) (C := RX5) (T := TX5) (N := 4) hx hb hts (fun _ h => List.mem_cons_of_mem _ (List.mem_append_right _ h)) tyX5 tyX5_ok nmX5 hown hK hP hD hS 0 rfl rfl 3 (by decide) (hts (.fieldLink RX5 36 "KinkStreet$Lines" "ran" "I") (List.mem_of_getElem? (i := 3) rfl)) (fun _ h9 => h9) rfl (by decide +kernel) rfl rfl (Nat.le_of_ble_eq_true rfl) dX5_call_104 (fun H locs hP hD hS => ?_)
            have hP : va_P (dC, dI) vwCl [(h0, Sum.inr (5, [Value.ref h1, Value.int n0_size, Value.ref h2, Value.int (n0_ran + 1)])), (h1, Sum.inl (cint, 50, Sum.inl f1)), (h2, Sum.inl (cint, 24, Sum.inl f_232_0))] H := hP
            have hD : va_D A [(h0, Sum.inr (5, [Value.ref h1, Value.int n0_size, Value.ref h2, Value.int (n0_ran + 1)])), (h1, Sum.inl (cint, 50, Sum.inl f1)), (h2, Sum.inl (cint, 24, Sum.inl f_232_0))] := hD
            refine lv_iload hx hb dX5_call_107 (lv_at hl 1 rfl) ?_
            refine lv_if_ne (tgt := 128) hx hb dX5_call_109 (by decide) (fun _ => ?_) (fun c => absurd c (by decide))
            refine lv_aload_n hx hb dX5_call_128 rfl (lv_at hl 2 rfl) ?_
            refine lv_iload_n hx hb dX5_call_129 rfl (lv_at hl 3 rfl) ?_
            refine lv_iload hx hb dX5_call_130 (lv_at hl 1 rfl) ?_
            refine lv_iload hx hb dX5_call_132 (lv_at hl 0 rfl) ?_
            refine lv_iload hx hb dX5_call_134 (lv_at hl 6 rfl) ?_
            refine lv_iload hx hb dX5_call_136 (lv_at hl 7 rfl) ?_
            refine lv_iconst (v := 1) hx hb dX5_call_138 (by decide) ?_
            refine lv_iadd hx hb dX5_call_139 ?_
            obtain ⟨hPc, hDc, hFc⟩ := kk_cutout (wc := [(h0, Sum.inr (5, [Value.ref h1, Value.int n0_size, Value.ref h2, Value.int (n0_ran + 1)])), (h1, Sum.inl (cint, 50, Sum.inl f1)), (h2, Sum.inl (cint, 24, Sum.inl f_232_0))]) hP hD hS hA [0, 1, 2] (by decide) rfl
            have hKc := hK.sub (tys' := [(cint, .int)]) [0] rfl
            refine va_calli (va_runV (As := [.int p0, .int 6, .int 70, .int p3, .int (p4 + 1)]) (rest := []) ⟨hx, hb, hml, hown, hts⟩ (g_X5_runUnder_7 l dC dI h0 h1 h2 cint H.size p0 p3 (p4 + 1) n0_size (n0_ran + 1) f1 f_232_0 tn0_size (by show 0 ≤ ((n0_ran + 1) : Int32).toInt ∧ ((n0_ran + 1) : Int32).toInt ≤ 999; first | decide | (constructor <;> (have := kk_rng p4; have := kk_add2 (x := n0_ran) (y := 1) (a := n0_ran.toInt) (b := 1) rfl rfl (by omega) (by omega); have := kk_rng p4; have := kk_add2 (x := p4) (y := 1) (a := p4.toInt) (b := 1) rfl rfl (by omega) (by omega); omega))) bf1 aOWN_BODIES aABOVE) (cwV 5 hts gX5_call_X5_runUnder rfl rfl rfl (by decide +kernel) ⟨Nat.le_of_ble_eq_true rfl, Nat.le_of_ble_eq_true rfl⟩) ⟨fun a U g mk q => by obtain ⟨q0, q1, qP, qK, qD, qx0, qx1, qx2, qx3⟩ := q; exact ⟨q0, q1, qP, va_K.moved (u := U) (U := U.calling g mk a) (Vm.Alike.refl U.vm) qK, qD, va_Z.moved (u := U) (U := U.calling g mk a) (Vm.Alike.refl U.vm) qx0, va_T.moved (u := U) (U := U.calling g mk a) (Vm.Alike.refl U.vm) qx1, va_Z.moved (u := U) (U := U.calling g mk a) (Vm.Alike.refl U.vm) qx2, va_T.moved (u := U) (U := U.calling g mk a) (Vm.Alike.refl U.vm) qx3⟩, va_recv hKc hPc (ci := 5) (q0 := 0) rfl rfl, fun U hU hW => ⟨rfl, by rw [hU], by rw [hU]; exact hPc, va_K.moved hW.alike hKc, hDc.weaken (fun _ _ _ _ => trivial), by rw [hU]; exact ((hZOWN_BODIES.kept (fun a h1 h2 => hS.2.1 a h1 h2)).narrow hFc).moved hW.alike, by rw [hU]; exact ((hTOWN_BODIES.kept (fun a h1 h2 => hS.2.1 a h1 h2)).narrow hFc).moved hW.alike, by rw [hU]; exact ((hZABOVE.kept (fun a h1 h2 => hS.2.1 a h1 h2)).narrow hFc).moved hW.alike, by rw [hU]; exact ((hTABOVE.kept (fun a h1 h2 => hS.2.1 a h1 h2)).narrow hFc).moved hW.alike⟩⟩ rfl rfl hl.1 rfl (lv_room (Nat.le_of_ble_eq_true rfl)) dX5_call_140 ⟨Nat.le_of_ble_eq_true rfl, Nat.le_of_ble_eq_true rfl⟩) hS (fun q _ h => hFc q h) hFc (fun r_233 u t H1 locs ht hvm hw hB hz1 hk1 hS => ?_)
            obtain ⟨y_234, f_235, by_234, v_235_0, hP1, hK1, hD1⟩ := hB
            have v_235_0 : y_234.toInt ≤ (n0_ran + 1).toInt + 1 := v_235_0
            rw [ht] at hP1
            have hK1 := va_K.moved hvm.symm hK1
            obtain ⟨hP, hD⟩ := va_join (wr := []) (w1 := [(h0, Sum.inr (5, [Value.ref h1, Value.int n0_size, Value.ref h2, Value.int y_234])), (h1, Sum.inl (cint, 50, Sum.inl f1)), (h2, Sum.inl (cint, 24, Sum.inl f_235))]) hP hD [0, 1, 2] [] rfl rfl (by decide) (by decide) hk1 hFc hP1 hD1
            generalize H1 = H at hP hS ⊢
            have hP : va_P (dC, dI) vwCl [(h0, Sum.inr (5, [Value.ref h1, Value.int n0_size, Value.ref h2, Value.int y_234])), (h1, Sum.inl (cint, 50, Sum.inl f1)), (h2, Sum.inl (cint, 24, Sum.inl f_235))] H := hP
            have hD : va_D A [(h0, Sum.inr (5, [Value.ref h1, Value.int n0_size, Value.ref h2, Value.int y_234])), (h1, Sum.inl (cint, 50, Sum.inl f1)), (h2, Sum.inl (cint, 24, Sum.inl f_235))] := hD
            obtain ⟨hP9, hD9⟩ := kk_leafout (wc := [(h0, Sum.inr (5, [Value.ref h1, Value.int n0_size, Value.ref h2, Value.int y_234])), (h1, Sum.inl (cint, 50, Sum.inl f1)), (h2, Sum.inl (cint, 24, Sum.inl f_235))]) hP hD [0, 1, 2] (by decide) rfl
            have hK9 := hK.sub (tys' := []) [] rfl
            exact W.iret (v := r_233) hx hb hr (fun t ht hW => ⟨⟨r_233, (), rfl, trivial, y_234, f_235, (by show 0 ≤ (y_234 : Int32).toInt ∧ (y_234 : Int32).toInt ≤ 1000; first | decide | (constructor <;> (have := kk_rng p4; have := kk_add2 (x := n0_ran) (y := 1) (a := n0_ran.toInt) (b := 1) rfl rfl (by omega) (by omega); have := kk_rng p4; have := kk_add2 (x := p4) (y := 1) (a := p4.toInt) (b := 1) rfl rfl (by omega) (by omega); omega))), (by show (y_234 : Int32).toInt ≤ (n0_ran : Int32).toInt + 3; first | decide | (have := kk_rng p4; have := kk_add2 (x := n0_ran) (y := 1) (a := n0_ran.toInt) (b := 1) rfl rfl (by omega) (by omega); have := kk_rng p4; have := kk_add2 (x := p4) (y := 1) (a := p4.toInt) (b := 1) rfl rfl (by omega) (by omega); omega)), by rw [ht]; exact hP9, va_K.moved hW.alike hK9, hD9⟩, hS.F ht⟩) hS.2.2 dX5_call_143
          · skip
            refine lv_icmp_ge (tgt := 97) hx hb dX5_call_83 (by decide) (fun c_236 => ?_) (fun c_236 => ?_)
            · have t_236 : 24 ≤ n0_ran.toInt := kk_le c_236
              exact hcut_232 (f2) _ _ _ ⟨hP, hD, hS, lv_sub hl [0, 1, 2, 3, 4, 5, 6, 7] rfl⟩
            · have t_236 : n0_ran.toInt < 24 := kk_nle c_236
              refine lv_aload_n hx hb dX5_call_86 rfl (lv_at hl 2 rfl) ?_
              refine va_get (D := (dC, dI)) (ci := 5) (v := .ref h2) (C := RX5) (T := TX5) (N := 4) hx hb hts (fun _ h => List.mem_cons_of_mem _ (List.mem_append_right _ h)) hown hK hP 0 rfl rfl 2 (by decide) (hts (.fieldLink RX5 15 "KinkStreet$Lines" "trace" "[I") (List.mem_of_getElem? (i := 4) rfl)) (fun _ h9 => h9) rfl dX5_call_87 ?_
              refine lv_aload_n hx hb dX5_call_90 rfl (lv_at hl 2 rfl) ?_
              refine va_get (D := (dC, dI)) (ci := 5) (v := .int n0_ran) (C := RX5) (T := TX5) (N := 4) hx hb hts (fun _ h => List.mem_cons_of_mem _ (List.mem_append_right _ h)) hown hK hP 0 rfl rfl 3 (by decide) (hts (.fieldLink RX5 36 "KinkStreet$Lines" "ran" "I") (List.mem_of_getElem? (i := 3) rfl)) (fun _ h9 => h9) rfl dX5_call_91 ?_
              refine lv_iload hx hb dX5_call_94 (lv_at hl 0 rfl) ?_
              refine va_iast hx hb hK hP hD hS 2 0 rfl rfl (vp_in_iff.mpr ⟨by have := kk_rng p4; omega, by have := kk_rng p4; omega⟩) dX5_call_96 (fun H locs hP hD hS => ?_)
              generalize upd f2 (n0_ran : Int32).toNatClampNeg 70 = f_237 at hP hD
              have hP : va_P (dC, dI) vwCl [(h0, Sum.inr (5, [Value.ref h1, Value.int n0_size, Value.ref h2, Value.int n0_ran])), (h1, Sum.inl (cint, 50, Sum.inl f1)), (h2, Sum.inl (cint, 24, Sum.inl f_237))] H := hP
              have hD : va_D A [(h0, Sum.inr (5, [Value.ref h1, Value.int n0_size, Value.ref h2, Value.int n0_ran])), (h1, Sum.inl (cint, 50, Sum.inl f1)), (h2, Sum.inl (cint, 24, Sum.inl f_237))] := hD
              exact hcut_232 (f_237) _ _ _ ⟨hP, hD, hS, lv_sub hl [0, 1, 2, 3, 4, 5, 6, 7] rfl⟩
        · have t_227 : 40 < p4.toInt := kk_nle c_227
          refine lv_iconst (v := 0) hx hb dX5_call_63 (by decide) ?_
          obtain ⟨hP9, hD9⟩ := kk_leafout (wc := [(h0, Sum.inr (5, [Value.ref h1, Value.int n0_size, Value.ref h2, Value.int n0_ran])), (h1, Sum.inl (cint, 50, Sum.inl f1)), (h2, Sum.inl (cint, 24, Sum.inl f2))]) hP hD [0, 1, 2] (by decide) rfl
          have hK9 := hK.sub (tys' := []) [] rfl
          exact W.iret (v := 0) hx hb hr (fun t ht hW => ⟨⟨0, (), rfl, trivial, n0_ran, f2, (by show 0 ≤ (n0_ran : Int32).toInt ∧ (n0_ran : Int32).toInt ≤ 1000; first | decide | (constructor <;> (have := kk_rng p4; omega))), (by show (n0_ran : Int32).toInt ≤ (n0_ran : Int32).toInt + 3; first | decide | (have := kk_rng p4; omega)), by rw [ht]; exact hP9, va_K.moved hW.alike hK9, hD9⟩, hS.F ht⟩) hS.2.2 dX5_call_64
    · skip
      have t_225_0 : (0 : Int) ≤ 6 := t_225_0
      have t_225_1 : (6 : Int) < 8 := t_225_1
      refine lv_if_eq (tgt := 48) hx hb dX5_call_18 (by decide) (fun c => absurd c (by decide)) (fun _ => ?_)
      refine va_gets hx hb hZOWN_BODIES hS hown (hts (.fieldLink RX5 43 "KinkStreet$Lines" "OWN_BODIES" "[I") (List.mem_of_getElem? (i := 1) rfl)) (fun _ h9 => h9) dX5_call_21 ?_
      refine lv_iload hx hb dX5_call_24 (lv_at hl 1 rfl) ?_
      refine lv_iconst (v := 4) hx hb dX5_call_26 (by decide) ?_
      refine lv_imul hx hb dX5_call_27 ?_
      refine lv_topi (fun y_238 e_238 => ?_)
      obtain rfl : y_238 = 24 := e_238.trans (by decide)
      refine lv_iload_n hx hb dX5_call_28 rfl (lv_at hl 5 rfl) ?_
      refine lv_iadd hx hb dX5_call_29 ?_
      refine lv_topi (fun y_239 e_239 => ?_)
      obtain rfl : y_239 = 24 := e_239.trans (by decide)
      refine va_ti (v := .int 70) hx hb hTOWN_BODIES hS (by unfold vp_in; decide) rfl dX5_call_30 ?_
      refine lv_if_ne (tgt := 48) hx hb dX5_call_31 (by decide) (fun _ => ?_) (fun c => absurd c (by decide))
      refine lv_iload hx hb dX5_call_48 (lv_at hl 1 rfl) ?_
      obtain ⟨hPc, hDc, hFc⟩ := kk_cutout (wc := []) hP hD hS hA [] (by decide) rfl
      have hKc := hK.sub (tys' := []) [] rfl
      refine va_calli (va_runS (As := [.int 6]) (rest := []) ⟨hx, hb, hml, hown, hts⟩ (g_X5_isKind_0 l dC dI H.size 6) (va_cwS 1 hts gX5_call_X5_isKind rfl rfl rfl (by decide +kernel) ⟨Nat.le_of_ble_eq_true rfl, Nat.le_of_ble_eq_true rfl⟩) ⟨fun a U g mk q => by obtain ⟨q0, q1, qP, qK, qD⟩ := q; exact ⟨q0, q1, qP, va_K.moved (u := U) (U := U.calling g mk a) (Vm.Alike.refl U.vm) qK, qD⟩, fun U hU hW => ⟨rfl, by rw [hU], by rw [hU]; exact hPc, va_K.moved hW.alike hKc, hDc.weaken (fun _ _ _ _ => trivial)⟩⟩ rfl rfl hl.1 rfl (lv_room (Nat.le_of_ble_eq_true rfl)) dX5_call_50 ⟨Nat.le_of_ble_eq_true rfl, Nat.le_of_ble_eq_true rfl⟩) hS (fun q _ h => hFc q h) hFc (fun r_240 u t H1 locs ht hvm hw hB hz1 hk1 hS => ?_)
      obtain ⟨hP1, hK1, hD1⟩ := hB
      rw [ht] at hP1
      have hK1 := va_K.moved hvm.symm hK1
      obtain ⟨hP, hD⟩ := va_join (wr := [(h0, Sum.inr (5, [Value.ref h1, Value.int n0_size, Value.ref h2, Value.int n0_ran])), (h1, Sum.inl (cint, 50, Sum.inl f1)), (h2, Sum.inl (cint, 24, Sum.inl f2))]) (w1 := []) hP hD [] [0, 1, 2] rfl rfl (by decide) (by decide) hk1 hFc hP1 hD1
      generalize H1 = H at hP hS ⊢
      have hP : va_P (dC, dI) vwCl [(h0, Sum.inr (5, [Value.ref h1, Value.int n0_size, Value.ref h2, Value.int n0_ran])), (h1, Sum.inl (cint, 50, Sum.inl f1)), (h2, Sum.inl (cint, 24, Sum.inl f2))] H := hP
      have hD : va_D A [(h0, Sum.inr (5, [Value.ref h1, Value.int n0_size, Value.ref h2, Value.int n0_ran])), (h1, Sum.inl (cint, 50, Sum.inl f1)), (h2, Sum.inl (cint, 24, Sum.inl f2))] := hD
      rcases hw with ⟨rfl⟩ | ⟨t_240_0, t_240_1, rfl⟩
      · skip
        refine lv_if_eq (tgt := 63) hx hb dX5_call_53 (by decide) (fun _ => ?_) (fun c => absurd c (by decide))
        refine lv_iconst (v := 0) hx hb dX5_call_63 (by decide) ?_
        obtain ⟨hP9, hD9⟩ := kk_leafout (wc := [(h0, Sum.inr (5, [Value.ref h1, Value.int n0_size, Value.ref h2, Value.int n0_ran])), (h1, Sum.inl (cint, 50, Sum.inl f1)), (h2, Sum.inl (cint, 24, Sum.inl f2))]) hP hD [0, 1, 2] (by decide) rfl
        have hK9 := hK.sub (tys' := []) [] rfl
        exact W.iret (v := 0) hx hb hr (fun t ht hW => ⟨⟨0, (), rfl, trivial, n0_ran, f2, (by show 0 ≤ (n0_ran : Int32).toInt ∧ (n0_ran : Int32).toInt ≤ 1000; first | decide | (constructor <;> (omega))), (by show (n0_ran : Int32).toInt ≤ (n0_ran : Int32).toInt + 3; first | decide | (omega)), by rw [ht]; exact hP9, va_K.moved hW.alike hK9, hD9⟩, hS.F ht⟩) hS.2.2 dX5_call_64
      · skip
        have t_240_0 : (0 : Int) ≤ 6 := t_240_0
        have t_240_1 : (6 : Int) < 8 := t_240_1
        refine lv_if_eq (tgt := 63) hx hb dX5_call_53 (by decide) (fun c => absurd c (by decide)) (fun _ => ?_)
        refine lv_iload hx hb dX5_call_56 (lv_at hl 7 rfl) ?_
        refine lv_bipush (v := 40) hx hb dX5_call_58 (by decide) ?_
        refine lv_icmp_le (tgt := 65) hx hb dX5_call_60 (by decide) (fun c_241 => ?_) (fun c_241 => ?_)
        · have t_241 : p4.toInt ≤ 40 := kk_le c_241
          refine va_gets hx hb hZOWN_BODIES hS hown (hts (.fieldLink RX5 43 "KinkStreet$Lines" "OWN_BODIES" "[I") (List.mem_of_getElem? (i := 1) rfl)) (fun _ h9 => h9) dX5_call_65 ?_
          refine lv_iload hx hb dX5_call_68 (lv_at hl 1 rfl) ?_
          refine lv_iconst (v := 4) hx hb dX5_call_70 (by decide) ?_
          refine lv_imul hx hb dX5_call_71 ?_
          refine lv_topi (fun y_242 e_242 => ?_)
          obtain rfl : y_242 = 24 := e_242.trans (by decide)
          refine lv_iload_n hx hb dX5_call_72 rfl (lv_at hl 5 rfl) ?_
          refine lv_iadd hx hb dX5_call_73 ?_
          refine lv_topi (fun y_243 e_243 => ?_)
          obtain rfl : y_243 = 24 := e_243.trans (by decide)
          refine va_ti (v := .int 70) hx hb hTOWN_BODIES hS (by unfold vp_in; decide) rfl dX5_call_74 ?_
          refine lv_istore (lv' := [(7, .int 70), (6, .int 6), (0, .ref h0), (1, .int p0), (2, .int 6), (3, .int 0), (4, .int p3), (5, .int p4)]) hx hb dX5_call_75 hl (by decide) rfl (fun ls hl => ?_)
          refine lv_aload_n hx hb dX5_call_77 rfl (lv_at hl 2 rfl) ?_
          refine va_get (D := (dC, dI)) (ci := 5) (v := .int n0_ran) (C := RX5) (T := TX5) (N := 4) hx hb hts (fun _ h => List.mem_cons_of_mem _ (List.mem_append_right _ h)) hown hK hP 0 rfl rfl 3 (by decide) (hts (.fieldLink RX5 36 "KinkStreet$Lines" "ran" "I") (List.mem_of_getElem? (i := 3) rfl)) (fun _ h9 => h9) rfl dX5_call_78 ?_
          refine lv_bipush (v := 24) hx hb dX5_call_81 (by decide) ?_
          refine kk_cut (σ := (Nat → Int32)) (pc' := 97) (fun x H locs ls => va_P (dC, dI) vwCl [(h0, Sum.inr (5, [Value.ref h1, Value.int n0_size, Value.ref h2, Value.int n0_ran])), (h1, Sum.inl (cint, 50, Sum.inl f1)), (h2, Sum.inl (cint, 24, Sum.inl x))] H ∧ va_D A [(h0, Sum.inr (5, [Value.ref h1, Value.int n0_size, Value.ref h2, Value.int n0_ran])), (h1, Sum.inl (cint, 50, Sum.inl f1)), (h2, Sum.inl (cint, 24, Sum.inl x))] ∧ va_S A s.heap H locs ∧ lv_has ls 8 [(7, .int 70), (6, .int 6), (0, .ref h0), (1, .int p0), (2, .int 6), (3, .int 0), (4, .int p3), (5, .int p4)]) ?_ (fun hcut_246 => ?_)
          · rintro f_246_0 H locs ls ⟨hP, hD, hS, hl⟩
            have hl : lv_has ls 8 [(7, .int 70), (6, .int 6), (0, .ref h0), (1, .int p0), (2, .int 6), (3, .int 0), (4, .int p3), (5, .int p4)] := hl
            have hP : va_P (dC, dI) vwCl [(h0, Sum.inr (5, [Value.ref h1, Value.int n0_size, Value.ref h2, Value.int n0_ran])), (h1, Sum.inl (cint, 50, Sum.inl f1)), (h2, Sum.inl (cint, 24, Sum.inl f_246_0))] H := hP
            have hD : va_D A [(h0, Sum.inr (5, [Value.ref h1, Value.int n0_size, Value.ref h2, Value.int n0_ran])), (h1, Sum.inl (cint, 50, Sum.inl f1)), (h2, Sum.inl (cint, 24, Sum.inl f_246_0))] := hD
            refine lv_aload_n hx hb dX5_call_97 rfl (lv_at hl 2 rfl) ?_
            refine lv_dup hx hb dX5_call_98 rfl ?_
            refine va_get (D := (dC, dI)) (ci := 5) (v := .int n0_ran) (C := RX5) (T := TX5) (N := 4) hx hb hts (fun _ h => List.mem_cons_of_mem _ (List.mem_append_right _ h)) hown hK hP 0 rfl rfl 3 (by decide) (hts (.fieldLink RX5 36 "KinkStreet$Lines" "ran" "I") (List.mem_of_getElem? (i := 3) rfl)) (fun _ h9 => h9) rfl dX5_call_99 ?_
            refine lv_iconst (v := 1) hx hb dX5_call_102 (by decide) ?_
            refine lv_iadd hx hb dX5_call_103 ?_
            refine va_put (D := (dC, dI)) (ci := 5) (v := .int (n0_ran + 1)) (ty := .int) (C := RX5) (T := TX5) (N := 4) hx hb hts (fun _ h => List.mem_cons_of_mem _ (List.mem_append_right _ h)) tyX5 tyX5_ok nmX5 hown hK hP hD hS 0 rfl rfl 3 (by decide) (hts (.fieldLink RX5 36 "KinkStreet$Lines" "ran" "I") (List.mem_of_getElem? (i := 3) rfl)) (fun _ h9 => h9) rfl (by decide +kernel) rfl rfl (Nat.le_of_ble_eq_true rfl) dX5_call_104 (fun H locs hP hD hS => ?_)
            have hP : va_P (dC, dI) vwCl [(h0, Sum.inr (5, [Value.ref h1, Value.int n0_size, Value.ref h2, Value.int (n0_ran + 1)])), (h1, Sum.inl (cint, 50, Sum.inl f1)), (h2, Sum.inl (cint, 24, Sum.inl f_246_0))] H := hP
            have hD : va_D A [(h0, Sum.inr (5, [Value.ref h1, Value.int n0_size, Value.ref h2, Value.int (n0_ran + 1)])), (h1, Sum.inl (cint, 50, Sum.inl f1)), (h2, Sum.inl (cint, 24, Sum.inl f_246_0))] := hD
            refine lv_iload hx hb dX5_call_107 (lv_at hl 1 rfl) ?_
            refine lv_if_ne (tgt := 128) hx hb dX5_call_109 (by decide) (fun _ => ?_) (fun c => absurd c (by decide))
            refine lv_aload_n hx hb dX5_call_128 rfl (lv_at hl 2 rfl) ?_
            refine lv_iload_n hx hb dX5_call_129 rfl (lv_at hl 3 rfl) ?_
            refine lv_iload hx hb dX5_call_130 (lv_at hl 1 rfl) ?_
            refine lv_iload hx hb dX5_call_132 (lv_at hl 0 rfl) ?_
            refine lv_iload hx hb dX5_call_134 (lv_at hl 6 rfl) ?_
            refine lv_iload hx hb dX5_call_136 (lv_at hl 7 rfl) ?_
            refine lv_iconst (v := 1) hx hb dX5_call_138 (by decide) ?_
            refine lv_iadd hx hb dX5_call_139 ?_
            obtain ⟨hPc, hDc, hFc⟩ := kk_cutout (wc := [(h0, Sum.inr (5, [Value.ref h1, Value.int n0_size, Value.ref h2, Value.int (n0_ran + 1)])), (h1, Sum.inl (cint, 50, Sum.inl f1)), (h2, Sum.inl (cint, 24, Sum.inl f_246_0))]) hP hD hS hA [0, 1, 2] (by decide) rfl
            have hKc := hK.sub (tys' := [(cint, .int)]) [0] rfl
            refine va_calli (va_runV (As := [.int p0, .int 6, .int 70, .int p3, .int (p4 + 1)]) (rest := []) ⟨hx, hb, hml, hown, hts⟩ (g_X5_runUnder_7 l dC dI h0 h1 h2 cint H.size p0 p3 (p4 + 1) n0_size (n0_ran + 1) f1 f_246_0 tn0_size (by show 0 ≤ ((n0_ran + 1) : Int32).toInt ∧ ((n0_ran + 1) : Int32).toInt ≤ 999; first | decide | (constructor <;> (have := kk_rng p4; have := kk_add2 (x := n0_ran) (y := 1) (a := n0_ran.toInt) (b := 1) rfl rfl (by omega) (by omega); have := kk_rng p4; have := kk_add2 (x := p4) (y := 1) (a := p4.toInt) (b := 1) rfl rfl (by omega) (by omega); omega))) bf1 aOWN_BODIES aABOVE) (cwV 5 hts gX5_call_X5_runUnder rfl rfl rfl (by decide +kernel) ⟨Nat.le_of_ble_eq_true rfl, Nat.le_of_ble_eq_true rfl⟩) ⟨fun a U g mk q => by obtain ⟨q0, q1, qP, qK, qD, qx0, qx1, qx2, qx3⟩ := q; exact ⟨q0, q1, qP, va_K.moved (u := U) (U := U.calling g mk a) (Vm.Alike.refl U.vm) qK, qD, va_Z.moved (u := U) (U := U.calling g mk a) (Vm.Alike.refl U.vm) qx0, va_T.moved (u := U) (U := U.calling g mk a) (Vm.Alike.refl U.vm) qx1, va_Z.moved (u := U) (U := U.calling g mk a) (Vm.Alike.refl U.vm) qx2, va_T.moved (u := U) (U := U.calling g mk a) (Vm.Alike.refl U.vm) qx3⟩, va_recv hKc hPc (ci := 5) (q0 := 0) rfl rfl, fun U hU hW => ⟨rfl, by rw [hU], by rw [hU]; exact hPc, va_K.moved hW.alike hKc, hDc.weaken (fun _ _ _ _ => trivial), by rw [hU]; exact ((hZOWN_BODIES.kept (fun a h1 h2 => hS.2.1 a h1 h2)).narrow hFc).moved hW.alike, by rw [hU]; exact ((hTOWN_BODIES.kept (fun a h1 h2 => hS.2.1 a h1 h2)).narrow hFc).moved hW.alike, by rw [hU]; exact ((hZABOVE.kept (fun a h1 h2 => hS.2.1 a h1 h2)).narrow hFc).moved hW.alike, by rw [hU]; exact ((hTABOVE.kept (fun a h1 h2 => hS.2.1 a h1 h2)).narrow hFc).moved hW.alike⟩⟩ rfl rfl hl.1 rfl (lv_room (Nat.le_of_ble_eq_true rfl)) dX5_call_140 ⟨Nat.le_of_ble_eq_true rfl, Nat.le_of_ble_eq_true rfl⟩) hS (fun q _ h => hFc q h) hFc (fun r_247 u t H1 locs ht hvm hw hB hz1 hk1 hS => ?_)
            obtain ⟨y_248, f_249, by_248, v_249_0, hP1, hK1, hD1⟩ := hB
            have v_249_0 : y_248.toInt ≤ (n0_ran + 1).toInt + 1 := v_249_0
            rw [ht] at hP1
            have hK1 := va_K.moved hvm.symm hK1
            obtain ⟨hP, hD⟩ := va_join (wr := []) (w1 := [(h0, Sum.inr (5, [Value.ref h1, Value.int n0_size, Value.ref h2, Value.int y_248])), (h1, Sum.inl (cint, 50, Sum.inl f1)), (h2, Sum.inl (cint, 24, Sum.inl f_249))]) hP hD [0, 1, 2] [] rfl rfl (by decide) (by decide) hk1 hFc hP1 hD1
            generalize H1 = H at hP hS ⊢
            have hP : va_P (dC, dI) vwCl [(h0, Sum.inr (5, [Value.ref h1, Value.int n0_size, Value.ref h2, Value.int y_248])), (h1, Sum.inl (cint, 50, Sum.inl f1)), (h2, Sum.inl (cint, 24, Sum.inl f_249))] H := hP
            have hD : va_D A [(h0, Sum.inr (5, [Value.ref h1, Value.int n0_size, Value.ref h2, Value.int y_248])), (h1, Sum.inl (cint, 50, Sum.inl f1)), (h2, Sum.inl (cint, 24, Sum.inl f_249))] := hD
            obtain ⟨hP9, hD9⟩ := kk_leafout (wc := [(h0, Sum.inr (5, [Value.ref h1, Value.int n0_size, Value.ref h2, Value.int y_248])), (h1, Sum.inl (cint, 50, Sum.inl f1)), (h2, Sum.inl (cint, 24, Sum.inl f_249))]) hP hD [0, 1, 2] (by decide) rfl
            have hK9 := hK.sub (tys' := []) [] rfl
            exact W.iret (v := r_247) hx hb hr (fun t ht hW => ⟨⟨r_247, (), rfl, trivial, y_248, f_249, (by show 0 ≤ (y_248 : Int32).toInt ∧ (y_248 : Int32).toInt ≤ 1000; first | decide | (constructor <;> (have := kk_rng p4; have := kk_add2 (x := n0_ran) (y := 1) (a := n0_ran.toInt) (b := 1) rfl rfl (by omega) (by omega); have := kk_rng p4; have := kk_add2 (x := p4) (y := 1) (a := p4.toInt) (b := 1) rfl rfl (by omega) (by omega); omega))), (by show (y_248 : Int32).toInt ≤ (n0_ran : Int32).toInt + 3; first | decide | (have := kk_rng p4; have := kk_add2 (x := n0_ran) (y := 1) (a := n0_ran.toInt) (b := 1) rfl rfl (by omega) (by omega); have := kk_rng p4; have := kk_add2 (x := p4) (y := 1) (a := p4.toInt) (b := 1) rfl rfl (by omega) (by omega); omega)), by rw [ht]; exact hP9, va_K.moved hW.alike hK9, hD9⟩, hS.F ht⟩) hS.2.2 dX5_call_143
          · skip
            refine lv_icmp_ge (tgt := 97) hx hb dX5_call_83 (by decide) (fun c_250 => ?_) (fun c_250 => ?_)
            · have t_250 : 24 ≤ n0_ran.toInt := kk_le c_250
              exact hcut_246 (f2) _ _ _ ⟨hP, hD, hS, lv_sub hl [0, 1, 2, 3, 4, 5, 6, 7] rfl⟩
            · have t_250 : n0_ran.toInt < 24 := kk_nle c_250
              refine lv_aload_n hx hb dX5_call_86 rfl (lv_at hl 2 rfl) ?_
              refine va_get (D := (dC, dI)) (ci := 5) (v := .ref h2) (C := RX5) (T := TX5) (N := 4) hx hb hts (fun _ h => List.mem_cons_of_mem _ (List.mem_append_right _ h)) hown hK hP 0 rfl rfl 2 (by decide) (hts (.fieldLink RX5 15 "KinkStreet$Lines" "trace" "[I") (List.mem_of_getElem? (i := 4) rfl)) (fun _ h9 => h9) rfl dX5_call_87 ?_
              refine lv_aload_n hx hb dX5_call_90 rfl (lv_at hl 2 rfl) ?_
              refine va_get (D := (dC, dI)) (ci := 5) (v := .int n0_ran) (C := RX5) (T := TX5) (N := 4) hx hb hts (fun _ h => List.mem_cons_of_mem _ (List.mem_append_right _ h)) hown hK hP 0 rfl rfl 3 (by decide) (hts (.fieldLink RX5 36 "KinkStreet$Lines" "ran" "I") (List.mem_of_getElem? (i := 3) rfl)) (fun _ h9 => h9) rfl dX5_call_91 ?_
              refine lv_iload hx hb dX5_call_94 (lv_at hl 0 rfl) ?_
              refine va_iast hx hb hK hP hD hS 2 0 rfl rfl (vp_in_iff.mpr ⟨by have := kk_rng p4; omega, by have := kk_rng p4; omega⟩) dX5_call_96 (fun H locs hP hD hS => ?_)
              generalize upd f2 (n0_ran : Int32).toNatClampNeg 70 = f_251 at hP hD
              have hP : va_P (dC, dI) vwCl [(h0, Sum.inr (5, [Value.ref h1, Value.int n0_size, Value.ref h2, Value.int n0_ran])), (h1, Sum.inl (cint, 50, Sum.inl f1)), (h2, Sum.inl (cint, 24, Sum.inl f_251))] H := hP
              have hD : va_D A [(h0, Sum.inr (5, [Value.ref h1, Value.int n0_size, Value.ref h2, Value.int n0_ran])), (h1, Sum.inl (cint, 50, Sum.inl f1)), (h2, Sum.inl (cint, 24, Sum.inl f_251))] := hD
              exact hcut_246 (f_251) _ _ _ ⟨hP, hD, hS, lv_sub hl [0, 1, 2, 3, 4, 5, 6, 7] rfl⟩
        · have t_241 : 40 < p4.toInt := kk_nle c_241
          refine lv_iconst (v := 0) hx hb dX5_call_63 (by decide) ?_
          obtain ⟨hP9, hD9⟩ := kk_leafout (wc := [(h0, Sum.inr (5, [Value.ref h1, Value.int n0_size, Value.ref h2, Value.int n0_ran])), (h1, Sum.inl (cint, 50, Sum.inl f1)), (h2, Sum.inl (cint, 24, Sum.inl f2))]) hP hD [0, 1, 2] (by decide) rfl
          have hK9 := hK.sub (tys' := []) [] rfl
          exact W.iret (v := 0) hx hb hr (fun t ht hW => ⟨⟨0, (), rfl, trivial, n0_ran, f2, (by show 0 ≤ (n0_ran : Int32).toInt ∧ (n0_ran : Int32).toInt ≤ 1000; first | decide | (constructor <;> (have := kk_rng p4; omega))), (by show (n0_ran : Int32).toInt ≤ (n0_ran : Int32).toInt + 3; first | decide | (have := kk_rng p4; omega)), by rw [ht]; exact hP9, va_K.moved hW.alike hK9, hD9⟩, hS.F ht⟩) hS.2.2 dX5_call_64
  · have t_1 : p1.toInt = 7 := by rw [e_1]; rfl
    subst e_1
    refine lv_iload_n hx hb dX5_call_0 rfl (lv_at hl 2 rfl) ?_
    refine lv_istore (lv' := [(6, .int 7), (0, .ref h0), (1, .int p0), (2, .int 7), (3, .int 0), (4, .int p3), (5, .int p4)]) hx hb dX5_call_1 hl (by decide) rfl (fun ls hl => ?_)
    refine lv_iconst (v := 0) hx hb dX5_call_3 (by decide) ?_
    refine lv_istore (lv' := [(7, .int 0), (6, .int 7), (0, .ref h0), (1, .int p0), (2, .int 7), (3, .int 0), (4, .int p3), (5, .int p4)]) hx hb dX5_call_4 hl (by decide) rfl (fun ls hl => ?_)
    refine lv_iload hx hb dX5_call_6 (lv_at hl 0 rfl) ?_
    refine lv_bipush (v := 8) hx hb dX5_call_8 (by decide) ?_
    refine lv_icmp_ge (tgt := 48) hx hb dX5_call_10 (by decide) (fun c => absurd c (by decide)) (fun _ => ?_)
    refine lv_iload hx hb dX5_call_13 (lv_at hl 1 rfl) ?_
    obtain ⟨hPc, hDc, hFc⟩ := kk_cutout (wc := []) hP hD hS hA [] (by decide) rfl
    have hKc := hK.sub (tys' := []) [] rfl
    refine va_calli (va_runS (As := [.int 7]) (rest := []) ⟨hx, hb, hml, hown, hts⟩ (g_X5_isKind_0 l dC dI s.heap.size 7) (va_cwS 1 hts gX5_call_X5_isKind rfl rfl rfl (by decide +kernel) ⟨Nat.le_of_ble_eq_true rfl, Nat.le_of_ble_eq_true rfl⟩) ⟨fun a U g mk q => by obtain ⟨q0, q1, qP, qK, qD⟩ := q; exact ⟨q0, q1, qP, va_K.moved (u := U) (U := U.calling g mk a) (Vm.Alike.refl U.vm) qK, qD⟩, fun U hU hW => ⟨rfl, by rw [hU], by rw [hU]; exact hPc, va_K.moved hW.alike hKc, hDc.weaken (fun _ _ _ _ => trivial)⟩⟩ rfl rfl hl.1 rfl (lv_room (Nat.le_of_ble_eq_true rfl)) dX5_call_15 ⟨Nat.le_of_ble_eq_true rfl, Nat.le_of_ble_eq_true rfl⟩) hS (fun q _ h => hFc q h) hFc (fun r_252 u t H1 locs ht hvm hw hB hz1 hk1 hS => ?_)
    obtain ⟨hP1, hK1, hD1⟩ := hB
    rw [ht] at hP1
    have hK1 := va_K.moved hvm.symm hK1
    obtain ⟨hP, hD⟩ := va_join (wr := [(h0, Sum.inr (5, [Value.ref h1, Value.int n0_size, Value.ref h2, Value.int n0_ran])), (h1, Sum.inl (cint, 50, Sum.inl f1)), (h2, Sum.inl (cint, 24, Sum.inl f2))]) (w1 := []) hP hD [] [0, 1, 2] rfl rfl (by decide) (by decide) hk1 hFc hP1 hD1
    generalize H1 = H at hP hS ⊢
    have hP : va_P (dC, dI) vwCl [(h0, Sum.inr (5, [Value.ref h1, Value.int n0_size, Value.ref h2, Value.int n0_ran])), (h1, Sum.inl (cint, 50, Sum.inl f1)), (h2, Sum.inl (cint, 24, Sum.inl f2))] H := hP
    have hD : va_D A [(h0, Sum.inr (5, [Value.ref h1, Value.int n0_size, Value.ref h2, Value.int n0_ran])), (h1, Sum.inl (cint, 50, Sum.inl f1)), (h2, Sum.inl (cint, 24, Sum.inl f2))] := hD
    rcases hw with ⟨rfl⟩ | ⟨t_252_0, t_252_1, rfl⟩
    · skip
      refine lv_if_eq (tgt := 48) hx hb dX5_call_18 (by decide) (fun _ => ?_) (fun c => absurd c (by decide))
      refine lv_iload hx hb dX5_call_48 (lv_at hl 1 rfl) ?_
      obtain ⟨hPc, hDc, hFc⟩ := kk_cutout (wc := []) hP hD hS hA [] (by decide) rfl
      have hKc := hK.sub (tys' := []) [] rfl
      refine va_calli (va_runS (As := [.int 7]) (rest := []) ⟨hx, hb, hml, hown, hts⟩ (g_X5_isKind_0 l dC dI H.size 7) (va_cwS 1 hts gX5_call_X5_isKind rfl rfl rfl (by decide +kernel) ⟨Nat.le_of_ble_eq_true rfl, Nat.le_of_ble_eq_true rfl⟩) ⟨fun a U g mk q => by obtain ⟨q0, q1, qP, qK, qD⟩ := q; exact ⟨q0, q1, qP, va_K.moved (u := U) (U := U.calling g mk a) (Vm.Alike.refl U.vm) qK, qD⟩, fun U hU hW => ⟨rfl, by rw [hU], by rw [hU]; exact hPc, va_K.moved hW.alike hKc, hDc.weaken (fun _ _ _ _ => trivial)⟩⟩ rfl rfl hl.1 rfl (lv_room (Nat.le_of_ble_eq_true rfl)) dX5_call_50 ⟨Nat.le_of_ble_eq_true rfl, Nat.le_of_ble_eq_true rfl⟩) hS (fun q _ h => hFc q h) hFc (fun r_253 u t H1 locs ht hvm hw hB hz1 hk1 hS => ?_)
      obtain ⟨hP1, hK1, hD1⟩ := hB
      rw [ht] at hP1
      have hK1 := va_K.moved hvm.symm hK1
      obtain ⟨hP, hD⟩ := va_join (wr := [(h0, Sum.inr (5, [Value.ref h1, Value.int n0_size, Value.ref h2, Value.int n0_ran])), (h1, Sum.inl (cint, 50, Sum.inl f1)), (h2, Sum.inl (cint, 24, Sum.inl f2))]) (w1 := []) hP hD [] [0, 1, 2] rfl rfl (by decide) (by decide) hk1 hFc hP1 hD1
      generalize H1 = H at hP hS ⊢
      have hP : va_P (dC, dI) vwCl [(h0, Sum.inr (5, [Value.ref h1, Value.int n0_size, Value.ref h2, Value.int n0_ran])), (h1, Sum.inl (cint, 50, Sum.inl f1)), (h2, Sum.inl (cint, 24, Sum.inl f2))] H := hP
      have hD : va_D A [(h0, Sum.inr (5, [Value.ref h1, Value.int n0_size, Value.ref h2, Value.int n0_ran])), (h1, Sum.inl (cint, 50, Sum.inl f1)), (h2, Sum.inl (cint, 24, Sum.inl f2))] := hD
      rcases hw with ⟨rfl⟩ | ⟨t_253_0, t_253_1, rfl⟩
      · skip
        refine lv_if_eq (tgt := 63) hx hb dX5_call_53 (by decide) (fun _ => ?_) (fun c => absurd c (by decide))
        refine lv_iconst (v := 0) hx hb dX5_call_63 (by decide) ?_
        obtain ⟨hP9, hD9⟩ := kk_leafout (wc := [(h0, Sum.inr (5, [Value.ref h1, Value.int n0_size, Value.ref h2, Value.int n0_ran])), (h1, Sum.inl (cint, 50, Sum.inl f1)), (h2, Sum.inl (cint, 24, Sum.inl f2))]) hP hD [0, 1, 2] (by decide) rfl
        have hK9 := hK.sub (tys' := []) [] rfl
        exact W.iret (v := 0) hx hb hr (fun t ht hW => ⟨⟨0, (), rfl, trivial, n0_ran, f2, (by show 0 ≤ (n0_ran : Int32).toInt ∧ (n0_ran : Int32).toInt ≤ 1000; first | decide | (constructor <;> (omega))), (by show (n0_ran : Int32).toInt ≤ (n0_ran : Int32).toInt + 3; first | decide | (omega)), by rw [ht]; exact hP9, va_K.moved hW.alike hK9, hD9⟩, hS.F ht⟩) hS.2.2 dX5_call_64
      · skip
        have t_253_0 : (0 : Int) ≤ 7 := t_253_0
        have t_253_1 : (7 : Int) < 8 := t_253_1
        refine lv_if_eq (tgt := 63) hx hb dX5_call_53 (by decide) (fun c => absurd c (by decide)) (fun _ => ?_)
        refine lv_iload hx hb dX5_call_56 (lv_at hl 7 rfl) ?_
        refine lv_bipush (v := 40) hx hb dX5_call_58 (by decide) ?_
        refine lv_icmp_le (tgt := 65) hx hb dX5_call_60 (by decide) (fun c_254 => ?_) (fun c_254 => ?_)
        · have t_254 : p4.toInt ≤ 40 := kk_le c_254
          refine va_gets hx hb hZOWN_BODIES hS hown (hts (.fieldLink RX5 43 "KinkStreet$Lines" "OWN_BODIES" "[I") (List.mem_of_getElem? (i := 1) rfl)) (fun _ h9 => h9) dX5_call_65 ?_
          refine lv_iload hx hb dX5_call_68 (lv_at hl 1 rfl) ?_
          refine lv_iconst (v := 4) hx hb dX5_call_70 (by decide) ?_
          refine lv_imul hx hb dX5_call_71 ?_
          refine lv_topi (fun y_255 e_255 => ?_)
          obtain rfl : y_255 = 28 := e_255.trans (by decide)
          refine lv_iload_n hx hb dX5_call_72 rfl (lv_at hl 5 rfl) ?_
          refine lv_iadd hx hb dX5_call_73 ?_
          refine lv_topi (fun y_256 e_256 => ?_)
          obtain rfl : y_256 = 28 := e_256.trans (by decide)
          refine va_ti (v := .int 80) hx hb hTOWN_BODIES hS (by unfold vp_in; decide) rfl dX5_call_74 ?_
          refine lv_istore (lv' := [(7, .int 80), (6, .int 7), (0, .ref h0), (1, .int p0), (2, .int 7), (3, .int 0), (4, .int p3), (5, .int p4)]) hx hb dX5_call_75 hl (by decide) rfl (fun ls hl => ?_)
          refine lv_aload_n hx hb dX5_call_77 rfl (lv_at hl 2 rfl) ?_
          refine va_get (D := (dC, dI)) (ci := 5) (v := .int n0_ran) (C := RX5) (T := TX5) (N := 4) hx hb hts (fun _ h => List.mem_cons_of_mem _ (List.mem_append_right _ h)) hown hK hP 0 rfl rfl 3 (by decide) (hts (.fieldLink RX5 36 "KinkStreet$Lines" "ran" "I") (List.mem_of_getElem? (i := 3) rfl)) (fun _ h9 => h9) rfl dX5_call_78 ?_
          refine lv_bipush (v := 24) hx hb dX5_call_81 (by decide) ?_
          refine kk_cut (σ := (Nat → Int32)) (pc' := 97) (fun x H locs ls => va_P (dC, dI) vwCl [(h0, Sum.inr (5, [Value.ref h1, Value.int n0_size, Value.ref h2, Value.int n0_ran])), (h1, Sum.inl (cint, 50, Sum.inl f1)), (h2, Sum.inl (cint, 24, Sum.inl x))] H ∧ va_D A [(h0, Sum.inr (5, [Value.ref h1, Value.int n0_size, Value.ref h2, Value.int n0_ran])), (h1, Sum.inl (cint, 50, Sum.inl f1)), (h2, Sum.inl (cint, 24, Sum.inl x))] ∧ va_S A s.heap H locs ∧ lv_has ls 8 [(7, .int 80), (6, .int 7), (0, .ref h0), (1, .int p0), (2, .int 7), (3, .int 0), (4, .int p3), (5, .int p4)]) ?_ (fun hcut_259 => ?_)
          · rintro f_259_0 H locs ls ⟨hP, hD, hS, hl⟩
            have hl : lv_has ls 8 [(7, .int 80), (6, .int 7), (0, .ref h0), (1, .int p0), (2, .int 7), (3, .int 0), (4, .int p3), (5, .int p4)] := hl
            have hP : va_P (dC, dI) vwCl [(h0, Sum.inr (5, [Value.ref h1, Value.int n0_size, Value.ref h2, Value.int n0_ran])), (h1, Sum.inl (cint, 50, Sum.inl f1)), (h2, Sum.inl (cint, 24, Sum.inl f_259_0))] H := hP
            have hD : va_D A [(h0, Sum.inr (5, [Value.ref h1, Value.int n0_size, Value.ref h2, Value.int n0_ran])), (h1, Sum.inl (cint, 50, Sum.inl f1)), (h2, Sum.inl (cint, 24, Sum.inl f_259_0))] := hD
            refine lv_aload_n hx hb dX5_call_97 rfl (lv_at hl 2 rfl) ?_
            refine lv_dup hx hb dX5_call_98 rfl ?_
            refine va_get (D := (dC, dI)) (ci := 5) (v := .int n0_ran) (C := RX5) (T := TX5) (N := 4) hx hb hts (fun _ h => List.mem_cons_of_mem _ (List.mem_append_right _ h)) hown hK hP 0 rfl rfl 3 (by decide) (hts (.fieldLink RX5 36 "KinkStreet$Lines" "ran" "I") (List.mem_of_getElem? (i := 3) rfl)) (fun _ h9 => h9) rfl dX5_call_99 ?_
            refine lv_iconst (v := 1) hx hb dX5_call_102 (by decide) ?_
            refine lv_iadd hx hb dX5_call_103 ?_
            refine va_put (D := (dC, dI)) (ci := 5) (v := .int (n0_ran + 1)) (ty := .int) (C := RX5) (T := TX5) (N := 4) hx hb hts (fun _ h => List.mem_cons_of_mem _ (List.mem_append_right _ h)) tyX5 tyX5_ok nmX5 hown hK hP hD hS 0 rfl rfl 3 (by decide) (hts (.fieldLink RX5 36 "KinkStreet$Lines" "ran" "I") (List.mem_of_getElem? (i := 3) rfl)) (fun _ h9 => h9) rfl (by decide +kernel) rfl rfl (Nat.le_of_ble_eq_true rfl) dX5_call_104 (fun H locs hP hD hS => ?_)
            have hP : va_P (dC, dI) vwCl [(h0, Sum.inr (5, [Value.ref h1, Value.int n0_size, Value.ref h2, Value.int (n0_ran + 1)])), (h1, Sum.inl (cint, 50, Sum.inl f1)), (h2, Sum.inl (cint, 24, Sum.inl f_259_0))] H := hP
            have hD : va_D A [(h0, Sum.inr (5, [Value.ref h1, Value.int n0_size, Value.ref h2, Value.int (n0_ran + 1)])), (h1, Sum.inl (cint, 50, Sum.inl f1)), (h2, Sum.inl (cint, 24, Sum.inl f_259_0))] := hD
            refine lv_iload hx hb dX5_call_107 (lv_at hl 1 rfl) ?_
            refine lv_if_ne (tgt := 128) hx hb dX5_call_109 (by decide) (fun _ => ?_) (fun c => absurd c (by decide))
            refine lv_aload_n hx hb dX5_call_128 rfl (lv_at hl 2 rfl) ?_
            refine lv_iload_n hx hb dX5_call_129 rfl (lv_at hl 3 rfl) ?_
            refine lv_iload hx hb dX5_call_130 (lv_at hl 1 rfl) ?_
            refine lv_iload hx hb dX5_call_132 (lv_at hl 0 rfl) ?_
            refine lv_iload hx hb dX5_call_134 (lv_at hl 6 rfl) ?_
            refine lv_iload hx hb dX5_call_136 (lv_at hl 7 rfl) ?_
            refine lv_iconst (v := 1) hx hb dX5_call_138 (by decide) ?_
            refine lv_iadd hx hb dX5_call_139 ?_
            obtain ⟨hPc, hDc, hFc⟩ := kk_cutout (wc := [(h0, Sum.inr (5, [Value.ref h1, Value.int n0_size, Value.ref h2, Value.int (n0_ran + 1)])), (h1, Sum.inl (cint, 50, Sum.inl f1)), (h2, Sum.inl (cint, 24, Sum.inl f_259_0))]) hP hD hS hA [0, 1, 2] (by decide) rfl
            have hKc := hK.sub (tys' := [(cint, .int)]) [0] rfl
            refine va_calli (va_runV (As := [.int p0, .int 7, .int 80, .int p3, .int (p4 + 1)]) (rest := []) ⟨hx, hb, hml, hown, hts⟩ (g_X5_runUnder_8 l dC dI h0 h1 h2 cint H.size p0 p3 (p4 + 1) n0_size (n0_ran + 1) f1 f_259_0 tn0_size (by show 0 ≤ ((n0_ran + 1) : Int32).toInt ∧ ((n0_ran + 1) : Int32).toInt ≤ 998; first | decide | (constructor <;> (have := kk_rng p4; have := kk_add2 (x := n0_ran) (y := 1) (a := n0_ran.toInt) (b := 1) rfl rfl (by omega) (by omega); have := kk_rng p4; have := kk_add2 (x := p4) (y := 1) (a := p4.toInt) (b := 1) rfl rfl (by omega) (by omega); omega))) bf1 aOWN_BODIES aABOVE) (cwV 5 hts gX5_call_X5_runUnder rfl rfl rfl (by decide +kernel) ⟨Nat.le_of_ble_eq_true rfl, Nat.le_of_ble_eq_true rfl⟩) ⟨fun a U g mk q => by obtain ⟨q0, q1, qP, qK, qD, qx0, qx1, qx2, qx3⟩ := q; exact ⟨q0, q1, qP, va_K.moved (u := U) (U := U.calling g mk a) (Vm.Alike.refl U.vm) qK, qD, va_Z.moved (u := U) (U := U.calling g mk a) (Vm.Alike.refl U.vm) qx0, va_T.moved (u := U) (U := U.calling g mk a) (Vm.Alike.refl U.vm) qx1, va_Z.moved (u := U) (U := U.calling g mk a) (Vm.Alike.refl U.vm) qx2, va_T.moved (u := U) (U := U.calling g mk a) (Vm.Alike.refl U.vm) qx3⟩, va_recv hKc hPc (ci := 5) (q0 := 0) rfl rfl, fun U hU hW => ⟨rfl, by rw [hU], by rw [hU]; exact hPc, va_K.moved hW.alike hKc, hDc.weaken (fun _ _ _ _ => trivial), by rw [hU]; exact ((hZOWN_BODIES.kept (fun a h1 h2 => hS.2.1 a h1 h2)).narrow hFc).moved hW.alike, by rw [hU]; exact ((hTOWN_BODIES.kept (fun a h1 h2 => hS.2.1 a h1 h2)).narrow hFc).moved hW.alike, by rw [hU]; exact ((hZABOVE.kept (fun a h1 h2 => hS.2.1 a h1 h2)).narrow hFc).moved hW.alike, by rw [hU]; exact ((hTABOVE.kept (fun a h1 h2 => hS.2.1 a h1 h2)).narrow hFc).moved hW.alike⟩⟩ rfl rfl hl.1 rfl (lv_room (Nat.le_of_ble_eq_true rfl)) dX5_call_140 ⟨Nat.le_of_ble_eq_true rfl, Nat.le_of_ble_eq_true rfl⟩) hS (fun q _ h => hFc q h) hFc (fun r_260 u t H1 locs ht hvm hw hB hz1 hk1 hS => ?_)
            obtain ⟨y_261, f_262, by_261, v_262_0, hP1, hK1, hD1⟩ := hB
            have v_262_0 : y_261.toInt ≤ (n0_ran + 1).toInt + 2 := v_262_0
            rw [ht] at hP1
            have hK1 := va_K.moved hvm.symm hK1
            obtain ⟨hP, hD⟩ := va_join (wr := []) (w1 := [(h0, Sum.inr (5, [Value.ref h1, Value.int n0_size, Value.ref h2, Value.int y_261])), (h1, Sum.inl (cint, 50, Sum.inl f1)), (h2, Sum.inl (cint, 24, Sum.inl f_262))]) hP hD [0, 1, 2] [] rfl rfl (by decide) (by decide) hk1 hFc hP1 hD1
            generalize H1 = H at hP hS ⊢
            have hP : va_P (dC, dI) vwCl [(h0, Sum.inr (5, [Value.ref h1, Value.int n0_size, Value.ref h2, Value.int y_261])), (h1, Sum.inl (cint, 50, Sum.inl f1)), (h2, Sum.inl (cint, 24, Sum.inl f_262))] H := hP
            have hD : va_D A [(h0, Sum.inr (5, [Value.ref h1, Value.int n0_size, Value.ref h2, Value.int y_261])), (h1, Sum.inl (cint, 50, Sum.inl f1)), (h2, Sum.inl (cint, 24, Sum.inl f_262))] := hD
            obtain ⟨hP9, hD9⟩ := kk_leafout (wc := [(h0, Sum.inr (5, [Value.ref h1, Value.int n0_size, Value.ref h2, Value.int y_261])), (h1, Sum.inl (cint, 50, Sum.inl f1)), (h2, Sum.inl (cint, 24, Sum.inl f_262))]) hP hD [0, 1, 2] (by decide) rfl
            have hK9 := hK.sub (tys' := []) [] rfl
            exact W.iret (v := r_260) hx hb hr (fun t ht hW => ⟨⟨r_260, (), rfl, trivial, y_261, f_262, (by show 0 ≤ (y_261 : Int32).toInt ∧ (y_261 : Int32).toInt ≤ 1000; first | decide | (constructor <;> (have := kk_rng p4; have := kk_add2 (x := n0_ran) (y := 1) (a := n0_ran.toInt) (b := 1) rfl rfl (by omega) (by omega); have := kk_rng p4; have := kk_add2 (x := p4) (y := 1) (a := p4.toInt) (b := 1) rfl rfl (by omega) (by omega); omega))), (by show (y_261 : Int32).toInt ≤ (n0_ran : Int32).toInt + 3; first | decide | (have := kk_rng p4; have := kk_add2 (x := n0_ran) (y := 1) (a := n0_ran.toInt) (b := 1) rfl rfl (by omega) (by omega); have := kk_rng p4; have := kk_add2 (x := p4) (y := 1) (a := p4.toInt) (b := 1) rfl rfl (by omega) (by omega); omega)), by rw [ht]; exact hP9, va_K.moved hW.alike hK9, hD9⟩, hS.F ht⟩) hS.2.2 dX5_call_143
          · skip
            refine lv_icmp_ge (tgt := 97) hx hb dX5_call_83 (by decide) (fun c_263 => ?_) (fun c_263 => ?_)
            · have t_263 : 24 ≤ n0_ran.toInt := kk_le c_263
              exact hcut_259 (f2) _ _ _ ⟨hP, hD, hS, lv_sub hl [0, 1, 2, 3, 4, 5, 6, 7] rfl⟩
            · have t_263 : n0_ran.toInt < 24 := kk_nle c_263
              refine lv_aload_n hx hb dX5_call_86 rfl (lv_at hl 2 rfl) ?_
              refine va_get (D := (dC, dI)) (ci := 5) (v := .ref h2) (C := RX5) (T := TX5) (N := 4) hx hb hts (fun _ h => List.mem_cons_of_mem _ (List.mem_append_right _ h)) hown hK hP 0 rfl rfl 2 (by decide) (hts (.fieldLink RX5 15 "KinkStreet$Lines" "trace" "[I") (List.mem_of_getElem? (i := 4) rfl)) (fun _ h9 => h9) rfl dX5_call_87 ?_
              refine lv_aload_n hx hb dX5_call_90 rfl (lv_at hl 2 rfl) ?_
              refine va_get (D := (dC, dI)) (ci := 5) (v := .int n0_ran) (C := RX5) (T := TX5) (N := 4) hx hb hts (fun _ h => List.mem_cons_of_mem _ (List.mem_append_right _ h)) hown hK hP 0 rfl rfl 3 (by decide) (hts (.fieldLink RX5 36 "KinkStreet$Lines" "ran" "I") (List.mem_of_getElem? (i := 3) rfl)) (fun _ h9 => h9) rfl dX5_call_91 ?_
              refine lv_iload hx hb dX5_call_94 (lv_at hl 0 rfl) ?_
              refine va_iast hx hb hK hP hD hS 2 0 rfl rfl (vp_in_iff.mpr ⟨by have := kk_rng p4; omega, by have := kk_rng p4; omega⟩) dX5_call_96 (fun H locs hP hD hS => ?_)
              generalize upd f2 (n0_ran : Int32).toNatClampNeg 80 = f_264 at hP hD
              have hP : va_P (dC, dI) vwCl [(h0, Sum.inr (5, [Value.ref h1, Value.int n0_size, Value.ref h2, Value.int n0_ran])), (h1, Sum.inl (cint, 50, Sum.inl f1)), (h2, Sum.inl (cint, 24, Sum.inl f_264))] H := hP
              have hD : va_D A [(h0, Sum.inr (5, [Value.ref h1, Value.int n0_size, Value.ref h2, Value.int n0_ran])), (h1, Sum.inl (cint, 50, Sum.inl f1)), (h2, Sum.inl (cint, 24, Sum.inl f_264))] := hD
              exact hcut_259 (f_264) _ _ _ ⟨hP, hD, hS, lv_sub hl [0, 1, 2, 3, 4, 5, 6, 7] rfl⟩
        · have t_254 : 40 < p4.toInt := kk_nle c_254
          refine lv_iconst (v := 0) hx hb dX5_call_63 (by decide) ?_
          obtain ⟨hP9, hD9⟩ := kk_leafout (wc := [(h0, Sum.inr (5, [Value.ref h1, Value.int n0_size, Value.ref h2, Value.int n0_ran])), (h1, Sum.inl (cint, 50, Sum.inl f1)), (h2, Sum.inl (cint, 24, Sum.inl f2))]) hP hD [0, 1, 2] (by decide) rfl
          have hK9 := hK.sub (tys' := []) [] rfl
          exact W.iret (v := 0) hx hb hr (fun t ht hW => ⟨⟨0, (), rfl, trivial, n0_ran, f2, (by show 0 ≤ (n0_ran : Int32).toInt ∧ (n0_ran : Int32).toInt ≤ 1000; first | decide | (constructor <;> (have := kk_rng p4; omega))), (by show (n0_ran : Int32).toInt ≤ (n0_ran : Int32).toInt + 3; first | decide | (have := kk_rng p4; omega)), by rw [ht]; exact hP9, va_K.moved hW.alike hK9, hD9⟩, hS.F ht⟩) hS.2.2 dX5_call_64
    · skip
      have t_252_0 : (0 : Int) ≤ 7 := t_252_0
      have t_252_1 : (7 : Int) < 8 := t_252_1
      refine lv_if_eq (tgt := 48) hx hb dX5_call_18 (by decide) (fun c => absurd c (by decide)) (fun _ => ?_)
      refine va_gets hx hb hZOWN_BODIES hS hown (hts (.fieldLink RX5 43 "KinkStreet$Lines" "OWN_BODIES" "[I") (List.mem_of_getElem? (i := 1) rfl)) (fun _ h9 => h9) dX5_call_21 ?_
      refine lv_iload hx hb dX5_call_24 (lv_at hl 1 rfl) ?_
      refine lv_iconst (v := 4) hx hb dX5_call_26 (by decide) ?_
      refine lv_imul hx hb dX5_call_27 ?_
      refine lv_topi (fun y_265 e_265 => ?_)
      obtain rfl : y_265 = 28 := e_265.trans (by decide)
      refine lv_iload_n hx hb dX5_call_28 rfl (lv_at hl 5 rfl) ?_
      refine lv_iadd hx hb dX5_call_29 ?_
      refine lv_topi (fun y_266 e_266 => ?_)
      obtain rfl : y_266 = 28 := e_266.trans (by decide)
      refine va_ti (v := .int 80) hx hb hTOWN_BODIES hS (by unfold vp_in; decide) rfl dX5_call_30 ?_
      refine lv_if_ne (tgt := 48) hx hb dX5_call_31 (by decide) (fun _ => ?_) (fun c => absurd c (by decide))
      refine lv_iload hx hb dX5_call_48 (lv_at hl 1 rfl) ?_
      obtain ⟨hPc, hDc, hFc⟩ := kk_cutout (wc := []) hP hD hS hA [] (by decide) rfl
      have hKc := hK.sub (tys' := []) [] rfl
      refine va_calli (va_runS (As := [.int 7]) (rest := []) ⟨hx, hb, hml, hown, hts⟩ (g_X5_isKind_0 l dC dI H.size 7) (va_cwS 1 hts gX5_call_X5_isKind rfl rfl rfl (by decide +kernel) ⟨Nat.le_of_ble_eq_true rfl, Nat.le_of_ble_eq_true rfl⟩) ⟨fun a U g mk q => by obtain ⟨q0, q1, qP, qK, qD⟩ := q; exact ⟨q0, q1, qP, va_K.moved (u := U) (U := U.calling g mk a) (Vm.Alike.refl U.vm) qK, qD⟩, fun U hU hW => ⟨rfl, by rw [hU], by rw [hU]; exact hPc, va_K.moved hW.alike hKc, hDc.weaken (fun _ _ _ _ => trivial)⟩⟩ rfl rfl hl.1 rfl (lv_room (Nat.le_of_ble_eq_true rfl)) dX5_call_50 ⟨Nat.le_of_ble_eq_true rfl, Nat.le_of_ble_eq_true rfl⟩) hS (fun q _ h => hFc q h) hFc (fun r_267 u t H1 locs ht hvm hw hB hz1 hk1 hS => ?_)
      obtain ⟨hP1, hK1, hD1⟩ := hB
      rw [ht] at hP1
      have hK1 := va_K.moved hvm.symm hK1
      obtain ⟨hP, hD⟩ := va_join (wr := [(h0, Sum.inr (5, [Value.ref h1, Value.int n0_size, Value.ref h2, Value.int n0_ran])), (h1, Sum.inl (cint, 50, Sum.inl f1)), (h2, Sum.inl (cint, 24, Sum.inl f2))]) (w1 := []) hP hD [] [0, 1, 2] rfl rfl (by decide) (by decide) hk1 hFc hP1 hD1
      generalize H1 = H at hP hS ⊢
      have hP : va_P (dC, dI) vwCl [(h0, Sum.inr (5, [Value.ref h1, Value.int n0_size, Value.ref h2, Value.int n0_ran])), (h1, Sum.inl (cint, 50, Sum.inl f1)), (h2, Sum.inl (cint, 24, Sum.inl f2))] H := hP
      have hD : va_D A [(h0, Sum.inr (5, [Value.ref h1, Value.int n0_size, Value.ref h2, Value.int n0_ran])), (h1, Sum.inl (cint, 50, Sum.inl f1)), (h2, Sum.inl (cint, 24, Sum.inl f2))] := hD
      rcases hw with ⟨rfl⟩ | ⟨t_267_0, t_267_1, rfl⟩
      · skip
        refine lv_if_eq (tgt := 63) hx hb dX5_call_53 (by decide) (fun _ => ?_) (fun c => absurd c (by decide))
        refine lv_iconst (v := 0) hx hb dX5_call_63 (by decide) ?_
        obtain ⟨hP9, hD9⟩ := kk_leafout (wc := [(h0, Sum.inr (5, [Value.ref h1, Value.int n0_size, Value.ref h2, Value.int n0_ran])), (h1, Sum.inl (cint, 50, Sum.inl f1)), (h2, Sum.inl (cint, 24, Sum.inl f2))]) hP hD [0, 1, 2] (by decide) rfl
        have hK9 := hK.sub (tys' := []) [] rfl
        exact W.iret (v := 0) hx hb hr (fun t ht hW => ⟨⟨0, (), rfl, trivial, n0_ran, f2, (by show 0 ≤ (n0_ran : Int32).toInt ∧ (n0_ran : Int32).toInt ≤ 1000; first | decide | (constructor <;> (omega))), (by show (n0_ran : Int32).toInt ≤ (n0_ran : Int32).toInt + 3; first | decide | (omega)), by rw [ht]; exact hP9, va_K.moved hW.alike hK9, hD9⟩, hS.F ht⟩) hS.2.2 dX5_call_64
      · skip
        have t_267_0 : (0 : Int) ≤ 7 := t_267_0
        have t_267_1 : (7 : Int) < 8 := t_267_1
        refine lv_if_eq (tgt := 63) hx hb dX5_call_53 (by decide) (fun c => absurd c (by decide)) (fun _ => ?_)
        refine lv_iload hx hb dX5_call_56 (lv_at hl 7 rfl) ?_
        refine lv_bipush (v := 40) hx hb dX5_call_58 (by decide) ?_
        refine lv_icmp_le (tgt := 65) hx hb dX5_call_60 (by decide) (fun c_268 => ?_) (fun c_268 => ?_)
        · have t_268 : p4.toInt ≤ 40 := kk_le c_268
          refine va_gets hx hb hZOWN_BODIES hS hown (hts (.fieldLink RX5 43 "KinkStreet$Lines" "OWN_BODIES" "[I") (List.mem_of_getElem? (i := 1) rfl)) (fun _ h9 => h9) dX5_call_65 ?_
          refine lv_iload hx hb dX5_call_68 (lv_at hl 1 rfl) ?_
          refine lv_iconst (v := 4) hx hb dX5_call_70 (by decide) ?_
          refine lv_imul hx hb dX5_call_71 ?_
          refine lv_topi (fun y_269 e_269 => ?_)
          obtain rfl : y_269 = 28 := e_269.trans (by decide)
          refine lv_iload_n hx hb dX5_call_72 rfl (lv_at hl 5 rfl) ?_
          refine lv_iadd hx hb dX5_call_73 ?_
          refine lv_topi (fun y_270 e_270 => ?_)
          obtain rfl : y_270 = 28 := e_270.trans (by decide)
          refine va_ti (v := .int 80) hx hb hTOWN_BODIES hS (by unfold vp_in; decide) rfl dX5_call_74 ?_
          refine lv_istore (lv' := [(7, .int 80), (6, .int 7), (0, .ref h0), (1, .int p0), (2, .int 7), (3, .int 0), (4, .int p3), (5, .int p4)]) hx hb dX5_call_75 hl (by decide) rfl (fun ls hl => ?_)
          refine lv_aload_n hx hb dX5_call_77 rfl (lv_at hl 2 rfl) ?_
          refine va_get (D := (dC, dI)) (ci := 5) (v := .int n0_ran) (C := RX5) (T := TX5) (N := 4) hx hb hts (fun _ h => List.mem_cons_of_mem _ (List.mem_append_right _ h)) hown hK hP 0 rfl rfl 3 (by decide) (hts (.fieldLink RX5 36 "KinkStreet$Lines" "ran" "I") (List.mem_of_getElem? (i := 3) rfl)) (fun _ h9 => h9) rfl dX5_call_78 ?_
          refine lv_bipush (v := 24) hx hb dX5_call_81 (by decide) ?_
          refine kk_cut (σ := (Nat → Int32)) (pc' := 97) (fun x H locs ls => va_P (dC, dI) vwCl [(h0, Sum.inr (5, [Value.ref h1, Value.int n0_size, Value.ref h2, Value.int n0_ran])), (h1, Sum.inl (cint, 50, Sum.inl f1)), (h2, Sum.inl (cint, 24, Sum.inl x))] H ∧ va_D A [(h0, Sum.inr (5, [Value.ref h1, Value.int n0_size, Value.ref h2, Value.int n0_ran])), (h1, Sum.inl (cint, 50, Sum.inl f1)), (h2, Sum.inl (cint, 24, Sum.inl x))] ∧ va_S A s.heap H locs ∧ lv_has ls 8 [(7, .int 80), (6, .int 7), (0, .ref h0), (1, .int p0), (2, .int 7), (3, .int 0), (4, .int p3), (5, .int p4)]) ?_ (fun hcut_273 => ?_)
          · rintro f_273_0 H locs ls ⟨hP, hD, hS, hl⟩
            have hl : lv_has ls 8 [(7, .int 80), (6, .int 7), (0, .ref h0), (1, .int p0), (2, .int 7), (3, .int 0), (4, .int p3), (5, .int p4)] := hl
            have hP : va_P (dC, dI) vwCl [(h0, Sum.inr (5, [Value.ref h1, Value.int n0_size, Value.ref h2, Value.int n0_ran])), (h1, Sum.inl (cint, 50, Sum.inl f1)), (h2, Sum.inl (cint, 24, Sum.inl f_273_0))] H := hP
            have hD : va_D A [(h0, Sum.inr (5, [Value.ref h1, Value.int n0_size, Value.ref h2, Value.int n0_ran])), (h1, Sum.inl (cint, 50, Sum.inl f1)), (h2, Sum.inl (cint, 24, Sum.inl f_273_0))] := hD
            refine lv_aload_n hx hb dX5_call_97 rfl (lv_at hl 2 rfl) ?_
            refine lv_dup hx hb dX5_call_98 rfl ?_
            refine va_get (D := (dC, dI)) (ci := 5) (v := .int n0_ran) (C := RX5) (T := TX5) (N := 4) hx hb hts (fun _ h => List.mem_cons_of_mem _ (List.mem_append_right _ h)) hown hK hP 0 rfl rfl 3 (by decide) (hts (.fieldLink RX5 36 "KinkStreet$Lines" "ran" "I") (List.mem_of_getElem? (i := 3) rfl)) (fun _ h9 => h9) rfl dX5_call_99 ?_
            refine lv_iconst (v := 1) hx hb dX5_call_102 (by decide) ?_
            refine lv_iadd hx hb dX5_call_103 ?_
            refine va_put (D := (dC, dI)) (ci := 5) (v := .int (n0_ran + 1)) (ty := .int) (C := RX5) (T := TX5) (N := 4) hx hb hts (fun _ h => List.mem_cons_of_mem _ (List.mem_append_right _ h)) tyX5 tyX5_ok nmX5 hown hK hP hD hS 0 rfl rfl 3 (by decide) (hts (.fieldLink RX5 36 "KinkStreet$Lines" "ran" "I") (List.mem_of_getElem? (i := 3) rfl)) (fun _ h9 => h9) rfl (by decide +kernel) rfl rfl (Nat.le_of_ble_eq_true rfl) dX5_call_104 (fun H locs hP hD hS => ?_)
            have hP : va_P (dC, dI) vwCl [(h0, Sum.inr (5, [Value.ref h1, Value.int n0_size, Value.ref h2, Value.int (n0_ran + 1)])), (h1, Sum.inl (cint, 50, Sum.inl f1)), (h2, Sum.inl (cint, 24, Sum.inl f_273_0))] H := hP
            have hD : va_D A [(h0, Sum.inr (5, [Value.ref h1, Value.int n0_size, Value.ref h2, Value.int (n0_ran + 1)])), (h1, Sum.inl (cint, 50, Sum.inl f1)), (h2, Sum.inl (cint, 24, Sum.inl f_273_0))] := hD
            refine lv_iload hx hb dX5_call_107 (lv_at hl 1 rfl) ?_
            refine lv_if_ne (tgt := 128) hx hb dX5_call_109 (by decide) (fun _ => ?_) (fun c => absurd c (by decide))
            refine lv_aload_n hx hb dX5_call_128 rfl (lv_at hl 2 rfl) ?_
            refine lv_iload_n hx hb dX5_call_129 rfl (lv_at hl 3 rfl) ?_
            refine lv_iload hx hb dX5_call_130 (lv_at hl 1 rfl) ?_
            refine lv_iload hx hb dX5_call_132 (lv_at hl 0 rfl) ?_
            refine lv_iload hx hb dX5_call_134 (lv_at hl 6 rfl) ?_
            refine lv_iload hx hb dX5_call_136 (lv_at hl 7 rfl) ?_
            refine lv_iconst (v := 1) hx hb dX5_call_138 (by decide) ?_
            refine lv_iadd hx hb dX5_call_139 ?_
            obtain ⟨hPc, hDc, hFc⟩ := kk_cutout (wc := [(h0, Sum.inr (5, [Value.ref h1, Value.int n0_size, Value.ref h2, Value.int (n0_ran + 1)])), (h1, Sum.inl (cint, 50, Sum.inl f1)), (h2, Sum.inl (cint, 24, Sum.inl f_273_0))]) hP hD hS hA [0, 1, 2] (by decide) rfl
            have hKc := hK.sub (tys' := [(cint, .int)]) [0] rfl
            refine va_calli (va_runV (As := [.int p0, .int 7, .int 80, .int p3, .int (p4 + 1)]) (rest := []) ⟨hx, hb, hml, hown, hts⟩ (g_X5_runUnder_8 l dC dI h0 h1 h2 cint H.size p0 p3 (p4 + 1) n0_size (n0_ran + 1) f1 f_273_0 tn0_size (by show 0 ≤ ((n0_ran + 1) : Int32).toInt ∧ ((n0_ran + 1) : Int32).toInt ≤ 998; first | decide | (constructor <;> (have := kk_rng p4; have := kk_add2 (x := n0_ran) (y := 1) (a := n0_ran.toInt) (b := 1) rfl rfl (by omega) (by omega); have := kk_rng p4; have := kk_add2 (x := p4) (y := 1) (a := p4.toInt) (b := 1) rfl rfl (by omega) (by omega); omega))) bf1 aOWN_BODIES aABOVE) (cwV 5 hts gX5_call_X5_runUnder rfl rfl rfl (by decide +kernel) ⟨Nat.le_of_ble_eq_true rfl, Nat.le_of_ble_eq_true rfl⟩) ⟨fun a U g mk q => by obtain ⟨q0, q1, qP, qK, qD, qx0, qx1, qx2, qx3⟩ := q; exact ⟨q0, q1, qP, va_K.moved (u := U) (U := U.calling g mk a) (Vm.Alike.refl U.vm) qK, qD, va_Z.moved (u := U) (U := U.calling g mk a) (Vm.Alike.refl U.vm) qx0, va_T.moved (u := U) (U := U.calling g mk a) (Vm.Alike.refl U.vm) qx1, va_Z.moved (u := U) (U := U.calling g mk a) (Vm.Alike.refl U.vm) qx2, va_T.moved (u := U) (U := U.calling g mk a) (Vm.Alike.refl U.vm) qx3⟩, va_recv hKc hPc (ci := 5) (q0 := 0) rfl rfl, fun U hU hW => ⟨rfl, by rw [hU], by rw [hU]; exact hPc, va_K.moved hW.alike hKc, hDc.weaken (fun _ _ _ _ => trivial), by rw [hU]; exact ((hZOWN_BODIES.kept (fun a h1 h2 => hS.2.1 a h1 h2)).narrow hFc).moved hW.alike, by rw [hU]; exact ((hTOWN_BODIES.kept (fun a h1 h2 => hS.2.1 a h1 h2)).narrow hFc).moved hW.alike, by rw [hU]; exact ((hZABOVE.kept (fun a h1 h2 => hS.2.1 a h1 h2)).narrow hFc).moved hW.alike, by rw [hU]; exact ((hTABOVE.kept (fun a h1 h2 => hS.2.1 a h1 h2)).narrow hFc).moved hW.alike⟩⟩ rfl rfl hl.1 rfl (lv_room (Nat.le_of_ble_eq_true rfl)) dX5_call_140 ⟨Nat.le_of_ble_eq_true rfl, Nat.le_of_ble_eq_true rfl⟩) hS (fun q _ h => hFc q h) hFc (fun r_274 u t H1 locs ht hvm hw hB hz1 hk1 hS => ?_)
            obtain ⟨y_275, f_276, by_275, v_276_0, hP1, hK1, hD1⟩ := hB
            have v_276_0 : y_275.toInt ≤ (n0_ran + 1).toInt + 2 := v_276_0
            rw [ht] at hP1
            have hK1 := va_K.moved hvm.symm hK1
            obtain ⟨hP, hD⟩ := va_join (wr := []) (w1 := [(h0, Sum.inr (5, [Value.ref h1, Value.int n0_size, Value.ref h2, Value.int y_275])), (h1, Sum.inl (cint, 50, Sum.inl f1)), (h2, Sum.inl (cint, 24, Sum.inl f_276))]) hP hD [0, 1, 2] [] rfl rfl (by decide) (by decide) hk1 hFc hP1 hD1
            generalize H1 = H at hP hS ⊢
            have hP : va_P (dC, dI) vwCl [(h0, Sum.inr (5, [Value.ref h1, Value.int n0_size, Value.ref h2, Value.int y_275])), (h1, Sum.inl (cint, 50, Sum.inl f1)), (h2, Sum.inl (cint, 24, Sum.inl f_276))] H := hP
            have hD : va_D A [(h0, Sum.inr (5, [Value.ref h1, Value.int n0_size, Value.ref h2, Value.int y_275])), (h1, Sum.inl (cint, 50, Sum.inl f1)), (h2, Sum.inl (cint, 24, Sum.inl f_276))] := hD
            obtain ⟨hP9, hD9⟩ := kk_leafout (wc := [(h0, Sum.inr (5, [Value.ref h1, Value.int n0_size, Value.ref h2, Value.int y_275])), (h1, Sum.inl (cint, 50, Sum.inl f1)), (h2, Sum.inl (cint, 24, Sum.inl f_276))]) hP hD [0, 1, 2] (by decide) rfl
            have hK9 := hK.sub (tys' := []) [] rfl
            exact W.iret (v := r_274) hx hb hr (fun t ht hW => ⟨⟨r_274, (), rfl, trivial, y_275, f_276, (by show 0 ≤ (y_275 : Int32).toInt ∧ (y_275 : Int32).toInt ≤ 1000; first | decide | (constructor <;> (have := kk_rng p4; have := kk_add2 (x := n0_ran) (y := 1) (a := n0_ran.toInt) (b := 1) rfl rfl (by omega) (by omega); have := kk_rng p4; have := kk_add2 (x := p4) (y := 1) (a := p4.toInt) (b := 1) rfl rfl (by omega) (by omega); omega))), (by show (y_275 : Int32).toInt ≤ (n0_ran : Int32).toInt + 3; first | decide | (have := kk_rng p4; have := kk_add2 (x := n0_ran) (y := 1) (a := n0_ran.toInt) (b := 1) rfl rfl (by omega) (by omega); have := kk_rng p4; have := kk_add2 (x := p4) (y := 1) (a := p4.toInt) (b := 1) rfl rfl (by omega) (by omega); omega)), by rw [ht]; exact hP9, va_K.moved hW.alike hK9, hD9⟩, hS.F ht⟩) hS.2.2 dX5_call_143
          · skip
            refine lv_icmp_ge (tgt := 97) hx hb dX5_call_83 (by decide) (fun c_277 => ?_) (fun c_277 => ?_)
            · have t_277 : 24 ≤ n0_ran.toInt := kk_le c_277
              exact hcut_273 (f2) _ _ _ ⟨hP, hD, hS, lv_sub hl [0, 1, 2, 3, 4, 5, 6, 7] rfl⟩
            · have t_277 : n0_ran.toInt < 24 := kk_nle c_277
              refine lv_aload_n hx hb dX5_call_86 rfl (lv_at hl 2 rfl) ?_
              refine va_get (D := (dC, dI)) (ci := 5) (v := .ref h2) (C := RX5) (T := TX5) (N := 4) hx hb hts (fun _ h => List.mem_cons_of_mem _ (List.mem_append_right _ h)) hown hK hP 0 rfl rfl 2 (by decide) (hts (.fieldLink RX5 15 "KinkStreet$Lines" "trace" "[I") (List.mem_of_getElem? (i := 4) rfl)) (fun _ h9 => h9) rfl dX5_call_87 ?_
              refine lv_aload_n hx hb dX5_call_90 rfl (lv_at hl 2 rfl) ?_
              refine va_get (D := (dC, dI)) (ci := 5) (v := .int n0_ran) (C := RX5) (T := TX5) (N := 4) hx hb hts (fun _ h => List.mem_cons_of_mem _ (List.mem_append_right _ h)) hown hK hP 0 rfl rfl 3 (by decide) (hts (.fieldLink RX5 36 "KinkStreet$Lines" "ran" "I") (List.mem_of_getElem? (i := 3) rfl)) (fun _ h9 => h9) rfl dX5_call_91 ?_
              refine lv_iload hx hb dX5_call_94 (lv_at hl 0 rfl) ?_
              refine va_iast hx hb hK hP hD hS 2 0 rfl rfl (vp_in_iff.mpr ⟨by have := kk_rng p4; omega, by have := kk_rng p4; omega⟩) dX5_call_96 (fun H locs hP hD hS => ?_)
              generalize upd f2 (n0_ran : Int32).toNatClampNeg 80 = f_278 at hP hD
              have hP : va_P (dC, dI) vwCl [(h0, Sum.inr (5, [Value.ref h1, Value.int n0_size, Value.ref h2, Value.int n0_ran])), (h1, Sum.inl (cint, 50, Sum.inl f1)), (h2, Sum.inl (cint, 24, Sum.inl f_278))] H := hP
              have hD : va_D A [(h0, Sum.inr (5, [Value.ref h1, Value.int n0_size, Value.ref h2, Value.int n0_ran])), (h1, Sum.inl (cint, 50, Sum.inl f1)), (h2, Sum.inl (cint, 24, Sum.inl f_278))] := hD
              exact hcut_273 (f_278) _ _ _ ⟨hP, hD, hS, lv_sub hl [0, 1, 2, 3, 4, 5, 6, 7] rfl⟩
        · have t_268 : 40 < p4.toInt := kk_nle c_268
          refine lv_iconst (v := 0) hx hb dX5_call_63 (by decide) ?_
          obtain ⟨hP9, hD9⟩ := kk_leafout (wc := [(h0, Sum.inr (5, [Value.ref h1, Value.int n0_size, Value.ref h2, Value.int n0_ran])), (h1, Sum.inl (cint, 50, Sum.inl f1)), (h2, Sum.inl (cint, 24, Sum.inl f2))]) hP hD [0, 1, 2] (by decide) rfl
          have hK9 := hK.sub (tys' := []) [] rfl
          exact W.iret (v := 0) hx hb hr (fun t ht hW => ⟨⟨0, (), rfl, trivial, n0_ran, f2, (by show 0 ≤ (n0_ran : Int32).toInt ∧ (n0_ran : Int32).toInt ≤ 1000; first | decide | (constructor <;> (have := kk_rng p4; omega))), (by show (n0_ran : Int32).toInt ≤ (n0_ran : Int32).toInt + 3; first | decide | (have := kk_rng p4; omega)), by rw [ht]; exact hP9, va_K.moved hW.alike hK9, hD9⟩, hS.F ht⟩) hS.2.2 dX5_call_64
