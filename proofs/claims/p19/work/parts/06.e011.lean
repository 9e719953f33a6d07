set_option maxHeartbeats 4000000 in
set_option maxRecDepth 100000 in
theorem g_X5_call_7 (l : Launch) (dC : Nat → ClassId) (dI : Nat → Nat → Nat) (h0 : Nat) (h1 : Nat) (h2 : Nat) (cint : ClassId) (sz : Nat) (p0 : Int32) (p1 : Int32) (p3 : Int32) (p4 : Int32) (tp1 : (-1) ≤ p1.toInt ∧ p1.toInt ≤ 7) (n0_size : Int32) (n0_ran : Int32) (f1 : Nat → Int32) (f2 : Nat → Int32) (tn0_size : 0 ≤ n0_size.toInt ∧ n0_size.toInt ≤ 50) (tn0_ran : 0 ≤ n0_ran.toInt ∧ n0_ran.toInt ≤ 994) (bf1 : ∀ j, j < 50 → 0 ≤ (f1 j).toInt ∧ (f1 j).toInt ≤ 7) (aOWN_BODIES : Nat) (aABOVE : Nat) : Met l yX5_call wsX5_call ({ frames := 9, cells := 0, slots := 0, locals := 229 }) (va_Pc [.ref h0, .int p0, .int p1, .int 2, .int p3, .int p4] (fun U => U.heap.size = sz ∧ va_P (dC, dI) vwCl [(h0, Sum.inr (5, [Value.ref h1, Value.int n0_size, Value.ref h2, Value.int n0_ran])), (h1, Sum.inl (cint, 50, Sum.inl f1)), (h2, Sum.inl (cint, 24, Sum.inl f2))] U.heap ∧ va_K (dC, dI) vwCl [(cint, .int)] U ∧ va_D (fun _ => True) [(h0, Sum.inr (5, [Value.ref h1, Value.int n0_size, Value.ref h2, Value.int n0_ran])), (h1, Sum.inl (cint, 50, Sum.inl f1)), (h2, Sum.inl (cint, 24, Sum.inl f2))] ∧ va_Z "KinkStreet$Lines" "OWN_BODIES" "[I" (.ref aOWN_BODIES) (va_A [(h0, Sum.inr (5, [Value.ref h1, Value.int n0_size, Value.ref h2, Value.int n0_ran])), (h1, Sum.inl (cint, 50, Sum.inl f1)), (h2, Sum.inl (cint, 24, Sum.inl f2))] sz) U U.heap ∧ va_T .int aOWN_BODIES 32 tb_OWN_BODIES (va_A [(h0, Sum.inr (5, [Value.ref h1, Value.int n0_size, Value.ref h2, Value.int n0_ran])), (h1, Sum.inl (cint, 50, Sum.inl f1)), (h2, Sum.inl (cint, 24, Sum.inl f2))] sz) U U.heap ∧ va_Z "KinkStreet$Lines" "ABOVE" "[I" (.ref aABOVE) (va_A [(h0, Sum.inr (5, [Value.ref h1, Value.int n0_size, Value.ref h2, Value.int n0_ran])), (h1, Sum.inl (cint, 50, Sum.inl f1)), (h2, Sum.inl (cint, 24, Sum.inl f2))] sz) U U.heap ∧ va_T .int aABOVE 8 tb_ABOVE (va_A [(h0, Sum.inr (5, [Value.ref h1, Value.int n0_size, Value.ref h2, Value.int n0_ran])), (h1, Sum.inl (cint, 50, Sum.inl f1)), (h2, Sum.inl (cint, 24, Sum.inl f2))] sz) U U.heap)) (va_Qi (fun (r : Int32) (_ : Unit) => True) (fun (_ : Unit) t => ∃ (m0_ran : Int32) (g2 : Nat → Int32), (0 ≤ m0_ran.toInt ∧ m0_ran.toInt ≤ 1000) ∧ (m0_ran.toInt ≤ n0_ran.toInt + 6) ∧ va_P (dC, dI) vwCl [(h0, Sum.inr (5, [Value.ref h1, Value.int n0_size, Value.ref h2, Value.int m0_ran])), (h1, Sum.inl (cint, 50, Sum.inl f1)), (h2, Sum.inl (cint, 24, Sum.inl g2))] t.heap ∧ va_K (dC, dI) vwCl [] t ∧ va_D (va_A [(h0, Sum.inr (5, [Value.ref h1, Value.int n0_size, Value.ref h2, Value.int n0_ran])), (h1, Sum.inl (cint, 50, Sum.inl f1)), (h2, Sum.inl (cint, 24, Sum.inl f2))] sz) [(h0, Sum.inr (5, [Value.ref h1, Value.int n0_size, Value.ref h2, Value.int m0_ran])), (h1, Sum.inl (cint, 50, Sum.inl f1)), (h2, Sum.inl (cint, 24, Sum.inl g2))]) (va_A [(h0, Sum.inr (5, [Value.ref h1, Value.int n0_size, Value.ref h2, Value.int n0_ran])), (h1, Sum.inl (cint, 50, Sum.inl f1)), (h2, Sum.inl (cint, 24, Sum.inl f2))] sz)) 0 0 (va_A [(h0, Sum.inr (5, [Value.ref h1, Value.int n0_size, Value.ref h2, Value.int n0_ran])), (h1, Sum.inl (cint, 50, Sum.inl f1)), (h2, Sum.inl (cint, 24, Sum.inl f2))] sz) := by
  refine Met.ofW (cc := cX5_call) (maxL := 8) (ret := (some .int)) (by decide) rfl ?_
  intro p e s m args below meth c s₁ B hml hv
  obtain ⟨rfl, hsz, hP, hK, hD0, hZOWN_BODIES, hTOWN_BODIES, hZABOVE, hTABOVE⟩ := hv
  have hx := B.exec
  have hb := B.bytes
  have hr := B.returns
  have hts := atoms_spec (ws := wsX5_call) B.pre
  have hown : s.vm.findClass RX5 = some m.cls := findClass_of_methodNamed B.named
  have hlocks := B.notSynchronized
  subst hsz
  have hD := hD0.self (sz := s.heap.size)
  generalize hAe : va_A [(h0, Sum.inr (5, [Value.ref h1, Value.int n0_size, Value.ref h2, Value.int n0_ran])), (h1, Sum.inl (cint, 50, Sum.inl f1)), (h2, Sum.inl (cint, 24, Sum.inl f2))] s.heap.size = A at hD hZOWN_BODIES hTOWN_BODIES hZABOVE hTABOVE ⊢
  have hA : ∀ q : Nat, s.heap.size ≤ q → A q := fun q h => by rw [← hAe]; exact Or.inr h
  have hS : va_S A s.heap s.heap [] := va_S.rf
  have hP : va_P (dC, dI) vwCl [(h0, Sum.inr (5, [Value.ref h1, Value.int n0_size, Value.ref h2, Value.int n0_ran])), (h1, Sum.inl (cint, 50, Sum.inl f1)), (h2, Sum.inl (cint, 24, Sum.inl f2))] s.heap := hP
  have hl := lv_entry ([.ref h0, .int p0, .int p1, .int 2, .int p3, .int p4]) (n := 8) (Nat.le_of_ble_eq_true rfl)
  rw [lg_entry_eq]
  generalize (lg_sl ([.ref h0, .int p0, .int p1, .int 2, .int p3, .int p4]) ++ List.replicate (8 - (lg_sl ([.ref h0, .int p0, .int p1, .int 2, .int p3, .int p4])).length) Slot.unset).toArray = ls at hl ⊢
  have hl : lv_has ls 8 [(0, .ref h0), (1, .int p0), (2, .int p1), (3, .int 2), (4, .int p3), (5, .int p4)] := hl
  rcases (show p1 = (-1) ∨ p1 = 0 ∨ p1 = 1 ∨ p1 = 2 ∨ p1 = 3 ∨ p1 = 4 ∨ p1 = 5 ∨ p1 = 6 ∨ p1 = 7 from by simp only [← Int32.toInt_inj]; simp; omega) with e_1 | e_1 | e_1 | e_1 | e_1 | e_1 | e_1 | e_1 | e_1
  · have t_1 : p1.toInt = (-1) := by rw [e_1]; rfl
    subst e_1
    refine lv_iload_n hx hb dX5_call_0 rfl (lv_at hl 2 rfl) ?_
    refine lv_istore (lv' := [(6, .int (-1)), (0, .ref h0), (1, .int p0), (2, .int (-1)), (3, .int 2), (4, .int p3), (5, .int p4)]) hx hb dX5_call_1 hl (by decide) rfl (fun ls hl => ?_)
    refine lv_iconst (v := 0) hx hb dX5_call_3 (by decide) ?_
    refine lv_istore (lv' := [(7, .int 0), (6, .int (-1)), (0, .ref h0), (1, .int p0), (2, .int (-1)), (3, .int 2), (4, .int p3), (5, .int p4)]) hx hb dX5_call_4 hl (by decide) rfl (fun ls hl => ?_)
    refine lv_iload hx hb dX5_call_6 (lv_at hl 0 rfl) ?_
    refine lv_bipush (v := 8) hx hb dX5_call_8 (by decide) ?_
    refine lv_icmp_ge (tgt := 48) hx hb dX5_call_10 (by decide) (fun c => absurd c (by decide)) (fun _ => ?_)
    refine lv_iload hx hb dX5_call_13 (lv_at hl 1 rfl) ?_
    obtain ⟨hPc, hDc, hFc⟩ := kk_cutout (wc := []) hP hD hS hA [] (by decide) rfl
    have hKc := hK.sub (tys' := []) [] rfl
    refine va_calli (va_runS (As := [.int (-1)]) (rest := []) ⟨hx, hb, hml, hown, hts⟩ (g_X5_isKind_0 l dC dI s.heap.size (-1)) (va_cwS 1 hts gX5_call_X5_isKind rfl rfl rfl (by decide +kernel) ⟨Nat.le_of_ble_eq_true rfl, Nat.le_of_ble_eq_true rfl⟩) ⟨fun a U g mk q => by obtain ⟨q0, q1, qP, qK, qD⟩ := q; exact ⟨q0, q1, qP, va_K.moved (u := U) (U := U.calling g mk a) (Vm.Alike.refl U.vm) qK, qD⟩, fun U hU hW => ⟨rfl, by rw [hU], by rw [hU]; exact hPc, va_K.moved hW.alike hKc, hDc.weaken (fun _ _ _ _ => trivial)⟩⟩ rfl rfl hl.1 rfl (lv_room (Nat.le_of_ble_eq_true rfl)) dX5_call_15 ⟨Nat.le_of_ble_eq_true rfl, Nat.le_of_ble_eq_true rfl⟩) hS (fun q _ h => hFc q h) hFc (fun r_2 u t H1 locs ht hvm hw hB hz1 hk1 hS => ?_)
    obtain ⟨hP1, hK1, hD1⟩ := hB
    rw [ht] at hP1
    have hK1 := va_K.moved hvm.symm hK1
    obtain ⟨hP, hD⟩ := va_join (wr := [(h0, Sum.inr (5, [Value.ref h1, Value.int n0_size, Value.ref h2, Value.int n0_ran])), (h1, Sum.inl (cint, 50, Sum.inl f1)), (h2, Sum.inl (cint, 24, Sum.inl f2))]) (w1 := []) hP hD [] [0, 1, 2] rfl rfl (by decide) (by decide) hk1 hFc hP1 hD1
    generalize H1 = H at hP hS ⊢
    have hP : va_P (dC, dI) vwCl [(h0, Sum.inr (5, [Value.ref h1, Value.int n0_size, Value.ref h2, Value.int n0_ran])), (h1, Sum.inl (cint, 50, Sum.inl f1)), (h2, Sum.inl (cint, 24, Sum.inl f2))] H := hP
    have hD : va_D A [(h0, Sum.inr (5, [Value.ref h1, Value.int n0_size, Value.ref h2, Value.int n0_ran])), (h1, Sum.inl (cint, 50, Sum.inl f1)), (h2, Sum.inl (cint, 24, Sum.inl f2))] := hD
    rcases hw with ⟨rfl⟩ | ⟨t_2_0, t_2_1, rfl⟩
    · skip
      refine lv_if_eq (tgt := 48) hx hb dX5_call_18 (by decide) (fun _ => ?_) (fun c => absurd c (by decide))
      refine lv_iload hx hb dX5_call_48 (lv_at hl 1 rfl) ?_
      obtain ⟨hPc, hDc, hFc⟩ := kk_cutout (wc := []) hP hD hS hA [] (by decide) rfl
      have hKc := hK.sub (tys' := []) [] rfl
      refine va_calli (va_runS (As := [.int (-1)]) (rest := []) ⟨hx, hb, hml, hown, hts⟩ (g_X5_isKind_0 l dC dI H.size (-1)) (va_cwS 1 hts gX5_call_X5_isKind rfl rfl rfl (by decide +kernel) ⟨Nat.le_of_ble_eq_true rfl, Nat.le_of_ble_eq_true rfl⟩) ⟨fun a U g mk q => by obtain ⟨q0, q1, qP, qK, qD⟩ := q; exact ⟨q0, q1, qP, va_K.moved (u := U) (U := U.calling g mk a) (Vm.Alike.refl U.vm) qK, qD⟩, fun U hU hW => ⟨rfl, by rw [hU], by rw [hU]; exact hPc, va_K.moved hW.alike hKc, hDc.weaken (fun _ _ _ _ => trivial)⟩⟩ rfl rfl hl.1 rfl (lv_room (Nat.le_of_ble_eq_true rfl)) dX5_call_50 ⟨Nat.le_of_ble_eq_true rfl, Nat.le_of_ble_eq_true rfl⟩) hS (fun q _ h => hFc q h) hFc (fun r_3 u t H1 locs ht hvm hw hB hz1 hk1 hS => ?_)
      obtain ⟨hP1, hK1, hD1⟩ := hB
      rw [ht] at hP1
      have hK1 := va_K.moved hvm.symm hK1
      obtain ⟨hP, hD⟩ := va_join (wr := [(h0, Sum.inr (5, [Value.ref h1, Value.int n0_size, Value.ref h2, Value.int n0_ran])), (h1, Sum.inl (cint, 50, Sum.inl f1)), (h2, Sum.inl (cint, 24, Sum.inl f2))]) (w1 := []) hP hD [] [0, 1, 2] rfl rfl (by decide) (by decide) hk1 hFc hP1 hD1
      generalize H1 = H at hP hS ⊢
      have hP : va_P (dC, dI) vwCl [(h0, Sum.inr (5, [Value.ref h1, Value.int n0_size, Value.ref h2, Value.int n0_ran])), (h1, Sum.inl (cint, 50, Sum.inl f1)), (h2, Sum.inl (cint, 24, Sum.inl f2))] H := hP
      have hD : va_D A [(h0, Sum.inr (5, [Value.ref h1, Value.int n0_size, Value.ref h2, Value.int n0_ran])), (h1, Sum.inl (cint, 50, Sum.inl f1)), (h2, Sum.inl (cint, 24, Sum.inl f2))] := hD
      rcases hw with ⟨rfl⟩ | ⟨t_3_0, t_3_1, rfl⟩
      · skip
        refine lv_if_eq (tgt := 63) hx hb dX5_call_53 (by decide) (fun _ => ?_) (fun c => absurd c (by decide))
        refine lv_iconst (v := 0) hx hb dX5_call_63 (by decide) ?_
        obtain ⟨hP9, hD9⟩ := kk_leafout (wc := [(h0, Sum.inr (5, [Value.ref h1, Value.int n0_size, Value.ref h2, Value.int n0_ran])), (h1, Sum.inl (cint, 50, Sum.inl f1)), (h2, Sum.inl (cint, 24, Sum.inl f2))]) hP hD [0, 1, 2] (by decide) rfl
        have hK9 := hK.sub (tys' := []) [] rfl
        exact W.iret (v := 0) hx hb hr (fun t ht hW => ⟨⟨0, (), rfl, trivial, n0_ran, f2, (by show 0 ≤ (n0_ran : Int32).toInt ∧ (n0_ran : Int32).toInt ≤ 1000; first | decide | (constructor <;> (omega))), (by show (n0_ran : Int32).toInt ≤ (n0_ran : Int32).toInt + 6; first | decide | (omega)), by rw [ht]; exact hP9, va_K.moved hW.alike hK9, hD9⟩, hS.F ht⟩) hS.2.2 dX5_call_64
      · have t_3_0 : (0 : Int) ≤ (-1) := t_3_0; have t_3_1 : ((-1) : Int) < 8 := t_3_1; exfalso; omega
    · have t_2_0 : (0 : Int) ≤ (-1) := t_2_0; have t_2_1 : ((-1) : Int) < 8 := t_2_1; exfalso; omega
  · have t_1 : p1.toInt = 0 := by rw [e_1]; rfl
    subst e_1
    refine lv_iload_n hx hb dX5_call_0 rfl (lv_at hl 2 rfl) ?_
    refine lv_istore (lv' := [(6, .int 0), (0, .ref h0), (1, .int p0), (2, .int 0), (3, .int 2), (4, .int p3), (5, .int p4)]) hx hb dX5_call_1 hl (by decide) rfl (fun ls hl => ?_)
    refine lv_iconst (v := 0) hx hb dX5_call_3 (by decide) ?_
    refine lv_istore (lv' := [(7, .int 0), (6, .int 0), (0, .ref h0), (1, .int p0), (2, .int 0), (3, .int 2), (4, .int p3), (5, .int p4)]) hx hb dX5_call_4 hl (by decide) rfl (fun ls hl => ?_)
    refine lv_iload hx hb dX5_call_6 (lv_at hl 0 rfl) ?_
    refine lv_bipush (v := 8) hx hb dX5_call_8 (by decide) ?_
    refine lv_icmp_ge (tgt := 48) hx hb dX5_call_10 (by decide) (fun c => absurd c (by decide)) (fun _ => ?_)
    refine lv_iload hx hb dX5_call_13 (lv_at hl 1 rfl) ?_
    obtain ⟨hPc, hDc, hFc⟩ := kk_cutout (wc := []) hP hD hS hA [] (by decide) rfl
    have hKc := hK.sub (tys' := []) [] rfl
    refine va_calli (va_runS (As := [.int 0]) (rest := []) ⟨hx, hb, hml, hown, hts⟩ (g_X5_isKind_0 l dC dI s.heap.size 0) (va_cwS 1 hts gX5_call_X5_isKind rfl rfl rfl (by decide +kernel) ⟨Nat.le_of_ble_eq_true rfl, Nat.le_of_ble_eq_true rfl⟩) ⟨fun a U g mk q => by obtain ⟨q0, q1, qP, qK, qD⟩ := q; exact ⟨q0, q1, qP, va_K.moved (u := U) (U := U.calling g mk a) (Vm.Alike.refl U.vm) qK, qD⟩, fun U hU hW => ⟨rfl, by rw [hU], by rw [hU]; exact hPc, va_K.moved hW.alike hKc, hDc.weaken (fun _ _ _ _ => trivial)⟩⟩ rfl rfl hl.1 rfl (lv_room (Nat.le_of_ble_eq_true rfl)) dX5_call_15 ⟨Nat.le_of_ble_eq_true rfl, Nat.le_of_ble_eq_true rfl⟩) hS (fun q _ h => hFc q h) hFc (fun r_4 u t H1 locs ht hvm hw hB hz1 hk1 hS => ?_)
    obtain ⟨hP1, hK1, hD1⟩ := hB
    rw [ht] at hP1
    have hK1 := va_K.moved hvm.symm hK1
    obtain ⟨hP, hD⟩ := va_join (wr := [(h0, Sum.inr (5, [Value.ref h1, Value.int n0_size, Value.ref h2, Value.int n0_ran])), (h1, Sum.inl (cint, 50, Sum.inl f1)), (h2, Sum.inl (cint, 24, Sum.inl f2))]) (w1 := []) hP hD [] [0, 1, 2] rfl rfl (by decide) (by decide) hk1 hFc hP1 hD1
    generalize H1 = H at hP hS ⊢
    have hP : va_P (dC, dI) vwCl [(h0, Sum.inr (5, [Value.ref h1, Value.int n0_size, Value.ref h2, Value.int n0_ran])), (h1, Sum.inl (cint, 50, Sum.inl f1)), (h2, Sum.inl (cint, 24, Sum.inl f2))] H := hP
    have hD : va_D A [(h0, Sum.inr (5, [Value.ref h1, Value.int n0_size, Value.ref h2, Value.int n0_ran])), (h1, Sum.inl (cint, 50, Sum.inl f1)), (h2, Sum.inl (cint, 24, Sum.inl f2))] := hD
    rcases hw with ⟨rfl⟩ | ⟨t_4_0, t_4_1, rfl⟩
    · skip
      refine lv_if_eq (tgt := 48) hx hb dX5_call_18 (by decide) (fun _ => ?_) (fun c => absurd c (by decide))
      refine lv_iload hx hb dX5_call_48 (lv_at hl 1 rfl) ?_
      obtain ⟨hPc, hDc, hFc⟩ := kk_cutout (wc := []) hP hD hS hA [] (by decide) rfl
      have hKc := hK.sub (tys' := []) [] rfl
      refine va_calli (va_runS (As := [.int 0]) (rest := []) ⟨hx, hb, hml, hown, hts⟩ (g_X5_isKind_0 l dC dI H.size 0) (va_cwS 1 hts gX5_call_X5_isKind rfl rfl rfl (by decide +kernel) ⟨Nat.le_of_ble_eq_true rfl, Nat.le_of_ble_eq_true rfl⟩) ⟨fun a U g mk q => by obtain ⟨q0, q1, qP, qK, qD⟩ := q; exact ⟨q0, q1, qP, va_K.moved (u := U) (U := U.calling g mk a) (Vm.Alike.refl U.vm) qK, qD⟩, fun U hU hW => ⟨rfl, by rw [hU], by rw [hU]; exact hPc, va_K.moved hW.alike hKc, hDc.weaken (fun _ _ _ _ => trivial)⟩⟩ rfl rfl hl.1 rfl (lv_room (Nat.le_of_ble_eq_true rfl)) dX5_call_50 ⟨Nat.le_of_ble_eq_true rfl, Nat.le_of_ble_eq_true rfl⟩) hS (fun q _ h => hFc q h) hFc (fun r_5 u t H1 locs ht hvm hw hB hz1 hk1 hS => ?_)
      obtain ⟨hP1, hK1, hD1⟩ := hB
      rw [ht] at hP1
      have hK1 := va_K.moved hvm.symm hK1
      obtain ⟨hP, hD⟩ := va_join (wr := [(h0, Sum.inr (5, [Value.ref h1, Value.int n0_size, Value.ref h2, Value.int n0_ran])), (h1, Sum.inl (cint, 50, Sum.inl f1)), (h2, Sum.inl (cint, 24, Sum.inl f2))]) (w1 := []) hP hD [] [0, 1, 2] rfl rfl (by decide) (by decide) hk1 hFc hP1 hD1
      generalize H1 = H at hP hS ⊢
      have hP : va_P (dC, dI) vwCl [(h0, Sum.inr (5, [Value.ref h1, Value.int n0_size, Value.ref h2, Value.int n0_ran])), (h1, Sum.inl (cint, 50, Sum.inl f1)), (h2, Sum.inl (cint, 24, Sum.inl f2))] H := hP
      have hD : va_D A [(h0, Sum.inr (5, [Value.ref h1, Value.int n0_size, Value.ref h2, Value.int n0_ran])), (h1, Sum.inl (cint, 50, Sum.inl f1)), (h2, Sum.inl (cint, 24, Sum.inl f2))] := hD
      rcases hw with ⟨rfl⟩ | ⟨t_5_0, t_5_1, rfl⟩
      · skip
        refine lv_if_eq (tgt := 63) hx hb dX5_call_53 (by decide) (fun _ => ?_) (fun c => absurd c (by decide))
        refine lv_iconst (v := 0) hx hb dX5_call_63 (by decide) ?_
        obtain ⟨hP9, hD9⟩ := kk_leafout (wc := [(h0, Sum.inr (5, [Value.ref h1, Value.int n0_size, Value.ref h2, Value.int n0_ran])), (h1, Sum.inl (cint, 50, Sum.inl f1)), (h2, Sum.inl (cint, 24, Sum.inl f2))]) hP hD [0, 1, 2] (by decide) rfl
        have hK9 := hK.sub (tys' := []) [] rfl
        exact W.iret (v := 0) hx hb hr (fun t ht hW => ⟨⟨0, (), rfl, trivial, n0_ran, f2, (by show 0 ≤ (n0_ran : Int32).toInt ∧ (n0_ran : Int32).toInt ≤ 1000; first | decide | (constructor <;> (omega))), (by show (n0_ran : Int32).toInt ≤ (n0_ran : Int32).toInt + 6; first | decide | (omega)), by rw [ht]; exact hP9, va_K.moved hW.alike hK9, hD9⟩, hS.F ht⟩) hS.2.2 dX5_call_64
      · skip
        have t_5_0 : (0 : Int) ≤ 0 := t_5_0
        have t_5_1 : (0 : Int) < 8 := t_5_1
        refine lv_if_eq (tgt := 63) hx hb dX5_call_53 (by decide) (fun c => absurd c (by decide)) (fun _ => ?_)
        refine lv_iload hx hb dX5_call_56 (lv_at hl 7 rfl) ?_
        refine lv_bipush (v := 40) hx hb dX5_call_58 (by decide) ?_
        refine lv_icmp_le (tgt := 65) hx hb dX5_call_60 (by decide) (fun c_6 => ?_) (fun c_6 => ?_)
        · have t_6 : p4.toInt ≤ 40 := kk_le c_6
          refine va_gets hx hb hZOWN_BODIES hS hown (hts (.fieldLink RX5 43 "KinkStreet$Lines" "OWN_BODIES" "[I") (List.mem_of_getElem? (i := 1) rfl)) (fun _ h9 => h9) dX5_call_65 ?_
          refine lv_iload hx hb dX5_call_68 (lv_at hl 1 rfl) ?_
          refine lv_iconst (v := 4) hx hb dX5_call_70 (by decide) ?_
          refine lv_imul hx hb dX5_call_71 ?_
          refine lv_topi (fun y_7 e_7 => ?_)
          obtain rfl : y_7 = 0 := e_7.trans (by decide)
          refine lv_iload_n hx hb dX5_call_72 rfl (lv_at hl 5 rfl) ?_
          refine lv_iadd hx hb dX5_call_73 ?_
          refine lv_topi (fun y_8 e_8 => ?_)
          obtain rfl : y_8 = 2 := e_8.trans (by decide)
          refine va_ti (v := .int 11) hx hb hTOWN_BODIES hS (by unfold vp_in; decide) rfl dX5_call_74 ?_
          refine lv_istore (lv' := [(7, .int 11), (6, .int 0), (0, .ref h0), (1, .int p0), (2, .int 0), (3, .int 2), (4, .int p3), (5, .int p4)]) hx hb dX5_call_75 hl (by decide) rfl (fun ls hl => ?_)
          refine lv_aload_n hx hb dX5_call_77 rfl (lv_at hl 2 rfl) ?_
          refine va_get (D := (dC, dI)) (ci := 5) (v := .int n0_ran) (C := RX5) (T := TX5) (N := 4) hx hb hts (fun _ h => List.mem_cons_of_mem _ (List.mem_append_right _ h)) hown hK hP 0 rfl rfl 3 (by decide) (hts (.fieldLink RX5 36 "KinkStreet$Lines" "ran" "I") (List.mem_of_getElem? (i := 3) rfl)) (fun _ h9 => h9) rfl dX5_call_78 ?_
          refine lv_bipush (v := 24) hx hb dX5_call_81 (by decide) ?_
          refine kk_cut (σ := (Nat → Int32)) (pc' := 97) (fun x H locs ls => va_P (dC, dI) vwCl [(h0, Sum.inr (5, [Value.ref h1, Value.int n0_size, Value.ref h2, Value.int n0_ran])), (h1, Sum.inl (cint, 50, Sum.inl f1)), (h2, Sum.inl (cint, 24, Sum.inl x))] H ∧ va_D A [(h0, Sum.inr (5, [Value.ref h1, Value.int n0_size, Value.ref h2, Value.int n0_ran])), (h1, Sum.inl (cint, 50, Sum.inl f1)), (h2, Sum.inl (cint, 24, Sum.inl x))] ∧ va_S A s.heap H locs ∧ lv_has ls 8 [(7, .int 11), (6, .int 0), (0, .ref h0), (1, .int p0), (2, .int 0), (3, .int 2), (4, .int p3), (5, .int p4)]) ?_ (fun hcut_11 => ?_)
          · rintro f_11_0 H locs ls ⟨hP, hD, hS, hl⟩
            have hl : lv_has ls 8 [(7, .int 11), (6, .int 0), (0, .ref h0), (1, .int p0), (2, .int 0), (3, .int 2), (4, .int p3), (5, .int p4)] := hl
            have hP : va_P (dC, dI) vwCl [(h0, Sum.inr (5, [Value.ref h1, Value.int n0_size, Value.ref h2, Value.int n0_ran])), (h1, Sum.inl (cint, 50, Sum.inl f1)), (h2, Sum.inl (cint, 24, Sum.inl f_11_0))] H := hP
            have hD : va_D A [(h0, Sum.inr (5, [Value.ref h1, Value.int n0_size, Value.ref h2, Value.int n0_ran])), (h1, Sum.inl (cint, 50, Sum.inl f1)), (h2, Sum.inl (cint, 24, Sum.inl f_11_0))] := hD
            refine lv_aload_n hx hb dX5_call_97 rfl (lv_at hl 2 rfl) ?_
            refine lv_dup hx hb dX5_call_98 rfl ?_
            refine va_get (D := (dC, dI)) (ci := 5) (v := .int n0_ran) (C := RX5) (T := TX5) (N := 4) hx hb hts (fun _ h => List.mem_cons_of_mem _ (List.mem_append_right _ h)) hown hK hP 0 rfl rfl 3 (by decide) (hts (.fieldLink RX5 36 "KinkStreet$Lines" "ran" "I") (List.mem_of_getElem? (i := 3) rfl)) (fun _ h9 => h9) rfl dX5_call_99 ?_
            refine lv_iconst (v := 1) hx hb dX5_call_102 (by decide) ?_
            refine lv_iadd hx hb dX5_call_103 ?_
            refine va_put (D := (dC, dI)) (ci := 5) (v := .int (n0_ran + 1)) (ty := .int) (C := RX5) (T := TX5) (N := 4) hx hb hts (fun _ h => List.mem_cons_of_mem _ (List.mem_append_right _ h)) tyX5 tyX5_ok nmX5 hown hK hP hD hS 0 rfl rfl 3 (by decide) (hts (.fieldLink RX5 36 "KinkStreet$Lines" "ran" "I") (List.mem_of_getElem? (i := 3) rfl)) (fun _ h9 => h9) rfl (by decide +kernel) rfl rfl (Nat.le_of_ble_eq_true rfl) dX5_call_104 (fun H locs hP hD hS => ?_)
            have hP : va_P (dC, dI) vwCl [(h0, Sum.inr (5, [Value.ref h1, Value.int n0_size, Value.ref h2, Value.int (n0_ran + 1)])), (h1, Sum.inl (cint, 50, Sum.inl f1)), (h2, Sum.inl (cint, 24, Sum.inl f_11_0))] H := hP
            have hD : va_D A [(h0, Sum.inr (5, [Value.ref h1, Value.int n0_size, Value.ref h2, Value.int (n0_ran + 1)])), (h1, Sum.inl (cint, 50, Sum.inl f1)), (h2, Sum.inl (cint, 24, Sum.inl f_11_0))] := hD
            refine lv_iload hx hb dX5_call_107 (lv_at hl 1 rfl) ?_
            refine lv_if_ne (tgt := 128) hx hb dX5_call_109 (by decide) (fun c => absurd c (by decide)) (fun _ => ?_)
            refine lv_aload_n hx hb dX5_call_112 rfl (lv_at hl 2 rfl) ?_
            refine lv_iload_n hx hb dX5_call_113 rfl (lv_at hl 3 rfl) ?_
            refine lv_iload hx hb dX5_call_114 (lv_at hl 0 rfl) ?_
            refine lv_iload hx hb dX5_call_116 (lv_at hl 6 rfl) ?_
            refine lv_iload hx hb dX5_call_118 (lv_at hl 7 rfl) ?_
            refine lv_iconst (v := 1) hx hb dX5_call_120 (by decide) ?_
            refine lv_iadd hx hb dX5_call_121 ?_
            obtain ⟨hPc, hDc, hFc⟩ := kk_cutout (wc := [(h0, Sum.inr (5, [Value.ref h1, Value.int n0_size, Value.ref h2, Value.int (n0_ran + 1)])), (h1, Sum.inl (cint, 50, Sum.inl f1))]) hP hD hS hA [0, 1] (by decide) rfl
            have hKc := hK.sub (tys' := [(cint, .int)]) [0] rfl
            refine va_calli (va_runV (As := [.int p0, .int 11, .int p3, .int (p4 + 1)]) (rest := []) ⟨hx, hb, hml, hown, hts⟩ (g_X5_runLine_1 l dC dI h0 h1 h2 cint H.size p0 p3 (p4 + 1) n0_size (n0_ran + 1) f1 tn0_size (by show 0 ≤ ((n0_ran + 1) : Int32).toInt ∧ ((n0_ran + 1) : Int32).toInt ≤ 1000; first | decide | (constructor <;> (have := kk_rng p4; have := kk_add2 (x := n0_ran) (y := 1) (a := n0_ran.toInt) (b := 1) rfl rfl (by omega) (by omega); have := kk_rng p4; have := kk_add2 (x := p4) (y := 1) (a := p4.toInt) (b := 1) rfl rfl (by omega) (by omega); omega))) bf1) (cwV 4 hts gX5_call_X5_runLine rfl rfl rfl (by decide +kernel) ⟨Nat.le_of_ble_eq_true rfl, Nat.le_of_ble_eq_true rfl⟩) ⟨fun a U g mk q => by obtain ⟨q0, q1, qP, qK, qD⟩ := q; exact ⟨q0, q1, qP, va_K.moved (u := U) (U := U.calling g mk a) (Vm.Alike.refl U.vm) qK, qD⟩, va_recv hKc hPc (ci := 5) (q0 := 0) rfl rfl, fun U hU hW => ⟨rfl, by rw [hU], by rw [hU]; exact hPc, va_K.moved hW.alike hKc, hDc.weaken (fun _ _ _ _ => trivial)⟩⟩ rfl rfl hl.1 rfl (lv_room (Nat.le_of_ble_eq_true rfl)) dX5_call_122 ⟨Nat.le_of_ble_eq_true rfl, Nat.le_of_ble_eq_true rfl⟩) hS (fun q _ h => hFc q h) hFc (fun r_12 u t H1 locs ht hvm hw hB hz1 hk1 hS => ?_)
            obtain ⟨hP1, hK1, hD1⟩ := hB
            rw [ht] at hP1
            have hK1 := va_K.moved hvm.symm hK1
            obtain ⟨hP, hD⟩ := va_join (wr := [(h2, Sum.inl (cint, 24, Sum.inl f_11_0))]) (w1 := [(h0, Sum.inr (5, [Value.ref h1, Value.int n0_size, Value.ref h2, Value.int (n0_ran + 1)])), (h1, Sum.inl (cint, 50, Sum.inl f1))]) hP hD [0, 1] [2] rfl rfl (by decide) (by decide) hk1 hFc hP1 hD1
            generalize H1 = H at hP hS ⊢
            have hP : va_P (dC, dI) vwCl [(h2, Sum.inl (cint, 24, Sum.inl f_11_0)), (h0, Sum.inr (5, [Value.ref h1, Value.int n0_size, Value.ref h2, Value.int (n0_ran + 1)])), (h1, Sum.inl (cint, 50, Sum.inl f1))] H := hP
            have hD : va_D A [(h2, Sum.inl (cint, 24, Sum.inl f_11_0)), (h0, Sum.inr (5, [Value.ref h1, Value.int n0_size, Value.ref h2, Value.int (n0_ran + 1)])), (h1, Sum.inl (cint, 50, Sum.inl f1))] := hD
            refine lv_goto (tgt := 143) hx hb dX5_call_125 (by decide) ?_
            obtain ⟨hP9, hD9⟩ := kk_leafout (wc := [(h0, Sum.inr (5, [Value.ref h1, Value.int n0_size, Value.ref h2, Value.int (n0_ran + 1)])), (h1, Sum.inl (cint, 50, Sum.inl f1)), (h2, Sum.inl (cint, 24, Sum.inl f_11_0))]) hP hD [1, 2, 0] (by decide) rfl
            have hK9 := hK.sub (tys' := []) [] rfl
            exact W.iret (v := r_12) hx hb hr (fun t ht hW => ⟨⟨r_12, (), rfl, trivial, (n0_ran + 1), f_11_0, (by show 0 ≤ ((n0_ran + 1) : Int32).toInt ∧ ((n0_ran + 1) : Int32).toInt ≤ 1000; first | decide | (constructor <;> (have := kk_rng p4; have := kk_add2 (x := n0_ran) (y := 1) (a := n0_ran.toInt) (b := 1) rfl rfl (by omega) (by omega); have := kk_rng p4; have := kk_add2 (x := p4) (y := 1) (a := p4.toInt) (b := 1) rfl rfl (by omega) (by omega); omega))), (by show ((n0_ran + 1) : Int32).toInt ≤ (n0_ran : Int32).toInt + 6; first | decide | (have := kk_rng p4; have := kk_add2 (x := n0_ran) (y := 1) (a := n0_ran.toInt) (b := 1) rfl rfl (by omega) (by omega); have := kk_rng p4; have := kk_add2 (x := p4) (y := 1) (a := p4.toInt) (b := 1) rfl rfl (by omega) (by omega); omega)), by rw [ht]; exact hP9, va_K.moved hW.alike hK9, hD9⟩, hS.F ht⟩) hS.2.2 dX5_call_143
          · skip
            refine lv_icmp_ge (tgt := 97) hx hb dX5_call_83 (by decide) (fun c_13 => ?_) (fun c_13 => ?_)
            · have t_13 : 24 ≤ n0_ran.toInt := kk_le c_13
              exact hcut_11 (f2) _ _ _ ⟨hP, hD, hS, lv_sub hl [0, 1, 2, 3, 4, 5, 6, 7] rfl⟩
            · have t_13 : n0_ran.toInt < 24 := kk_nle c_13
              refine lv_aload_n hx hb dX5_call_86 rfl (lv_at hl 2 rfl) ?_
              refine va_get (D := (dC, dI)) (ci := 5) (v := .ref h2) (C := RX5) (T := TX5) (N := 4) hx hb hts (fun _ h => List.mem_cons_of_mem _ (List.mem_append_right _ h)) hown hK hP 0 rfl rfl 2 (by decide) (hts (.fieldLink RX5 15 "KinkStreet$Lines" "trace" "[I") (List.mem_of_getElem? (i := 4) rfl)) (fun _ h9 => h9) rfl dX5_call_87 ?_
              refine lv_aload_n hx hb dX5_call_90 rfl (lv_at hl 2 rfl) ?_
              refine va_get (D := (dC, dI)) (ci := 5) (v := .int n0_ran) (C := RX5) (T := TX5) (N := 4) hx hb hts (fun _ h => List.mem_cons_of_mem _ (List.mem_append_right _ h)) hown hK hP 0 rfl rfl 3 (by decide) (hts (.fieldLink RX5 36 "KinkStreet$Lines" "ran" "I") (List.mem_of_getElem? (i := 3) rfl)) (fun _ h9 => h9) rfl dX5_call_91 ?_
              refine lv_iload hx hb dX5_call_94 (lv_at hl 0 rfl) ?_
              refine va_iast hx hb hK hP hD hS 2 0 rfl rfl (vp_in_iff.mpr ⟨by have := kk_rng p4; omega, by have := kk_rng p4; omega⟩) dX5_call_96 (fun H locs hP hD hS => ?_)
              generalize upd f2 (n0_ran : Int32).toNatClampNeg 11 = f_14 at hP hD
              have hP : va_P (dC, dI) vwCl [(h0, Sum.inr (5, [Value.ref h1, Value.int n0_size, Value.ref h2, Value.int n0_ran])), (h1, Sum.inl (cint, 50, Sum.inl f1)), (h2, Sum.inl (cint, 24, Sum.inl f_14))] H := hP
              have hD : va_D A [(h0, Sum.inr (5, [Value.ref h1, Value.int n0_size, Value.ref h2, Value.int n0_ran])), (h1, Sum.inl (cint, 50, Sum.inl f1)), (h2, Sum.inl (cint, 24, Sum.inl f_14))] := hD
              exact hcut_11 (f_14) _ _ _ ⟨hP, hD, hS, lv_sub hl [0, 1, 2, 3, 4, 5, 6, 7] rfl⟩
        · have t_6 : 40 < p4.toInt := kk_nle c_6
          refine lv_iconst (v := 0) hx hb dX5_call_63 (by decide) ?_
          obtain ⟨hP9, hD9⟩ := kk_leafout (wc := [(h0, Sum.inr (5, [Value.ref h1, Value.int n0_size, Value.ref h2, Value.int n0_ran])), (h1, Sum.inl (cint, 50, Sum.inl f1)), (h2, Sum.inl (cint, 24, Sum.inl f2))]) hP hD [0, 1, 2] (by decide) rfl
          have hK9 := hK.sub (tys' := []) [] rfl
          exact W.iret (v := 0) hx hb hr (fun t ht hW => ⟨⟨0, (), rfl, trivial, n0_ran, f2, (by show 0 ≤ (n0_ran : Int32).toInt ∧ (n0_ran : Int32).toInt ≤ 1000; first | decide | (constructor <;> (have := kk_rng p4; omega))), (by show (n0_ran : Int32).toInt ≤ (n0_ran : Int32).toInt + 6; first | decide | (have := kk_rng p4; omega)), by rw [ht]; exact hP9, va_K.moved hW.alike hK9, hD9⟩, hS.F ht⟩) hS.2.2 dX5_call_64
    · skip
      have t_4_0 : (0 : Int) ≤ 0 := t_4_0
      have t_4_1 : (0 : Int) < 8 := t_4_1
      refine lv_if_eq (tgt := 48) hx hb dX5_call_18 (by decide) (fun c => absurd c (by decide)) (fun _ => ?_)
      refine va_gets hx hb hZOWN_BODIES hS hown (hts (.fieldLink RX5 43 "KinkStreet$Lines" "OWN_BODIES" "[I") (List.mem_of_getElem? (i := 1) rfl)) (fun _ h9 => h9) dX5_call_21 ?_
      refine lv_iload hx hb dX5_call_24 (lv_at hl 1 rfl) ?_
      refine lv_iconst (v := 4) hx hb dX5_call_26 (by decide) ?_
      refine lv_imul hx hb dX5_call_27 ?_
      refine lv_topi (fun y_15 e_15 => ?_)
      obtain rfl : y_15 = 0 := e_15.trans (by decide)
      refine lv_iload_n hx hb dX5_call_28 rfl (lv_at hl 5 rfl) ?_
      refine lv_iadd hx hb dX5_call_29 ?_
      refine lv_topi (fun y_16 e_16 => ?_)
      obtain rfl : y_16 = 2 := e_16.trans (by decide)
      refine va_ti (v := .int 11) hx hb hTOWN_BODIES hS (by unfold vp_in; decide) rfl dX5_call_30 ?_
      refine lv_if_ne (tgt := 48) hx hb dX5_call_31 (by decide) (fun _ => ?_) (fun c => absurd c (by decide))
      refine lv_iload hx hb dX5_call_48 (lv_at hl 1 rfl) ?_
      obtain ⟨hPc, hDc, hFc⟩ := kk_cutout (wc := []) hP hD hS hA [] (by decide) rfl
      have hKc := hK.sub (tys' := []) [] rfl
      refine va_calli (va_runS (As := [.int 0]) (rest := []) ⟨hx, hb, hml, hown, hts⟩ (g_X5_isKind_0 l dC dI H.size 0) (va_cwS 1 hts gX5_call_X5_isKind rfl rfl rfl (by decide +kernel) ⟨Nat.le_of_ble_eq_true rfl, Nat.le_of_ble_eq_true rfl⟩) ⟨fun a U g mk q => by obtain ⟨q0, q1, qP, qK, qD⟩ := q; exact ⟨q0, q1, qP, va_K.moved (u := U) (U := U.calling g mk a) (Vm.Alike.refl U.vm) qK, qD⟩, fun U hU hW => ⟨rfl, by rw [hU], by rw [hU]; exact hPc, va_K.moved hW.alike hKc, hDc.weaken (fun _ _ _ _ => trivial)⟩⟩ rfl rfl hl.1 rfl (lv_room (Nat.le_of_ble_eq_true rfl)) dX5_call_50 ⟨Nat.le_of_ble_eq_true rfl, Nat.le_of_ble_eq_true rfl⟩) hS (fun q _ h => hFc q h) hFc (fun r_17 u t H1 locs ht hvm hw hB hz1 hk1 hS => ?_)
      obtain ⟨hP1, hK1, hD1⟩ := hB
      rw [ht] at hP1
      have hK1 := va_K.moved hvm.symm hK1
      obtain ⟨hP, hD⟩ := va_join (wr := [(h0, Sum.inr (5, [Value.ref h1, Value.int n0_size, Value.ref h2, Value.int n0_ran])), (h1, Sum.inl (cint, 50, Sum.inl f1)), (h2, Sum.inl (cint, 24, Sum.inl f2))]) (w1 := []) hP hD [] [0, 1, 2] rfl rfl (by decide) (by decide) hk1 hFc hP1 hD1
      generalize H1 = H at hP hS ⊢
      have hP : va_P (dC, dI) vwCl [(h0, Sum.inr (5, [Value.ref h1, Value.int n0_size, Value.ref h2, Value.int n0_ran])), (h1, Sum.inl (cint, 50, Sum.inl f1)), (h2, Sum.inl (cint, 24, Sum.inl f2))] H := hP
      have hD : va_D A [(h0, Sum.inr (5, [Value.ref h1, Value.int n0_size, Value.ref h2, Value.int n0_ran])), (h1, Sum.inl (cint, 50, Sum.inl f1)), (h2, Sum.inl (cint, 24, Sum.inl f2))] := hD
      rcases hw with ⟨rfl⟩ | ⟨t_17_0, t_17_1, rfl⟩
      · skip
        refine lv_if_eq (tgt := 63) hx hb dX5_call_53 (by decide) (fun _ => ?_) (fun c => absurd c (by decide))
        refine lv_iconst (v := 0) hx hb dX5_call_63 (by decide) ?_
        obtain ⟨hP9, hD9⟩ := kk_leafout (wc := [(h0, Sum.inr (5, [Value.ref h1, Value.int n0_size, Value.ref h2, Value.int n0_ran])), (h1, Sum.inl (cint, 50, Sum.inl f1)), (h2, Sum.inl (cint, 24, Sum.inl f2))]) hP hD [0, 1, 2] (by decide) rfl
        have hK9 := hK.sub (tys' := []) [] rfl
        exact W.iret (v := 0) hx hb hr (fun t ht hW => ⟨⟨0, (), rfl, trivial, n0_ran, f2, (by show 0 ≤ (n0_ran : Int32).toInt ∧ (n0_ran : Int32).toInt ≤ 1000; first | decide | (constructor <;> (omega))), (by show (n0_ran : Int32).toInt ≤ (n0_ran : Int32).toInt + 6; first | decide | (omega)), by rw [ht]; exact hP9, va_K.moved hW.alike hK9, hD9⟩, hS.F ht⟩) hS.2.2 dX5_call_64
      · skip
        have t_17_0 : (0 : Int) ≤ 0 := t_17_0
        have t_17_1 : (0 : Int) < 8 := t_17_1
        refine lv_if_eq (tgt := 63) hx hb dX5_call_53 (by decide) (fun c => absurd c (by decide)) (fun _ => ?_)
        refine lv_iload hx hb dX5_call_56 (lv_at hl 7 rfl) ?_
        refine lv_bipush (v := 40) hx hb dX5_call_58 (by decide) ?_
        refine lv_icmp_le (tgt := 65) hx hb dX5_call_60 (by decide) (fun c_18 => ?_) (fun c_18 => ?_)
        · have t_18 : p4.toInt ≤ 40 := kk_le c_18
          refine va_gets hx hb hZOWN_BODIES hS hown (hts (.fieldLink RX5 43 "KinkStreet$Lines" "OWN_BODIES" "[I") (List.mem_of_getElem? (i := 1) rfl)) (fun _ h9 => h9) dX5_call_65 ?_
          refine lv_iload hx hb dX5_call_68 (lv_at hl 1 rfl) ?_
          refine lv_iconst (v := 4) hx hb dX5_call_70 (by decide) ?_
          refine lv_imul hx hb dX5_call_71 ?_
          refine lv_topi (fun y_19 e_19 => ?_)
          obtain rfl : y_19 = 0 := e_19.trans (by decide)
          refine lv_iload_n hx hb dX5_call_72 rfl (lv_at hl 5 rfl) ?_
          refine lv_iadd hx hb dX5_call_73 ?_
          refine lv_topi (fun y_20 e_20 => ?_)
          obtain rfl : y_20 = 2 := e_20.trans (by decide)
          refine va_ti (v := .int 11) hx hb hTOWN_BODIES hS (by unfold vp_in; decide) rfl dX5_call_74 ?_
          refine lv_istore (lv' := [(7, .int 11), (6, .int 0), (0, .ref h0), (1, .int p0), (2, .int 0), (3, .int 2), (4, .int p3), (5, .int p4)]) hx hb dX5_call_75 hl (by decide) rfl (fun ls hl => ?_)
          refine lv_aload_n hx hb dX5_call_77 rfl (lv_at hl 2 rfl) ?_
          refine va_get (D := (dC, dI)) (ci := 5) (v := .int n0_ran) (C := RX5) (T := TX5) (N := 4) hx hb hts (fun _ h => List.mem_cons_of_mem _ (List.mem_append_right _ h)) hown hK hP 0 rfl rfl 3 (by decide) (hts (.fieldLink RX5 36 "KinkStreet$Lines" "ran" "I") (List.mem_of_getElem? (i := 3) rfl)) (fun _ h9 => h9) rfl dX5_call_78 ?_
          refine lv_bipush (v := 24) hx hb dX5_call_81 (by decide) ?_
          refine kk_cut (σ := (Nat → Int32)) (pc' := 97) (fun x H locs ls => va_P (dC, dI) vwCl [(h0, Sum.inr (5, [Value.ref h1, Value.int n0_size, Value.ref h2, Value.int n0_ran])), (h1, Sum.inl (cint, 50, Sum.inl f1)), (h2, Sum.inl (cint, 24, Sum.inl x))] H ∧ va_D A [(h0, Sum.inr (5, [Value.ref h1, Value.int n0_size, Value.ref h2, Value.int n0_ran])), (h1, Sum.inl (cint, 50, Sum.inl f1)), (h2, Sum.inl (cint, 24, Sum.inl x))] ∧ va_S A s.heap H locs ∧ lv_has ls 8 [(7, .int 11), (6, .int 0), (0, .ref h0), (1, .int p0), (2, .int 0), (3, .int 2), (4, .int p3), (5, .int p4)]) ?_ (fun hcut_23 => ?_)
          · rintro f_23_0 H locs ls ⟨hP, hD, hS, hl⟩
            have hl : lv_has ls 8 [(7, .int 11), (6, .int 0), (0, .ref h0), (1, .int p0), (2, .int 0), (3, .int 2), (4, .int p3), (5, .int p4)] := hl
            have hP : va_P (dC, dI) vwCl [(h0, Sum.inr (5, [Value.ref h1, Value.int n0_size, Value.ref h2, Value.int n0_ran])), (h1, Sum.inl (cint, 50, Sum.inl f1)), (h2, Sum.inl (cint, 24, Sum.inl f_23_0))] H := hP
            have hD : va_D A [(h0, Sum.inr (5, [Value.ref h1, Value.int n0_size, Value.ref h2, Value.int n0_ran])), (h1, Sum.inl (cint, 50, Sum.inl f1)), (h2, Sum.inl (cint, 24, Sum.inl f_23_0))] := hD
            refine lv_aload_n hx hb dX5_call_97 rfl (lv_at hl 2 rfl) ?_
            refine lv_dup hx hb dX5_call_98 rfl ?_
            refine va_get (D := (dC, dI)) (ci := 5) (v := .int n0_ran) (C := RX5) (T := TX5) (N := 4) hx hb hts (fun _ h => List.mem_cons_of_mem _ (List.mem_append_right _ h)) hown hK hP 0 rfl rfl 3 (by decide) (hts (.fieldLink RX5 36 "KinkStreet$Lines" "ran" "I") (List.mem_of_getElem? (i := 3) rfl)) (fun _ h9 => h9) rfl dX5_call_99 ?_
            refine lv_iconst (v := 1) hx hb dX5_call_102 (by decide) ?_
            refine lv_iadd hx hb dX5_call_103 ?_
            refine va_put (D := (dC, dI)) (ci := 5) (v := .int (n0_ran + 1)) (ty := .int) (C := RX5) (T := TX5) (N := 4) hx hb hts (fun _ h => List.mem_cons_of_mem _ (List.mem_append_right _ h)) tyX5 tyX5_ok nmX5 hown hK hP hD hS 0 rfl rfl 3 (by decide) (hts (.fieldLink RX5 36 "KinkStreet$Lines" "ran" "I") (List.mem_of_getElem? (i := 3) rfl)) (fun _ h9 => h9) rfl (by decide +kernel) rfl rfl (Nat.le_of_ble_eq_true rfl) dX5_call_104 (fun H locs hP hD hS => ?_)
            have hP : va_P (dC, dI) vwCl [(h0, Sum.inr (5, [Value.ref h1, Value.int n0_size, Value.ref h2, Value.int (n0_ran + 1)])), (h1, Sum.inl (cint, 50, Sum.inl f1)), (h2, Sum.inl (cint, 24, Sum.inl f_23_0))] H := hP
            have hD : va_D A [(h0, Sum.inr (5, [Value.ref h1, Value.int n0_size, Value.ref h2, Value.int (n0_ran + 1)])), (h1, Sum.inl (cint, 50, Sum.inl f1)), (h2, Sum.inl (cint, 24, Sum.inl f_23_0))] := hD
            refine lv_iload hx hb dX5_call_107 (lv_at hl 1 rfl) ?_
            refine lv_if_ne (tgt := 128) hx hb dX5_call_109 (by decide) (fun c => absurd c (by decide)) (fun _ => ?_)
            refine lv_aload_n hx hb dX5_call_112 rfl (lv_at hl 2 rfl) ?_
            refine lv_iload_n hx hb dX5_call_113 rfl (lv_at hl 3 rfl) ?_
            refine lv_iload hx hb dX5_call_114 (lv_at hl 0 rfl) ?_
            refine lv_iload hx hb dX5_call_116 (lv_at hl 6 rfl) ?_
            refine lv_iload hx hb dX5_call_118 (lv_at hl 7 rfl) ?_
            refine lv_iconst (v := 1) hx hb dX5_call_120 (by decide) ?_
            refine lv_iadd hx hb dX5_call_121 ?_
            obtain ⟨hPc, hDc, hFc⟩ := kk_cutout (wc := [(h0, Sum.inr (5, [Value.ref h1, Value.int n0_size, Value.ref h2, Value.int (n0_ran + 1)])), (h1, Sum.inl (cint, 50, Sum.inl f1))]) hP hD hS hA [0, 1] (by decide) rfl
            have hKc := hK.sub (tys' := [(cint, .int)]) [0] rfl
            refine va_calli (va_runV (As := [.int p0, .int 11, .int p3, .int (p4 + 1)]) (rest := []) ⟨hx, hb, hml, hown, hts⟩ (g_X5_runLine_1 l dC dI h0 h1 h2 cint H.size p0 p3 (p4 + 1) n0_size (n0_ran + 1) f1 tn0_size (by show 0 ≤ ((n0_ran + 1) : Int32).toInt ∧ ((n0_ran + 1) : Int32).toInt ≤ 1000; first | decide | (constructor <;> (have := kk_rng p4; have := kk_add2 (x := n0_ran) (y := 1) (a := n0_ran.toInt) (b := 1) rfl rfl (by omega) (by omega); have := kk_rng p4; have := kk_add2 (x := p4) (y := 1) (a := p4.toInt) (b := 1) rfl rfl (by omega) (by omega); omega))) bf1) (cwV 4 hts gX5_call_X5_runLine rfl rfl rfl (by decide +kernel) ⟨Nat.le_of_ble_eq_true rfl, Nat.le_of_ble_eq_true rfl⟩) ⟨fun a U g mk q => by obtain ⟨q0, q1, qP, qK, qD⟩ := q; exact ⟨q0, q1, qP, va_K.moved (u := U) (U := U.calling g mk a) (Vm.Alike.refl U.vm) qK, qD⟩, va_recv hKc hPc (ci := 5) (q0 := 0) rfl rfl, fun U hU hW => ⟨rfl, by rw [hU], by rw [hU]; exact hPc, va_K.moved hW.alike hKc, hDc.weaken (fun _ _ _ _ => trivial)⟩⟩ rfl rfl hl.1 rfl (lv_room (Nat.le_of_ble_eq_true rfl)) dX5_call_122 ⟨Nat.le_of_ble_eq_true rfl, Nat.le_of_ble_eq_true rfl⟩) hS (fun q _ h => hFc q h) hFc (fun r_24 u t H1 locs ht hvm hw hB hz1 hk1 hS => ?_)
            obtain ⟨hP1, hK1, hD1⟩ := hB
            rw [ht] at hP1
            have hK1 := va_K.moved hvm.symm hK1
            obtain ⟨hP, hD⟩ := va_join (wr := [(h2, Sum.inl (cint, 24, Sum.inl f_23_0))]) (w1 := [(h0, Sum.inr (5, [Value.ref h1, Value.int n0_size, Value.ref h2, Value.int (n0_ran + 1)])), (h1, Sum.inl (cint, 50, Sum.inl f1))]) hP hD [0, 1] [2] rfl rfl (by decide) (by decide) hk1 hFc hP1 hD1
            generalize H1 = H at hP hS ⊢
            have hP : va_P (dC, dI) vwCl [(h2, Sum.inl (cint, 24, Sum.inl f_23_0)), (h0, Sum.inr (5, [Value.ref h1, Value.int n0_size, Value.ref h2, Value.int (n0_ran + 1)])), (h1, Sum.inl (cint, 50, Sum.inl f1))] H := hP
            have hD : va_D A [(h2, Sum.inl (cint, 24, Sum.inl f_23_0)), (h0, Sum.inr (5, [Value.ref h1, Value.int n0_size, Value.ref h2, Value.int (n0_ran + 1)])), (h1, Sum.inl (cint, 50, Sum.inl f1))] := hD
            refine lv_goto (tgt := 143) hx hb dX5_call_125 (by decide) ?_
            obtain ⟨hP9, hD9⟩ := kk_leafout (wc := [(h0, Sum.inr (5, [Value.ref h1, Value.int n0_size, Value.ref h2, Value.int (n0_ran + 1)])), (h1, Sum.inl (cint, 50, Sum.inl f1)), (h2, Sum.inl (cint, 24, Sum.inl f_23_0))]) hP hD [1, 2, 0] (by decide) rfl
            have hK9 := hK.sub (tys' := []) [] rfl
            exact W.iret (v := r_24) hx hb hr (fun t ht hW => ⟨⟨r_24, (), rfl, trivial, (n0_ran + 1), f_23_0, (by show 0 ≤ ((n0_ran + 1) : Int32).toInt ∧ ((n0_ran + 1) : Int32).toInt ≤ 1000; first | decide | (constructor <;> (have := kk_rng p4; have := kk_add2 (x := n0_ran) (y := 1) (a := n0_ran.toInt) (b := 1) rfl rfl (by omega) (by omega); have := kk_rng p4; have := kk_add2 (x := p4) (y := 1) (a := p4.toInt) (b := 1) rfl rfl (by omega) (by omega); omega))), (by show ((n0_ran + 1) : Int32).toInt ≤ (n0_ran : Int32).toInt + 6; first | decide | (have := kk_rng p4; have := kk_add2 (x := n0_ran) (y := 1) (a := n0_ran.toInt) (b := 1) rfl rfl (by omega) (by omega); have := kk_rng p4; have := kk_add2 (x := p4) (y := 1) (a := p4.toInt) (b := 1) rfl rfl (by omega) (by omega); omega)), by rw [ht]; exact hP9, va_K.moved hW.alike hK9, hD9⟩, hS.F ht⟩) hS.2.2 dX5_call_143
          · skip
            refine lv_icmp_ge (tgt := 97) hx hb dX5_call_83 (by decide) (fun c_25 => ?_) (fun c_25 => ?_)
            · have t_25 : 24 ≤ n0_ran.toInt := kk_le c_25
              exact hcut_23 (f2) _ _ _ ⟨hP, hD, hS, lv_sub hl [0, 1, 2, 3, 4, 5, 6, 7] rfl⟩
            · have t_25 : n0_ran.toInt < 24 := kk_nle c_25
              refine lv_aload_n hx hb dX5_call_86 rfl (lv_at hl 2 rfl) ?_
              refine va_get (D := (dC, dI)) (ci := 5) (v := .ref h2) (C := RX5) (T := TX5) (N := 4) hx hb hts (fun _ h => List.mem_cons_of_mem _ (List.mem_append_right _ h)) hown hK hP 0 rfl rfl 2 (by decide) (hts (.fieldLink RX5 15 "KinkStreet$Lines" "trace" "[I") (List.mem_of_getElem? (i := 4) rfl)) (fun _ h9 => h9) rfl dX5_call_87 ?_
              refine lv_aload_n hx hb dX5_call_90 rfl (lv_at hl 2 rfl) ?_
              refine va_get (D := (dC, dI)) (ci := 5) (v := .int n0_ran) (C := RX5) (T := TX5) (N := 4) hx hb hts (fun _ h => List.mem_cons_of_mem _ (List.mem_append_right _ h)) hown hK hP 0 rfl rfl 3 (by decide) (hts (.fieldLink RX5 36 "KinkStreet$Lines" "ran" "I") (List.mem_of_getElem? (i := 3) rfl)) (fun _ h9 => h9) rfl dX5_call_91 ?_
              refine lv_iload hx hb dX5_call_94 (lv_at hl 0 rfl) ?_
              refine va_iast hx hb hK hP hD hS 2 0 rfl rfl (vp_in_iff.mpr ⟨by have := kk_rng p4; omega, by have := kk_rng p4; omega⟩) dX5_call_96 (fun H locs hP hD hS => ?_)
              generalize upd f2 (n0_ran : Int32).toNatClampNeg 11 = f_26 at hP hD
              have hP : va_P (dC, dI) vwCl [(h0, Sum.inr (5, [Value.ref h1, Value.int n0_size, Value.ref h2, Value.int n0_ran])), (h1, Sum.inl (cint, 50, Sum.inl f1)), (h2, Sum.inl (cint, 24, Sum.inl f_26))] H := hP
              have hD : va_D A [(h0, Sum.inr (5, [Value.ref h1, Value.int n0_size, Value.ref h2, Value.int n0_ran])), (h1, Sum.inl (cint, 50, Sum.inl f1)), (h2, Sum.inl (cint, 24, Sum.inl f_26))] := hD
              exact hcut_23 (f_26) _ _ _ ⟨hP, hD, hS, lv_sub hl [0, 1, 2, 3, 4, 5, 6, 7] rfl⟩
        · have t_18 : 40 < p4.toInt := kk_nle c_18
          refine lv_iconst (v := 0) hx hb dX5_call_63 (by decide) ?_
          obtain ⟨hP9, hD9⟩ := kk_leafout (wc := [(h0, Sum.inr (5, [Value.ref h1, Value.int n0_size, Value.ref h2, Value.int n0_ran])), (h1, Sum.inl (cint, 50, Sum.inl f1)), (h2, Sum.inl (cint, 24, Sum.inl f2))]) hP hD [0, 1, 2] (by decide) rfl
          have hK9 := hK.sub (tys' := []) [] rfl
          exact W.iret (v := 0) hx hb hr (fun t ht hW => ⟨⟨0, (), rfl, trivial, n0_ran, f2, (by show 0 ≤ (n0_ran : Int32).toInt ∧ (n0_ran : Int32).toInt ≤ 1000; first | decide | (constructor <;> (have := kk_rng p4; omega))), (by show (n0_ran : Int32).toInt ≤ (n0_ran : Int32).toInt + 6; first | decide | (have := kk_rng p4; omega)), by rw [ht]; exact hP9, va_K.moved hW.alike hK9, hD9⟩, hS.F ht⟩) hS.2.2 dX5_call_64
  · have t_1 : p1.toInt = 1 := by rw [e_1]; rfl
    subst e_1
    refine lv_iload_n hx hb dX5_call_0 rfl (lv_at hl 2 rfl) ?_
    refine lv_istore (lv' := [(6, .int 1), (0, .ref h0), (1, .int p0), (2, .int 1), (3, .int 2), (4, .int p3), (5, .int p4)]) hx hb dX5_call_1 hl (by decide) rfl (fun ls hl => ?_)
    refine lv_iconst (v := 0) hx hb dX5_call_3 (by decide) ?_
    refine lv_istore (lv' := [(7, .int 0), (6, .int 1), (0, .ref h0), (1, .int p0), (2, .int 1), (3, .int 2), (4, .int p3), (5, .int p4)]) hx hb dX5_call_4 hl (by decide) rfl (fun ls hl => ?_)
    refine lv_iload hx hb dX5_call_6 (lv_at hl 0 rfl) ?_
    refine lv_bipush (v := 8) hx hb dX5_call_8 (by decide) ?_
    refine lv_icmp_ge (tgt := 48) hx hb dX5_call_10 (by decide) (fun c => absurd c (by decide)) (fun _ => ?_)
    refine lv_iload hx hb dX5_call_13 (lv_at hl 1 rfl) ?_
    obtain ⟨hPc, hDc, hFc⟩ := kk_cutout (wc := []) hP hD hS hA [] (by decide) rfl
    have hKc := hK.sub (tys' := []) [] rfl
    refine va_calli (va_runS (As := [.int 1]) (rest := []) ⟨hx, hb, hml, hown, hts⟩ (g_X5_isKind_0 l dC dI s.heap.size 1) (va_cwS 1 hts gX5_call_X5_isKind rfl rfl rfl (by decide +kernel) ⟨Nat.le_of_ble_eq_true rfl, Nat.le_of_ble_eq_true rfl⟩) ⟨fun a U g mk q => by obtain ⟨q0, q1, qP, qK, qD⟩ := q; exact ⟨q0, q1, qP, va_K.moved (u := U) (U := U.calling g mk a) (Vm.Alike.refl U.vm) qK, qD⟩, fun U hU hW => ⟨rfl, by rw [hU], by rw [hU]; exact hPc, va_K.moved hW.alike hKc, hDc.weaken (fun _ _ _ _ => trivial)⟩⟩ rfl rfl hl.1 rfl (lv_room (Nat.le_of_ble_eq_true rfl)) dX5_call_15 ⟨Nat.le_of_ble_eq_true rfl, Nat.le_of_ble_eq_true rfl⟩) hS (fun q _ h => hFc q h) hFc (fun r_27 u t H1 locs ht hvm hw hB hz1 hk1 hS => ?_)
    obtain ⟨hP1, hK1, hD1⟩ := hB
    rw [ht] at hP1
    have hK1 := va_K.moved hvm.symm hK1
    obtain ⟨hP, hD⟩ := va_join (wr := [(h0, Sum.inr (5, [Value.ref h1, Value.int n0_size, Value.ref h2, Value.int n0_ran])), (h1, Sum.inl (cint, 50, Sum.inl f1)), (h2, Sum.inl (cint, 24, Sum.inl f2))]) (w1 := []) hP hD [] [0, 1, 2] rfl rfl (by decide) (by decide) hk1 hFc hP1 hD1
    generalize H1 = H at hP hS ⊢
    have hP : va_P (dC, dI) vwCl [(h0, Sum.inr (5, [Value.ref h1, Value.int n0_size, Value.ref h2, Value.int n0_ran])), (h1, Sum.inl (cint, 50, Sum.inl f1)), (h2, Sum.inl (cint, 24, Sum.inl f2))] H := hP
    have hD : va_D A [(h0, Sum.inr (5, [Value.ref h1, Value.int n0_size, Value.ref h2, Value.int n0_ran])), (h1, Sum.inl (cint, 50, Sum.inl f1)), (h2, Sum.inl (cint, 24, Sum.inl f2))] := hD
    rcases hw with ⟨rfl⟩ | ⟨t_27_0, t_27_1, rfl⟩
    · skip
      refine lv_if_eq (tgt := 48) hx hb dX5_call_18 (by decide) (fun _ => ?_) (fun c => absurd c (by decide))
      refine lv_iload hx hb dX5_call_48 (lv_at hl 1 rfl) ?_
      obtain ⟨hPc, hDc, hFc⟩ := kk_cutout (wc := []) hP hD hS hA [] (by decide) rfl
      have hKc := hK.sub (tys' := []) [] rfl
      refine va_calli (va_runS (As := [.int 1]) (rest := []) ⟨hx, hb, hml, hown, hts⟩ (g_X5_isKind_0 l dC dI H.size 1) (va_cwS 1 hts gX5_call_X5_isKind rfl rfl rfl (by decide +kernel) ⟨Nat.le_of_ble_eq_true rfl, Nat.le_of_ble_eq_true rfl⟩) ⟨fun a U g mk q => by obtain ⟨q0, q1, qP, qK, qD⟩ := q; exact ⟨q0, q1, qP, va_K.moved (u := U) (U := U.calling g mk a) (Vm.Alike.refl U.vm) qK, qD⟩, fun U hU hW => ⟨rfl, by rw [hU], by rw [hU]; exact hPc, va_K.moved hW.alike hKc, hDc.weaken (fun _ _ _ _ => trivial)⟩⟩ rfl rfl hl.1 rfl (lv_room (Nat.le_of_ble_eq_true rfl)) dX5_call_50 ⟨Nat.le_of_ble_eq_true rfl, Nat.le_of_ble_eq_true rfl⟩) hS (fun q _ h => hFc q h) hFc (fun r_28 u t H1 locs ht hvm hw hB hz1 hk1 hS => ?_)
      obtain ⟨hP1, hK1, hD1⟩ := hB
      rw [ht] at hP1
      have hK1 := va_K.moved hvm.symm hK1
      obtain ⟨hP, hD⟩ := va_join (wr := [(h0, Sum.inr (5, [Value.ref h1, Value.int n0_size, Value.ref h2, Value.int n0_ran])), (h1, Sum.inl (cint, 50, Sum.inl f1)), (h2, Sum.inl (cint, 24, Sum.inl f2))]) (w1 := []) hP hD [] [0, 1, 2] rfl rfl (by decide) (by decide) hk1 hFc hP1 hD1
      generalize H1 = H at hP hS ⊢
      have hP : va_P (dC, dI) vwCl [(h0, Sum.inr (5, [Value.ref h1, Value.int n0_size, Value.ref h2, Value.int n0_ran])), (h1, Sum.inl (cint, 50, Sum.inl f1)), (h2, Sum.inl (cint, 24, Sum.inl f2))] H := hP
      have hD : va_D A [(h0, Sum.inr (5, [Value.ref h1, Value.int n0_size, Value.ref h2, Value.int n0_ran])), (h1, Sum.inl (cint, 50, Sum.inl f1)), (h2, Sum.inl (cint, 24, Sum.inl f2))] := hD
      rcases hw with ⟨rfl⟩ | ⟨t_28_0, t_28_1, rfl⟩
      · skip
        refine lv_if_eq (tgt := 63) hx hb dX5_call_53 (by decide) (fun _ => ?_) (fun c => absurd c (by decide))
        refine lv_iconst (v := 0) hx hb dX5_call_63 (by decide) ?_
        obtain ⟨hP9, hD9⟩ := kk_leafout (wc := [(h0, Sum.inr (5, [Value.ref h1, Value.int n0_size, Value.ref h2, Value.int n0_ran])), (h1, Sum.inl (cint, 50, Sum.inl f1)), (h2, Sum.inl (cint, 24, Sum.inl f2))]) hP hD [0, 1, 2] (by decide) rfl
        have hK9 := hK.sub (tys' := []) [] rfl
        exact W.iret (v := 0) hx hb hr (fun t ht hW => ⟨⟨0, (), rfl, trivial, n0_ran, f2, (by show 0 ≤ (n0_ran : Int32).toInt ∧ (n0_ran : Int32).toInt ≤ 1000; first | decide | (constructor <;> (omega))), (by show (n0_ran : Int32).toInt ≤ (n0_ran : Int32).toInt + 6; first | decide | (omega)), by rw [ht]; exact hP9, va_K.moved hW.alike hK9, hD9⟩, hS.F ht⟩) hS.2.2 dX5_call_64
      · skip
        have t_28_0 : (0 : Int) ≤ 1 := t_28_0
        have t_28_1 : (1 : Int) < 8 := t_28_1
        refine lv_if_eq (tgt := 63) hx hb dX5_call_53 (by decide) (fun c => absurd c (by decide)) (fun _ => ?_)
        refine lv_iload hx hb dX5_call_56 (lv_at hl 7 rfl) ?_
        refine lv_bipush (v := 40) hx hb dX5_call_58 (by decide) ?_
        refine lv_icmp_le (tgt := 65) hx hb dX5_call_60 (by decide) (fun c_29 => ?_) (fun c_29 => ?_)
        · have t_29 : p4.toInt ≤ 40 := kk_le c_29
          refine va_gets hx hb hZOWN_BODIES hS hown (hts (.fieldLink RX5 43 "KinkStreet$Lines" "OWN_BODIES" "[I") (List.mem_of_getElem? (i := 1) rfl)) (fun _ h9 => h9) dX5_call_65 ?_
          refine lv_iload hx hb dX5_call_68 (lv_at hl 1 rfl) ?_
          refine lv_iconst (v := 4) hx hb dX5_call_70 (by decide) ?_
          refine lv_imul hx hb dX5_call_71 ?_
          refine lv_topi (fun y_30 e_30 => ?_)
          obtain rfl : y_30 = 4 := e_30.trans (by decide)
          refine lv_iload_n hx hb dX5_call_72 rfl (lv_at hl 5 rfl) ?_
          refine lv_iadd hx hb dX5_call_73 ?_
          refine lv_topi (fun y_31 e_31 => ?_)
          obtain rfl : y_31 = 6 := e_31.trans (by decide)
          refine va_ti (v := .int 0) hx hb hTOWN_BODIES hS (by unfold vp_in; decide) rfl dX5_call_74 ?_
          refine lv_istore (lv' := [(7, .int 0), (6, .int 1), (0, .ref h0), (1, .int p0), (2, .int 1), (3, .int 2), (4, .int p3), (5, .int p4)]) hx hb dX5_call_75 hl (by decide) rfl (fun ls hl => ?_)
          refine lv_aload_n hx hb dX5_call_77 rfl (lv_at hl 2 rfl) ?_
          refine va_get (D := (dC, dI)) (ci := 5) (v := .int n0_ran) (C := RX5) (T := TX5) (N := 4) hx hb hts (fun _ h => List.mem_cons_of_mem _ (List.mem_append_right _ h)) hown hK hP 0 rfl rfl 3 (by decide) (hts (.fieldLink RX5 36 "KinkStreet$Lines" "ran" "I") (List.mem_of_getElem? (i := 3) rfl)) (fun _ h9 => h9) rfl dX5_call_78 ?_
          refine lv_bipush (v := 24) hx hb dX5_call_81 (by decide) ?_
          refine kk_cut (σ := (Nat → Int32)) (pc' := 97) (fun x H locs ls => va_P (dC, dI) vwCl [(h0, Sum.inr (5, [Value.ref h1, Value.int n0_size, Value.ref h2, Value.int n0_ran])), (h1, Sum.inl (cint, 50, Sum.inl f1)), (h2, Sum.inl (cint, 24, Sum.inl x))] H ∧ va_D A [(h0, Sum.inr (5, [Value.ref h1, Value.int n0_size, Value.ref h2, Value.int n0_ran])), (h1, Sum.inl (cint, 50, Sum.inl f1)), (h2, Sum.inl (cint, 24, Sum.inl x))] ∧ va_S A s.heap H locs ∧ lv_has ls 8 [(7, .int 0), (6, .int 1), (0, .ref h0), (1, .int p0), (2, .int 1), (3, .int 2), (4, .int p3), (5, .int p4)]) ?_ (fun hcut_34 => ?_)
          · rintro f_34_0 H locs ls ⟨hP, hD, hS, hl⟩
            have hl : lv_has ls 8 [(7, .int 0), (6, .int 1), (0, .ref h0), (1, .int p0), (2, .int 1), (3, .int 2), (4, .int p3), (5, .int p4)] := hl
            have hP : va_P (dC, dI) vwCl [(h0, Sum.inr (5, [Value.ref h1, Value.int n0_size, Value.ref h2, Value.int n0_ran])), (h1, Sum.inl (cint, 50, Sum.inl f1)), (h2, Sum.inl (cint, 24, Sum.inl f_34_0))] H := hP
            have hD : va_D A [(h0, Sum.inr (5, [Value.ref h1, Value.int n0_size, Value.ref h2, Value.int n0_ran])), (h1, Sum.inl (cint, 50, Sum.inl f1)), (h2, Sum.inl (cint, 24, Sum.inl f_34_0))] := hD
            refine lv_aload_n hx hb dX5_call_97 rfl (lv_at hl 2 rfl) ?_
            refine lv_dup hx hb dX5_call_98 rfl ?_
            refine va_get (D := (dC, dI)) (ci := 5) (v := .int n0_ran) (C := RX5) (T := TX5) (N := 4) hx hb hts (fun _ h => List.mem_cons_of_mem _ (List.mem_append_right _ h)) hown hK hP 0 rfl rfl 3 (by decide) (hts (.fieldLink RX5 36 "KinkStreet$Lines" "ran" "I") (List.mem_of_getElem? (i := 3) rfl)) (fun _ h9 => h9) rfl dX5_call_99 ?_
            refine lv_iconst (v := 1) hx hb dX5_call_102 (by decide) ?_
            refine lv_iadd hx hb dX5_call_103 ?_
            refine va_put (D := (dC, dI)) (ci := 5) (v := .int (n0_ran + 1)) (ty := .int) (C := RX5) (T := TX5) (N := 4) hx hb hts (fun _ h => List.mem_cons_of_mem _ (List.mem_append_right _ h)) tyX5 tyX5_ok nmX5 hown hK hP hD hS 0 rfl rfl 3 (by decide) (hts (.fieldLink RX5 36 "KinkStreet$Lines" "ran" "I") (List.mem_of_getElem? (i := 3) rfl)) (fun _ h9 => h9) rfl (by decide +kernel) rfl rfl (Nat.le_of_ble_eq_true rfl) dX5_call_104 (fun H locs hP hD hS => ?_)
            have hP : va_P (dC, dI) vwCl [(h0, Sum.inr (5, [Value.ref h1, Value.int n0_size, Value.ref h2, Value.int (n0_ran + 1)])), (h1, Sum.inl (cint, 50, Sum.inl f1)), (h2, Sum.inl (cint, 24, Sum.inl f_34_0))] H := hP
            have hD : va_D A [(h0, Sum.inr (5, [Value.ref h1, Value.int n0_size, Value.ref h2, Value.int (n0_ran + 1)])), (h1, Sum.inl (cint, 50, Sum.inl f1)), (h2, Sum.inl (cint, 24, Sum.inl f_34_0))] := hD
            refine lv_iload hx hb dX5_call_107 (lv_at hl 1 rfl) ?_
            refine lv_if_ne (tgt := 128) hx hb dX5_call_109 (by decide) (fun _ => ?_) (fun c => absurd c (by decide))
            refine lv_aload_n hx hb dX5_call_128 rfl (lv_at hl 2 rfl) ?_
            refine lv_iload_n hx hb dX5_call_129 rfl (lv_at hl 3 rfl) ?_
            refine lv_iload hx hb dX5_call_130 (lv_at hl 1 rfl) ?_
            refine lv_iload hx hb dX5_call_132 (lv_at hl 0 rfl) ?_
            refine lv_iload hx hb dX5_call_134 (lv_at hl 6 rfl) ?_
            refine lv_iload hx hb dX5_call_136 (lv_at hl 7 rfl) ?_
            refine lv_iconst (v := 1) hx hb dX5_call_138 (by decide) ?_
            refine lv_iadd hx hb dX5_call_139 ?_
            obtain ⟨hPc, hDc, hFc⟩ := kk_cutout (wc := [(h0, Sum.inr (5, [Value.ref h1, Value.int n0_size, Value.ref h2, Value.int (n0_ran + 1)])), (h1, Sum.inl (cint, 50, Sum.inl f1)), (h2, Sum.inl (cint, 24, Sum.inl f_34_0))]) hP hD hS hA [0, 1, 2] (by decide) rfl
            have hKc := hK.sub (tys' := [(cint, .int)]) [0] rfl
            refine va_calli (va_runV (As := [.int p0, .int 1, .int 0, .int p3, .int (p4 + 1)]) (rest := []) ⟨hx, hb, hml, hown, hts⟩ (g_X5_runUnder_5 l dC dI h0 h1 h2 cint H.size p0 p3 (p4 + 1) n0_size (n0_ran + 1) f1 f_34_0 tn0_size (by show 0 ≤ ((n0_ran + 1) : Int32).toInt ∧ ((n0_ran + 1) : Int32).toInt ≤ 999; first | decide | (constructor <;> (have := kk_rng p4; have := kk_add2 (x := n0_ran) (y := 1) (a := n0_ran.toInt) (b := 1) rfl rfl (by omega) (by omega); have := kk_rng p4; have := kk_add2 (x := p4) (y := 1) (a := p4.toInt) (b := 1) rfl rfl (by omega) (by omega); omega))) bf1 aOWN_BODIES aABOVE) (cwV 5 hts gX5_call_X5_runUnder rfl rfl rfl (by decide +kernel) ⟨Nat.le_of_ble_eq_true rfl, Nat.le_of_ble_eq_true rfl⟩) ⟨fun a U g mk q => by obtain ⟨q0, q1, qP, qK, qD, qx0, qx1, qx2, qx3⟩ := q; exact ⟨q0, q1, qP, va_K.moved (u := U) (U := U.calling g mk a) (Vm.Alike.refl U.vm) qK, qD, va_Z.moved (u := U) (U := U.calling g mk a) (Vm.Alike.refl U.vm) qx0, va_T.moved (u := U) (U := U.calling g mk a) (Vm.Alike.refl U.vm) qx1, va_Z.moved (u := U) (U := U.calling g mk a) (Vm.Alike.refl U.vm) qx2, va_T.moved (u := U) (U := U.calling g mk a) (Vm.Alike.refl U.vm) qx3⟩, va_recv hKc hPc (ci := 5) (q0 := 0) rfl rfl, fun U hU hW => ⟨rfl, by rw [hU], by rw [hU]; exact hPc, va_K.moved hW.alike hKc, hDc.weaken (fun _ _ _ _ => trivial), by rw [hU]; exact ((hZOWN_BODIES.kept (fun a h1 h2 => hS.2.1 a h1 h2)).narrow hFc).moved hW.alike, by rw [hU]; exact ((hTOWN_BODIES.kept (fun a h1 h2 => hS.2.1 a h1 h2)).narrow hFc).moved hW.alike, by rw [hU]; exact ((hZABOVE.kept (fun a h1 h2 => hS.2.1 a h1 h2)).narrow hFc).moved hW.alike, by rw [hU]; exact ((hTABOVE.kept (fun a h1 h2 => hS.2.1 a h1 h2)).narrow hFc).moved hW.alike⟩⟩ rfl rfl hl.1 rfl (lv_room (Nat.le_of_ble_eq_true rfl)) dX5_call_140 ⟨Nat.le_of_ble_eq_true rfl, Nat.le_of_ble_eq_true rfl⟩) hS (fun q _ h => hFc q h) hFc (fun r_35 u t H1 locs ht hvm hw hB hz1 hk1 hS => ?_)
            obtain ⟨y_36, f_37, by_36, v_37_0, hP1, hK1, hD1⟩ := hB
            have v_37_0 : y_36.toInt ≤ (n0_ran + 1).toInt + 1 := v_37_0
            rw [ht] at hP1
            have hK1 := va_K.moved hvm.symm hK1
            obtain ⟨hP, hD⟩ := va_join (wr := []) (w1 := [(h0, Sum.inr (5, [Value.ref h1, Value.int n0_size, Value.ref h2, Value.int y_36])), (h1, Sum.inl (cint, 50, Sum.inl f1)), (h2, Sum.inl (cint, 24, Sum.inl f_37))]) hP hD [0, 1, 2] [] rfl rfl (by decide) (by decide) hk1 hFc hP1 hD1
            generalize H1 = H at hP hS ⊢
            have hP : va_P (dC, dI) vwCl [(h0, Sum.inr (5, [Value.ref h1, Value.int n0_size, Value.ref h2, Value.int y_36])), (h1, Sum.inl (cint, 50, Sum.inl f1)), (h2, Sum.inl (cint, 24, Sum.inl f_37))] H := hP
            have hD : va_D A [(h0, Sum.inr (5, [Value.ref h1, Value.int n0_size, Value.ref h2, Value.int y_36])), (h1, Sum.inl (cint, 50, Sum.inl f1)), (h2, Sum.inl (cint, 24, Sum.inl f_37))] := hD
            obtain ⟨hP9, hD9⟩ := kk_leafout (wc := [(h0, Sum.inr (5, [Value.ref h1, Value.int n0_size, Value.ref h2, Value.int y_36])), (h1, Sum.inl (cint, 50, Sum.inl f1)), (h2, Sum.inl (cint, 24, Sum.inl f_37))]) hP hD [0, 1, 2] (by decide) rfl
            have hK9 := hK.sub (tys' := []) [] rfl
            exact W.iret (v := r_35) hx hb hr (fun t ht hW => ⟨⟨r_35, (), rfl, trivial, y_36, f_37, (by show 0 ≤ (y_36 : Int32).toInt ∧ (y_36 : Int32).toInt ≤ 1000; first | decide | (constructor <;> (have := kk_rng p4; have := kk_add2 (x := n0_ran) (y := 1) (a := n0_ran.toInt) (b := 1) rfl rfl (by omega) (by omega); have := kk_rng p4; have := kk_add2 (x := p4) (y := 1) (a := p4.toInt) (b := 1) rfl rfl (by omega) (by omega); omega))), (by show (y_36 : Int32).toInt ≤ (n0_ran : Int32).toInt + 6; first | decide | (have := kk_rng p4; have := kk_add2 (x := n0_ran) (y := 1) (a := n0_ran.toInt) (b := 1) rfl rfl (by omega) (by omega); have := kk_rng p4; have := kk_add2 (x := p4) (y := 1) (a := p4.toInt) (b := 1) rfl rfl (by omega) (by omega); omega)), by rw [ht]; exact hP9, va_K.moved hW.alike hK9, hD9⟩, hS.F ht⟩) hS.2.2 dX5_call_143
          · skip
            refine lv_icmp_ge (tgt := 97) hx hb dX5_call_83 (by decide) (fun c_38 => ?_) (fun c_38 => ?_)
            · have t_38 : 24 ≤ n0_ran.toInt := kk_le c_38
              exact hcut_34 (f2) _ _ _ ⟨hP, hD, hS, lv_sub hl [0, 1, 2, 3, 4, 5, 6, 7] rfl⟩
            · have t_38 : n0_ran.toInt < 24 := kk_nle c_38
              refine lv_aload_n hx hb dX5_call_86 rfl (lv_at hl 2 rfl) ?_
              refine va_get (D := (dC, dI)) (ci := 5) (v := .ref h2) (C := RX5) (T := TX5) (N := 4) hx hb hts (fun _ h => List.mem_cons_of_mem _ (List.mem_append_right _ h)) hown hK hP 0 rfl rfl 2 (by decide) (hts (.fieldLink RX5 15 "KinkStreet$Lines" "trace" "[I") (List.mem_of_getElem? (i := 4) rfl)) (fun _ h9 => h9) rfl dX5_call_87 ?_
              refine lv_aload_n hx hb dX5_call_90 rfl (lv_at hl 2 rfl) ?_
              refine va_get (D := (dC, dI)) (ci := 5) (v := .int n0_ran) (C := RX5) (T := TX5) (N := 4) hx hb hts (fun _ h => List.mem_cons_of_mem _ (List.mem_append_right _ h)) hown hK hP 0 rfl rfl 3 (by decide) (hts (.fieldLink RX5 36 "KinkStreet$Lines" "ran" "I") (List.mem_of_getElem? (i := 3) rfl)) (fun _ h9 => h9) rfl dX5_call_91 ?_
              refine lv_iload hx hb dX5_call_94 (lv_at hl 0 rfl) ?_
              refine va_iast hx hb hK hP hD hS 2 0 rfl rfl (vp_in_iff.mpr ⟨by have := kk_rng p4; omega, by have := kk_rng p4; omega⟩) dX5_call_96 (fun H locs hP hD hS => ?_)
              generalize upd f2 (n0_ran : Int32).toNatClampNeg 0 = f_39 at hP hD
              have hP : va_P (dC, dI) vwCl [(h0, Sum.inr (5, [Value.ref h1, Value.int n0_size, Value.ref h2, Value.int n0_ran])), (h1, Sum.inl (cint, 50, Sum.inl f1)), (h2, Sum.inl (cint, 24, Sum.inl f_39))] H := hP
              have hD : va_D A [(h0, Sum.inr (5, [Value.ref h1, Value.int n0_size, Value.ref h2, Value.int n0_ran])), (h1, Sum.inl (cint, 50, Sum.inl f1)), (h2, Sum.inl (cint, 24, Sum.inl f_39))] := hD
              exact hcut_34 (f_39) _ _ _ ⟨hP, hD, hS, lv_sub hl [0, 1, 2, 3, 4, 5, 6, 7] rfl⟩
        · have t_29 : 40 < p4.toInt := kk_nle c_29
          refine lv_iconst (v := 0) hx hb dX5_call_63 (by decide) ?_
          obtain ⟨hP9, hD9⟩ := kk_leafout (wc := [(h0, Sum.inr (5, [Value.ref h1, Value.int n0_size, Value.ref h2, Value.int n0_ran])), (h1, Sum.inl (cint, 50, Sum.inl f1)), (h2, Sum.inl (cint, 24, Sum.inl f2))]) hP hD [0, 1, 2] (by decide) rfl
          have hK9 := hK.sub (tys' := []) [] rfl
          exact W.iret (v := 0) hx hb hr (fun t ht hW => ⟨⟨0, (), rfl, trivial, n0_ran, f2, (by show 0 ≤ (n0_ran : Int32).toInt ∧ (n0_ran : Int32).toInt ≤ 1000; first | decide | (constructor <;> (have := kk_rng p4; omega))), (by show (n0_ran : Int32).toInt ≤ (n0_ran : Int32).toInt + 6; first | decide | (have := kk_rng p4; omega)), by rw [ht]; exact hP9, va_K.moved hW.alike hK9, hD9⟩, hS.F ht⟩) hS.2.2 dX5_call_64
    · skip
      have t_27_0 : (0 : Int) ≤ 1 := t_27_0
      have t_27_1 : (1 : Int) < 8 := t_27_1
      refine lv_if_eq (tgt := 48) hx hb dX5_call_18 (by decide) (fun c => absurd c (by decide)) (fun _ => ?_)
      refine va_gets hx hb hZOWN_BODIES hS hown (hts (.fieldLink RX5 43 "KinkStreet$Lines" "OWN_BODIES" "[I") (List.mem_of_getElem? (i := 1) rfl)) (fun _ h9 => h9) dX5_call_21 ?_
      refine lv_iload hx hb dX5_call_24 (lv_at hl 1 rfl) ?_
      refine lv_iconst (v := 4) hx hb dX5_call_26 (by decide) ?_
      refine lv_imul hx hb dX5_call_27 ?_
      refine lv_topi (fun y_40 e_40 => ?_)
      obtain rfl : y_40 = 4 := e_40.trans (by decide)
      refine lv_iload_n hx hb dX5_call_28 rfl (lv_at hl 5 rfl) ?_
      refine lv_iadd hx hb dX5_call_29 ?_
      refine lv_topi (fun y_41 e_41 => ?_)
      obtain rfl : y_41 = 6 := e_41.trans (by decide)
      refine va_ti (v := .int 0) hx hb hTOWN_BODIES hS (by unfold vp_in; decide) rfl dX5_call_30 ?_
      refine lv_if_ne (tgt := 48) hx hb dX5_call_31 (by decide) (fun c => absurd c (by decide)) (fun _ => ?_)
      refine va_gets hx hb hZABOVE hS hown (hts (.fieldLink RX5 22 "KinkStreet$Lines" "ABOVE" "[I") (List.mem_of_getElem? (i := 2) rfl)) (fun _ h9 => h9) dX5_call_34 ?_
      refine lv_iload hx hb dX5_call_37 (lv_at hl 1 rfl) ?_
      refine va_ti (v := .int 0) hx hb hTABOVE hS (by unfold vp_in; decide) rfl dX5_call_39 ?_
      refine lv_istore (lv' := [(6, .int 0), (7, .int 0), (0, .ref h0), (1, .int p0), (2, .int 1), (3, .int 2), (4, .int p3), (5, .int p4)]) hx hb dX5_call_40 hl (by decide) rfl (fun ls hl => ?_)
      refine lv_iinc (v := 1) (lv' := [(7, .int 1), (6, .int 0), (0, .ref h0), (1, .int p0), (2, .int 1), (3, .int 2), (4, .int p3), (5, .int p4)]) hx hb dX5_call_42 hl (k := 1) rfl (by first | rfl | decide) (by decide) rfl (fun ls hl => ?_)
      refine lv_goto (tgt := 6) hx hb dX5_call_45 (by decide) ?_
      refine lv_iload hx hb dX5_call_6 (lv_at hl 0 rfl) ?_
      refine lv_bipush (v := 8) hx hb dX5_call_8 (by decide) ?_
      refine lv_icmp_ge (tgt := 48) hx hb dX5_call_10 (by decide) (fun c => absurd c (by decide)) (fun _ => ?_)
      refine lv_iload hx hb dX5_call_13 (lv_at hl 1 rfl) ?_
      obtain ⟨hPc, hDc, hFc⟩ := kk_cutout (wc := []) hP hD hS hA [] (by decide) rfl
      have hKc := hK.sub (tys' := []) [] rfl
      refine va_calli (va_runS (As := [.int 0]) (rest := []) ⟨hx, hb, hml, hown, hts⟩ (g_X5_isKind_0 l dC dI H.size 0) (va_cwS 1 hts gX5_call_X5_isKind rfl rfl rfl (by decide +kernel) ⟨Nat.le_of_ble_eq_true rfl, Nat.le_of_ble_eq_true rfl⟩) ⟨fun a U g mk q => by obtain ⟨q0, q1, qP, qK, qD⟩ := q; exact ⟨q0, q1, qP, va_K.moved (u := U) (U := U.calling g mk a) (Vm.Alike.refl U.vm) qK, qD⟩, fun U hU hW => ⟨rfl, by rw [hU], by rw [hU]; exact hPc, va_K.moved hW.alike hKc, hDc.weaken (fun _ _ _ _ => trivial)⟩⟩ rfl rfl hl.1 rfl (lv_room (Nat.le_of_ble_eq_true rfl)) dX5_call_15 ⟨Nat.le_of_ble_eq_true rfl, Nat.le_of_ble_eq_true rfl⟩) hS (fun q _ h => hFc q h) hFc (fun r_42 u t H1 locs ht hvm hw hB hz1 hk1 hS => ?_)
      obtain ⟨hP1, hK1, hD1⟩ := hB
      rw [ht] at hP1
      have hK1 := va_K.moved hvm.symm hK1
      obtain ⟨hP, hD⟩ := va_join (wr := [(h0, Sum.inr (5, [Value.ref h1, Value.int n0_size, Value.ref h2, Value.int n0_ran])), (h1, Sum.inl (cint, 50, Sum.inl f1)), (h2, Sum.inl (cint, 24, Sum.inl f2))]) (w1 := []) hP hD [] [0, 1, 2] rfl rfl (by decide) (by decide) hk1 hFc hP1 hD1
      generalize H1 = H at hP hS ⊢
      have hP : va_P (dC, dI) vwCl [(h0, Sum.inr (5, [Value.ref h1, Value.int n0_size, Value.ref h2, Value.int n0_ran])), (h1, Sum.inl (cint, 50, Sum.inl f1)), (h2, Sum.inl (cint, 24, Sum.inl f2))] H := hP
      have hD : va_D A [(h0, Sum.inr (5, [Value.ref h1, Value.int n0_size, Value.ref h2, Value.int n0_ran])), (h1, Sum.inl (cint, 50, Sum.inl f1)), (h2, Sum.inl (cint, 24, Sum.inl f2))] := hD
      rcases hw with ⟨rfl⟩ | ⟨t_42_0, t_42_1, rfl⟩
      · skip
        refine lv_if_eq (tgt := 48) hx hb dX5_call_18 (by decide) (fun _ => ?_) (fun c => absurd c (by decide))
        refine lv_iload hx hb dX5_call_48 (lv_at hl 1 rfl) ?_
        obtain ⟨hPc, hDc, hFc⟩ := kk_cutout (wc := []) hP hD hS hA [] (by decide) rfl
        have hKc := hK.sub (tys' := []) [] rfl
        refine va_calli (va_runS (As := [.int 0]) (rest := []) ⟨hx, hb, hml, hown, hts⟩ (g_X5_isKind_0 l dC dI H.size 0) (va_cwS 1 hts gX5_call_X5_isKind rfl rfl rfl (by decide +kernel) ⟨Nat.le_of_ble_eq_true rfl, Nat.le_of_ble_eq_true rfl⟩) ⟨fun a U g mk q => by obtain ⟨q0, q1, qP, qK, qD⟩ := q; exact ⟨q0, q1, qP, va_K.moved (u := U) (U := U.calling g mk a) (Vm.Alike.refl U.vm) qK, qD⟩, fun U hU hW => ⟨rfl, by rw [hU], by rw [hU]; exact hPc, va_K.moved hW.alike hKc, hDc.weaken (fun _ _ _ _ => trivial)⟩⟩ rfl rfl hl.1 rfl (lv_room (Nat.le_of_ble_eq_true rfl)) dX5_call_50 ⟨Nat.le_of_ble_eq_true rfl, Nat.le_of_ble_eq_true rfl⟩) hS (fun q _ h => hFc q h) hFc (fun r_43 u t H1 locs ht hvm hw hB hz1 hk1 hS => ?_)
        obtain ⟨hP1, hK1, hD1⟩ := hB
        rw [ht] at hP1
        have hK1 := va_K.moved hvm.symm hK1
        obtain ⟨hP, hD⟩ := va_join (wr := [(h0, Sum.inr (5, [Value.ref h1, Value.int n0_size, Value.ref h2, Value.int n0_ran])), (h1, Sum.inl (cint, 50, Sum.inl f1)), (h2, Sum.inl (cint, 24, Sum.inl f2))]) (w1 := []) hP hD [] [0, 1, 2] rfl rfl (by decide) (by decide) hk1 hFc hP1 hD1
        generalize H1 = H at hP hS ⊢
        have hP : va_P (dC, dI) vwCl [(h0, Sum.inr (5, [Value.ref h1, Value.int n0_size, Value.ref h2, Value.int n0_ran])), (h1, Sum.inl (cint, 50, Sum.inl f1)), (h2, Sum.inl (cint, 24, Sum.inl f2))] H := hP
        have hD : va_D A [(h0, Sum.inr (5, [Value.ref h1, Value.int n0_size, Value.ref h2, Value.int n0_ran])), (h1, Sum.inl (cint, 50, Sum.inl f1)), (h2, Sum.inl (cint, 24, Sum.inl f2))] := hD
        rcases hw with ⟨rfl⟩ | ⟨t_43_0, t_43_1, rfl⟩
        · skip
          refine lv_if_eq (tgt := 63) hx hb dX5_call_53 (by decide) (fun _ => ?_) (fun c => absurd c (by decide))
          refine lv_iconst (v := 0) hx hb dX5_call_63 (by decide) ?_
          obtain ⟨hP9, hD9⟩ := kk_leafout (wc := [(h0, Sum.inr (5, [Value.ref h1, Value.int n0_size, Value.ref h2, Value.int n0_ran])), (h1, Sum.inl (cint, 50, Sum.inl f1)), (h2, Sum.inl (cint, 24, Sum.inl f2))]) hP hD [0, 1, 2] (by decide) rfl
          have hK9 := hK.sub (tys' := []) [] rfl
          exact W.iret (v := 0) hx hb hr (fun t ht hW => ⟨⟨0, (), rfl, trivial, n0_ran, f2, (by show 0 ≤ (n0_ran : Int32).toInt ∧ (n0_ran : Int32).toInt ≤ 1000; first | decide | (constructor <;> (omega))), (by show (n0_ran : Int32).toInt ≤ (n0_ran : Int32).toInt + 6; first | decide | (omega)), by rw [ht]; exact hP9, va_K.moved hW.alike hK9, hD9⟩, hS.F ht⟩) hS.2.2 dX5_call_64
        · skip
          have t_43_0 : (0 : Int) ≤ 0 := t_43_0
          have t_43_1 : (0 : Int) < 8 := t_43_1
          refine lv_if_eq (tgt := 63) hx hb dX5_call_53 (by decide) (fun c => absurd c (by decide)) (fun _ => ?_)
          refine lv_iload hx hb dX5_call_56 (lv_at hl 7 rfl) ?_
          refine lv_bipush (v := 40) hx hb dX5_call_58 (by decide) ?_
          refine lv_icmp_le (tgt := 65) hx hb dX5_call_60 (by decide) (fun c_44 => ?_) (fun c_44 => ?_)
          · have t_44 : p4.toInt ≤ 40 := kk_le c_44
            refine va_gets hx hb hZOWN_BODIES hS hown (hts (.fieldLink RX5 43 "KinkStreet$Lines" "OWN_BODIES" "[I") (List.mem_of_getElem? (i := 1) rfl)) (fun _ h9 => h9) dX5_call_65 ?_
            refine lv_iload hx hb dX5_call_68 (lv_at hl 1 rfl) ?_
            refine lv_iconst (v := 4) hx hb dX5_call_70 (by decide) ?_
            refine lv_imul hx hb dX5_call_71 ?_
            refine lv_topi (fun y_45 e_45 => ?_)
            obtain rfl : y_45 = 0 := e_45.trans (by decide)
            refine lv_iload_n hx hb dX5_call_72 rfl (lv_at hl 5 rfl) ?_
            refine lv_iadd hx hb dX5_call_73 ?_
            refine lv_topi (fun y_46 e_46 => ?_)
            obtain rfl : y_46 = 2 := e_46.trans (by decide)
            refine va_ti (v := .int 11) hx hb hTOWN_BODIES hS (by unfold vp_in; decide) rfl dX5_call_74 ?_
            refine lv_istore (lv' := [(7, .int 11), (6, .int 0), (0, .ref h0), (1, .int p0), (2, .int 1), (3, .int 2), (4, .int p3), (5, .int p4)]) hx hb dX5_call_75 hl (by decide) rfl (fun ls hl => ?_)
            refine lv_aload_n hx hb dX5_call_77 rfl (lv_at hl 2 rfl) ?_
            refine va_get (D := (dC, dI)) (ci := 5) (v := .int n0_ran) (C := RX5) (T := TX5) (N := 4) hx hb hts (fun _ h => List.mem_cons_of_mem _ (List.mem_append_right _ h)) hown hK hP 0 rfl rfl 3 (by decide) (hts (.fieldLink RX5 36 "KinkStreet$Lines" "ran" "I") (List.mem_of_getElem? (i := 3) rfl)) (fun _ h9 => h9) rfl dX5_call_78 ?_
            refine lv_bipush (v := 24) hx hb dX5_call_81 (by decide) ?_
            refine kk_cut (σ := (Nat → Int32)) (pc' := 97) (fun x H locs ls => va_P (dC, dI) vwCl [(h0, Sum.inr (5, [Value.ref h1, Value.int n0_size, Value.ref h2, Value.int n0_ran])), (h1, Sum.inl (cint, 50, Sum.inl f1)), (h2, Sum.inl (cint, 24, Sum.inl x))] H ∧ va_D A [(h0, Sum.inr (5, [Value.ref h1, Value.int n0_size, Value.ref h2, Value.int n0_ran])), (h1, Sum.inl (cint, 50, Sum.inl f1)), (h2, Sum.inl (cint, 24, Sum.inl x))] ∧ va_S A s.heap H locs ∧ lv_has ls 8 [(7, .int 11), (6, .int 0), (0, .ref h0), (1, .int p0), (2, .int 1), (3, .int 2), (4, .int p3), (5, .int p4)]) ?_ (fun hcut_49 => ?_)
            · rintro f_49_0 H locs ls ⟨hP, hD, hS, hl⟩
              have hl : lv_has ls 8 [(7, .int 11), (6, .int 0), (0, .ref h0), (1, .int p0), (2, .int 1), (3, .int 2), (4, .int p3), (5, .int p4)] := hl
              have hP : va_P (dC, dI) vwCl [(h0, Sum.inr (5, [Value.ref h1, Value.int n0_size, Value.ref h2, Value.int n0_ran])), (h1, Sum.inl (cint, 50, Sum.inl f1)), (h2, Sum.inl (cint, 24, Sum.inl f_49_0))] H := hP
              have hD : va_D A [(h0, Sum.inr (5, [Value.ref h1, Value.int n0_size, Value.ref h2, Value.int n0_ran])), (h1, Sum.inl (cint, 50, Sum.inl f1)), (h2, Sum.inl (cint, 24, Sum.inl f_49_0))] := hD
              refine lv_aload_n hx hb dX5_call_97 rfl (lv_at hl 2 rfl) ?_
              refine lv_dup hx hb dX5_call_98 rfl ?_
              refine va_get (D := (dC, dI)) (ci := 5) (v := .int n0_ran) (C := RX5) (T := TX5) (N := 4) hx hb hts (fun _ h => List.mem_cons_of_mem _ (List.mem_append_right _ h)) hown hK hP 0 rfl rfl 3 (by decide) (hts (.fieldLink RX5 36 "KinkStreet$Lines" "ran" "I") (List.mem_of_getElem? (i := 3) rfl)) (fun _ h9 => h9) rfl dX5_call_99 ?_
              refine lv_iconst (v := 1) hx hb dX5_call_102 (by decide) ?_
              refine lv_iadd hx hb dX5_call_103 ?_
              refine va_put (D := (dC, dI)) (ci := 5) (v := .int (n0_ran + 1)) (ty := .int) (C := RX5) (T := TX5) (N := 4) hx hb hts (fun _ h => List.mem_cons_of_mem _ (List.mem_append_right _ h)) tyX5 tyX5_ok nmX5 hown hK hP hD hS 0 rfl rfl 3 (by decide) (hts (.fieldLink RX5 36 "KinkStreet$Lines" "ran" "I") (List.mem_of_getElem? (i := 3) rfl)) (fun _ h9 => h9) rfl (by decide +kernel) rfl rfl (Nat.le_of_ble_eq_true rfl) dX5_call_104 (fun H locs hP hD hS => ?_)
              have hP : va_P (dC, dI) vwCl [(h0, Sum.inr (5, [Value.ref h1, Value.int n0_size, Value.ref h2, Value.int (n0_ran + 1)])), (h1, Sum.inl (cint, 50, Sum.inl f1)), (h2, Sum.inl (cint, 24, Sum.inl f_49_0))] H := hP
              have hD : va_D A [(h0, Sum.inr (5, [Value.ref h1, Value.int n0_size, Value.ref h2, Value.int (n0_ran + 1)])), (h1, Sum.inl (cint, 50, Sum.inl f1)), (h2, Sum.inl (cint, 24, Sum.inl f_49_0))] := hD
              refine lv_iload hx hb dX5_call_107 (lv_at hl 1 rfl) ?_
              refine lv_if_ne (tgt := 128) hx hb dX5_call_109 (by decide) (fun c => absurd c (by decide)) (fun _ => ?_)
              refine lv_aload_n hx hb dX5_call_112 rfl (lv_at hl 2 rfl) ?_
              refine lv_iload_n hx hb dX5_call_113 rfl (lv_at hl 3 rfl) ?_
              refine lv_iload hx hb dX5_call_114 (lv_at hl 0 rfl) ?_
              refine lv_iload hx hb dX5_call_116 (lv_at hl 6 rfl) ?_
              refine lv_iload hx hb dX5_call_118 (lv_at hl 7 rfl) ?_
              refine lv_iconst (v := 1) hx hb dX5_call_120 (by decide) ?_
              refine lv_iadd hx hb dX5_call_121 ?_
              obtain ⟨hPc, hDc, hFc⟩ := kk_cutout (wc := [(h0, Sum.inr (5, [Value.ref h1, Value.int n0_size, Value.ref h2, Value.int (n0_ran + 1)])), (h1, Sum.inl (cint, 50, Sum.inl f1))]) hP hD hS hA [0, 1] (by decide) rfl
              have hKc := hK.sub (tys' := [(cint, .int)]) [0] rfl
              refine va_calli (va_runV (As := [.int p0, .int 11, .int p3, .int (p4 + 1)]) (rest := []) ⟨hx, hb, hml, hown, hts⟩ (g_X5_runLine_1 l dC dI h0 h1 h2 cint H.size p0 p3 (p4 + 1) n0_size (n0_ran + 1) f1 tn0_size (by show 0 ≤ ((n0_ran + 1) : Int32).toInt ∧ ((n0_ran + 1) : Int32).toInt ≤ 1000; first | decide | (constructor <;> (have := kk_rng p4; have := kk_add2 (x := n0_ran) (y := 1) (a := n0_ran.toInt) (b := 1) rfl rfl (by omega) (by omega); have := kk_rng p4; have := kk_add2 (x := p4) (y := 1) (a := p4.toInt) (b := 1) rfl rfl (by omega) (by omega); omega))) bf1) (cwV 4 hts gX5_call_X5_runLine rfl rfl rfl (by decide +kernel) ⟨Nat.le_of_ble_eq_true rfl, Nat.le_of_ble_eq_true rfl⟩) ⟨fun a U g mk q => by obtain ⟨q0, q1, qP, qK, qD⟩ := q; exact ⟨q0, q1, qP, va_K.moved (u := U) (U := U.calling g mk a) (Vm.Alike.refl U.vm) qK, qD⟩, va_recv hKc hPc (ci := 5) (q0 := 0) rfl rfl, fun U hU hW => ⟨rfl, by rw [hU], by rw [hU]; exact hPc, va_K.moved hW.alike hKc, hDc.weaken (fun _ _ _ _ => trivial)⟩⟩ rfl rfl hl.1 rfl (lv_room (Nat.le_of_ble_eq_true rfl)) dX5_call_122 ⟨Nat.le_of_ble_eq_true rfl, Nat.le_of_ble_eq_true rfl⟩) hS (fun q _ h => hFc q h) hFc (fun r_50 u t H1 locs ht hvm hw hB hz1 hk1 hS => ?_)
              obtain ⟨hP1, hK1, hD1⟩ := hB
              rw [ht] at hP1
              have hK1 := va_K.moved hvm.symm hK1
              obtain ⟨hP, hD⟩ := va_join (wr := [(h2, Sum.inl (cint, 24, Sum.inl f_49_0))]) (w1 := [(h0, Sum.inr (5, [Value.ref h1, Value.int n0_size, Value.ref h2, Value.int (n0_ran + 1)])), (h1, Sum.inl (cint, 50, Sum.inl f1))]) hP hD [0, 1] [2] rfl rfl (by decide) (by decide) hk1 hFc hP1 hD1
              generalize H1 = H at hP hS ⊢
              have hP : va_P (dC, dI) vwCl [(h2, Sum.inl (cint, 24, Sum.inl f_49_0)), (h0, Sum.inr (5, [Value.ref h1, Value.int n0_size, Value.ref h2, Value.int (n0_ran + 1)])), (h1, Sum.inl (cint, 50, Sum.inl f1))] H := hP
              have hD : va_D A [(h2, Sum.inl (cint, 24, Sum.inl f_49_0)), (h0, Sum.inr (5, [Value.ref h1, Value.int n0_size, Value.ref h2, Value.int (n0_ran + 1)])), (h1, Sum.inl (cint, 50, Sum.inl f1))] := hD
              refine lv_goto (tgt := 143) hx hb dX5_call_125 (by decide) ?_
              obtain ⟨hP9, hD9⟩ := kk_leafout (wc := [(h0, Sum.inr (5, [Value.ref h1, Value.int n0_size, Value.ref h2, Value.int (n0_ran + 1)])), (h1, Sum.inl (cint, 50, Sum.inl f1)), (h2, Sum.inl (cint, 24, Sum.inl f_49_0))]) hP hD [1, 2, 0] (by decide) rfl
              have hK9 := hK.sub (tys' := []) [] rfl
              exact W.iret (v := r_50) hx hb hr (fun t ht hW => ⟨⟨r_50, (), rfl, trivial, (n0_ran + 1), f_49_0, (by show 0 ≤ ((n0_ran + 1) : Int32).toInt ∧ ((n0_ran + 1) : Int32).toInt ≤ 1000; first | decide | (constructor <;> (have := kk_rng p4; have := kk_add2 (x := n0_ran) (y := 1) (a := n0_ran.toInt) (b := 1) rfl rfl (by omega) (by omega); have := kk_rng p4; have := kk_add2 (x := p4) (y := 1) (a := p4.toInt) (b := 1) rfl rfl (by omega) (by omega); omega))), (by show ((n0_ran + 1) : Int32).toInt ≤ (n0_ran : Int32).toInt + 6; first | decide | (have := kk_rng p4; have := kk_add2 (x := n0_ran) (y := 1) (a := n0_ran.toInt) (b := 1) rfl rfl (by omega) (by omega); have := kk_rng p4; have := kk_add2 (x := p4) (y := 1) (a := p4.toInt) (b := 1) rfl rfl (by omega) (by omega); omega)), by rw [ht]; exact hP9, va_K.moved hW.alike hK9, hD9⟩, hS.F ht⟩) hS.2.2 dX5_call_143
            · skip
              refine lv_icmp_ge (tgt := 97) hx hb dX5_call_83 (by decide) (fun c_51 => ?_) (fun c_51 => ?_)
              · have t_51 : 24 ≤ n0_ran.toInt := kk_le c_51
                exact hcut_49 (f2) _ _ _ ⟨hP, hD, hS, lv_sub hl [0, 1, 2, 3, 4, 5, 6, 7] rfl⟩
              · have t_51 : n0_ran.toInt < 24 := kk_nle c_51
                refine lv_aload_n hx hb dX5_call_86 rfl (lv_at hl 2 rfl) ?_
                refine va_get (D := (dC, dI)) (ci := 5) (v := .ref h2) (C := RX5) (T := TX5) (N := 4) hx hb hts (fun _ h => List.mem_cons_of_mem _ (List.mem_append_right _ h)) hown hK hP 0 rfl rfl 2 (by decide) (hts (.fieldLink RX5 15 "KinkStreet$Lines" "trace" "[I") (List.mem_of_getElem? (i := 4) rfl)) (fun _ h9 => h9) rfl dX5_call_87 ?_
                refine lv_aload_n hx hb dX5_call_90 rfl (lv_at hl 2 rfl) ?_
                refine va_get (D := (dC, dI)) (ci := 5) (v := .int n0_ran) (C := RX5) (T := TX5) (N := 4) hx hb hts (fun _ h => List.mem_cons_of_mem _ (List.mem_append_right _ h)) hown hK hP 0 rfl rfl 3 (by decide) (hts (.fieldLink RX5 36 "KinkStreet$Lines" "ran" "I") (List.mem_of_getElem? (i := 3) rfl)) (fun _ h9 => h9) rfl dX5_call_91 ?_
                refine lv_iload hx hb dX5_call_94 (lv_at hl 0 rfl) ?_
                refine va_iast hx hb hK hP hD hS 2 0 rfl rfl (vp_in_iff.mpr ⟨by have := kk_rng p4; omega, by have := kk_rng p4; omega⟩) dX5_call_96 (fun H locs hP hD hS => ?_)
                generalize upd f2 (n0_ran : Int32).toNatClampNeg 11 = f_52 at hP hD
                have hP : va_P (dC, dI) vwCl [(h0, Sum.inr (5, [Value.ref h1, Value.int n0_size, Value.ref h2, Value.int n0_ran])), (h1, Sum.inl (cint, 50, Sum.inl f1)), (h2, Sum.inl (cint, 24, Sum.inl f_52))] H := hP
                have hD : va_D A [(h0, Sum.inr (5, [Value.ref h1, Value.int n0_size, Value.ref h2, Value.int n0_ran])), (h1, Sum.inl (cint, 50, Sum.inl f1)), (h2, Sum.inl (cint, 24, Sum.inl f_52))] := hD
                exact hcut_49 (f_52) _ _ _ ⟨hP, hD, hS, lv_sub hl [0, 1, 2, 3, 4, 5, 6, 7] rfl⟩
          · have t_44 : 40 < p4.toInt := kk_nle c_44
            refine lv_iconst (v := 0) hx hb dX5_call_63 (by decide) ?_
            obtain ⟨hP9, hD9⟩ := kk_leafout (wc := [(h0, Sum.inr (5, [Value.ref h1, Value.int n0_size, Value.ref h2, Value.int n0_ran])), (h1, Sum.inl (cint, 50, Sum.inl f1)), (h2, Sum.inl (cint, 24, Sum.inl f2))]) hP hD [0, 1, 2] (by decide) rfl
            have hK9 := hK.sub (tys' := []) [] rfl
            exact W.iret (v := 0) hx hb hr (fun t ht hW => ⟨⟨0, (), rfl, trivial, n0_ran, f2, (by show 0 ≤ (n0_ran : Int32).toInt ∧ (n0_ran : Int32).toInt ≤ 1000; first | decide | (constructor <;> (have := kk_rng p4; omega))), (by show (n0_ran : Int32).toInt ≤ (n0_ran : Int32).toInt + 6; first | decide | (have := kk_rng p4; omega)), by rw [ht]; exact hP9, va_K.moved hW.alike hK9, hD9⟩, hS.F ht⟩) hS.2.2 dX5_call_64
      · skip
        have t_42_0 : (0 : Int) ≤ 0 := t_42_0
        have t_42_1 : (0 : Int) < 8 := t_42_1
        refine lv_if_eq (tgt := 48) hx hb dX5_call_18 (by decide) (fun c => absurd c (by decide)) (fun _ => ?_)
        refine va_gets hx hb hZOWN_BODIES hS hown (hts (.fieldLink RX5 43 "KinkStreet$Lines" "OWN_BODIES" "[I") (List.mem_of_getElem? (i := 1) rfl)) (fun _ h9 => h9) dX5_call_21 ?_
        refine lv_iload hx hb dX5_call_24 (lv_at hl 1 rfl) ?_
        refine lv_iconst (v := 4) hx hb dX5_call_26 (by decide) ?_
        refine lv_imul hx hb dX5_call_27 ?_
        refine lv_topi (fun y_53 e_53 => ?_)
        obtain rfl : y_53 = 0 := e_53.trans (by decide)
        refine lv_iload_n hx hb dX5_call_28 rfl (lv_at hl 5 rfl) ?_
        refine lv_iadd hx hb dX5_call_29 ?_
        refine lv_topi (fun y_54 e_54 => ?_)
        obtain rfl : y_54 = 2 := e_54.trans (by decide)
        refine va_ti (v := .int 11) hx hb hTOWN_BODIES hS (by unfold vp_in; decide) rfl dX5_call_30 ?_
        refine lv_if_ne (tgt := 48) hx hb dX5_call_31 (by decide) (fun _ => ?_) (fun c => absurd c (by decide))
        refine lv_iload hx hb dX5_call_48 (lv_at hl 1 rfl) ?_
        obtain ⟨hPc, hDc, hFc⟩ := kk_cutout (wc := []) hP hD hS hA [] (by decide) rfl
        have hKc := hK.sub (tys' := []) [] rfl
        refine va_calli (va_runS (As := [.int 0]) (rest := []) ⟨hx, hb, hml, hown, hts⟩ (g_X5_isKind_0 l dC dI H.size 0) (va_cwS 1 hts gX5_call_X5_isKind rfl rfl rfl (by decide +kernel) ⟨Nat.le_of_ble_eq_true rfl, Nat.le_of_ble_eq_true rfl⟩) ⟨fun a U g mk q => by obtain ⟨q0, q1, qP, qK, qD⟩ := q; exact ⟨q0, q1, qP, va_K.moved (u := U) (U := U.calling g mk a) (Vm.Alike.refl U.vm) qK, qD⟩, fun U hU hW => ⟨rfl, by rw [hU], by rw [hU]; exact hPc, va_K.moved hW.alike hKc, hDc.weaken (fun _ _ _ _ => trivial)⟩⟩ rfl rfl hl.1 rfl (lv_room (Nat.le_of_ble_eq_true rfl)) dX5_call_50 ⟨Nat.le_of_ble_eq_true rfl, Nat.le_of_ble_eq_true rfl⟩) hS (fun q _ h => hFc q h) hFc (fun r_55 u t H1 locs ht hvm hw hB hz1 hk1 hS => ?_)
        obtain ⟨hP1, hK1, hD1⟩ := hB
        rw [ht] at hP1
        have hK1 := va_K.moved hvm.symm hK1
        obtain ⟨hP, hD⟩ := va_join (wr := [(h0, Sum.inr (5, [Value.ref h1, Value.int n0_size, Value.ref h2, Value.int n0_ran])), (h1, Sum.inl (cint, 50, Sum.inl f1)), (h2, Sum.inl (cint, 24, Sum.inl f2))]) (w1 := []) hP hD [] [0, 1, 2] rfl rfl (by decide) (by decide) hk1 hFc hP1 hD1
        generalize H1 = H at hP hS ⊢
        have hP : va_P (dC, dI) vwCl [(h0, Sum.inr (5, [Value.ref h1, Value.int n0_size, Value.ref h2, Value.int n0_ran])), (h1, Sum.inl (cint, 50, Sum.inl f1)), (h2, Sum.inl (cint, 24, Sum.inl f2))] H := hP
        have hD : va_D A [(h0, Sum.inr (5, [Value.ref h1, Value.int n0_size, Value.ref h2, Value.int n0_ran])), (h1, Sum.inl (cint, 50, Sum.inl f1)), (h2, Sum.inl (cint, 24, Sum.inl f2))] := hD
        rcases hw with ⟨rfl⟩ | ⟨t_55_0, t_55_1, rfl⟩
        · skip
          refine lv_if_eq (tgt := 63) hx hb dX5_call_53 (by decide) (fun _ => ?_) (fun c => absurd c (by decide))
          refine lv_iconst (v := 0) hx hb dX5_call_63 (by decide) ?_
          obtain ⟨hP9, hD9⟩ := kk_leafout (wc := [(h0, Sum.inr (5, [Value.ref h1, Value.int n0_size, Value.ref h2, Value.int n0_ran])), (h1, Sum.inl (cint, 50, Sum.inl f1)), (h2, Sum.inl (cint, 24, Sum.inl f2))]) hP hD [0, 1, 2] (by decide) rfl
          have hK9 := hK.sub (tys' := []) [] rfl
          exact W.iret (v := 0) hx hb hr (fun t ht hW => ⟨⟨0, (), rfl, trivial, n0_ran, f2, (by show 0 ≤ (n0_ran : Int32).toInt ∧ (n0_ran : Int32).toInt ≤ 1000; first | decide | (constructor <;> (omega))), (by show (n0_ran : Int32).toInt ≤ (n0_ran : Int32).toInt + 6; first | decide | (omega)), by rw [ht]; exact hP9, va_K.moved hW.alike hK9, hD9⟩, hS.F ht⟩) hS.2.2 dX5_call_64
        · skip
          have t_55_0 : (0 : Int) ≤ 0 := t_55_0
          have t_55_1 : (0 : Int) < 8 := t_55_1
          refine lv_if_eq (tgt := 63) hx hb dX5_call_53 (by decide) (fun c => absurd c (by decide)) (fun _ => ?_)
          refine lv_iload hx hb dX5_call_56 (lv_at hl 7 rfl) ?_
          refine lv_bipush (v := 40) hx hb dX5_call_58 (by decide) ?_
          refine lv_icmp_le (tgt := 65) hx hb dX5_call_60 (by decide) (fun c_56 => ?_) (fun c_56 => ?_)
          · have t_56 : p4.toInt ≤ 40 := kk_le c_56
            refine va_gets hx hb hZOWN_BODIES hS hown (hts (.fieldLink RX5 43 "KinkStreet$Lines" "OWN_BODIES" "[I") (List.mem_of_getElem? (i := 1) rfl)) (fun _ h9 => h9) dX5_call_65 ?_
            refine lv_iload hx hb dX5_call_68 (lv_at hl 1 rfl) ?_
            refine lv_iconst (v := 4) hx hb dX5_call_70 (by decide) ?_
            refine lv_imul hx hb dX5_call_71 ?_
            refine lv_topi (fun y_57 e_57 => ?_)
            obtain rfl : y_57 = 0 := e_57.trans (by decide)
            refine lv_iload_n hx hb dX5_call_72 rfl (lv_at hl 5 rfl) ?_
            refine lv_iadd hx hb dX5_call_73 ?_
            refine lv_topi (fun y_58 e_58 => ?_)
            obtain rfl : y_58 = 2 := e_58.trans (by decide)
            refine va_ti (v := .int 11) hx hb hTOWN_BODIES hS (by unfold vp_in; decide) rfl dX5_call_74 ?_
            refine lv_istore (lv' := [(7, .int 11), (6, .int 0), (0, .ref h0), (1, .int p0), (2, .int 1), (3, .int 2), (4, .int p3), (5, .int p4)]) hx hb dX5_call_75 hl (by decide) rfl (fun ls hl => ?_)
            refine lv_aload_n hx hb dX5_call_77 rfl (lv_at hl 2 rfl) ?_
            refine va_get (D := (dC, dI)) (ci := 5) (v := .int n0_ran) (C := RX5) (T := TX5) (N := 4) hx hb hts (fun _ h => List.mem_cons_of_mem _ (List.mem_append_right _ h)) hown hK hP 0 rfl rfl 3 (by decide) (hts (.fieldLink RX5 36 "KinkStreet$Lines" "ran" "I") (List.mem_of_getElem? (i := 3) rfl)) (fun _ h9 => h9) rfl dX5_call_78 ?_
            refine lv_bipush (v := 24) hx hb dX5_call_81 (by decide) ?_
            refine kk_cut (σ := (Nat → Int32)) (pc' := 97) (fun x H locs ls => va_P (dC, dI) vwCl [(h0, Sum.inr (5, [Value.ref h1, Value.int n0_size, Value.ref h2, Value.int n0_ran])), (h1, Sum.inl (cint, 50, Sum.inl f1)), (h2, Sum.inl (cint, 24, Sum.inl x))] H ∧ va_D A [(h0, Sum.inr (5, [Value.ref h1, Value.int n0_size, Value.ref h2, Value.int n0_ran])), (h1, Sum.inl (cint, 50, Sum.inl f1)), (h2, Sum.inl (cint, 24, Sum.inl x))] ∧ va_S A s.heap H locs ∧ lv_has ls 8 [(7, .int 11), (6, .int 0), (0, .ref h0), (1, .int p0), (2, .int 1), (3, .int 2), (4, .int p3), (5, .int p4)]) ?_ (fun hcut_61 => ?_)
            · rintro f_61_0 H locs ls ⟨hP, hD, hS, hl⟩
              have hl : lv_has ls 8 [(7, .int 11), (6, .int 0), (0, .ref h0), (1, .int p0), (2, .int 1), (3, .int 2), (4, .int p3), (5, .int p4)] := hl
              have hP : va_P (dC, dI) vwCl [(h0, Sum.inr (5, [Value.ref h1, Value.int n0_size, Value.ref h2, Value.int n0_ran])), (h1, Sum.inl (cint, 50, Sum.inl f1)), (h2, Sum.inl (cint, 24, Sum.inl f_61_0))] H := hP
              have hD : va_D A [(h0, Sum.inr (5, [Value.ref h1, Value.int n0_size, Value.ref h2, Value.int n0_ran])), (h1, Sum.inl (cint, 50, Sum.inl f1)), (h2, Sum.inl (cint, 24, Sum.inl f_61_0))] := hD
              refine lv_aload_n hx hb dX5_call_97 rfl (lv_at hl 2 rfl) ?_
              refine lv_dup hx hb dX5_call_98 rfl ?_
              refine va_get (D := (dC, dI)) (ci := 5) (v := .int n0_ran) (C := RX5) (T := TX5) (N := 4) hx hb hts (fun _ h => List.mem_cons_of_mem _ (List.mem_append_right _ h)) hown hK hP 0 rfl rfl 3 (by decide) (hts (.fieldLink RX5 36 "KinkStreet$Lines" "ran" "I") (List.mem_of_getElem? (i := 3) rfl)) (fun _ h9 => h9) rfl dX5_call_99 ?_
              refine lv_iconst (v := 1) hx hb dX5_call_102 (by decide) ?_
              refine lv_iadd hx hb dX5_call_103 ?_
              refine va_put (D := (dC, dI)) (ci := 5) (v := .int (n0_ran + 1)) (ty := .int) (C := RX5) (T := TX5) (N := 4) hx hb hts (fun _ h => List.mem_cons_of_mem _ (List.mem_append_right _ h)) tyX5 tyX5_ok nmX5 hown hK hP hD hS 0 rfl rfl 3 (by decide) (hts (.fieldLink RX5 36 "KinkStreet$Lines" "ran" "I") (List.mem_of_getElem? (i := 3) rfl)) (fun _ h9 => h9) rfl (by decide +kernel) rfl rfl (Nat.le_of_ble_eq_true rfl) dX5_call_104 (fun H locs hP hD hS => ?_)
              have hP : va_P (dC, dI) vwCl [(h0, Sum.inr (5, [Value.ref h1, Value.int n0_size, Value.ref h2, Value.int (n0_ran + 1)])), (h1, Sum.inl (cint, 50, Sum.inl f1)), (h2, Sum.inl (cint, 24, Sum.inl f_61_0))] H := hP
              have hD : va_D A [(h0, Sum.inr (5, [Value.ref h1, Value.int n0_size, Value.ref h2, Value.int (n0_ran + 1)])), (h1, Sum.inl (cint, 50, Sum.inl f1)), (h2, Sum.inl (cint, 24, Sum.inl f_61_0))] := hD
              refine lv_iload hx hb dX5_call_107 (lv_at hl 1 rfl) ?_
              refine lv_if_ne (tgt := 128) hx hb dX5_call_109 (by decide) (fun c => absurd c (by decide)) (fun _ => ?_)
              refine lv_aload_n hx hb dX5_call_112 rfl (lv_at hl 2 rfl) ?_
              refine lv_iload_n hx hb dX5_call_113 rfl (lv_at hl 3 rfl) ?_
              refine lv_iload hx hb dX5_call_114 (lv_at hl 0 rfl) ?_
              refine lv_iload hx hb dX5_call_116 (lv_at hl 6 rfl) ?_
              refine lv_iload hx hb dX5_call_118 (lv_at hl 7 rfl) ?_
              refine lv_iconst (v := 1) hx hb dX5_call_120 (by decide) ?_
              refine lv_iadd hx hb dX5_call_121 ?_
              obtain ⟨hPc, hDc, hFc⟩ := kk_cutout (wc := [(h0, Sum.inr (5, [Value.ref h1, Value.int n0_size, Value.ref h2, Value.int (n0_ran + 1)])), (h1, Sum.inl (cint, 50, Sum.inl f1))]) hP hD hS hA [0, 1] (by decide) rfl
              have hKc := hK.sub (tys' := [(cint, .int)]) [0] rfl
              refine va_calli (va_runV (As := [.int p0, .int 11, .int p3, .int (p4 + 1)]) (rest := []) ⟨hx, hb, hml, hown, hts⟩ (g_X5_runLine_1 l dC dI h0 h1 h2 cint H.size p0 p3 (p4 + 1) n0_size (n0_ran + 1) f1 tn0_size (by show 0 ≤ ((n0_ran + 1) : Int32).toInt ∧ ((n0_ran + 1) : Int32).toInt ≤ 1000; first | decide | (constructor <;> (have := kk_rng p4; have := kk_add2 (x := n0_ran) (y := 1) (a := n0_ran.toInt) (b := 1) rfl rfl (by omega) (by omega); have := kk_rng p4; have := kk_add2 (x := p4) (y := 1) (a := p4.toInt) (b := 1) rfl rfl (by omega) (by omega); omega))) bf1) (cwV 4 hts gX5_call_X5_runLine rfl rfl rfl (by decide +kernel) ⟨Nat.le_of_ble_eq_true rfl, Nat.le_of_ble_eq_true rfl⟩) ⟨fun a U g mk q => by obtain ⟨q0, q1, qP, qK, qD⟩ := q; exact ⟨q0, q1, qP, va_K.moved (u := U) (U := U.calling g mk a) (Vm.Alike.refl U.vm) qK, qD⟩, va_recv hKc hPc (ci := 5) (q0 := 0) rfl rfl, fun U hU hW => ⟨rfl, by rw [hU], by rw [hU]; exact hPc, va_K.moved hW.alike hKc, hDc.weaken (fun _ _ _ _ => trivial)⟩⟩ rfl rfl hl.1 rfl (lv_room (Nat.le_of_ble_eq_true rfl)) dX5_call_122 ⟨Nat.le_of_ble_eq_true rfl, Nat.le_of_ble_eq_true rfl⟩) hS (fun q _ h => hFc q h) hFc (fun r_62 u t H1 locs ht hvm hw hB hz1 hk1 hS => ?_)
              obtain ⟨hP1, hK1, hD1⟩ := hB
              rw [ht] at hP1
              have hK1 := va_K.moved hvm.symm hK1
              obtain ⟨hP, hD⟩ := va_join (wr := [(h2, Sum.inl (cint, 24, Sum.inl f_61_0))]) (w1 := [(h0, Sum.inr (5, [Value.ref h1, Value.int n0_size, Value.ref h2, Value.int (n0_ran + 1)])), (h1, Sum.inl (cint, 50, Sum.inl f1))]) hP hD [0, 1] [2] rfl rfl (by decide) (by decide) hk1 hFc hP1 hD1
              generalize H1 = H at hP hS ⊢
              have hP : va_P (dC, dI) vwCl [(h2, Sum.inl (cint, 24, Sum.inl f_61_0)), (h0, Sum.inr (5, [Value.ref h1, Value.int n0_size, Value.ref h2, Value.int (n0_ran + 1)])), (h1, Sum.inl (cint, 50, Sum.inl f1))] H := hP
              have hD : va_D A [(h2, Sum.inl (cint, 24, Sum.inl f_61_0)), (h0, Sum.inr (5, [Value.ref h1, Value.int n0_size, Value.ref h2, Value.int (n0_ran + 1)])), (h1, Sum.inl (cint, 50, Sum.inl f1))] := hD
              refine lv_goto (tgt := 143) hx hb dX5_call_125 (by decide) ?_
              obtain ⟨hP9, hD9⟩ := kk_leafout (wc := [(h0, Sum.inr (5, [Value.ref h1, Value.int n0_size, Value.ref h2, Value.int (n0_ran + 1)])), (h1, Sum.inl (cint, 50, Sum.inl f1)), (h2, Sum.inl (cint, 24, Sum.inl f_61_0))]) hP hD [1, 2, 0] (by decide) rfl
              have hK9 := hK.sub (tys' := []) [] rfl
              exact W.iret (v := r_62) hx hb hr (fun t ht hW => ⟨⟨r_62, (), rfl, trivial, (n0_ran + 1), f_61_0, (by show 0 ≤ ((n0_ran + 1) : Int32).toInt ∧ ((n0_ran + 1) : Int32).toInt ≤ 1000; first | decide | (constructor <;> (have := kk_rng p4; have := kk_add2 (x := n0_ran) (y := 1) (a := n0_ran.toInt) (b := 1) rfl rfl (by omega) (by omega); have := kk_rng p4; have := kk_add2 (x := p4) (y := 1) (a := p4.toInt) (b := 1) rfl rfl (by omega) (by omega); omega))), (by show ((n0_ran + 1) : Int32).toInt ≤ (n0_ran : Int32).toInt + 6; first | decide | (have := kk_rng p4; have := kk_add2 (x := n0_ran) (y := 1) (a := n0_ran.toInt) (b := 1) rfl rfl (by omega) (by omega); have := kk_rng p4; have := kk_add2 (x := p4) (y := 1) (a := p4.toInt) (b := 1) rfl rfl (by omega) (by omega); omega)), by rw [ht]; exact hP9, va_K.moved hW.alike hK9, hD9⟩, hS.F ht⟩) hS.2.2 dX5_call_143
            · skip
              refine lv_icmp_ge (tgt := 97) hx hb dX5_call_83 (by decide) (fun c_63 => ?_) (fun c_63 => ?_)
              · have t_63 : 24 ≤ n0_ran.toInt := kk_le c_63
                exact hcut_61 (f2) _ _ _ ⟨hP, hD, hS, lv_sub hl [0, 1, 2, 3, 4, 5, 6, 7] rfl⟩
              · have t_63 : n0_ran.toInt < 24 := kk_nle c_63
                refine lv_aload_n hx hb dX5_call_86 rfl (lv_at hl 2 rfl) ?_
                refine va_get (D := (dC, dI)) (ci := 5) (v := .ref h2) (C := RX5) (T := TX5) (N := 4) hx hb hts (fun _ h => List.mem_cons_of_mem _ (List.mem_append_right _ h)) hown hK hP 0 rfl rfl 2 (by decide) (hts (.fieldLink RX5 15 "KinkStreet$Lines" "trace" "[I") (List.mem_of_getElem? (i := 4) rfl)) (fun _ h9 => h9) rfl dX5_call_87 ?_
                refine lv_aload_n hx hb dX5_call_90 rfl (lv_at hl 2 rfl) ?_
                refine va_get (D := (dC, dI)) (ci := 5) (v := .int n0_ran) (C := RX5) (T := TX5) (N := 4) hx hb hts (fun _ h => List.mem_cons_of_mem _ (List.mem_append_right _ h)) hown hK hP 0 rfl rfl 3 (by decide) (hts (.fieldLink RX5 36 "KinkStreet$Lines" "ran" "I") (List.mem_of_getElem? (i := 3) rfl)) (fun _ h9 => h9) rfl dX5_call_91 ?_
                refine lv_iload hx hb dX5_call_94 (lv_at hl 0 rfl) ?_
                refine va_iast hx hb hK hP hD hS 2 0 rfl rfl (vp_in_iff.mpr ⟨by have := kk_rng p4; omega, by have := kk_rng p4; omega⟩) dX5_call_96 (fun H locs hP hD hS => ?_)
                generalize upd f2 (n0_ran : Int32).toNatClampNeg 11 = f_64 at hP hD
                have hP : va_P (dC, dI) vwCl [(h0, Sum.inr (5, [Value.ref h1, Value.int n0_size, Value.ref h2, Value.int n0_ran])), (h1, Sum.inl (cint, 50, Sum.inl f1)), (h2, Sum.inl (cint, 24, Sum.inl f_64))] H := hP
                have hD : va_D A [(h0, Sum.inr (5, [Value.ref h1, Value.int n0_size, Value.ref h2, Value.int n0_ran])), (h1, Sum.inl (cint, 50, Sum.inl f1)), (h2, Sum.inl (cint, 24, Sum.inl f_64))] := hD
                exact hcut_61 (f_64) _ _ _ ⟨hP, hD, hS, lv_sub hl [0, 1, 2, 3, 4, 5, 6, 7] rfl⟩
          · have t_56 : 40 < p4.toInt := kk_nle c_56
            refine lv_iconst (v := 0) hx hb dX5_call_63 (by decide) ?_
            obtain ⟨hP9, hD9⟩ := kk_leafout (wc := [(h0, Sum.inr (5, [Value.ref h1, Value.int n0_size, Value.ref h2, Value.int n0_ran])), (h1, Sum.inl (cint, 50, Sum.inl f1)), (h2, Sum.inl (cint, 24, Sum.inl f2))]) hP hD [0, 1, 2] (by decide) rfl
            have hK9 := hK.sub (tys' := []) [] rfl
            exact W.iret (v := 0) hx hb hr (fun t ht hW => ⟨⟨0, (), rfl, trivial, n0_ran, f2, (by show 0 ≤ (n0_ran : Int32).toInt ∧ (n0_ran : Int32).toInt ≤ 1000; first | decide | (constructor <;> (have := kk_rng p4; omega))), (by show (n0_ran : Int32).toInt ≤ (n0_ran : Int32).toInt + 6; first | decide | (have := kk_rng p4; omega)), by rw [ht]; exact hP9, va_K.moved hW.alike hK9, hD9⟩, hS.F ht⟩) hS.2.2 dX5_call_64
  · have t_1 : p1.toInt = 2 := by rw [e_1]; rfl
    subst e_1
    refine lv_iload_n hx hb dX5_call_0 rfl (lv_at hl 2 rfl) ?_
    refine lv_istore (lv' := [(6, .int 2), (0, .ref h0), (1, .int p0), (2, .int 2), (3, .int 2), (4, .int p3), (5, .int p4)]) hx hb dX5_call_1 hl (by decide) rfl (fun ls hl => ?_)
    refine lv_iconst (v := 0) hx hb dX5_call_3 (by decide) ?_
    refine lv_istore (lv' := [(7, .int 0), (6, .int 2), (0, .ref h0), (1, .int p0), (2, .int 2), (3, .int 2), (4, .int p3), (5, .int p4)]) hx hb dX5_call_4 hl (by decide) rfl (fun ls hl => ?_)
    refine lv_iload hx hb dX5_call_6 (lv_at hl 0 rfl) ?_
    refine lv_bipush (v := 8) hx hb dX5_call_8 (by decide) ?_
    refine lv_icmp_ge (tgt := 48) hx hb dX5_call_10 (by decide) (fun c => absurd c (by decide)) (fun _ => ?_)
    refine lv_iload hx hb dX5_call_13 (lv_at hl 1 rfl) ?_
    obtain ⟨hPc, hDc, hFc⟩ := kk_cutout (wc := []) hP hD hS hA [] (by decide) rfl
    have hKc := hK.sub (tys' := []) [] rfl
    refine va_calli (va_runS (As := [.int 2]) (rest := []) ⟨hx, hb, hml, hown, hts⟩ (g_X5_isKind_0 l dC dI s.heap.size 2) (va_cwS 1 hts gX5_call_X5_isKind rfl rfl rfl (by decide +kernel) ⟨Nat.le_of_ble_eq_true rfl, Nat.le_of_ble_eq_true rfl⟩) ⟨fun a U g mk q => by obtain ⟨q0, q1, qP, qK, qD⟩ := q; exact ⟨q0, q1, qP, va_K.moved (u := U) (U := U.calling g mk a) (Vm.Alike.refl U.vm) qK, qD⟩, fun U hU hW => ⟨rfl, by rw [hU], by rw [hU]; exact hPc, va_K.moved hW.alike hKc, hDc.weaken (fun _ _ _ _ => trivial)⟩⟩ rfl rfl hl.1 rfl (lv_room (Nat.le_of_ble_eq_true rfl)) dX5_call_15 ⟨Nat.le_of_ble_eq_true rfl, Nat.le_of_ble_eq_true rfl⟩) hS (fun q _ h => hFc q h) hFc (fun r_65 u t H1 locs ht hvm hw hB hz1 hk1 hS => ?_)
    obtain ⟨hP1, hK1, hD1⟩ := hB
    rw [ht] at hP1
    have hK1 := va_K.moved hvm.symm hK1
    obtain ⟨hP, hD⟩ := va_join (wr := [(h0, Sum.inr (5, [Value.ref h1, Value.int n0_size, Value.ref h2, Value.int n0_ran])), (h1, Sum.inl (cint, 50, Sum.inl f1)), (h2, Sum.inl (cint, 24, Sum.inl f2))]) (w1 := []) hP hD [] [0, 1, 2] rfl rfl (by decide) (by decide) hk1 hFc hP1 hD1
    generalize H1 = H at hP hS ⊢
    have hP : va_P (dC, dI) vwCl [(h0, Sum.inr (5, [Value.ref h1, Value.int n0_size, Value.ref h2, Value.int n0_ran])), (h1, Sum.inl (cint, 50, Sum.inl f1)), (h2, Sum.inl (cint, 24, Sum.inl f2))] H := hP
    have hD : va_D A [(h0, Sum.inr (5, [Value.ref h1, Value.int n0_size, Value.ref h2, Value.int n0_ran])), (h1, Sum.inl (cint, 50, Sum.inl f1)), (h2, Sum.inl (cint, 24, Sum.inl f2))] := hD
    rcases hw with ⟨rfl⟩ | ⟨t_65_0, t_65_1, rfl⟩
    · skip
      refine lv_if_eq (tgt := 48) hx hb dX5_call_18 (by decide) (fun _ => ?_) (fun c => absurd c (by decide))
      refine lv_iload hx hb dX5_call_48 (lv_at hl 1 rfl) ?_
      obtain ⟨hPc, hDc, hFc⟩ := kk_cutout (wc := []) hP hD hS hA [] (by decide) rfl
      have hKc := hK.sub (tys' := []) [] rfl
      refine va_calli (va_runS (As := [.int 2]) (rest := []) ⟨hx, hb, hml, hown, hts⟩ (g_X5_isKind_0 l dC dI H.size 2) (va_cwS 1 hts gX5_call_X5_isKind rfl rfl rfl (by decide +kernel) ⟨Nat.le_of_ble_eq_true rfl, Nat.le_of_ble_eq_true rfl⟩) ⟨fun a U g mk q => by obtain ⟨q0, q1, qP, qK, qD⟩ := q; exact ⟨q0, q1, qP, va_K.moved (u := U) (U := U.calling g mk a) (Vm.Alike.refl U.vm) qK, qD⟩, fun U hU hW => ⟨rfl, by rw [hU], by rw [hU]; exact hPc, va_K.moved hW.alike hKc, hDc.weaken (fun _ _ _ _ => trivial)⟩⟩ rfl rfl hl.1 rfl (lv_room (Nat.le_of_ble_eq_true rfl)) dX5_call_50 ⟨Nat.le_of_ble_eq_true rfl, Nat.le_of_ble_eq_true rfl⟩) hS (fun q _ h => hFc q h) hFc (fun r_66 u t H1 locs ht hvm hw hB hz1 hk1 hS => ?_)
      obtain ⟨hP1, hK1, hD1⟩ := hB
      rw [ht] at hP1
      have hK1 := va_K.moved hvm.symm hK1
      obtain ⟨hP, hD⟩ := va_join (wr := [(h0, Sum.inr (5, [Value.ref h1, Value.int n0_size, Value.ref h2, Value.int n0_ran])), (h1, Sum.inl (cint, 50, Sum.inl f1)), (h2, Sum.inl (cint, 24, Sum.inl f2))]) (w1 := []) hP hD [] [0, 1, 2] rfl rfl (by decide) (by decide) hk1 hFc hP1 hD1
      generalize H1 = H at hP hS ⊢
      have hP : va_P (dC, dI) vwCl [(h0, Sum.inr (5, [Value.ref h1, Value.int n0_size, Value.ref h2, Value.int n0_ran])), (h1, Sum.inl (cint, 50, Sum.inl f1)), (h2, Sum.inl (cint, 24, Sum.inl f2))] H := hP
      have hD : va_D A [(h0, Sum.inr (5, [Value.ref h1, Value.int n0_size, Value.ref h2, Value.int n0_ran])), (h1, Sum.inl (cint, 50, Sum.inl f1)), (h2, Sum.inl (cint, 24, Sum.inl f2))] := hD
      rcases hw with ⟨rfl⟩ | ⟨t_66_0, t_66_1, rfl⟩
      · skip
        refine lv_if_eq (tgt := 63) hx hb dX5_call_53 (by decide) (fun _ => ?_) (fun c => absurd c (by decide))
        refine lv_iconst (v := 0) hx hb dX5_call_63 (by decide) ?_
        obtain ⟨hP9, hD9⟩ := kk_leafout (wc := [(h0, Sum.inr (5, [Value.ref h1, Value.int n0_size, Value.ref h2, Value.int n0_ran])), (h1, Sum.inl (cint, 50, Sum.inl f1)), (h2, Sum.inl (cint, 24, Sum.inl f2))]) hP hD [0, 1, 2] (by decide) rfl
        have hK9 := hK.sub (tys' := []) [] rfl
        exact W.iret (v := 0) hx hb hr (fun t ht hW => ⟨⟨0, (), rfl, trivial, n0_ran, f2, (by show 0 ≤ (n0_ran : Int32).toInt ∧ (n0_ran : Int32).toInt ≤ 1000; first | decide | (constructor <;> (omega))), (by show (n0_ran : Int32).toInt ≤ (n0_ran : Int32).toInt + 6; first | decide | (omega)), by rw [ht]; exact hP9, va_K.moved hW.alike hK9, hD9⟩, hS.F ht⟩) hS.2.2 dX5_call_64
      · skip
        have t_66_0 : (0 : Int) ≤ 2 := t_66_0
        have t_66_1 : (2 : Int) < 8 := t_66_1
        refine lv_if_eq (tgt := 63) hx hb dX5_call_53 (by decide) (fun c => absurd c (by decide)) (fun _ => ?_)
        refine lv_iload hx hb dX5_call_56 (lv_at hl 7 rfl) ?_
        refine lv_bipush (v := 40) hx hb dX5_call_58 (by decide) ?_
        refine lv_icmp_le (tgt := 65) hx hb dX5_call_60 (by decide) (fun c_67 => ?_) (fun c_67 => ?_)
        · have t_67 : p4.toInt ≤ 40 := kk_le c_67
          refine va_gets hx hb hZOWN_BODIES hS hown (hts (.fieldLink RX5 43 "KinkStreet$Lines" "OWN_BODIES" "[I") (List.mem_of_getElem? (i := 1) rfl)) (fun _ h9 => h9) dX5_call_65 ?_
          refine lv_iload hx hb dX5_call_68 (lv_at hl 1 rfl) ?_
          refine lv_iconst (v := 4) hx hb dX5_call_70 (by decide) ?_
          refine lv_imul hx hb dX5_call_71 ?_
          refine lv_topi (fun y_68 e_68 => ?_)
          obtain rfl : y_68 = 8 := e_68.trans (by decide)
          refine lv_iload_n hx hb dX5_call_72 rfl (lv_at hl 5 rfl) ?_
          refine lv_iadd hx hb dX5_call_73 ?_
          refine lv_topi (fun y_69 e_69 => ?_)
          obtain rfl : y_69 = 10 := e_69.trans (by decide)
          refine va_ti (v := .int 0) hx hb hTOWN_BODIES hS (by unfold vp_in; decide) rfl dX5_call_74 ?_
          refine lv_istore (lv' := [(7, .int 0), (6, .int 2), (0, .ref h0), (1, .int p0), (2, .int 2), (3, .int 2), (4, .int p3), (5, .int p4)]) hx hb dX5_call_75 hl (by decide) rfl (fun ls hl => ?_)
          refine lv_aload_n hx hb dX5_call_77 rfl (lv_at hl 2 rfl) ?_
          refine va_get (D := (dC, dI)) (ci := 5) (v := .int n0_ran) (C := RX5) (T := TX5) (N := 4) hx hb hts (fun _ h => List.mem_cons_of_mem _ (List.mem_append_right _ h)) hown hK hP 0 rfl rfl 3 (by decide) (hts (.fieldLink RX5 36 "KinkStreet$Lines" "ran" "I") (List.mem_of_getElem? (i := 3) rfl)) (fun _ h9 => h9) rfl dX5_call_78 ?_
          refine lv_bipush (v := 24) hx hb dX5_call_81 (by decide) ?_
          refine kk_cut (σ := (Nat → Int32)) (pc' := 97) (fun x H locs ls => va_P (dC, dI) vwCl [(h0, Sum.inr (5, [Value.ref h1, Value.int n0_size, Value.ref h2, Value.int n0_ran])), (h1, Sum.inl (cint, 50, Sum.inl f1)), (h2, Sum.inl (cint, 24, Sum.inl x))] H ∧ va_D A [(h0, Sum.inr (5, [Value.ref h1, Value.int n0_size, Value.ref h2, Value.int n0_ran])), (h1, Sum.inl (cint, 50, Sum.inl f1)), (h2, Sum.inl (cint, 24, Sum.inl x))] ∧ va_S A s.heap H locs ∧ lv_has ls 8 [(7, .int 0), (6, .int 2), (0, .ref h0), (1, .int p0), (2, .int 2), (3, .int 2), (4, .int p3), (5, .int p4)]) ?_ (fun hcut_72 => ?_)
          · rintro f_72_0 H locs ls ⟨hP, hD, hS, hl⟩
            have hl : lv_has ls 8 [(7, .int 0), (6, .int 2), (0, .ref h0), (1, .int p0), (2, .int 2), (3, .int 2), (4, .int p3), (5, .int p4)] := hl
            have hP : va_P (dC, dI) vwCl [(h0, Sum.inr (5, [Value.ref h1, Value.int n0_size, Value.ref h2, Value.int n0_ran])), (h1, Sum.inl (cint, 50, Sum.inl f1)), (h2, Sum.inl (cint, 24, Sum.inl f_72_0))] H := hP
            have hD : va_D A [(h0, Sum.inr (5, [Value.ref h1, Value.int n0_size, Value.ref h2, Value.int n0_ran])), (h1, Sum.inl (cint, 50, Sum.inl f1)), (h2, Sum.inl (cint, 24, Sum.inl f_72_0))] := hD
            refine lv_aload_n hx hb dX5_call_97 rfl (lv_at hl 2 rfl) ?_
            refine lv_dup hx hb dX5_call_98 rfl ?_
            refine va_get (D := (dC, dI)) (ci := 5) (v := .int n0_ran) (C := RX5) (T := TX5) (N := 4) hx hb hts (fun _ h => List.mem_cons_of_mem _ (List.mem_append_right _ h)) hown hK hP 0 rfl rfl 3 (by decide) (hts (.fieldLink RX5 36 "KinkStreet$Lines" "ran" "I") (List.mem_of_getElem? (i := 3) rfl)) (fun _ h9 => h9) rfl dX5_call_99 ?_
            refine lv_iconst (v := 1) hx hb dX5_call_102 (by decide) ?_
            refine lv_iadd hx hb dX5_call_103 ?_
            refine va_put (D := (dC, dI)) (ci := 5) (v := .int (n0_ran + 1)) (ty := .int) (C := RX5) (T := TX5) (N := 4) hx hb hts (fun _ h => List.mem_cons_of_mem _ (List.mem_append_right _ h)) tyX5 tyX5_ok nmX5 hown hK hP hD hS 0 rfl rfl 3 (by decide) (hts (.fieldLink RX5 36 "KinkStreet$Lines" "ran" "I") (List.mem_of_getElem? (i := 3) rfl)) (fun _ h9 => h9) rfl (by decide +kernel) rfl rfl (Nat.le_of_ble_eq_true rfl) dX5_call_104 (fun H locs hP hD hS => ?_)
            have hP : va_P (dC, dI) vwCl [(h0, Sum.inr (5, [Value.ref h1, Value.int n0_size, Value.ref h2, Value.int (n0_ran + 1)])), (h1, Sum.inl (cint, 50, Sum.inl f1)), (h2, Sum.inl (cint, 24, Sum.inl f_72_0))] H := hP
            have hD : va_D A [(h0, Sum.inr (5, [Value.ref h1, Value.int n0_size, Value.ref h2, Value.int (n0_ran + 1)])), (h1, Sum.inl (cint, 50, Sum.inl f1)), (h2, Sum.inl (cint, 24, Sum.inl f_72_0))] := hD
            refine lv_iload hx hb dX5_call_107 (lv_at hl 1 rfl) ?_
            refine lv_if_ne (tgt := 128) hx hb dX5_call_109 (by decide) (fun _ => ?_) (fun c => absurd c (by decide))
            refine lv_aload_n hx hb dX5_call_128 rfl (lv_at hl 2 rfl) ?_
            refine lv_iload_n hx hb dX5_call_129 rfl (lv_at hl 3 rfl) ?_
            refine lv_iload hx hb dX5_call_130 (lv_at hl 1 rfl) ?_
            refine lv_iload hx hb dX5_call_132 (lv_at hl 0 rfl) ?_
            refine lv_iload hx hb dX5_call_134 (lv_at hl 6 rfl) ?_
            refine lv_iload hx hb dX5_call_136 (lv_at hl 7 rfl) ?_
            refine lv_iconst (v := 1) hx hb dX5_call_138 (by decide) ?_
            refine lv_iadd hx hb dX5_call_139 ?_
            obtain ⟨hPc, hDc, hFc⟩ := kk_cutout (wc := [(h0, Sum.inr (5, [Value.ref h1, Value.int n0_size, Value.ref h2, Value.int (n0_ran + 1)])), (h1, Sum.inl (cint, 50, Sum.inl f1)), (h2, Sum.inl (cint, 24, Sum.inl f_72_0))]) hP hD hS hA [0, 1, 2] (by decide) rfl
            have hKc := hK.sub (tys' := [(cint, .int)]) [0] rfl
            refine va_calli (va_runV (As := [.int p0, .int 2, .int 0, .int p3, .int (p4 + 1)]) (rest := []) ⟨hx, hb, hml, hown, hts⟩ (g_X5_runUnder_1 l dC dI h0 h1 h2 cint H.size p0 p3 (p4 + 1) n0_size (n0_ran + 1) f1 f_72_0 tn0_size (by show 0 ≤ ((n0_ran + 1) : Int32).toInt ∧ ((n0_ran + 1) : Int32).toInt ≤ 999; first | decide | (constructor <;> (have := kk_rng p4; have := kk_add2 (x := n0_ran) (y := 1) (a := n0_ran.toInt) (b := 1) rfl rfl (by omega) (by omega); have := kk_rng p4; have := kk_add2 (x := p4) (y := 1) (a := p4.toInt) (b := 1) rfl rfl (by omega) (by omega); omega))) bf1 aOWN_BODIES aABOVE) (cwV 5 hts gX5_call_X5_runUnder rfl rfl rfl (by decide +kernel) ⟨Nat.le_of_ble_eq_true rfl, Nat.le_of_ble_eq_true rfl⟩) ⟨fun a U g mk q => by obtain ⟨q0, q1, qP, qK, qD, qx0, qx1, qx2, qx3⟩ := q; exact ⟨q0, q1, qP, va_K.moved (u := U) (U := U.calling g mk a) (Vm.Alike.refl U.vm) qK, qD, va_Z.moved (u := U) (U := U.calling g mk a) (Vm.Alike.refl U.vm) qx0, va_T.moved (u := U) (U := U.calling g mk a) (Vm.Alike.refl U.vm) qx1, va_Z.moved (u := U) (U := U.calling g mk a) (Vm.Alike.refl U.vm) qx2, va_T.moved (u := U) (U := U.calling g mk a) (Vm.Alike.refl U.vm) qx3⟩, va_recv hKc hPc (ci := 5) (q0 := 0) rfl rfl, fun U hU hW => ⟨rfl, by rw [hU], by rw [hU]; exact hPc, va_K.moved hW.alike hKc, hDc.weaken (fun _ _ _ _ => trivial), by rw [hU]; exact ((hZOWN_BODIES.kept (fun a h1 h2 => hS.2.1 a h1 h2)).narrow hFc).moved hW.alike, by rw [hU]; exact ((hTOWN_BODIES.kept (fun a h1 h2 => hS.2.1 a h1 h2)).narrow hFc).moved hW.alike, by rw [hU]; exact ((hZABOVE.kept (fun a h1 h2 => hS.2.1 a h1 h2)).narrow hFc).moved hW.alike, by rw [hU]; exact ((hTABOVE.kept (fun a h1 h2 => hS.2.1 a h1 h2)).narrow hFc).moved hW.alike⟩⟩ rfl rfl hl.1 rfl (lv_room (Nat.le_of_ble_eq_true rfl)) dX5_call_140 ⟨Nat.le_of_ble_eq_true rfl, Nat.le_of_ble_eq_true rfl⟩) hS (fun q _ h => hFc q h) hFc (fun r_73 u t H1 locs ht hvm hw hB hz1 hk1 hS => ?_)
            obtain ⟨y_74, f_75, by_74, v_75_0, hP1, hK1, hD1⟩ := hB
            have v_75_0 : y_74.toInt ≤ (n0_ran + 1).toInt + 1 := v_75_0
            rw [ht] at hP1
            have hK1 := va_K.moved hvm.symm hK1
            obtain ⟨hP, hD⟩ := va_join (wr := []) (w1 := [(h0, Sum.inr (5, [Value.ref h1, Value.int n0_size, Value.ref h2, Value.int y_74])), (h1, Sum.inl (cint, 50, Sum.inl f1)), (h2, Sum.inl (cint, 24, Sum.inl f_75))]) hP hD [0, 1, 2] [] rfl rfl (by decide) (by decide) hk1 hFc hP1 hD1
            generalize H1 = H at hP hS ⊢
            have hP : va_P (dC, dI) vwCl [(h0, Sum.inr (5, [Value.ref h1, Value.int n0_size, Value.ref h2, Value.int y_74])), (h1, Sum.inl (cint, 50, Sum.inl f1)), (h2, Sum.inl (cint, 24, Sum.inl f_75))] H := hP
            have hD : va_D A [(h0, Sum.inr (5, [Value.ref h1, Value.int n0_size, Value.ref h2, Value.int y_74])), (h1, Sum.inl (cint, 50, Sum.inl f1)), (h2, Sum.inl (cint, 24, Sum.inl f_75))] := hD
            obtain ⟨hP9, hD9⟩ := kk_leafout (wc := [(h0, Sum.inr (5, [Value.ref h1, Value.int n0_size, Value.ref h2, Value.int y_74])), (h1, Sum.inl (cint, 50, Sum.inl f1)), (h2, Sum.inl (cint, 24, Sum.inl f_75))]) hP hD [0, 1, 2] (by decide) rfl
            have hK9 := hK.sub (tys' := []) [] rfl
            exact W.iret (v := r_73) hx hb hr (fun t ht hW => ⟨⟨r_73, (), rfl, trivial, y_74, f_75, (by show 0 ≤ (y_74 : Int32).toInt ∧ (y_74 : Int32).toInt ≤ 1000; first | decide | (constructor <;> (have := kk_rng p4; have := kk_add2 (x := n0_ran) (y := 1) (a := n0_ran.toInt) (b := 1) rfl rfl (by omega) (by omega); have := kk_rng p4; have := kk_add2 (x := p4) (y := 1) (a := p4.toInt) (b := 1) rfl rfl (by omega) (by omega); omega))), (by show (y_74 : Int32).toInt ≤ (n0_ran : Int32).toInt + 6; first | decide | (have := kk_rng p4; have := kk_add2 (x := n0_ran) (y := 1) (a := n0_ran.toInt) (b := 1) rfl rfl (by omega) (by omega); have := kk_rng p4; have := kk_add2 (x := p4) (y := 1) (a := p4.toInt) (b := 1) rfl rfl (by omega) (by omega); omega)), by rw [ht]; exact hP9, va_K.moved hW.alike hK9, hD9⟩, hS.F ht⟩) hS.2.2 dX5_call_143
          · skip
            refine lv_icmp_ge (tgt := 97) hx hb dX5_call_83 (by decide) (fun c_76 => ?_) (fun c_76 => ?_)
            · have t_76 : 24 ≤ n0_ran.toInt := kk_le c_76
              exact hcut_72 (f2) _ _ _ ⟨hP, hD, hS, lv_sub hl [0, 1, 2, 3, 4, 5, 6, 7] rfl⟩
            · have t_76 : n0_ran.toInt < 24 := kk_nle c_76
              refine lv_aload_n hx hb dX5_call_86 rfl (lv_at hl 2 rfl) ?_
              refine va_get (D := (dC, dI)) (ci := 5) (v := .ref h2) (C := RX5) (T := TX5) (N := 4) hx hb hts (fun _ h => List.mem_cons_of_mem _ (List.mem_append_right _ h)) hown hK hP 0 rfl rfl 2 (by decide) (hts (.fieldLink RX5 15 "KinkStreet$Lines" "trace" "[I") (List.mem_of_getElem? (i := 4) rfl)) (fun _ h9 => h9) rfl dX5_call_87 ?_
              refine lv_aload_n hx hb dX5_call_90 rfl (lv_at hl 2 rfl) ?_
              refine va_get (D := (dC, dI)) (ci := 5) (v := .int n0_ran) (C := RX5) (T := TX5) (N := 4) hx hb hts (fun _ h => List.mem_cons_of_mem _ (List.mem_append_right _ h)) hown hK hP 0 rfl rfl 3 (by decide) (hts (.fieldLink RX5 36 "KinkStreet$Lines" "ran" "I") (List.mem_of_getElem? (i := 3) rfl)) (fun _ h9 => h9) rfl dX5_call_91 ?_
              refine lv_iload hx hb dX5_call_94 (lv_at hl 0 rfl) ?_
              refine va_iast hx hb hK hP hD hS 2 0 rfl rfl (vp_in_iff.mpr ⟨by have := kk_rng p4; omega, by have := kk_rng p4; omega⟩) dX5_call_96 (fun H locs hP hD hS => ?_)
              generalize upd f2 (n0_ran : Int32).toNatClampNeg 0 = f_77 at hP hD
              have hP : va_P (dC, dI) vwCl [(h0, Sum.inr (5, [Value.ref h1, Value.int n0_size, Value.ref h2, Value.int n0_ran])), (h1, Sum.inl (cint, 50, Sum.inl f1)), (h2, Sum.inl (cint, 24, Sum.inl f_77))] H := hP
              have hD : va_D A [(h0, Sum.inr (5, [Value.ref h1, Value.int n0_size, Value.ref h2, Value.int n0_ran])), (h1, Sum.inl (cint, 50, Sum.inl f1)), (h2, Sum.inl (cint, 24, Sum.inl f_77))] := hD
              exact hcut_72 (f_77) _ _ _ ⟨hP, hD, hS, lv_sub hl [0, 1, 2, 3, 4, 5, 6, 7] rfl⟩
        · have t_67 : 40 < p4.toInt := kk_nle c_67
          refine lv_iconst (v := 0) hx hb dX5_call_63 (by decide) ?_
          obtain ⟨hP9, hD9⟩ := kk_leafout (wc := [(h0, Sum.inr (5, [Value.ref h1, Value.int n0_size, Value.ref h2, Value.int n0_ran])), (h1, Sum.inl (cint, 50, Sum.inl f1)), (h2, Sum.inl (cint, 24, Sum.inl f2))]) hP hD [0, 1, 2] (by decide) rfl
          have hK9 := hK.sub (tys' := []) [] rfl
          exact W.iret (v := 0) hx hb hr (fun t ht hW => ⟨⟨0, (), rfl, trivial, n0_ran, f2, (by show 0 ≤ (n0_ran : Int32).toInt ∧ (n0_ran : Int32).toInt ≤ 1000; first | decide | (constructor <;> (have := kk_rng p4; omega))), (by show (n0_ran : Int32).toInt ≤ (n0_ran : Int32).toInt + 6; first | decide | (have := kk_rng p4; omega)), by rw [ht]; exact hP9, va_K.moved hW.alike hK9, hD9⟩, hS.F ht⟩) hS.2.2 dX5_call_64
    · skip
      have t_65_0 : (0 : Int) ≤ 2 := t_65_0
      have t_65_1 : (2 : Int) < 8 := t_65_1
      refine lv_if_eq (tgt := 48) hx hb dX5_call_18 (by decide) (fun c => absurd c (by decide)) (fun _ => ?_)
      refine va_gets hx hb hZOWN_BODIES hS hown (hts (.fieldLink RX5 43 "KinkStreet$Lines" "OWN_BODIES" "[I") (List.mem_of_getElem? (i := 1) rfl)) (fun _ h9 => h9) dX5_call_21 ?_
      refine lv_iload hx hb dX5_call_24 (lv_at hl 1 rfl) ?_
      refine lv_iconst (v := 4) hx hb dX5_call_26 (by decide) ?_
      refine lv_imul hx hb dX5_call_27 ?_
      refine lv_topi (fun y_78 e_78 => ?_)
      obtain rfl : y_78 = 8 := e_78.trans (by decide)
      refine lv_iload_n hx hb dX5_call_28 rfl (lv_at hl 5 rfl) ?_
      refine lv_iadd hx hb dX5_call_29 ?_
      refine lv_topi (fun y_79 e_79 => ?_)
      obtain rfl : y_79 = 10 := e_79.trans (by decide)
      refine va_ti (v := .int 0) hx hb hTOWN_BODIES hS (by unfold vp_in; decide) rfl dX5_call_30 ?_
      refine lv_if_ne (tgt := 48) hx hb dX5_call_31 (by decide) (fun c => absurd c (by decide)) (fun _ => ?_)
      refine va_gets hx hb hZABOVE hS hown (hts (.fieldLink RX5 22 "KinkStreet$Lines" "ABOVE" "[I") (List.mem_of_getElem? (i := 2) rfl)) (fun _ h9 => h9) dX5_call_34 ?_
      refine lv_iload hx hb dX5_call_37 (lv_at hl 1 rfl) ?_
      refine va_ti (v := .int 0) hx hb hTABOVE hS (by unfold vp_in; decide) rfl dX5_call_39 ?_
      refine lv_istore (lv' := [(6, .int 0), (7, .int 0), (0, .ref h0), (1, .int p0), (2, .int 2), (3, .int 2), (4, .int p3), (5, .int p4)]) hx hb dX5_call_40 hl (by decide) rfl (fun ls hl => ?_)
      refine lv_iinc (v := 1) (lv' := [(7, .int 1), (6, .int 0), (0, .ref h0), (1, .int p0), (2, .int 2), (3, .int 2), (4, .int p3), (5, .int p4)]) hx hb dX5_call_42 hl (k := 1) rfl (by first | rfl | decide) (by decide) rfl (fun ls hl => ?_)
      refine lv_goto (tgt := 6) hx hb dX5_call_45 (by decide) ?_
      refine lv_iload hx hb dX5_call_6 (lv_at hl 0 rfl) ?_
      refine lv_bipush (v := 8) hx hb dX5_call_8 (by decide) ?_
      refine lv_icmp_ge (tgt := 48) hx hb dX5_call_10 (by decide) (fun c => absurd c (by decide)) (fun _ => ?_)
      refine lv_iload hx hb dX5_call_13 (lv_at hl 1 rfl) ?_
      obtain ⟨hPc, hDc, hFc⟩ := kk_cutout (wc := []) hP hD hS hA [] (by decide) rfl
      have hKc := hK.sub (tys' := []) [] rfl
      refine va_calli (va_runS (As := [.int 0]) (rest := []) ⟨hx, hb, hml, hown, hts⟩ (g_X5_isKind_0 l dC dI H.size 0) (va_cwS 1 hts gX5_call_X5_isKind rfl rfl rfl (by decide +kernel) ⟨Nat.le_of_ble_eq_true rfl, Nat.le_of_ble_eq_true rfl⟩) ⟨fun a U g mk q => by obtain ⟨q0, q1, qP, qK, qD⟩ := q; exact ⟨q0, q1, qP, va_K.moved (u := U) (U := U.calling g mk a) (Vm.Alike.refl U.vm) qK, qD⟩, fun U hU hW => ⟨rfl, by rw [hU], by rw [hU]; exact hPc, va_K.moved hW.alike hKc, hDc.weaken (fun _ _ _ _ => trivial)⟩⟩ rfl rfl hl.1 rfl (lv_room (Nat.le_of_ble_eq_true rfl)) dX5_call_15 ⟨Nat.le_of_ble_eq_true rfl, Nat.le_of_ble_eq_true rfl⟩) hS (fun q _ h => hFc q h) hFc (fun r_80 u t H1 locs ht hvm hw hB hz1 hk1 hS => ?_)
      obtain ⟨hP1, hK1, hD1⟩ := hB
      rw [ht] at hP1
      have hK1 := va_K.moved hvm.symm hK1
      obtain ⟨hP, hD⟩ := va_join (wr := [(h0, Sum.inr (5, [Value.ref h1, Value.int n0_size, Value.ref h2, Value.int n0_ran])), (h1, Sum.inl (cint, 50, Sum.inl f1)), (h2, Sum.inl (cint, 24, Sum.inl f2))]) (w1 := []) hP hD [] [0, 1, 2] rfl rfl (by decide) (by decide) hk1 hFc hP1 hD1
      generalize H1 = H at hP hS ⊢
      have hP : va_P (dC, dI) vwCl [(h0, Sum.inr (5, [Value.ref h1, Value.int n0_size, Value.ref h2, Value.int n0_ran])), (h1, Sum.inl (cint, 50, Sum.inl f1)), (h2, Sum.inl (cint, 24, Sum.inl f2))] H := hP
      have hD : va_D A [(h0, Sum.inr (5, [Value.ref h1, Value.int n0_size, Value.ref h2, Value.int n0_ran])), (h1, Sum.inl (cint, 50, Sum.inl f1)), (h2, Sum.inl (cint, 24, Sum.inl f2))] := hD
      rcases hw with ⟨rfl⟩ | ⟨t_80_0, t_80_1, rfl⟩
      · skip
        refine lv_if_eq (tgt := 48) hx hb dX5_call_18 (by decide) (fun _ => ?_) (fun c => absurd c (by decide))
        refine lv_iload hx hb dX5_call_48 (lv_at hl 1 rfl) ?_
        obtain ⟨hPc, hDc, hFc⟩ := kk_cutout (wc := []) hP hD hS hA [] (by decide) rfl
        have hKc := hK.sub (tys' := []) [] rfl
        refine va_calli (va_runS (As := [.int 0]) (rest := []) ⟨hx, hb, hml, hown, hts⟩ (g_X5_isKind_0 l dC dI H.size 0) (va_cwS 1 hts gX5_call_X5_isKind rfl rfl rfl (by decide +kernel) ⟨Nat.le_of_ble_eq_true rfl, Nat.le_of_ble_eq_true rfl⟩) ⟨fun a U g mk q => by obtain ⟨q0, q1, qP, qK, qD⟩ := q; exact ⟨q0, q1, qP, va_K.moved (u := U) (U := U.calling g mk a) (Vm.Alike.refl U.vm) qK, qD⟩, fun U hU hW => ⟨rfl, by rw [hU], by rw [hU]; exact hPc, va_K.moved hW.alike hKc, hDc.weaken (fun _ _ _ _ => trivial)⟩⟩ rfl rfl hl.1 rfl (lv_room (Nat.le_of_ble_eq_true rfl)) dX5_call_50 ⟨Nat.le_of_ble_eq_true rfl, Nat.le_of_ble_eq_true rfl⟩) hS (fun q _ h => hFc q h) hFc (fun r_81 u t H1 locs ht hvm hw hB hz1 hk1 hS => ?_)
        obtain ⟨hP1, hK1, hD1⟩ := hB
        rw [ht] at hP1
        have hK1 := va_K.moved hvm.symm hK1
        obtain ⟨hP, hD⟩ := va_join (wr := [(h0, Sum.inr (5, [Value.ref h1, Value.int n0_size, Value.ref h2, Value.int n0_ran])), (h1, Sum.inl (cint, 50, Sum.inl f1)), (h2, Sum.inl (cint, 24, Sum.inl f2))]) (w1 := []) hP hD [] [0, 1, 2] rfl rfl (by decide) (by decide) hk1 hFc hP1 hD1
        generalize H1 = H at hP hS ⊢
        have hP : va_P (dC, dI) vwCl [(h0, Sum.inr (5, [Value.ref h1, Value.int n0_size, Value.ref h2, Value.int n0_ran])), (h1, Sum.inl (cint, 50, Sum.inl f1)), (h2, Sum.inl (cint, 24, Sum.inl f2))] H := hP
        have hD : va_D A [(h0, Sum.inr (5, [Value.ref h1, Value.int n0_size, Value.ref h2, Value.int n0_ran])), (h1, Sum.inl (cint, 50, Sum.inl f1)), (h2, Sum.inl (cint, 24, Sum.inl f2))] := hD
        rcases hw with ⟨rfl⟩ | ⟨t_81_0, t_81_1, rfl⟩
        · skip
          refine lv_if_eq (tgt := 63) hx hb dX5_call_53 (by decide) (fun _ => ?_) (fun c => absurd c (by decide))
          refine lv_iconst (v := 0) hx hb dX5_call_63 (by decide) ?_
          obtain ⟨hP9, hD9⟩ := kk_leafout (wc := [(h0, Sum.inr (5, [Value.ref h1, Value.int n0_size, Value.ref h2, Value.int n0_ran])), (h1, Sum.inl (cint, 50, Sum.inl f1)), (h2, Sum.inl (cint, 24, Sum.inl f2))]) hP hD [0, 1, 2] (by decide) rfl
          have hK9 := hK.sub (tys' := []) [] rfl
          exact W.iret (v := 0) hx hb hr (fun t ht hW => ⟨⟨0, (), rfl, trivial, n0_ran, f2, (by show 0 ≤ (n0_ran : Int32).toInt ∧ (n0_ran : Int32).toInt ≤ 1000; first | decide | (constructor <;> (omega))), (by show (n0_ran : Int32).toInt ≤ (n0_ran : Int32).toInt + 6; first | decide | (omega)), by rw [ht]; exact hP9, va_K.moved hW.alike hK9, hD9⟩, hS.F ht⟩) hS.2.2 dX5_call_64
        · skip
          have t_81_0 : (0 : Int) ≤ 0 := t_81_0
          have t_81_1 : (0 : Int) < 8 := t_81_1
          refine lv_if_eq (tgt := 63) hx hb dX5_call_53 (by decide) (fun c => absurd c (by decide)) (fun _ => ?_)
          refine lv_iload hx hb dX5_call_56 (lv_at hl 7 rfl) ?_
          refine lv_bipush (v := 40) hx hb dX5_call_58 (by decide) ?_
          refine lv_icmp_le (tgt := 65) hx hb dX5_call_60 (by decide) (fun c_82 => ?_) (fun c_82 => ?_)
          · have t_82 : p4.toInt ≤ 40 := kk_le c_82
            refine va_gets hx hb hZOWN_BODIES hS hown (hts (.fieldLink RX5 43 "KinkStreet$Lines" "OWN_BODIES" "[I") (List.mem_of_getElem? (i := 1) rfl)) (fun _ h9 => h9) dX5_call_65 ?_
            refine lv_iload hx hb dX5_call_68 (lv_at hl 1 rfl) ?_
            refine lv_iconst (v := 4) hx hb dX5_call_70 (by decide) ?_
            refine lv_imul hx hb dX5_call_71 ?_
            refine lv_topi (fun y_83 e_83 => ?_)
            obtain rfl : y_83 = 0 := e_83.trans (by decide)
            refine lv_iload_n hx hb dX5_call_72 rfl (lv_at hl 5 rfl) ?_
            refine lv_iadd hx hb dX5_call_73 ?_
            refine lv_topi (fun y_84 e_84 => ?_)
            obtain rfl : y_84 = 2 := e_84.trans (by decide)
            refine va_ti (v := .int 11) hx hb hTOWN_BODIES hS (by unfold vp_in; decide) rfl dX5_call_74 ?_
            refine lv_istore (lv' := [(7, .int 11), (6, .int 0), (0, .ref h0), (1, .int p0), (2, .int 2), (3, .int 2), (4, .int p3), (5, .int p4)]) hx hb dX5_call_75 hl (by decide) rfl (fun ls hl => ?_)
            refine lv_aload_n hx hb dX5_call_77 rfl (lv_at hl 2 rfl) ?_
            refine va_get (D := (dC, dI)) (ci := 5) (v := .int n0_ran) (C := RX5) (T := TX5) (N := 4) hx hb hts (fun _ h => List.mem_cons_of_mem _ (List.mem_append_right _ h)) hown hK hP 0 rfl rfl 3 (by decide) (hts (.fieldLink RX5 36 "KinkStreet$Lines" "ran" "I") (List.mem_of_getElem? (i := 3) rfl)) (fun _ h9 => h9) rfl dX5_call_78 ?_
            refine lv_bipush (v := 24) hx hb dX5_call_81 (by decide) ?_
            refine kk_cut (σ := (Nat → Int32)) (pc' := 97) (fun x H locs ls => va_P (dC, dI) vwCl [(h0, Sum.inr (5, [Value.ref h1, Value.int n0_size, Value.ref h2, Value.int n0_ran])), (h1, Sum.inl (cint, 50, Sum.inl f1)), (h2, Sum.inl (cint, 24, Sum.inl x))] H ∧ va_D A [(h0, Sum.inr (5, [Value.ref h1, Value.int n0_size, Value.ref h2, Value.int n0_ran])), (h1, Sum.inl (cint, 50, Sum.inl f1)), (h2, Sum.inl (cint, 24, Sum.inl x))] ∧ va_S A s.heap H locs ∧ lv_has ls 8 [(7, .int 11), (6, .int 0), (0, .ref h0), (1, .int p0), (2, .int 2), (3, .int 2), (4, .int p3), (5, .int p4)]) ?_ (fun hcut_87 => ?_)
            · rintro f_87_0 H locs ls ⟨hP, hD, hS, hl⟩
              have hl : lv_has ls 8 [(7, .int 11), (6, .int 0), (0, .ref h0), (1, .int p0), (2, .int 2), (3, .int 2), (4, .int p3), (5, .int p4)] := hl
              have hP : va_P (dC, dI) vwCl [(h0, Sum.inr (5, [Value.ref h1, Value.int n0_size, Value.ref h2, Value.int n0_ran])), (h1, Sum.inl (cint, 50, Sum.inl f1)), (h2, Sum.inl (cint, 24, Sum.inl f_87_0))] H := hP
              have hD : va_D A [(h0, Sum.inr (5, [Value.ref h1, Value.int n0_size, Value.ref h2, Value.int n0_ran])), (h1, Sum.inl (cint, 50, Sum.inl f1)), (h2, Sum.inl (cint, 24, Sum.inl f_87_0))] := hD
              refine lv_aload_n hx hb dX5_call_97 rfl (lv_at hl 2 rfl) ?_
              refine lv_dup hx hb dX5_call_98 rfl ?_
              refine va_get (D := (dC, dI)) (ci := 5) (v := .int n0_ran) (C := RX5) (T := TX5) (N := 4) hx hb hts (fun _ h => List.mem_cons_of_mem _ (List.mem_append_right _ h)) hown hK hP 0 rfl rfl 3 (by decide) (hts (.fieldLink RX5 36 "KinkStreet$Lines" "ran" "I") (List.mem_of_getElem? (i := 3) rfl)) (fun _ h9 => h9) rfl dX5_call_99 ?_
              refine lv_iconst (v := 1) hx hb dX5_call_102 (by decide) ?_
              refine lv_iadd hx hb dX5_call_103 ?_
              refine va_put (D := (dC, dI)) (ci := 5) (v := .int (n0_ran + 1)) (ty := .int) (C := RX5) (T := TX5) (N := 4) hx hb hts (fun _ h => List.mem_cons_of_mem _ (List.mem_append_right _ h)) tyX5 tyX5_ok nmX5 hown hK hP hD hS 0 rfl rfl 3 (by decide) (hts (.fieldLink RX5 36 "KinkStreet$Lines" "ran" "I") (List.mem_of_getElem? (i := 3) rfl)) (fun _ h9 => h9) rfl (by decide +kernel) rfl rfl (Nat.le_of_ble_eq_true rfl) dX5_call_104 (fun H locs hP hD hS => ?_)
              have hP : va_P (dC, dI) vwCl [(h0, Sum.inr (5, [Value.ref h1, Value.int n0_size, Value.ref h2, Value.int (n0_ran + 1)])), (h1, Sum.inl (cint, 50, Sum.inl f1)), (h2, Sum.inl (cint, 24, Sum.inl f_87_0))] H := hP
              have hD : va_D A [(h0, Sum.inr (5, [Value.ref h1, Value.int n0_size, Value.ref h2, Value.int (n0_ran + 1)])), (h1, Sum.inl (cint, 50, Sum.inl f1)), (h2, Sum.inl (cint, 24, Sum.inl f_87_0))] := hD
              refine lv_iload hx hb dX5_call_107 (lv_at hl 1 rfl) ?_
              refine lv_if_ne (tgt := 128) hx hb dX5_call_109 (by decide) (fun c => absurd c (by decide)) (fun _ => ?_)
              refine lv_aload_n hx hb dX5_call_112 rfl (lv_at hl 2 rfl) ?_
              refine lv_iload_n hx hb dX5_call_113 rfl (lv_at hl 3 rfl) ?_
              refine lv_iload hx hb dX5_call_114 (lv_at hl 0 rfl) ?_
              refine lv_iload hx hb dX5_call_116 (lv_at hl 6 rfl) ?_
              refine lv_iload hx hb dX5_call_118 (lv_at hl 7 rfl) ?_
              refine lv_iconst (v := 1) hx hb dX5_call_120 (by decide) ?_
              refine lv_iadd hx hb dX5_call_121 ?_
              obtain ⟨hPc, hDc, hFc⟩ := kk_cutout (wc := [(h0, Sum.inr (5, [Value.ref h1, Value.int n0_size, Value.ref h2, Value.int (n0_ran + 1)])), (h1, Sum.inl (cint, 50, Sum.inl f1))]) hP hD hS hA [0, 1] (by decide) rfl
              have hKc := hK.sub (tys' := [(cint, .int)]) [0] rfl
              refine va_calli (va_runV (As := [.int p0, .int 11, .int p3, .int (p4 + 1)]) (rest := []) ⟨hx, hb, hml, hown, hts⟩ (g_X5_runLine_1 l dC dI h0 h1 h2 cint H.size p0 p3 (p4 + 1) n0_size (n0_ran + 1) f1 tn0_size (by show 0 ≤ ((n0_ran + 1) : Int32).toInt ∧ ((n0_ran + 1) : Int32).toInt ≤ 1000; first | decide | (constructor <;> (have := kk_rng p4; have := kk_add2 (x := n0_ran) (y := 1) (a := n0_ran.toInt) (b := 1) rfl rfl (by omega) (by omega); have := kk_rng p4; have := kk_add2 (x := p4) (y := 1) (a := p4.toInt) (b := 1) rfl rfl (by omega) (by omega); omega))) bf1) (cwV 4 hts gX5_call_X5_runLine rfl rfl rfl (by decide +kernel) ⟨Nat.le_of_ble_eq_true rfl, Nat.le_of_ble_eq_true rfl⟩) ⟨fun a U g mk q => by obtain ⟨q0, q1, qP, qK, qD⟩ := q; exact ⟨q0, q1, qP, va_K.moved (u := U) (U := U.calling g mk a) (Vm.Alike.refl U.vm) qK, qD⟩, va_recv hKc hPc (ci := 5) (q0 := 0) rfl rfl, fun U hU hW => ⟨rfl, by rw [hU], by rw [hU]; exact hPc, va_K.moved hW.alike hKc, hDc.weaken (fun _ _ _ _ => trivial)⟩⟩ rfl rfl hl.1 rfl (lv_room (Nat.le_of_ble_eq_true rfl)) dX5_call_122 ⟨Nat.le_of_ble_eq_true rfl, Nat.le_of_ble_eq_true rfl⟩) hS (fun q _ h => hFc q h) hFc (fun r_88 u t H1 locs ht hvm hw hB hz1 hk1 hS => ?_)
              obtain ⟨hP1, hK1, hD1⟩ := hB
              rw [ht] at hP1
              have hK1 := va_K.moved hvm.symm hK1
              obtain ⟨hP, hD⟩ := va_join (wr := [(h2, Sum.inl (cint, 24, Sum.inl f_87_0))]) (w1 := [(h0, Sum.inr (5, [Value.ref h1, Value.int n0_size, Value.ref h2, Value.int (n0_ran + 1)])), (h1, Sum.inl (cint, 50, Sum.inl f1))]) hP hD [0, 1] [2] rfl rfl (by decide) (by decide) hk1 hFc hP1 hD1
              generalize H1 = H at hP hS ⊢
              have hP : va_P (dC, dI) vwCl [(h2, Sum.inl (cint, 24, Sum.inl f_87_0)), (h0, Sum.inr (5, [Value.ref h1, Value.int n0_size, Value.ref h2, Value.int (n0_ran + 1)])), (h1, Sum.inl (cint, 50, Sum.inl f1))] H := hP
              have hD : va_D A [(h2, Sum.inl (cint, 24, Sum.inl f_87_0)), (h0, Sum.inr (5, [Value.ref h1, Value.int n0_size, Value.ref h2, Value.int (n0_ran + 1)])), (h1, Sum.inl (cint, 50, Sum.inl f1))] := hD
              refine lv_goto (tgt := 143) hx hb dX5_call_125 (by decide) ?_
              obtain ⟨hP9, hD9⟩ := kk_leafout (wc := [(h0, Sum.inr (5, [Value.ref h1, Value.int n0_size, Value.ref h2, Value.int (n0_ran + 1)])), (h1, Sum.inl (cint, 50, Sum.inl f1)), (h2, Sum.inl (cint, 24, Sum.inl f_87_0))]) hP hD [1, 2, 0] (by decide) rfl
              have hK9 := hK.sub (tys' := []) [] rfl
              exact W.iret (v := r_88) hx hb hr (fun t ht hW => ⟨⟨r_88, (), rfl, trivial, (n0_ran + 1), f_87_0, (by show 0 ≤ ((n0_ran + 1) : Int32).toInt ∧ ((n0_ran + 1) : Int32).toInt ≤ 1000; first | decide | (constructor <;> (have := kk_rng p4; have := kk_add2 (x := n0_ran) (y := 1) (a := n0_ran.toInt) (b := 1) rfl rfl (by omega) (by omega); have := kk_rng p4; have := kk_add2 (x := p4) (y := 1) (a := p4.toInt) (b := 1) rfl rfl (by omega) (by omega); omega))), (by show ((n0_ran + 1) : Int32).toInt ≤ (n0_ran : Int32).toInt + 6; first | decide | (have := kk_rng p4; have := kk_add2 (x := n0_ran) (y := 1) (a := n0_ran.toInt) (b := 1) rfl rfl (by omega) (by omega); have := kk_rng p4; have := kk_add2 (x := p4) (y := 1) (a := p4.toInt) (b := 1) rfl rfl (by omega) (by omega); omega)), by rw [ht]; exact hP9, va_K.moved hW.alike hK9, hD9⟩, hS.F ht⟩) hS.2.2 dX5_call_143
            · skip
              refine lv_icmp_ge (tgt := 97) hx hb dX5_call_83 (by decide) (fun c_89 => ?_) (fun c_89 => ?_)
              · have t_89 : 24 ≤ n0_ran.toInt := kk_le c_89
                exact hcut_87 (f2) _ _ _ ⟨hP, hD, hS, lv_sub hl [0, 1, 2, 3, 4, 5, 6, 7] rfl⟩
              · have t_89 : n0_ran.toInt < 24 := kk_nle c_89
                refine lv_aload_n hx hb dX5_call_86 rfl (lv_at hl 2 rfl) ?_
                refine va_get (D := (dC, dI)) (ci := 5) (v := .ref h2) (C := RX5) (T := TX5) (N := 4) hx hb hts (fun _ h => List.mem_cons_of_mem _ (List.mem_append_right _ h)) hown hK hP 0 rfl rfl 2 (by decide) (hts (.fieldLink RX5 15 "KinkStreet$Lines" "trace" "[I") (List.mem_of_getElem? (i := 4) rfl)) (fun _ h9 => h9) rfl dX5_call_87 ?_
                refine lv_aload_n hx hb dX5_call_90 rfl (lv_at hl 2 rfl) ?_
                refine va_get (D := (dC, dI)) (ci := 5) (v := .int n0_ran) (C := RX5) (T := TX5) (N := 4) hx hb hts (fun _ h => List.mem_cons_of_mem _ (List.mem_append_right _ h)) hown hK hP 0 rfl rfl 3 (by decide) (hts (.fieldLink RX5 36 "KinkStreet$Lines" "ran" "I") (List.mem_of_getElem? (i := 3) rfl)) (fun _ h9 => h9) rfl dX5_call_91 ?_
                refine lv_iload hx hb dX5_call_94 (lv_at hl 0 rfl) ?_
                refine va_iast hx hb hK hP hD hS 2 0 rfl rfl (vp_in_iff.mpr ⟨by have := kk_rng p4; omega, by have := kk_rng p4; omega⟩) dX5_call_96 (fun H locs hP hD hS => ?_)
                generalize upd f2 (n0_ran : Int32).toNatClampNeg 11 = f_90 at hP hD
                have hP : va_P (dC, dI) vwCl [(h0, Sum.inr (5, [Value.ref h1, Value.int n0_size, Value.ref h2, Value.int n0_ran])), (h1, Sum.inl (cint, 50, Sum.inl f1)), (h2, Sum.inl (cint, 24, Sum.inl f_90))] H := hP
                have hD : va_D A [(h0, Sum.inr (5, [Value.ref h1, Value.int n0_size, Value.ref h2, Value.int n0_ran])), (h1, Sum.inl (cint, 50, Sum.inl f1)), (h2, Sum.inl (cint, 24, Sum.inl f_90))] := hD
                exact hcut_87 (f_90) _ _ _ ⟨hP, hD, hS, lv_sub hl [0, 1, 2, 3, 4, 5, 6, 7] rfl⟩
          · have t_82 : 40 < p4.toInt := kk_nle c_82
            refine lv_iconst (v := 0) hx hb dX5_call_63 (by decide) ?_
            obtain ⟨hP9, hD9⟩ := kk_leafout (wc := [(h0, Sum.inr (5, [Value.ref h1, Value.int n0_size, Value.ref h2, Value.int n0_ran])), (h1, Sum.inl (cint, 50, Sum.inl f1)), (h2, Sum.inl (cint, 24, Sum.inl f2))]) hP hD [0, 1, 2] (by decide) rfl
            have hK9 := hK.sub (tys' := []) [] rfl
            exact W.iret (v := 0) hx hb hr (fun t ht hW => ⟨⟨0, (), rfl, trivial, n0_ran, f2, (by show 0 ≤ (n0_ran : Int32).toInt ∧ (n0_ran : Int32).toInt ≤ 1000; first | decide | (constructor <;> (have := kk_rng p4; omega))), (by show (n0_ran : Int32).toInt ≤ (n0_ran : Int32).toInt + 6; first | decide | (have := kk_rng p4; omega)), by rw [ht]; exact hP9, va_K.moved hW.alike hK9, hD9⟩, hS.F ht⟩) hS.2.2 dX5_call_64
      · skip
        have t_80_0 : (0 : Int) ≤ 0 := t_80_0
        have t_80_1 : (0 : Int) < 8 := t_80_1
        refine lv_if_eq (tgt := 48) hx hb dX5_call_18 (by decide) (fun c => absurd c (by decide)) (fun _ => ?_)
        refine va_gets hx hb hZOWN_BODIES hS hown (hts (.fieldLink RX5 43 "KinkStreet$Lines" "OWN_BODIES" "[I") (List.mem_of_getElem? (i := 1) rfl)) (fun _ h9 => h9) dX5_call_21 ?_
        refine lv_iload hx hb dX5_call_24 (lv_at hl 1 rfl) ?_
        refine lv_iconst (v := 4) hx hb dX5_call_26 (by decide) ?_
        refine lv_imul hx hb dX5_call_27 ?_
        refine lv_topi (fun y_91 e_91 => ?_)
        obtain rfl : y_91 = 0 := e_91.trans (by decide)
        refine lv_iload_n hx hb dX5_call_28 rfl (lv_at hl 5 rfl) ?_
        refine lv_iadd hx hb dX5_call_29 ?_
        refine lv_topi (fun y_92 e_92 => ?_)
        obtain rfl : y_92 = 2 := e_92.trans (by decide)
        refine va_ti (v := .int 11) hx hb hTOWN_BODIES hS (by unfold vp_in; decide) rfl dX5_call_30 ?_
        refine lv_if_ne (tgt := 48) hx hb dX5_call_31 (by decide) (fun _ => ?_) (fun c => absurd c (by decide))
        refine lv_iload hx hb dX5_call_48 (lv_at hl 1 rfl) ?_
        obtain ⟨hPc, hDc, hFc⟩ := kk_cutout (wc := []) hP hD hS hA [] (by decide) rfl
        have hKc := hK.sub (tys' := []) [] rfl
        refine va_calli (va_runS (As := [.int 0]) (rest := []) ⟨hx, hb, hml, hown, hts⟩ (g_X5_isKind_0 l dC dI H.size 0) (va_cwS 1 hts gX5_call_X5_isKind rfl rfl rfl (by decide +kernel) ⟨Nat.le_of_ble_eq_true rfl, Nat.le_of_ble_eq_true rfl⟩) ⟨fun a U g mk q => by obtain ⟨q0, q1, qP, qK, qD⟩ := q; exact ⟨q0, q1, qP, va_K.moved (u := U) (U := U.calling g mk a) (Vm.Alike.refl U.vm) qK, qD⟩, fun U hU hW => ⟨rfl, by rw [hU], by rw [hU]; exact hPc, va_K.moved hW.alike hKc, hDc.weaken (fun _ _ _ _ => trivial)⟩⟩ rfl rfl hl.1 rfl (lv_room (Nat.le_of_ble_eq_true rfl)) dX5_call_50 ⟨Nat.le_of_ble_eq_true rfl, Nat.le_of_ble_eq_true rfl⟩) hS (fun q _ h => hFc q h) hFc (fun r_93 u t H1 locs ht hvm hw hB hz1 hk1 hS => ?_)
        obtain ⟨hP1, hK1, hD1⟩ := hB
        rw [ht] at hP1
        have hK1 := va_K.moved hvm.symm hK1
        obtain ⟨hP, hD⟩ := va_join (wr := [(h0, Sum.inr (5, [Value.ref h1, Value.int n0_size, Value.ref h2, Value.int n0_ran])), (h1, Sum.inl (cint, 50, Sum.inl f1)), (h2, Sum.inl (cint, 24, Sum.inl f2))]) (w1 := []) hP hD [] [0, 1, 2] rfl rfl (by decide) (by decide) hk1 hFc hP1 hD1
        generalize H1 = H at hP hS ⊢
        have hP : va_P (dC, dI) vwCl [(h0, Sum.inr (5, [Value.ref h1, Value.int n0_size, Value.ref h2, Value.int n0_ran])), (h1, Sum.inl (cint, 50, Sum.inl f1)), (h2, Sum.inl (cint, 24, Sum.inl f2))] H := hP
        have hD : va_D A [(h0, Sum.inr (5, [Value.ref h1, Value.int n0_size, Value.ref h2, Value.int n0_ran])), (h1, Sum.inl (cint, 50, Sum.inl f1)), (h2, Sum.inl (cint, 24, Sum.inl f2))] := hD
        rcases hw with ⟨rfl⟩ | ⟨t_93_0, t_93_1, rfl⟩
        · skip
          refine lv_if_eq (tgt := 63) hx hb dX5_call_53 (by decide) (fun _ => ?_) (fun c => absurd c (by decide))
          refine lv_iconst (v := 0) hx hb dX5_call_63 (by decide) ?_
          obtain ⟨hP9, hD9⟩ := kk_leafout (wc := [(h0, Sum.inr (5, [Value.ref h1, Value.int n0_size, Value.ref h2, Value.int n0_ran])), (h1, Sum.inl (cint, 50, Sum.inl f1)), (h2, Sum.inl (cint, 24, Sum.inl f2))]) hP hD [0, 1, 2] (by decide) rfl
          have hK9 := hK.sub (tys' := []) [] rfl
          exact W.iret (v := 0) hx hb hr (fun t ht hW => ⟨⟨0, (), rfl, trivial, n0_ran, f2, (by show 0 ≤ (n0_ran : Int32).toInt ∧ (n0_ran : Int32).toInt ≤ 1000; first | decide | (constructor <;> (omega))), (by show (n0_ran : Int32).toInt ≤ (n0_ran : Int32).toInt + 6; first | decide | (omega)), by rw [ht]; exact hP9, va_K.moved hW.alike hK9, hD9⟩, hS.F ht⟩) hS.2.2 dX5_call_64
        · skip
          have t_93_0 : (0 : Int) ≤ 0 := t_93_0
          have t_93_1 : (0 : Int) < 8 := t_93_1
          refine lv_if_eq (tgt := 63) hx hb dX5_call_53 (by decide) (fun c => absurd c (by decide)) (fun _ => ?_)
          refine lv_iload hx hb dX5_call_56 (lv_at hl 7 rfl) ?_
          refine lv_bipush (v := 40) hx hb dX5_call_58 (by decide) ?_
          refine lv_icmp_le (tgt := 65) hx hb dX5_call_60 (by decide) (fun c_94 => ?_) (fun c_94 => ?_)
          · have t_94 : p4.toInt ≤ 40 := kk_le c_94
            refine va_gets hx hb hZOWN_BODIES hS hown (hts (.fieldLink RX5 43 "KinkStreet$Lines" "OWN_BODIES" "[I") (List.mem_of_getElem? (i := 1) rfl)) (fun _ h9 => h9) dX5_call_65 ?_
            refine lv_iload hx hb dX5_call_68 (lv_at hl 1 rfl) ?_
            refine lv_iconst (v := 4) hx hb dX5_call_70 (by decide) ?_
            refine lv_imul hx hb dX5_call_71 ?_
            refine lv_topi (fun y_95 e_95 => ?_)
            obtain rfl : y_95 = 0 := e_95.trans (by decide)
            refine lv_iload_n hx hb dX5_call_72 rfl (lv_at hl 5 rfl) ?_
            refine lv_iadd hx hb dX5_call_73 ?_
            refine lv_topi (fun y_96 e_96 => ?_)
            obtain rfl : y_96 = 2 := e_96.trans (by decide)
            refine va_ti (v := .int 11) hx hb hTOWN_BODIES hS (by unfold vp_in; decide) rfl dX5_call_74 ?_
            refine lv_istore (lv' := [(7, .int 11), (6, .int 0), (0, .ref h0), (1, .int p0), (2, .int 2), (3, .int 2), (4, .int p3), (5, .int p4)]) hx hb dX5_call_75 hl (by decide) rfl (fun ls hl => ?_)
            refine lv_aload_n hx hb dX5_call_77 rfl (lv_at hl 2 rfl) ?_
            refine va_get (D := (dC, dI)) (ci := 5) (v := .int n0_ran) (C := RX5) (T := TX5) (N := 4) hx hb hts (fun _ h => List.mem_cons_of_mem _ (List.mem_append_right _ h)) hown hK hP 0 rfl rfl 3 (by decide) (hts (.fieldLink RX5 36 "KinkStreet$Lines" "ran" "I") (List.mem_of_getElem? (i := 3) rfl)) (fun _ h9 => h9) rfl dX5_call_78 ?_
            refine lv_bipush (v := 24) hx hb dX5_call_81 (by decide) ?_
            refine kk_cut (σ := (Nat → Int32)) (pc' := 97) (fun x H locs ls => va_P (dC, dI) vwCl [(h0, Sum.inr (5, [Value.ref h1, Value.int n0_size, Value.ref h2, Value.int n0_ran])), (h1, Sum.inl (cint, 50, Sum.inl f1)), (h2, Sum.inl (cint, 24, Sum.inl x))] H ∧ va_D A [(h0, Sum.inr (5, [Value.ref h1, Value.int n0_size, Value.ref h2, Value.int n0_ran])), (h1, Sum.inl (cint, 50, Sum.inl f1)), (h2, Sum.inl (cint, 24, Sum.inl x))] ∧ va_S A s.heap H locs ∧ lv_has ls 8 [(7, .int 11), (6, .int 0), (0, .ref h0), (1, .int p0), (2, .int 2), (3, .int 2), (4, .int p3), (5, .int p4)]) ?_ (fun hcut_99 => ?_)
            · rintro f_99_0 H locs ls ⟨hP, hD, hS, hl⟩
              have hl : lv_has ls 8 [(7, .int 11), (6, .int 0), (0, .ref h0), (1, .int p0), (2, .int 2), (3, .int 2), (4, .int p3), (5, .int p4)] := hl
              have hP : va_P (dC, dI) vwCl [(h0, Sum.inr (5, [Value.ref h1, Value.int n0_size, Value.ref h2, Value.int n0_ran])), (h1, Sum.inl (cint, 50, Sum.inl f1)), (h2, Sum.inl (cint, 24, Sum.inl f_99_0))] H := hP
              have hD : va_D A [(h0, Sum.inr (5, [Value.ref h1, Value.int n0_size, Value.ref h2, Value.int n0_ran])), (h1, Sum.inl (cint, 50, Sum.inl f1)), (h2, Sum.inl (cint, 24, Sum.inl f_99_0))] := hD
              refine lv_aload_n hx hb dX5_call_97 rfl (lv_at hl 2 rfl) ?_
              refine lv_dup hx hb dX5_call_98 rfl ?_
              refine va_get (D := (dC, dI)) (ci := 5) (v := .int n0_ran) (C := RX5) (T := TX5) (N := 4) hx hb hts (fun _ h => List.mem_cons_of_mem _ (List.mem_append_right _ h)) hown hK hP 0 rfl rfl 3 (by decide) (hts (.fieldLink RX5 36 "KinkStreet$Lines" "ran" "I") (List.mem_of_getElem? (i := 3) rfl)) (fun _ h9 => h9) rfl dX5_call_99 ?_
              refine lv_iconst (v := 1) hx hb dX5_call_102 (by decide) ?_
              refine lv_iadd hx hb dX5_call_103 ?_
              refine va_put (D := (dC, dI)) (ci := 5) (v := .int (n0_ran + 1)) (ty := .int) (C := RX5) (T := TX5) (N := 4) hx hb hts (fun _ h => List.mem_cons_of_mem _ (List.mem_append_right _ h)) tyX5 tyX5_ok nmX5 hown hK hP hD hS 0 rfl rfl 3 (by decide) (hts (.fieldLink RX5 36 "KinkStreet$Lines" "ran" "I") (List.mem_of_getElem? (i := 3) rfl)) (fun _ h9 => h9) rfl (by decide +kernel) rfl rfl (Nat.le_of_ble_eq_true rfl) dX5_call_104 (fun H locs hP hD hS => ?_)
              have hP : va_P (dC, dI) vwCl [(h0, Sum.inr (5, [Value.ref h1, Value.int n0_size, Value.ref h2, Value.int (n0_ran + 1)])), (h1, Sum.inl (cint, 50, Sum.inl f1)), (h2, Sum.inl (cint, 24, Sum.inl f_99_0))] H := hP
              have hD : va_D A [(h0, Sum.inr (5, [Value.ref h1, Value.int n0_size, Value.ref h2, Value.int (n0_ran + 1)])), (h1, Sum.inl (cint, 50, Sum.inl f1)), (h2, Sum.inl (cint, 24, Sum.inl f_99_0))] := hD
              refine lv_iload hx hb dX5_call_107 (lv_at hl 1 rfl) ?_
              refine lv_if_ne (tgt := 128) hx hb dX5_call_109 (by decide) (fun c => absurd c (by decide)) (fun _ => ?_)
              refine lv_aload_n hx hb dX5_call_112 rfl (lv_at hl 2 rfl) ?_
              refine lv_iload_n hx hb dX5_call_113 rfl (lv_at hl 3 rfl) ?_
              refine lv_iload hx hb dX5_call_114 (lv_at hl 0 rfl) ?_
              refine lv_iload hx hb dX5_call_116 (lv_at hl 6 rfl) ?_
              refine lv_iload hx hb dX5_call_118 (lv_at hl 7 rfl) ?_
              refine lv_iconst (v := 1) hx hb dX5_call_120 (by decide) ?_
              refine lv_iadd hx hb dX5_call_121 ?_
              obtain ⟨hPc, hDc, hFc⟩ := kk_cutout (wc := [(h0, Sum.inr (5, [Value.ref h1, Value.int n0_size, Value.ref h2, Value.int (n0_ran + 1)])), (h1, Sum.inl (cint, 50, Sum.inl f1))]) hP hD hS hA [0, 1] (by decide) rfl
              have hKc := hK.sub (tys' := [(cint, .int)]) [0] rfl
              refine va_calli (va_runV (As := [.int p0, .int 11, .int p3, .int (p4 + 1)]) (rest := []) ⟨hx, hb, hml, hown, hts⟩ (g_X5_runLine_1 l dC dI h0 h1 h2 cint H.size p0 p3 (p4 + 1) n0_size (n0_ran + 1) f1 tn0_size (by show 0 ≤ ((n0_ran + 1) : Int32).toInt ∧ ((n0_ran + 1) : Int32).toInt ≤ 1000; first | decide | (constructor <;> (have := kk_rng p4; have := kk_add2 (x := n0_ran) (y := 1) (a := n0_ran.toInt) (b := 1) rfl rfl (by omega) (by omega); have := kk_rng p4; have := kk_add2 (x := p4) (y := 1) (a := p4.toInt) (b := 1) rfl rfl (by omega) (by omega); omega))) bf1) (cwV 4 hts gX5_call_X5_runLine rfl rfl rfl (by decide +kernel) ⟨Nat.le_of_ble_eq_true rfl, Nat.le_of_ble_eq_true rfl⟩) ⟨fun a U g mk q => by obtain ⟨q0, q1, qP, qK, qD⟩ := q; exact ⟨q0, q1, qP, va_K.moved (u := U) (U := U.calling g mk a) (Vm.Alike.refl U.vm) qK, qD⟩, va_recv hKc hPc (ci := 5) (q0 := 0) rfl rfl, fun U hU hW => ⟨rfl, by rw [hU], by rw [hU]; exact hPc, va_K.moved hW.alike hKc, hDc.weaken (fun _ _ _ _ => trivial)⟩⟩ rfl rfl hl.1 rfl (lv_room (Nat.le_of_ble_eq_true rfl)) dX5_call_122 ⟨Nat.le_of_ble_eq_true rfl, Nat.le_of_ble_eq_true rfl⟩) hS (fun q _ h => hFc q h) hFc (fun r_100 u t H1 locs ht hvm hw hB hz1 hk1 hS => ?_)
              obtain ⟨hP1, hK1, hD1⟩ := hB
              rw [ht] at hP1
              have hK1 := va_K.moved hvm.symm hK1
              obtain ⟨hP, hD⟩ := va_join (wr := [(h2, Sum.inl (cint, 24, Sum.inl f_99_0))]) (w1 := [(h0, Sum.inr (5, [Value.ref h1, Value.int n0_size, Value.ref h2, Value.int (n0_ran + 1)])), (h1, Sum.inl (cint, 50, Sum.inl f1))]) hP hD [0, 1] [2] rfl rfl (by decide) (by decide) hk1 hFc hP1 hD1
              generalize H1 = H at hP hS ⊢
              have hP : va_P (dC, dI) vwCl [(h2, Sum.inl (cint, 24, Sum.inl f_99_0)), (h0, Sum.inr (5, [Value.ref h1, Value.int n0_size, Value.ref h2, Value.int (n0_ran + 1)])), (h1, Sum.inl (cint, 50, Sum.inl f1))] H := hP
              have hD : va_D A [(h2, Sum.inl (cint, 24, Sum.inl f_99_0)), (h0, Sum.inr (5, [Value.ref h1, Value.int n0_size, Value.ref h2, Value.int (n0_ran + 1)])), (h1, Sum.inl (cint, 50, Sum.inl f1))] := hD
              refine lv_goto (tgt := 143) hx hb dX5_call_125 (by decide) ?_
              obtain ⟨hP9, hD9⟩ := kk_leafout (wc := [(h0, Sum.inr (5, [Value.ref h1, Value.int n0_size, Value.ref h2, Value.int (n0_ran + 1)])), (h1, Sum.inl (cint, 50, Sum.inl f1)), (h2, Sum.inl (cint, 24, Sum.inl f_99_0))]) hP hD [1, 2, 0] (by decide) rfl
              have hK9 := hK.sub (tys' := []) [] rfl
              exact W.iret (v := r_100) hx hb hr (fun t ht hW => ⟨⟨r_100, (), rfl, trivial, (n0_ran + 1), f_99_0, (by show 0 ≤ ((n0_ran + 1) : Int32).toInt ∧ ((n0_ran + 1) : Int32).toInt ≤ 1000; first | decide | (constructor <;> (have := kk_rng p4; have := kk_add2 (x := n0_ran) (y := 1) (a := n0_ran.toInt) (b := 1) rfl rfl (by omega) (by omega); have := kk_rng p4; have := kk_add2 (x := p4) (y := 1) (a := p4.toInt) (b := 1) rfl rfl (by omega) (by omega); omega))), (by show ((n0_ran + 1) : Int32).toInt ≤ (n0_ran : Int32).toInt + 6; first | decide | (have := kk_rng p4; have := kk_add2 (x := n0_ran) (y := 1) (a := n0_ran.toInt) (b := 1) rfl rfl (by omega) (by omega); have := kk_rng p4; have := kk_add2 (x := p4) (y := 1) (a := p4.toInt) (b := 1) rfl rfl (by omega) (by omega); omega)), by rw [ht]; exact hP9, va_K.moved hW.alike hK9, hD9⟩, hS.F ht⟩) hS.2.2 dX5_call_143
            · skip
              refine lv_icmp_ge (tgt := 97) hx hb dX5_call_83 (by decide) (fun c_101 => ?_) (fun c_101 => ?_)
              · have t_101 : 24 ≤ n0_ran.toInt := kk_le c_101
                exact hcut_99 (f2) _ _ _ ⟨hP, hD, hS, lv_sub hl [0, 1, 2, 3, 4, 5, 6, 7] rfl⟩
              · have t_101 : n0_ran.toInt < 24 := kk_nle c_101
                refine lv_aload_n hx hb dX5_call_86 rfl (lv_at hl 2 rfl) ?_
                refine va_get (D := (dC, dI)) (ci := 5) (v := .ref h2) (C := RX5) (T := TX5) (N := 4) hx hb hts (fun _ h => List.mem_cons_of_mem _ (List.mem_append_right _ h)) hown hK hP 0 rfl rfl 2 (by decide) (hts (.fieldLink RX5 15 "KinkStreet$Lines" "trace" "[I") (List.mem_of_getElem? (i := 4) rfl)) (fun _ h9 => h9) rfl dX5_call_87 ?_
                refine lv_aload_n hx hb dX5_call_90 rfl (lv_at hl 2 rfl) ?_
                refine va_get (D := (dC, dI)) (ci := 5) (v := .int n0_ran) (C := RX5) (T := TX5) (N := 4) hx hb hts (fun _ h => List.mem_cons_of_mem _ (List.mem_append_right _ h)) hown hK hP 0 rfl rfl 3 (by decide) (hts (.fieldLink RX5 36 "KinkStreet$Lines" "ran" "I") (List.mem_of_getElem? (i := 3) rfl)) (fun _ h9 => h9) rfl dX5_call_91 ?_
                refine lv_iload hx hb dX5_call_94 (lv_at hl 0 rfl) ?_
                refine va_iast hx hb hK hP hD hS 2 0 rfl rfl (vp_in_iff.mpr ⟨by have := kk_rng p4; omega, by have := kk_rng p4; omega⟩) dX5_call_96 (fun H locs hP hD hS => ?_)
                generalize upd f2 (n0_ran : Int32).toNatClampNeg 11 = f_102 at hP hD
                have hP : va_P (dC, dI) vwCl [(h0, Sum.inr (5, [Value.ref h1, Value.int n0_size, Value.ref h2, Value.int n0_ran])), (h1, Sum.inl (cint, 50, Sum.inl f1)), (h2, Sum.inl (cint, 24, Sum.inl f_102))] H := hP
                have hD : va_D A [(h0, Sum.inr (5, [Value.ref h1, Value.int n0_size, Value.ref h2, Value.int n0_ran])), (h1, Sum.inl (cint, 50, Sum.inl f1)), (h2, Sum.inl (cint, 24, Sum.inl f_102))] := hD
                exact hcut_99 (f_102) _ _ _ ⟨hP, hD, hS, lv_sub hl [0, 1, 2, 3, 4, 5, 6, 7] rfl⟩
          · have t_94 : 40 < p4.toInt := kk_nle c_94
            refine lv_iconst (v := 0) hx hb dX5_call_63 (by decide) ?_
            obtain ⟨hP9, hD9⟩ := kk_leafout (wc := [(h0, Sum.inr (5, [Value.ref h1, Value.int n0_size, Value.ref h2, Value.int n0_ran])), (h1, Sum.inl (cint, 50, Sum.inl f1)), (h2, Sum.inl (cint, 24, Sum.inl f2))]) hP hD [0, 1, 2] (by decide) rfl
            have hK9 := hK.sub (tys' := []) [] rfl
            exact W.iret (v := 0) hx hb hr (fun t ht hW => ⟨⟨0, (), rfl, trivial, n0_ran, f2, (by show 0 ≤ (n0_ran : Int32).toInt ∧ (n0_ran : Int32).toInt ≤ 1000; first | decide | (constructor <;> (have := kk_rng p4; omega))), (by show (n0_ran : Int32).toInt ≤ (n0_ran : Int32).toInt + 6; first | decide | (have := kk_rng p4; omega)), by rw [ht]; exact hP9, va_K.moved hW.alike hK9, hD9⟩, hS.F ht⟩) hS.2.2 dX5_call_64
  · have t_1 : p1.toInt = 3 := by rw [e_1]; rfl
    subst e_1
    refine lv_iload_n hx hb dX5_call_0 rfl (lv_at hl 2 rfl) ?_
    refine lv_istore (lv' := [(6, .int 3), (0, .ref h0), (1, .int p0), (2, .int 3), (3, .int 2), (4, .int p3), (5, .int p4)]) hx hb dX5_call_1 hl (by decide) rfl (fun ls hl => ?_)
    refine lv_iconst (v := 0) hx hb dX5_call_3 (by decide) ?_
    refine lv_istore (lv' := [(7, .int 0), (6, .int 3), (0, .ref h0), (1, .int p0), (2, .int 3), (3, .int 2), (4, .int p3), (5, .int p4)]) hx hb dX5_call_4 hl (by decide) rfl (fun ls hl => ?_)
    refine lv_iload hx hb dX5_call_6 (lv_at hl 0 rfl) ?_
    refine lv_bipush (v := 8) hx hb dX5_call_8 (by decide) ?_
    refine lv_icmp_ge (tgt := 48) hx hb dX5_call_10 (by decide) (fun c => absurd c (by decide)) (fun _ => ?_)
    refine lv_iload hx hb dX5_call_13 (lv_at hl 1 rfl) ?_
    obtain ⟨hPc, hDc, hFc⟩ := kk_cutout (wc := []) hP hD hS hA [] (by decide) rfl
    have hKc := hK.sub (tys' := []) [] rfl
    refine va_calli (va_runS (As := [.int 3]) (rest := []) ⟨hx, hb, hml, hown, hts⟩ (g_X5_isKind_0 l dC dI s.heap.size 3) (va_cwS 1 hts gX5_call_X5_isKind rfl rfl rfl (by decide +kernel) ⟨Nat.le_of_ble_eq_true rfl, Nat.le_of_ble_eq_true rfl⟩) ⟨fun a U g mk q => by obtain ⟨q0, q1, qP, qK, qD⟩ := q; exact ⟨q0, q1, qP, va_K.moved (u := U) (U := U.calling g mk a) (Vm.Alike.refl U.vm) qK, qD⟩, fun U hU hW => ⟨rfl, by rw [hU], by rw [hU]; exact hPc, va_K.moved hW.alike hKc, hDc.weaken (fun _ _ _ _ => trivial)⟩⟩ rfl rfl hl.1 rfl (lv_room (Nat.le_of_ble_eq_true rfl)) dX5_call_15 ⟨Nat.le_of_ble_eq_true rfl, Nat.le_of_ble_eq_true rfl⟩) hS (fun q _ h => hFc q h) hFc (fun r_103 u t H1 locs ht hvm hw hB hz1 hk1 hS => ?_)
    obtain ⟨hP1, hK1, hD1⟩ := hB
    rw [ht] at hP1
    have hK1 := va_K.moved hvm.symm hK1
    obtain ⟨hP, hD⟩ := va_join (wr := [(h0, Sum.inr (5, [Value.ref h1, Value.int n0_size, Value.ref h2, Value.int n0_ran])), (h1, Sum.inl (cint, 50, Sum.inl f1)), (h2, Sum.inl (cint, 24, Sum.inl f2))]) (w1 := []) hP hD [] [0, 1, 2] rfl rfl (by decide) (by decide) hk1 hFc hP1 hD1
    generalize H1 = H at hP hS ⊢
    have hP : va_P (dC, dI) vwCl [(h0, Sum.inr (5, [Value.ref h1, Value.int n0_size, Value.ref h2, Value.int n0_ran])), (h1, Sum.inl (cint, 50, Sum.inl f1)), (h2, Sum.inl (cint, 24, Sum.inl f2))] H := hP
    have hD : va_D A [(h0, Sum.inr (5, [Value.ref h1, Value.int n0_size, Value.ref h2, Value.int n0_ran])), (h1, Sum.inl (cint, 50, Sum.inl f1)), (h2, Sum.inl (cint, 24, Sum.inl f2))] := hD
    rcases hw with ⟨rfl⟩ | ⟨t_103_0, t_103_1, rfl⟩
    · skip
      refine lv_if_eq (tgt := 48) hx hb dX5_call_18 (by decide) (fun _ => ?_) (fun c => absurd c (by decide))
      refine lv_iload hx hb dX5_call_48 (lv_at hl 1 rfl) ?_
      obtain ⟨hPc, hDc, hFc⟩ := kk_cutout (wc := []) hP hD hS hA [] (by decide) rfl
      have hKc := hK.sub (tys' := []) [] rfl
      refine va_calli (va_runS (As := [.int 3]) (rest := []) ⟨hx, hb, hml, hown, hts⟩ (g_X5_isKind_0 l dC dI H.size 3) (va_cwS 1 hts gX5_call_X5_isKind rfl rfl rfl (by decide +kernel) ⟨Nat.le_of_ble_eq_true rfl, Nat.le_of_ble_eq_true rfl⟩) ⟨fun a U g mk q => by obtain ⟨q0, q1, qP, qK, qD⟩ := q; exact ⟨q0, q1, qP, va_K.moved (u := U) (U := U.calling g mk a) (Vm.Alike.refl U.vm) qK, qD⟩, fun U hU hW => ⟨rfl, by rw [hU], by rw [hU]; exact hPc, va_K.moved hW.alike hKc, hDc.weaken (fun _ _ _ _ => trivial)⟩⟩ rfl rfl hl.1 rfl (lv_room (Nat.le_of_ble_eq_true rfl)) dX5_call_50 ⟨Nat.le_of_ble_eq_true rfl, Nat.le_of_ble_eq_true rfl⟩) hS (fun q _ h => hFc q h) hFc (fun r_104 u t H1 locs ht hvm hw hB hz1 hk1 hS => ?_)
      obtain ⟨hP1, hK1, hD1⟩ := hB
      rw [ht] at hP1
      have hK1 := va_K.moved hvm.symm hK1
      obtain ⟨hP, hD⟩ := va_join (wr := [(h0, Sum.inr (5, [Value.ref h1, Value.int n0_size, Value.ref h2, Value.int n0_ran])), (h1, Sum.inl (cint, 50, Sum.inl f1)), (h2, Sum.inl (cint, 24, Sum.inl f2))]) (w1 := []) hP hD [] [0, 1, 2] rfl rfl (by decide) (by decide) hk1 hFc hP1 hD1
      generalize H1 = H at hP hS ⊢
      have hP : va_P (dC, dI) vwCl [(h0, Sum.inr (5, [Value.ref h1, Value.int n0_size, Value.ref h2, Value.int n0_ran])), (h1, Sum.inl (cint, 50, Sum.inl f1)), (h2, Sum.inl (cint, 24, Sum.inl f2))] H := hP
      have hD : va_D A [(h0, Sum.inr (5, [Value.ref h1, Value.int n0_size, Value.ref h2, Value.int n0_ran])), (h1, Sum.inl (cint, 50, Sum.inl f1)), (h2, Sum.inl (cint, 24, Sum.inl f2))] := hD
      rcases hw with ⟨rfl⟩ | ⟨t_104_0, t_104_1, rfl⟩
      · skip
        refine lv_if_eq (tgt := 63) hx hb dX5_call_53 (by decide) (fun _ => ?_) (fun c => absurd c (by decide))
        refine lv_iconst (v := 0) hx hb dX5_call_63 (by decide) ?_
        obtain ⟨hP9, hD9⟩ := kk_leafout (wc := [(h0, Sum.inr (5, [Value.ref h1, Value.int n0_size, Value.ref h2, Value.int n0_ran])), (h1, Sum.inl (cint, 50, Sum.inl f1)), (h2, Sum.inl (cint, 24, Sum.inl f2))]) hP hD [0, 1, 2] (by decide) rfl
        have hK9 := hK.sub (tys' := []) [] rfl
        exact W.iret (v := 0) hx hb hr (fun t ht hW => ⟨⟨0, (), rfl, trivial, n0_ran, f2, (by show 0 ≤ (n0_ran : Int32).toInt ∧ (n0_ran : Int32).toInt ≤ 1000; first | decide | (constructor <;> (omega))), (by show (n0_ran : Int32).toInt ≤ (n0_ran : Int32).toInt + 6; first | decide | (omega)), by rw [ht]; exact hP9, va_K.moved hW.alike hK9, hD9⟩, hS.F ht⟩) hS.2.2 dX5_call_64
      · skip
        have t_104_0 : (0 : Int) ≤ 3 := t_104_0
        have t_104_1 : (3 : Int) < 8 := t_104_1
        refine lv_if_eq (tgt := 63) hx hb dX5_call_53 (by decide) (fun c => absurd c (by decide)) (fun _ => ?_)
        refine lv_iload hx hb dX5_call_56 (lv_at hl 7 rfl) ?_
        refine lv_bipush (v := 40) hx hb dX5_call_58 (by decide) ?_
        refine lv_icmp_le (tgt := 65) hx hb dX5_call_60 (by decide) (fun c_105 => ?_) (fun c_105 => ?_)
        · have t_105 : p4.toInt ≤ 40 := kk_le c_105
          refine va_gets hx hb hZOWN_BODIES hS hown (hts (.fieldLink RX5 43 "KinkStreet$Lines" "OWN_BODIES" "[I") (List.mem_of_getElem? (i := 1) rfl)) (fun _ h9 => h9) dX5_call_65 ?_
          refine lv_iload hx hb dX5_call_68 (lv_at hl 1 rfl) ?_
          refine lv_iconst (v := 4) hx hb dX5_call_70 (by decide) ?_
          refine lv_imul hx hb dX5_call_71 ?_
          refine lv_topi (fun y_106 e_106 => ?_)
          obtain rfl : y_106 = 12 := e_106.trans (by decide)
          refine lv_iload_n hx hb dX5_call_72 rfl (lv_at hl 5 rfl) ?_
          refine lv_iadd hx hb dX5_call_73 ?_
          refine lv_topi (fun y_107 e_107 => ?_)
          obtain rfl : y_107 = 14 := e_107.trans (by decide)
          refine va_ti (v := .int 40) hx hb hTOWN_BODIES hS (by unfold vp_in; decide) rfl dX5_call_74 ?_
          refine lv_istore (lv' := [(7, .int 40), (6, .int 3), (0, .ref h0), (1, .int p0), (2, .int 3), (3, .int 2), (4, .int p3), (5, .int p4)]) hx hb dX5_call_75 hl (by decide) rfl (fun ls hl => ?_)
          refine lv_aload_n hx hb dX5_call_77 rfl (lv_at hl 2 rfl) ?_
          refine va_get (D := (dC, dI)) (ci := 5) (v := .int n0_ran) (C := RX5) (T := TX5) (N := 4) hx hb hts (fun _ h => List.mem_cons_of_mem _ (List.mem_append_right _ h)) hown hK hP 0 rfl rfl 3 (by decide) (hts (.fieldLink RX5 36 "KinkStreet$Lines" "ran" "I") (List.mem_of_getElem? (i := 3) rfl)) (fun _ h9 => h9) rfl dX5_call_78 ?_
          refine lv_bipush (v := 24) hx hb dX5_call_81 (by decide) ?_
          refine kk_cut (σ := (Nat → Int32)) (pc' := 97) (fun x H locs ls => va_P (dC, dI) vwCl [(h0, Sum.inr (5, [Value.ref h1, Value.int n0_size, Value.ref h2, Value.int n0_ran])), (h1, Sum.inl (cint, 50, Sum.inl f1)), (h2, Sum.inl (cint, 24, Sum.inl x))] H ∧ va_D A [(h0, Sum.inr (5, [Value.ref h1, Value.int n0_size, Value.ref h2, Value.int n0_ran])), (h1, Sum.inl (cint, 50, Sum.inl f1)), (h2, Sum.inl (cint, 24, Sum.inl x))] ∧ va_S A s.heap H locs ∧ lv_has ls 8 [(7, .int 40), (6, .int 3), (0, .ref h0), (1, .int p0), (2, .int 3), (3, .int 2), (4, .int p3), (5, .int p4)]) ?_ (fun hcut_110 => ?_)
          · rintro f_110_0 H locs ls ⟨hP, hD, hS, hl⟩
            have hl : lv_has ls 8 [(7, .int 40), (6, .int 3), (0, .ref h0), (1, .int p0), (2, .int 3), (3, .int 2), (4, .int p3), (5, .int p4)] := hl
            have hP : va_P (dC, dI) vwCl [(h0, Sum.inr (5, [Value.ref h1, Value.int n0_size, Value.ref h2, Value.int n0_ran])), (h1, Sum.inl (cint, 50, Sum.inl f1)), (h2, Sum.inl (cint, 24, Sum.inl f_110_0))] H := hP
            have hD : va_D A [(h0, Sum.inr (5, [Value.ref h1, Value.int n0_size, Value.ref h2, Value.int n0_ran])), (h1, Sum.inl (cint, 50, Sum.inl f1)), (h2, Sum.inl (cint, 24, Sum.inl f_110_0))] := hD
            refine lv_aload_n hx hb dX5_call_97 rfl (lv_at hl 2 rfl) ?_
            refine lv_dup hx hb dX5_call_98 rfl ?_
            refine va_get (D := (dC, dI)) (ci := 5) (v := .int n0_ran) (C := RX5) (T := TX5) (N := 4) hx hb hts (fun _ h => List.mem_cons_of_mem _ (List.mem_append_right _ h)) hown hK hP 0 rfl rfl 3 (by decide) (hts (.fieldLink RX5 36 "KinkStreet$Lines" "ran" "I") (List.mem_of_getElem? (i := 3) rfl)) (fun _ h9 => h9) rfl dX5_call_99 ?_
            refine lv_iconst (v := 1) hx hb dX5_call_102 (by decide) ?_
            refine lv_iadd hx hb dX5_call_103 ?_
            refine va_put (D := (dC, dI)) (ci := 5) (v := .int (n0_ran + 1)) (ty := .int) (C := RX5) (T := TX5) (N := 4) hx hb hts (fun _ h => List.mem_cons_of_mem _ (List.mem_append_right _ h)) tyX5 tyX5_ok nmX5 hown hK hP hD hS 0 rfl rfl 3 (by decide) (hts (.fieldLink RX5 36 "KinkStreet$Lines" "ran" "I") (List.mem_of_getElem? (i := 3) rfl)) (fun _ h9 => h9) rfl (by decide +kernel) rfl rfl (Nat.le_of_ble_eq_true rfl) dX5_call_104 (fun H locs hP hD hS => ?_)
            have hP : va_P (dC, dI) vwCl [(h0, Sum.inr (5, [Value.ref h1, Value.int n0_size, Value.ref h2, Value.int (n0_ran + 1)])), (h1, Sum.inl (cint, 50, Sum.inl f1)), (h2, Sum.inl (cint, 24, Sum.inl f_110_0))] H := hP
            have hD : va_D A [(h0, Sum.inr (5, [Value.ref h1, Value.int n0_size, Value.ref h2, Value.int (n0_ran + 1)])), (h1, Sum.inl (cint, 50, Sum.inl f1)), (h2, Sum.inl (cint, 24, Sum.inl f_110_0))] := hD
            refine lv_iload hx hb dX5_call_107 (lv_at hl 1 rfl) ?_
            refine lv_if_ne (tgt := 128) hx hb dX5_call_109 (by decide) (fun _ => ?_) (fun c => absurd c (by decide))
            refine lv_aload_n hx hb dX5_call_128 rfl (lv_at hl 2 rfl) ?_
            refine lv_iload_n hx hb dX5_call_129 rfl (lv_at hl 3 rfl) ?_
            refine lv_iload hx hb dX5_call_130 (lv_at hl 1 rfl) ?_
            refine lv_iload hx hb dX5_call_132 (lv_at hl 0 rfl) ?_
            refine lv_iload hx hb dX5_call_134 (lv_at hl 6 rfl) ?_
            refine lv_iload hx hb dX5_call_136 (lv_at hl 7 rfl) ?_
            refine lv_iconst (v := 1) hx hb dX5_call_138 (by decide) ?_
            refine lv_iadd hx hb dX5_call_139 ?_
            obtain ⟨hPc, hDc, hFc⟩ := kk_cutout (wc := [(h0, Sum.inr (5, [Value.ref h1, Value.int n0_size, Value.ref h2, Value.int (n0_ran + 1)])), (h1, Sum.inl (cint, 50, Sum.inl f1)), (h2, Sum.inl (cint, 24, Sum.inl f_110_0))]) hP hD hS hA [0, 1, 2] (by decide) rfl
            have hKc := hK.sub (tys' := [(cint, .int)]) [0] rfl
            refine va_calli (va_runV (As := [.int p0, .int 3, .int 40, .int p3, .int (p4 + 1)]) (rest := []) ⟨hx, hb, hml, hown, hts⟩ (g_X5_runUnder_3 l dC dI h0 h1 h2 cint H.size p0 p3 (p4 + 1) n0_size (n0_ran + 1) f1 f_110_0 tn0_size (by show 0 ≤ ((n0_ran + 1) : Int32).toInt ∧ ((n0_ran + 1) : Int32).toInt ≤ 999; first | decide | (constructor <;> (have := kk_rng p4; have := kk_add2 (x := n0_ran) (y := 1) (a := n0_ran.toInt) (b := 1) rfl rfl (by omega) (by omega); have := kk_rng p4; have := kk_add2 (x := p4) (y := 1) (a := p4.toInt) (b := 1) rfl rfl (by omega) (by omega); omega))) bf1 aOWN_BODIES aABOVE) (cwV 5 hts gX5_call_X5_runUnder rfl rfl rfl (by decide +kernel) ⟨Nat.le_of_ble_eq_true rfl, Nat.le_of_ble_eq_true rfl⟩) ⟨fun a U g mk q => by obtain ⟨q0, q1, qP, qK, qD, qx0, qx1, qx2, qx3⟩ := q; exact ⟨q0, q1, qP, va_K.moved (u := U) (U := U.calling g mk a) (Vm.Alike.refl U.vm) qK, qD, va_Z.moved (u := U) (U := U.calling g mk a) (Vm.Alike.refl U.vm) qx0, va_T.moved (u := U) (U := U.calling g mk a) (Vm.Alike.refl U.vm) qx1, va_Z.moved (u := U) (U := U.calling g mk a) (Vm.Alike.refl U.vm) qx2, va_T.moved (u := U) (U := U.calling g mk a) (Vm.Alike.refl U.vm) qx3⟩, va_recv hKc hPc (ci := 5) (q0 := 0) rfl rfl, fun U hU hW => ⟨rfl, by rw [hU], by rw [hU]; exact hPc, va_K.moved hW.alike hKc, hDc.weaken (fun _ _ _ _ => trivial), by rw [hU]; exact ((hZOWN_BODIES.kept (fun a h1 h2 => hS.2.1 a h1 h2)).narrow hFc).moved hW.alike, by rw [hU]; exact ((hTOWN_BODIES.kept (fun a h1 h2 => hS.2.1 a h1 h2)).narrow hFc).moved hW.alike, by rw [hU]; exact ((hZABOVE.kept (fun a h1 h2 => hS.2.1 a h1 h2)).narrow hFc).moved hW.alike, by rw [hU]; exact ((hTABOVE.kept (fun a h1 h2 => hS.2.1 a h1 h2)).narrow hFc).moved hW.alike⟩⟩ rfl rfl hl.1 rfl (lv_room (Nat.le_of_ble_eq_true rfl)) dX5_call_140 ⟨Nat.le_of_ble_eq_true rfl, Nat.le_of_ble_eq_true rfl⟩) hS (fun q _ h => hFc q h) hFc (fun r_111 u t H1 locs ht hvm hw hB hz1 hk1 hS => ?_)
            obtain ⟨y_112, f_113, by_112, v_113_0, hP1, hK1, hD1⟩ := hB
            have v_113_0 : y_112.toInt ≤ (n0_ran + 1).toInt + 1 := v_113_0
            rw [ht] at hP1
            have hK1 := va_K.moved hvm.symm hK1
            obtain ⟨hP, hD⟩ := va_join (wr := []) (w1 := [(h0, Sum.inr (5, [Value.ref h1, Value.int n0_size, Value.ref h2, Value.int y_112])), (h1, Sum.inl (cint, 50, Sum.inl f1)), (h2, Sum.inl (cint, 24, Sum.inl f_113))]) hP hD [0, 1, 2] [] rfl rfl (by decide) (by decide) hk1 hFc hP1 hD1
            generalize H1 = H at hP hS ⊢
            have hP : va_P (dC, dI) vwCl [(h0, Sum.inr (5, [Value.ref h1, Value.int n0_size, Value.ref h2, Value.int y_112])), (h1, Sum.inl (cint, 50, Sum.inl f1)), (h2, Sum.inl (cint, 24, Sum.inl f_113))] H := hP
            have hD : va_D A [(h0, Sum.inr (5, [Value.ref h1, Value.int n0_size, Value.ref h2, Value.int y_112])), (h1, Sum.inl (cint, 50, Sum.inl f1)), (h2, Sum.inl (cint, 24, Sum.inl f_113))] := hD
            obtain ⟨hP9, hD9⟩ := kk_leafout (wc := [(h0, Sum.inr (5, [Value.ref h1, Value.int n0_size, Value.ref h2, Value.int y_112])), (h1, Sum.inl (cint, 50, Sum.inl f1)), (h2, Sum.inl (cint, 24, Sum.inl f_113))]) hP hD [0, 1, 2] (by decide) rfl
            have hK9 := hK.sub (tys' := []) [] rfl
            exact W.iret (v := r_111) hx hb hr (fun t ht hW => ⟨⟨r_111, (), rfl, trivial, y_112, f_113, (by show 0 ≤ (y_112 : Int32).toInt ∧ (y_112 : Int32).toInt ≤ 1000; first | decide | (constructor <;> (have := kk_rng p4; have := kk_add2 (x := n0_ran) (y := 1) (a := n0_ran.toInt) (b := 1) rfl rfl (by omega) (by omega); have := kk_rng p4; have := kk_add2 (x := p4) (y := 1) (a := p4.toInt) (b := 1) rfl rfl (by omega) (by omega); omega))), (by show (y_112 : Int32).toInt ≤ (n0_ran : Int32).toInt + 6; first | decide | (have := kk_rng p4; have := kk_add2 (x := n0_ran) (y := 1) (a := n0_ran.toInt) (b := 1) rfl rfl (by omega) (by omega); have := kk_rng p4; have := kk_add2 (x := p4) (y := 1) (a := p4.toInt) (b := 1) rfl rfl (by omega) (by omega); omega)), by rw [ht]; exact hP9, va_K.moved hW.alike hK9, hD9⟩, hS.F ht⟩) hS.2.2 dX5_call_143
          · skip
            refine lv_icmp_ge (tgt := 97) hx hb dX5_call_83 (by decide) (fun c_114 => ?_) (fun c_114 => ?_)
            · have t_114 : 24 ≤ n0_ran.toInt := kk_le c_114
              exact hcut_110 (f2) _ _ _ ⟨hP, hD, hS, lv_sub hl [0, 1, 2, 3, 4, 5, 6, 7] rfl⟩
            · have t_114 : n0_ran.toInt < 24 := kk_nle c_114
              refine lv_aload_n hx hb dX5_call_86 rfl (lv_at hl 2 rfl) ?_
              refine va_get (D := (dC, dI)) (ci := 5) (v := .ref h2) (C := RX5) (T := TX5) (N := 4) hx hb hts (fun _ h => List.mem_cons_of_mem _ (List.mem_append_right _ h)) hown hK hP 0 rfl rfl 2 (by decide) (hts (.fieldLink RX5 15 "KinkStreet$Lines" "trace" "[I") (List.mem_of_getElem? (i := 4) rfl)) (fun _ h9 => h9) rfl dX5_call_87 ?_
              refine lv_aload_n hx hb dX5_call_90 rfl (lv_at hl 2 rfl) ?_
              refine va_get (D := (dC, dI)) (ci := 5) (v := .int n0_ran) (C := RX5) (T := TX5) (N := 4) hx hb hts (fun _ h => List.mem_cons_of_mem _ (List.mem_append_right _ h)) hown hK hP 0 rfl rfl 3 (by decide) (hts (.fieldLink RX5 36 "KinkStreet$Lines" "ran" "I") (List.mem_of_getElem? (i := 3) rfl)) (fun _ h9 => h9) rfl dX5_call_91 ?_
              refine lv_iload hx hb dX5_call_94 (lv_at hl 0 rfl) ?_
              refine va_iast hx hb hK hP hD hS 2 0 rfl rfl (vp_in_iff.mpr ⟨by have := kk_rng p4; omega, by have := kk_rng p4; omega⟩) dX5_call_96 (fun H locs hP hD hS => ?_)
              generalize upd f2 (n0_ran : Int32).toNatClampNeg 40 = f_115 at hP hD
              have hP : va_P (dC, dI) vwCl [(h0, Sum.inr (5, [Value.ref h1, Value.int n0_size, Value.ref h2, Value.int n0_ran])), (h1, Sum.inl (cint, 50, Sum.inl f1)), (h2, Sum.inl (cint, 24, Sum.inl f_115))] H := hP
              have hD : va_D A [(h0, Sum.inr (5, [Value.ref h1, Value.int n0_size, Value.ref h2, Value.int n0_ran])), (h1, Sum.inl (cint, 50, Sum.inl f1)), (h2, Sum.inl (cint, 24, Sum.inl f_115))] := hD
              exact hcut_110 (f_115) _ _ _ ⟨hP, hD, hS, lv_sub hl [0, 1, 2, 3, 4, 5, 6, 7] rfl⟩
        · have t_105 : 40 < p4.toInt := kk_nle c_105
          refine lv_iconst (v := 0) hx hb dX5_call_63 (by decide) ?_
          obtain ⟨hP9, hD9⟩ := kk_leafout (wc := [(h0, Sum.inr (5, [Value.ref h1, Value.int n0_size, Value.ref h2, Value.int n0_ran])), (h1, Sum.inl (cint, 50, Sum.inl f1)), (h2, Sum.inl (cint, 24, Sum.inl f2))]) hP hD [0, 1, 2] (by decide) rfl
          have hK9 := hK.sub (tys' := []) [] rfl
          exact W.iret (v := 0) hx hb hr (fun t ht hW => ⟨⟨0, (), rfl, trivial, n0_ran, f2, (by show 0 ≤ (n0_ran : Int32).toInt ∧ (n0_ran : Int32).toInt ≤ 1000; first | decide | (constructor <;> (have := kk_rng p4; omega))), (by show (n0_ran : Int32).toInt ≤ (n0_ran : Int32).toInt + 6; first | decide | (have := kk_rng p4; omega)), by rw [ht]; exact hP9, va_K.moved hW.alike hK9, hD9⟩, hS.F ht⟩) hS.2.2 dX5_call_64
    · skip
      have t_103_0 : (0 : Int) ≤ 3 := t_103_0
      have t_103_1 : (3 : Int) < 8 := t_103_1
      refine lv_if_eq (tgt := 48) hx hb dX5_call_18 (by decide) (fun c => absurd c (by decide)) (fun _ => ?_)
      refine va_gets hx hb hZOWN_BODIES hS hown (hts (.fieldLink RX5 43 "KinkStreet$Lines" "OWN_BODIES" "[I") (List.mem_of_getElem? (i := 1) rfl)) (fun _ h9 => h9) dX5_call_21 ?_
      refine lv_iload hx hb dX5_call_24 (lv_at hl 1 rfl) ?_
      refine lv_iconst (v := 4) hx hb dX5_call_26 (by decide) ?_
      refine lv_imul hx hb dX5_call_27 ?_
      refine lv_topi (fun y_116 e_116 => ?_)
      obtain rfl : y_116 = 12 := e_116.trans (by decide)
      refine lv_iload_n hx hb dX5_call_28 rfl (lv_at hl 5 rfl) ?_
      refine lv_iadd hx hb dX5_call_29 ?_
      refine lv_topi (fun y_117 e_117 => ?_)
      obtain rfl : y_117 = 14 := e_117.trans (by decide)
      refine va_ti (v := .int 40) hx hb hTOWN_BODIES hS (by unfold vp_in; decide) rfl dX5_call_30 ?_
      refine lv_if_ne (tgt := 48) hx hb dX5_call_31 (by decide) (fun _ => ?_) (fun c => absurd c (by decide))
      refine lv_iload hx hb dX5_call_48 (lv_at hl 1 rfl) ?_
      obtain ⟨hPc, hDc, hFc⟩ := kk_cutout (wc := []) hP hD hS hA [] (by decide) rfl
      have hKc := hK.sub (tys' := []) [] rfl
      refine va_calli (va_runS (As := [.int 3]) (rest := []) ⟨hx, hb, hml, hown, hts⟩ (g_X5_isKind_0 l dC dI H.size 3) (va_cwS 1 hts gX5_call_X5_isKind rfl rfl rfl (by decide +kernel) ⟨Nat.le_of_ble_eq_true rfl, Nat.le_of_ble_eq_true rfl⟩) ⟨fun a U g mk q => by obtain ⟨q0, q1, qP, qK, qD⟩ := q; exact ⟨q0, q1, qP, va_K.moved (u := U) (U := U.calling g mk a) (Vm.Alike.refl U.vm) qK, qD⟩, fun U hU hW => ⟨rfl, by rw [hU], by rw [hU]; exact hPc, va_K.moved hW.alike hKc, hDc.weaken (fun _ _ _ _ => trivial)⟩⟩ rfl rfl hl.1 rfl (lv_room (Nat.le_of_ble_eq_true rfl)) dX5_call_50 ⟨Nat.le_of_ble_eq_true rfl, Nat.le_of_ble_eq_true rfl⟩) hS (fun q _ h => hFc q h) hFc (fun r_118 u t H1 locs ht hvm hw hB hz1 hk1 hS => ?_)
      obtain ⟨hP1, hK1, hD1⟩ := hB
      rw [ht] at hP1
      have hK1 := va_K.moved hvm.symm hK1
      obtain ⟨hP, hD⟩ := va_join (wr := [(h0, Sum.inr (5, [Value.ref h1, Value.int n0_size, Value.ref h2, Value.int n0_ran])), (h1, Sum.inl (cint, 50, Sum.inl f1)), (h2, Sum.inl (cint, 24, Sum.inl f2))]) (w1 := []) hP hD [] [0, 1, 2] rfl rfl (by decide) (by decide) hk1 hFc hP1 hD1
      generalize H1 = H at hP hS ⊢
      have hP : va_P (dC, dI) vwCl [(h0, Sum.inr (5, [Value.ref h1, Value.int n0_size, Value.ref h2, Value.int n0_ran])), (h1, Sum.inl (cint, 50, Sum.inl f1)), (h2, Sum.inl (cint, 24, Sum.inl f2))] H := hP
      have hD : va_D A [(h0, Sum.inr (5, [Value.ref h1, Value.int n0_size, Value.ref h2, Value.int n0_ran])), (h1, Sum.inl (cint, 50, Sum.inl f1)), (h2, Sum.inl (cint, 24, Sum.inl f2))] := hD
      rcases hw with ⟨rfl⟩ | ⟨t_118_0, t_118_1, rfl⟩
      · skip
        refine lv_if_eq (tgt := 63) hx hb dX5_call_53 (by decide) (fun _ => ?_) (fun c => absurd c (by decide))
        refine lv_iconst (v := 0) hx hb dX5_call_63 (by decide) ?_
        obtain ⟨hP9, hD9⟩ := kk_leafout (wc := [(h0, Sum.inr (5, [Value.ref h1, Value.int n0_size, Value.ref h2, Value.int n0_ran])), (h1, Sum.inl (cint, 50, Sum.inl f1)), (h2, Sum.inl (cint, 24, Sum.inl f2))]) hP hD [0, 1, 2] (by decide) rfl
        have hK9 := hK.sub (tys' := []) [] rfl
        exact W.iret (v := 0) hx hb hr (fun t ht hW => ⟨⟨0, (), rfl, trivial, n0_ran, f2, (by show 0 ≤ (n0_ran : Int32).toInt ∧ (n0_ran : Int32).toInt ≤ 1000; first | decide | (constructor <;> (omega))), (by show (n0_ran : Int32).toInt ≤ (n0_ran : Int32).toInt + 6; first | decide | (omega)), by rw [ht]; exact hP9, va_K.moved hW.alike hK9, hD9⟩, hS.F ht⟩) hS.2.2 dX5_call_64
      · skip
        have t_118_0 : (0 : Int) ≤ 3 := t_118_0
        have t_118_1 : (3 : Int) < 8 := t_118_1
        refine lv_if_eq (tgt := 63) hx hb dX5_call_53 (by decide) (fun c => absurd c (by decide)) (fun _ => ?_)
        refine lv_iload hx hb dX5_call_56 (lv_at hl 7 rfl) ?_
        refine lv_bipush (v := 40) hx hb dX5_call_58 (by decide) ?_
        refine lv_icmp_le (tgt := 65) hx hb dX5_call_60 (by decide) (fun c_119 => ?_) (fun c_119 => ?_)
        · have t_119 : p4.toInt ≤ 40 := kk_le c_119
          refine va_gets hx hb hZOWN_BODIES hS hown (hts (.fieldLink RX5 43 "KinkStreet$Lines" "OWN_BODIES" "[I") (List.mem_of_getElem? (i := 1) rfl)) (fun _ h9 => h9) dX5_call_65 ?_
          refine lv_iload hx hb dX5_call_68 (lv_at hl 1 rfl) ?_
          refine lv_iconst (v := 4) hx hb dX5_call_70 (by decide) ?_
          refine lv_imul hx hb dX5_call_71 ?_
          refine lv_topi (fun y_120 e_120 => ?_)
          obtain rfl : y_120 = 12 := e_120.trans (by decide)
          refine lv_iload_n hx hb dX5_call_72 rfl (lv_at hl 5 rfl) ?_
          refine lv_iadd hx hb dX5_call_73 ?_
          refine lv_topi (fun y_121 e_121 => ?_)
          obtain rfl : y_121 = 14 := e_121.trans (by decide)
          refine va_ti (v := .int 40) hx hb hTOWN_BODIES hS (by unfold vp_in; decide) rfl dX5_call_74 ?_
          refine lv_istore (lv' := [(7, .int 40), (6, .int 3), (0, .ref h0), (1, .int p0), (2, .int 3), (3, .int 2), (4, .int p3), (5, .int p4)]) hx hb dX5_call_75 hl (by decide) rfl (fun ls hl => ?_)
          refine lv_aload_n hx hb dX5_call_77 rfl (lv_at hl 2 rfl) ?_
          refine va_get (D := (dC, dI)) (ci := 5) (v := .int n0_ran) (C := RX5) (T := TX5) (N := 4) hx hb hts (fun _ h => List.mem_cons_of_mem _ (List.mem_append_right _ h)) hown hK hP 0 rfl rfl 3 (by decide) (hts (.fieldLink RX5 36 "KinkStreet$Lines" "ran" "I") (List.mem_of_getElem? (i := 3) rfl)) (fun _ h9 => h9) rfl dX5_call_78 ?_
          refine lv_bipush (v := 24) hx hb dX5_call_81 (by decide) ?_
          refine kk_cut (σ := (Nat → Int32)) (pc' := 97) (fun x H locs ls => va_P (dC, dI) vwCl [(h0, Sum.inr (5, [Value.ref h1, Value.int n0_size, Value.ref h2, Value.int n0_ran])), (h1, Sum.inl (cint, 50, Sum.inl f1)), (h2, Sum.inl (cint, 24, Sum.inl x))] H ∧ va_D A [(h0, Sum.inr (5, [Value.ref h1, Value.int n0_size, Value.ref h2, Value.int n0_ran])), (h1, Sum.inl (cint, 50, Sum.inl f1)), (h2, Sum.inl (cint, 24, Sum.inl x))] ∧ va_S A s.heap H locs ∧ lv_has ls 8 [(7, .int 40), (6, .int 3), (0, .ref h0), (1, .int p0), (2, .int 3), (3, .int 2), (4, .int p3), (5, .int p4)]) ?_ (fun hcut_124 => ?_)
          · rintro f_124_0 H locs ls ⟨hP, hD, hS, hl⟩
            have hl : lv_has ls 8 [(7, .int 40), (6, .int 3), (0, .ref h0), (1, .int p0), (2, .int 3), (3, .int 2), (4, .int p3), (5, .int p4)] := hl
            have hP : va_P (dC, dI) vwCl [(h0, Sum.inr (5, [Value.ref h1, Value.int n0_size, Value.ref h2, Value.int n0_ran])), (h1, Sum.inl (cint, 50, Sum.inl f1)), (h2, Sum.inl (cint, 24, Sum.inl f_124_0))] H := hP
            have hD : va_D A [(h0, Sum.inr (5, [Value.ref h1, Value.int n0_size, Value.ref h2, Value.int n0_ran])), (h1, Sum.inl (cint, 50, Sum.inl f1)), (h2, Sum.inl (cint, 24, Sum.inl f_124_0))] := hD
            refine lv_aload_n hx hb dX5_call_97 rfl (lv_at hl 2 rfl) ?_
            refine lv_dup hx hb dX5_call_98 rfl ?_
            refine va_get (D := (dC, dI)) (ci := 5) (v := .int n0_ran) (C := RX5) (T := TX5) (N := 4) hx hb hts (fun _ h => List.mem_cons_of_mem _ (List.mem_append_right _ h)) hown hK hP 0 rfl rfl 3 (by decide) (hts (.fieldLink RX5 36 "KinkStreet$Lines" "ran" "I") (List.mem_of_getElem? (i := 3) rfl)) (fun _ h9 => h9) rfl dX5_call_99 ?_
            refine lv_iconst (v := 1) hx hb dX5_call_102 (by decide) ?_
            refine lv_iadd hx hb dX5_call_103 ?_
            refine va_put (D := (dC, dI)) (ci := 5) (v := .int (n0_ran + 1)) (ty := .int) (C := RX5) (T := TX5) (N := 4) hx hb hts (fun _ h => List.mem_cons_of_mem _ (List.mem_append_right _ h)) tyX5 tyX5_ok nmX5 hown hK hP hD hS 0 rfl rfl 3 (by decide) (hts (.fieldLink RX5 36 "KinkStreet$Lines" "ran" "I") (List.mem_of_getElem? (i := 3) rfl)) (fun _ h9 => h9) rfl (by decide +kernel) rfl rfl (Nat.le_of_ble_eq_true rfl) dX5_call_104 (fun H locs hP hD hS => ?_)
            have hP : va_P (dC, dI) vwCl [(h0, Sum.inr (5, [Value.ref h1, Value.int n0_size, Value.ref h2, Value.int (n0_ran + 1)])), (h1, Sum.inl (cint, 50, Sum.inl f1)), (h2, Sum.inl (cint, 24, Sum.inl f_124_0))] H := hP
            have hD : va_D A [(h0, Sum.inr (5, [Value.ref h1, Value.int n0_size, Value.ref h2, Value.int (n0_ran + 1)])), (h1, Sum.inl (cint, 50, Sum.inl f1)), (h2, Sum.inl (cint, 24, Sum.inl f_124_0))] := hD
            refine lv_iload hx hb dX5_call_107 (lv_at hl 1 rfl) ?_
            refine lv_if_ne (tgt := 128) hx hb dX5_call_109 (by decide) (fun _ => ?_) (fun c => absurd c (by decide))
            refine lv_aload_n hx hb dX5_call_128 rfl (lv_at hl 2 rfl) ?_
            refine lv_iload_n hx hb dX5_call_129 rfl (lv_at hl 3 rfl) ?_
            refine lv_iload hx hb dX5_call_130 (lv_at hl 1 rfl) ?_
            refine lv_iload hx hb dX5_call_132 (lv_at hl 0 rfl) ?_
            refine lv_iload hx hb dX5_call_134 (lv_at hl 6 rfl) ?_
            refine lv_iload hx hb dX5_call_136 (lv_at hl 7 rfl) ?_
            refine lv_iconst (v := 1) hx hb dX5_call_138 (by decide) ?_
            refine lv_iadd hx hb dX5_call_139 ?_
            obtain ⟨hPc, hDc, hFc⟩ := kk_cutout (wc := [(h0, Sum.inr (5, [Value.ref h1, Value.int n0_size, Value.ref h2, Value.int (n0_ran + 1)])), (h1, Sum.inl (cint, 50, Sum.inl f1)), (h2, Sum.inl (cint, 24, Sum.inl f_124_0))]) hP hD hS hA [0, 1, 2] (by decide) rfl
            have hKc := hK.sub (tys' := [(cint, .int)]) [0] rfl
            refine va_calli (va_runV (As := [.int p0, .int 3, .int 40, .int p3, .int (p4 + 1)]) (rest := []) ⟨hx, hb, hml, hown, hts⟩ (g_X5_runUnder_3 l dC dI h0 h1 h2 cint H.size p0 p3 (p4 + 1) n0_size (n0_ran + 1) f1 f_124_0 tn0_size (by show 0 ≤ ((n0_ran + 1) : Int32).toInt ∧ ((n0_ran + 1) : Int32).toInt ≤ 999; first | decide | (constructor <;> (have := kk_rng p4; have := kk_add2 (x := n0_ran) (y := 1) (a := n0_ran.toInt) (b := 1) rfl rfl (by omega) (by omega); have := kk_rng p4; have := kk_add2 (x := p4) (y := 1) (a := p4.toInt) (b := 1) rfl rfl (by omega) (by omega); omega))) bf1 aOWN_BODIES aABOVE) (cwV 5 hts gX5_call_X5_runUnder rfl rfl rfl (by decide +kernel) ⟨Nat.le_of_ble_eq_true rfl, Nat.le_of_ble_eq_true rfl⟩) ⟨fun a U g mk q => by obtain ⟨q0, q1, qP, qK, qD, qx0, qx1, qx2, qx3⟩ := q; exact ⟨q0, q1, qP, va_K.moved (u := U) (U := U.calling g mk a) (Vm.Alike.refl U.vm) qK, qD, va_Z.moved (u := U) (U := U.calling g mk a) (Vm.Alike.refl U.vm) qx0, va_T.moved (u := U) (U := U.calling g mk a) (Vm.Alike.refl U.vm) qx1, va_Z.moved (u := U) (U := U.calling g mk a) (Vm.Alike.refl U.vm) qx2, va_T.moved (u := U) (U := U.calling g mk a) (Vm.Alike.refl U.vm) qx3⟩, va_recv hKc hPc (ci := 5) (q0 := 0) rfl rfl, fun U hU hW => ⟨rfl, by rw [hU], by rw [hU]; exact hPc, va_K.moved hW.alike hKc, hDc.weaken (fun _ _ _ _ => trivial), by rw [hU]; exact ((hZOWN_BODIES.kept (fun a h1 h2 => hS.2.1 a h1 h2)).narrow hFc).moved hW.alike, by rw [hU]; exact ((hTOWN_BODIES.kept (fun a h1 h2 => hS.2.1 a h1 h2)).narrow hFc).moved hW.alike, by rw [hU]; exact ((hZABOVE.kept (fun a h1 h2 => hS.2.1 a h1 h2)).narrow hFc).moved hW.alike, by rw [hU]; exact ((hTABOVE.kept (fun a h1 h2 => hS.2.1 a h1 h2)).narrow hFc).moved hW.alike⟩⟩ rfl rfl hl.1 rfl (lv_room (Nat.le_of_ble_eq_true rfl)) dX5_call_140 ⟨Nat.le_of_ble_eq_true rfl, Nat.le_of_ble_eq_true rfl⟩) hS (fun q _ h => hFc q h) hFc (fun r_125 u t H1 locs ht hvm hw hB hz1 hk1 hS => ?_)
            obtain ⟨y_126, f_127, by_126, v_127_0, hP1, hK1, hD1⟩ := hB
            have v_127_0 : y_126.toInt ≤ (n0_ran + 1).toInt + 1 := v_127_0
            rw [ht] at hP1
            have hK1 := va_K.moved hvm.symm hK1
            obtain ⟨hP, hD⟩ := va_join (wr := []) (w1 := [(h0, Sum.inr (5, [Value.ref h1, Value.int n0_size, Value.ref h2, Value.int y_126])), (h1, Sum.inl (cint, 50, Sum.inl f1)), (h2, Sum.inl (cint, 24, Sum.inl f_127))]) hP hD [0, 1, 2] [] rfl rfl (by decide) (by decide) hk1 hFc hP1 hD1
            generalize H1 = H at hP hS ⊢
            have hP : va_P (dC, dI) vwCl [(h0, Sum.inr (5, [Value.ref h1, Value.int n0_size, Value.ref h2, Value.int y_126])), (h1, Sum.inl (cint, 50, Sum.inl f1)), (h2, Sum.inl (cint, 24, Sum.inl f_127))] H := hP
            have hD : va_D A [(h0, Sum.inr (5, [Value.ref h1, Value.int n0_size, Value.ref h2, Value.int y_126])), (h1, Sum.inl (cint, 50, Sum.inl f1)), (h2, Sum.inl (cint, 24, Sum.inl f_127))] := hD
            obtain ⟨hP9, hD9⟩ := kk_leafout (wc := [(h0, Sum.inr (5, [Value.ref h1, Value.int n0_size, Value.ref h2, Value.int y_126])), (h1, Sum.inl (cint, 50, Sum.inl f1)), (h2, Sum.inl (cint, 24, Sum.inl f_127))]) hP hD [0, 1, 2] (by decide) rfl
            have hK9 := hK.sub (tys' := []) [] rfl
            exact W.iret (v := r_125) hx hb hr (fun t ht hW => ⟨⟨r_125, (), rfl, trivial, y_126, f_127, (by show 0 ≤ (y_126 : Int32).toInt ∧ (y_126 : Int32).toInt ≤ 1000; first | decide | (constructor <;> (have := kk_rng p4; have := kk_add2 (x := n0_ran) (y := 1) (a := n0_ran.toInt) (b := 1) rfl rfl (by omega) (by omega); have := kk_rng p4; have := kk_add2 (x := p4) (y := 1) (a := p4.toInt) (b := 1) rfl rfl (by omega) (by omega); omega))), (by show (y_126 : Int32).toInt ≤ (n0_ran : Int32).toInt + 6; first | decide | (have := kk_rng p4; have := kk_add2 (x := n0_ran) (y := 1) (a := n0_ran.toInt) (b := 1) rfl rfl (by omega) (by omega); have := kk_rng p4; have := kk_add2 (x := p4) (y := 1) (a := p4.toInt) (b := 1) rfl rfl (by omega) (by omega); omega)), by rw [ht]; exact hP9, va_K.moved hW.alike hK9, hD9⟩, hS.F ht⟩) hS.2.2 dX5_call_143
          · skip
            refine lv_icmp_ge (tgt := 97) hx hb dX5_call_83 (by decide) (fun c_128 => ?_) (fun c_128 => ?_)
            · have t_128 : 24 ≤ n0_ran.toInt := kk_le c_128
              exact hcut_124 (f2) _ _ _ ⟨hP, hD, hS, lv_sub hl [0, 1, 2, 3, 4, 5, 6, 7] rfl⟩
            · have t_128 : n0_ran.toInt < 24 := kk_nle c_128
              refine lv_aload_n hx hb dX5_call_86 rfl (lv_at hl 2 rfl) ?_
              refine va_get (D := (dC, dI)) (ci := 5) (v := .ref h2) (C := RX5) (T := TX5) (N := 4) hx hb hts (fun _ h => List.mem_cons_of_mem _ (List.mem_append_right _ h)) hown hK hP 0 rfl rfl 2 (by decide) (hts (.fieldLink RX5 15 "KinkStreet$Lines" "trace" "[I") (List.mem_of_getElem? (i := 4) rfl)) (fun _ h9 => h9) rfl dX5_call_87 ?_
              refine lv_aload_n hx hb dX5_call_90 rfl (lv_at hl 2 rfl) ?_
              refine va_get (D := (dC, dI)) (ci := 5) (v := .int n0_ran) (C := RX5) (T := TX5) (N := 4) hx hb hts (fun _ h => List.mem_cons_of_mem _ (List.mem_append_right _ h)) hown hK hP 0 rfl rfl 3 (by decide) (hts (.fieldLink RX5 36 "KinkStreet$Lines" "ran" "I") (List.mem_of_getElem? (i := 3) rfl)) (fun _ h9 => h9) rfl dX5_call_91 ?_
              refine lv_iload hx hb dX5_call_94 (lv_at hl 0 rfl) ?_
              refine va_iast hx hb hK hP hD hS 2 0 rfl rfl (vp_in_iff.mpr ⟨by have := kk_rng p4; omega, by have := kk_rng p4; omega⟩) dX5_call_96 (fun H locs hP hD hS => ?_)
              generalize upd f2 (n0_ran : Int32).toNatClampNeg 40 = f_129 at hP hD
              have hP : va_P (dC, dI) vwCl [(h0, Sum.inr (5, [Value.ref h1, Value.int n0_size, Value.ref h2, Value.int n0_ran])), (h1, Sum.inl (cint, 50, Sum.inl f1)), (h2, Sum.inl (cint, 24, Sum.inl f_129))] H := hP
              have hD : va_D A [(h0, Sum.inr (5, [Value.ref h1, Value.int n0_size, Value.ref h2, Value.int n0_ran])), (h1, Sum.inl (cint, 50, Sum.inl f1)), (h2, Sum.inl (cint, 24, Sum.inl f_129))] := hD
              exact hcut_124 (f_129) _ _ _ ⟨hP, hD, hS, lv_sub hl [0, 1, 2, 3, 4, 5, 6, 7] rfl⟩
        · have t_119 : 40 < p4.toInt := kk_nle c_119
          refine lv_iconst (v := 0) hx hb dX5_call_63 (by decide) ?_
          obtain ⟨hP9, hD9⟩ := kk_leafout (wc := [(h0, Sum.inr (5, [Value.ref h1, Value.int n0_size, Value.ref h2, Value.int n0_ran])), (h1, Sum.inl (cint, 50, Sum.inl f1)), (h2, Sum.inl (cint, 24, Sum.inl f2))]) hP hD [0, 1, 2] (by decide) rfl
          have hK9 := hK.sub (tys' := []) [] rfl
          exact W.iret (v := 0) hx hb hr (fun t ht hW => ⟨⟨0, (), rfl, trivial, n0_ran, f2, (by show 0 ≤ (n0_ran : Int32).toInt ∧ (n0_ran : Int32).toInt ≤ 1000; first | decide | (constructor <;> (have := kk_rng p4; omega))), (by show (n0_ran : Int32).toInt ≤ (n0_ran : Int32).toInt + 6; first | decide | (have := kk_rng p4; omega)), by rw [ht]; exact hP9, va_K.moved hW.alike hK9, hD9⟩, hS.F ht⟩) hS.2.2 dX5_call_64
  · have t_1 : p1.toInt = 4 := by rw [e_1]; rfl
    subst e_1
    refine lv_iload_n hx hb dX5_call_0 rfl (lv_at hl 2 rfl) ?_
    refine lv_istore (lv' := [(6, .int 4), (0, .ref h0), (1, .int p0), (2, .int 4), (3, .int 2), (4, .int p3), (5, .int p4)]) hx hb dX5_call_1 hl (by decide) rfl (fun ls hl => ?_)
    refine lv_iconst (v := 0) hx hb dX5_call_3 (by decide) ?_
    refine lv_istore (lv' := [(7, .int 0), (6, .int 4), (0, .ref h0), (1, .int p0), (2, .int 4), (3, .int 2), (4, .int p3), (5, .int p4)]) hx hb dX5_call_4 hl (by decide) rfl (fun ls hl => ?_)
    refine lv_iload hx hb dX5_call_6 (lv_at hl 0 rfl) ?_
    refine lv_bipush (v := 8) hx hb dX5_call_8 (by decide) ?_
    refine lv_icmp_ge (tgt := 48) hx hb dX5_call_10 (by decide) (fun c => absurd c (by decide)) (fun _ => ?_)
    refine lv_iload hx hb dX5_call_13 (lv_at hl 1 rfl) ?_
    obtain ⟨hPc, hDc, hFc⟩ := kk_cutout (wc := []) hP hD hS hA [] (by decide) rfl
    have hKc := hK.sub (tys' := []) [] rfl
    refine va_calli (va_runS (As := [.int 4]) (rest := []) ⟨hx, hb, hml, hown, hts⟩ (g_X5_isKind_0 l dC dI s.heap.size 4) (va_cwS 1 hts gX5_call_X5_isKind rfl rfl rfl (by decide +kernel) ⟨Nat.le_of_ble_eq_true rfl, Nat.le_of_ble_eq_true rfl⟩) ⟨fun a U g mk q => by obtain ⟨q0, q1, qP, qK, qD⟩ := q; exact ⟨q0, q1, qP, va_K.moved (u := U) (U := U.calling g mk a) (Vm.Alike.refl U.vm) qK, qD⟩, fun U hU hW => ⟨rfl, by rw [hU], by rw [hU]; exact hPc, va_K.moved hW.alike hKc, hDc.weaken (fun _ _ _ _ => trivial)⟩⟩ rfl rfl hl.1 rfl (lv_room (Nat.le_of_ble_eq_true rfl)) dX5_call_15 ⟨Nat.le_of_ble_eq_true rfl, Nat.le_of_ble_eq_true rfl⟩) hS (fun q _ h => hFc q h) hFc (fun r_130 u t H1 locs ht hvm hw hB hz1 hk1 hS => ?_)
    obtain ⟨hP1, hK1, hD1⟩ := hB
    rw [ht] at hP1
    have hK1 := va_K.moved hvm.symm hK1
    obtain ⟨hP, hD⟩ := va_join (wr := [(h0, Sum.inr (5, [Value.ref h1, Value.int n0_size, Value.ref h2, Value.int n0_ran])), (h1, Sum.inl (cint, 50, Sum.inl f1)), (h2, Sum.inl (cint, 24, Sum.inl f2))]) (w1 := []) hP hD [] [0, 1, 2] rfl rfl (by decide) (by decide) hk1 hFc hP1 hD1
    generalize H1 = H at hP hS ⊢
    have hP : va_P (dC, dI) vwCl [(h0, Sum.inr (5, [Value.ref h1, Value.int n0_size, Value.ref h2, Value.int n0_ran])), (h1, Sum.inl (cint, 50, Sum.inl f1)), (h2, Sum.inl (cint, 24, Sum.inl f2))] H := hP
    have hD : va_D A [(h0, Sum.inr (5, [Value.ref h1, Value.int n0_size, Value.ref h2, Value.int n0_ran])), (h1, Sum.inl (cint, 50, Sum.inl f1)), (h2, Sum.inl (cint, 24, Sum.inl f2))] := hD
    rcases hw with ⟨rfl⟩ | ⟨t_130_0, t_130_1, rfl⟩
    · skip
      refine lv_if_eq (tgt := 48) hx hb dX5_call_18 (by decide) (fun _ => ?_) (fun c => absurd c (by decide))
      refine lv_iload hx hb dX5_call_48 (lv_at hl 1 rfl) ?_
      obtain ⟨hPc, hDc, hFc⟩ := kk_cutout (wc := []) hP hD hS hA [] (by decide) rfl
      have hKc := hK.sub (tys' := []) [] rfl
      refine va_calli (va_runS (As := [.int 4]) (rest := []) ⟨hx, hb, hml, hown, hts⟩ (g_X5_isKind_0 l dC dI H.size 4) (va_cwS 1 hts gX5_call_X5_isKind rfl rfl rfl (by decide +kernel) ⟨Nat.le_of_ble_eq_true rfl, Nat.le_of_ble_eq_true rfl⟩) ⟨fun a U g mk q => by obtain ⟨q0, q1, qP, qK, qD⟩ := q; exact ⟨q0, q1, qP, va_K.moved (u := U) (U := U.calling g mk a) (Vm.Alike.refl U.vm) qK, qD⟩, fun U hU hW => ⟨rfl, by rw [hU], by rw [hU]; exact hPc, va_K.moved hW.alike hKc, hDc.weaken (fun _ _ _ _ => trivial)⟩⟩ rfl rfl hl.1 rfl (lv_room (Nat.le_of_ble_eq_true rfl)) dX5_call_50 ⟨Nat.le_of_ble_eq_true rfl, Nat.le_of_ble_eq_true rfl⟩) hS (fun q _ h => hFc q h) hFc (fun r_131 u t H1 locs ht hvm hw hB hz1 hk1 hS => ?_)
      obtain ⟨hP1, hK1, hD1⟩ := hB
      rw [ht] at hP1
      have hK1 := va_K.moved hvm.symm hK1
      obtain ⟨hP, hD⟩ := va_join (wr := [(h0, Sum.inr (5, [Value.ref h1, Value.int n0_size, Value.ref h2, Value.int n0_ran])), (h1, Sum.inl (cint, 50, Sum.inl f1)), (h2, Sum.inl (cint, 24, Sum.inl f2))]) (w1 := []) hP hD [] [0, 1, 2] rfl rfl (by decide) (by decide) hk1 hFc hP1 hD1
      generalize H1 = H at hP hS ⊢
      have hP : va_P (dC, dI) vwCl [(h0, Sum.inr (5, [Value.ref h1, Value.int n0_size, Value.ref h2, Value.int n0_ran])), (h1, Sum.inl (cint, 50, Sum.inl f1)), (h2, Sum.inl (cint, 24, Sum.inl f2))] H := hP
      have hD : va_D A [(h0, Sum.inr (5, [Value.ref h1, Value.int n0_size, Value.ref h2, Value.int n0_ran])), (h1, Sum.inl (cint, 50, Sum.inl f1)), (h2, Sum.inl (cint, 24, Sum.inl f2))] := hD
      rcases hw with ⟨rfl⟩ | ⟨t_131_0, t_131_1, rfl⟩
      · skip
        refine lv_if_eq (tgt := 63) hx hb dX5_call_53 (by decide) (fun _ => ?_) (fun c => absurd c (by decide))
        refine lv_iconst (v := 0) hx hb dX5_call_63 (by decide) ?_
        obtain ⟨hP9, hD9⟩ := kk_leafout (wc := [(h0, Sum.inr (5, [Value.ref h1, Value.int n0_size, Value.ref h2, Value.int n0_ran])), (h1, Sum.inl (cint, 50, Sum.inl f1)), (h2, Sum.inl (cint, 24, Sum.inl f2))]) hP hD [0, 1, 2] (by decide) rfl
        have hK9 := hK.sub (tys' := []) [] rfl
        exact W.iret (v := 0) hx hb hr (fun t ht hW => ⟨⟨0, (), rfl, trivial, n0_ran, f2, (by show 0 ≤ (n0_ran : Int32).toInt ∧ (n0_ran : Int32).toInt ≤ 1000; first | decide | (constructor <;> (omega))), (by show (n0_ran : Int32).toInt ≤ (n0_ran : Int32).toInt + 6; first | decide | (omega)), by rw [ht]; exact hP9, va_K.moved hW.alike hK9, hD9⟩, hS.F ht⟩) hS.2.2 dX5_call_64
      · skip
        have t_131_0 : (0 : Int) ≤ 4 := t_131_0
        have t_131_1 : (4 : Int) < 8 := t_131_1
        refine lv_if_eq (tgt := 63) hx hb dX5_call_53 (by decide) (fun c => absurd c (by decide)) (fun _ => ?_)
        refine lv_iload hx hb dX5_call_56 (lv_at hl 7 rfl) ?_
        refine lv_bipush (v := 40) hx hb dX5_call_58 (by decide) ?_
        refine lv_icmp_le (tgt := 65) hx hb dX5_call_60 (by decide) (fun c_132 => ?_) (fun c_132 => ?_)
        · have t_132 : p4.toInt ≤ 40 := kk_le c_132
          refine va_gets hx hb hZOWN_BODIES hS hown (hts (.fieldLink RX5 43 "KinkStreet$Lines" "OWN_BODIES" "[I") (List.mem_of_getElem? (i := 1) rfl)) (fun _ h9 => h9) dX5_call_65 ?_
          refine lv_iload hx hb dX5_call_68 (lv_at hl 1 rfl) ?_
          refine lv_iconst (v := 4) hx hb dX5_call_70 (by decide) ?_
          refine lv_imul hx hb dX5_call_71 ?_
          refine lv_topi (fun y_133 e_133 => ?_)
          obtain rfl : y_133 = 16 := e_133.trans (by decide)
          refine lv_iload_n hx hb dX5_call_72 rfl (lv_at hl 5 rfl) ?_
          refine lv_iadd hx hb dX5_call_73 ?_
          refine lv_topi (fun y_134 e_134 => ?_)
          obtain rfl : y_134 = 18 := e_134.trans (by decide)
          refine va_ti (v := .int 50) hx hb hTOWN_BODIES hS (by unfold vp_in; decide) rfl dX5_call_74 ?_
          refine lv_istore (lv' := [(7, .int 50), (6, .int 4), (0, .ref h0), (1, .int p0), (2, .int 4), (3, .int 2), (4, .int p3), (5, .int p4)]) hx hb dX5_call_75 hl (by decide) rfl (fun ls hl => ?_)
          refine lv_aload_n hx hb dX5_call_77 rfl (lv_at hl 2 rfl) ?_
          refine va_get (D := (dC, dI)) (ci := 5) (v := .int n0_ran) (C := RX5) (T := TX5) (N := 4) hx hb hts (fun _ h => List.mem_cons_of_mem _ (List.mem_append_right _ h)) hown hK hP 0 rfl rfl 3 (by decide) (hts (.fieldLink RX5 36 "KinkStreet$Lines" "ran" "I") (List.mem_of_getElem? (i := 3) rfl)) (fun _ h9 => h9) rfl dX5_call_78 ?_
          refine lv_bipush (v := 24) hx hb dX5_call_81 (by decide) ?_
          refine kk_cut (σ := (Nat → Int32)) (pc' := 97) (fun x H locs ls => va_P (dC, dI) vwCl [(h0, Sum.inr (5, [Value.ref h1, Value.int n0_size, Value.ref h2, Value.int n0_ran])), (h1, Sum.inl (cint, 50, Sum.inl f1)), (h2, Sum.inl (cint, 24, Sum.inl x))] H ∧ va_D A [(h0, Sum.inr (5, [Value.ref h1, Value.int n0_size, Value.ref h2, Value.int n0_ran])), (h1, Sum.inl (cint, 50, Sum.inl f1)), (h2, Sum.inl (cint, 24, Sum.inl x))] ∧ va_S A s.heap H locs ∧ lv_has ls 8 [(7, .int 50), (6, .int 4), (0, .ref h0), (1, .int p0), (2, .int 4), (3, .int 2), (4, .int p3), (5, .int p4)]) ?_ (fun hcut_137 => ?_)
          · rintro f_137_0 H locs ls ⟨hP, hD, hS, hl⟩
            have hl : lv_has ls 8 [(7, .int 50), (6, .int 4), (0, .ref h0), (1, .int p0), (2, .int 4), (3, .int 2), (4, .int p3), (5, .int p4)] := hl
            have hP : va_P (dC, dI) vwCl [(h0, Sum.inr (5, [Value.ref h1, Value.int n0_size, Value.ref h2, Value.int n0_ran])), (h1, Sum.inl (cint, 50, Sum.inl f1)), (h2, Sum.inl (cint, 24, Sum.inl f_137_0))] H := hP
            have hD : va_D A [(h0, Sum.inr (5, [Value.ref h1, Value.int n0_size, Value.ref h2, Value.int n0_ran])), (h1, Sum.inl (cint, 50, Sum.inl f1)), (h2, Sum.inl (cint, 24, Sum.inl f_137_0))] := hD
            refine lv_aload_n hx hb dX5_call_97 rfl (lv_at hl 2 rfl) ?_
            refine lv_dup hx hb dX5_call_98 rfl ?_
            refine va_get (D := (dC, dI)) (ci := 5) (v := .int n0_ran) (C := RX5) (T := TX5) (N := 4) hx hb hts (fun _ h => List.mem_cons_of_mem _ (List.mem_append_right _ h)) hown hK hP 0 rfl rfl 3 (by decide) (hts (.fieldLink RX5 36 "KinkStreet$Lines" "ran" "I") (List.mem_of_getElem? (i := 3) rfl)) (fun _ h9 => h9) rfl dX5_call_99 ?_
            refine lv_iconst (v := 1) hx hb dX5_call_102 (by decide) ?_
            refine lv_iadd hx hb dX5_call_103 ?_
            refine va_put (D := (dC, dI)) (ci := 5) (v := .int (n0_ran + 1)) (ty := .int) (C := RX5) (T := TX5) (N := 4) hx hb hts (fun _ h => List.mem_cons_of_mem _ (List.mem_append_right _ h)) tyX5 tyX5_ok nmX5 hown hK hP hD hS 0 rfl rfl 3 (by decide) (hts (.fieldLink RX5 36 "KinkStreet$Lines" "ran" "I") (List.mem_of_getElem? (i := 3) rfl)) (fun _ h9 => h9) rfl (by decide +kernel) rfl rfl (Nat.le_of_ble_eq_true rfl) dX5_call_104 (fun H locs hP hD hS => ?_)
            have hP : va_P (dC, dI) vwCl [(h0, Sum.inr (5, [Value.ref h1, Value.int n0_size, Value.ref h2, Value.int (n0_ran + 1)])), (h1, Sum.inl (cint, 50, Sum.inl f1)), (h2, Sum.inl (cint, 24, Sum.inl f_137_0))] H := hP
            have hD : va_D A [(h0, Sum.inr (5, [Value.ref h1, Value.int n0_size, Value.ref h2, Value.int (n0_ran + 1)])), (h1, Sum.inl (cint, 50, Sum.inl f1)), (h2, Sum.inl (cint, 24, Sum.inl f_137_0))] := hD
            refine lv_iload hx hb dX5_call_107 (lv_at hl 1 rfl) ?_
            refine lv_if_ne (tgt := 128) hx hb dX5_call_109 (by decide) (fun _ => ?_) (fun c => absurd c (by decide))
            refine lv_aload_n hx hb dX5_call_128 rfl (lv_at hl 2 rfl) ?_
            refine lv_iload_n hx hb dX5_call_129 rfl (lv_at hl 3 rfl) ?_
            refine lv_iload hx hb dX5_call_130 (lv_at hl 1 rfl) ?_
            refine lv_iload hx hb dX5_call_132 (lv_at hl 0 rfl) ?_
            refine lv_iload hx hb dX5_call_134 (lv_at hl 6 rfl) ?_
            refine lv_iload hx hb dX5_call_136 (lv_at hl 7 rfl) ?_
            refine lv_iconst (v := 1) hx hb dX5_call_138 (by decide) ?_
            refine lv_iadd hx hb dX5_call_139 ?_
            obtain ⟨hPc, hDc, hFc⟩ := kk_cutout (wc := [(h0, Sum.inr (5, [Value.ref h1, Value.int n0_size, Value.ref h2, Value.int (n0_ran + 1)])), (h1, Sum.inl (cint, 50, Sum.inl f1)), (h2, Sum.inl (cint, 24, Sum.inl f_137_0))]) hP hD hS hA [0, 1, 2] (by decide) rfl
            have hKc := hK.sub (tys' := [(cint, .int)]) [0] rfl
            refine va_calli (va_runV (As := [.int p0, .int 4, .int 50, .int p3, .int (p4 + 1)]) (rest := []) ⟨hx, hb, hml, hown, hts⟩ (g_X5_runUnder_10 l dC dI h0 h1 h2 cint H.size p0 p3 (p4 + 1) n0_size (n0_ran + 1) f1 f_137_0 tn0_size (by show 0 ≤ ((n0_ran + 1) : Int32).toInt ∧ ((n0_ran + 1) : Int32).toInt ≤ 995; first | decide | (constructor <;> (have := kk_rng p4; have := kk_add2 (x := n0_ran) (y := 1) (a := n0_ran.toInt) (b := 1) rfl rfl (by omega) (by omega); have := kk_rng p4; have := kk_add2 (x := p4) (y := 1) (a := p4.toInt) (b := 1) rfl rfl (by omega) (by omega); omega))) bf1 aOWN_BODIES aABOVE) (cwV 5 hts gX5_call_X5_runUnder rfl rfl rfl (by decide +kernel) ⟨Nat.le_of_ble_eq_true rfl, Nat.le_of_ble_eq_true rfl⟩) ⟨fun a U g mk q => by obtain ⟨q0, q1, qP, qK, qD, qx0, qx1, qx2, qx3⟩ := q; exact ⟨q0, q1, qP, va_K.moved (u := U) (U := U.calling g mk a) (Vm.Alike.refl U.vm) qK, qD, va_Z.moved (u := U) (U := U.calling g mk a) (Vm.Alike.refl U.vm) qx0, va_T.moved (u := U) (U := U.calling g mk a) (Vm.Alike.refl U.vm) qx1, va_Z.moved (u := U) (U := U.calling g mk a) (Vm.Alike.refl U.vm) qx2, va_T.moved (u := U) (U := U.calling g mk a) (Vm.Alike.refl U.vm) qx3⟩, va_recv hKc hPc (ci := 5) (q0 := 0) rfl rfl, fun U hU hW => ⟨rfl, by rw [hU], by rw [hU]; exact hPc, va_K.moved hW.alike hKc, hDc.weaken (fun _ _ _ _ => trivial), by rw [hU]; exact ((hZOWN_BODIES.kept (fun a h1 h2 => hS.2.1 a h1 h2)).narrow hFc).moved hW.alike, by rw [hU]; exact ((hTOWN_BODIES.kept (fun a h1 h2 => hS.2.1 a h1 h2)).narrow hFc).moved hW.alike, by rw [hU]; exact ((hZABOVE.kept (fun a h1 h2 => hS.2.1 a h1 h2)).narrow hFc).moved hW.alike, by rw [hU]; exact ((hTABOVE.kept (fun a h1 h2 => hS.2.1 a h1 h2)).narrow hFc).moved hW.alike⟩⟩ rfl rfl hl.1 rfl (lv_room (Nat.le_of_ble_eq_true rfl)) dX5_call_140 ⟨Nat.le_of_ble_eq_true rfl, Nat.le_of_ble_eq_true rfl⟩) hS (fun q _ h => hFc q h) hFc (fun r_138 u t H1 locs ht hvm hw hB hz1 hk1 hS => ?_)
            obtain ⟨y_139, f_140, by_139, v_140_0, hP1, hK1, hD1⟩ := hB
            have v_140_0 : y_139.toInt ≤ (n0_ran + 1).toInt + 5 := v_140_0
            rw [ht] at hP1
            have hK1 := va_K.moved hvm.symm hK1
            obtain ⟨hP, hD⟩ := va_join (wr := []) (w1 := [(h0, Sum.inr (5, [Value.ref h1, Value.int n0_size, Value.ref h2, Value.int y_139])), (h1, Sum.inl (cint, 50, Sum.inl f1)), (h2, Sum.inl (cint, 24, Sum.inl f_140))]) hP hD [0, 1, 2] [] rfl rfl (by decide) (by decide) hk1 hFc hP1 hD1
            generalize H1 = H at hP hS ⊢
            have hP : va_P (dC, dI) vwCl [(h0, Sum.inr (5, [Value.ref h1, Value.int n0_size, Value.ref h2, Value.int y_139])), (h1, Sum.inl (cint, 50, Sum.inl f1)), (h2, Sum.inl (cint, 24, Sum.inl f_140))] H := hP
            have hD : va_D A [(h0, Sum.inr (5, [Value.ref h1, Value.int n0_size, Value.ref h2, Value.int y_139])), (h1, Sum.inl (cint, 50, Sum.inl f1)), (h2, Sum.inl (cint, 24, Sum.inl f_140))] := hD
            obtain ⟨hP9, hD9⟩ := kk_leafout (wc := [(h0, Sum.inr (5, [Value.ref h1, Value.int n0_size, Value.ref h2, Value.int y_139])), (h1, Sum.inl (cint, 50, Sum.inl f1)), (h2, Sum.inl (cint, 24, Sum.inl f_140))]) hP hD [0, 1, 2] (by decide) rfl
            have hK9 := hK.sub (tys' := []) [] rfl
            exact W.iret (v := r_138) hx hb hr (fun t ht hW => ⟨⟨r_138, (), rfl, trivial, y_139, f_140, (by show 0 ≤ (y_139 : Int32).toInt ∧ (y_139 : Int32).toInt ≤ 1000; first | decide | (constructor <;> (have := kk_rng p4; have := kk_add2 (x := n0_ran) (y := 1) (a := n0_ran.toInt) (b := 1) rfl rfl (by omega) (by omega); have := kk_rng p4; have := kk_add2 (x := p4) (y := 1) (a := p4.toInt) (b := 1) rfl rfl (by omega) (by omega); omega))), (by show (y_139 : Int32).toInt ≤ (n0_ran : Int32).toInt + 6; first | decide | (have := kk_rng p4; have := kk_add2 (x := n0_ran) (y := 1) (a := n0_ran.toInt) (b := 1) rfl rfl (by omega) (by omega); have := kk_rng p4; have := kk_add2 (x := p4) (y := 1) (a := p4.toInt) (b := 1) rfl rfl (by omega) (by omega); omega)), by rw [ht]; exact hP9, va_K.moved hW.alike hK9, hD9⟩, hS.F ht⟩) hS.2.2 dX5_call_143
          · skip
            refine lv_icmp_ge (tgt := 97) hx hb dX5_call_83 (by decide) (fun c_141 => ?_) (fun c_141 => ?_)
            · have t_141 : 24 ≤ n0_ran.toInt := kk_le c_141
              exact hcut_137 (f2) _ _ _ ⟨hP, hD, hS, lv_sub hl [0, 1, 2, 3, 4, 5, 6, 7] rfl⟩
            · have t_141 : n0_ran.toInt < 24 := kk_nle c_141
              refine lv_aload_n hx hb dX5_call_86 rfl (lv_at hl 2 rfl) ?_
              refine va_get (D := (dC, dI)) (ci := 5) (v := .ref h2) (C := RX5) (T := TX5) (N := 4) hx hb hts (fun _ h => List.mem_cons_of_mem _ (List.mem_append_right _ h)) hown hK hP 0 rfl rfl 2 (by decide) (hts (.fieldLink RX5 15 "KinkStreet$Lines" "trace" "[I") (List.mem_of_getElem? (i := 4) rfl)) (fun _ h9 => h9) rfl dX5_call_87 ?_
              refine lv_aload_n hx hb dX5_call_90 rfl (lv_at hl 2 rfl) ?_
              refine va_get (D := (dC, dI)) (ci := 5) (v := .int n0_ran) (C := RX5) (T := TX5) (N := 4) hx hb hts (fun _ h => List.mem_cons_of_mem _ (List.mem_append_right _ h)) hown hK hP 0 rfl rfl 3 (by decide) (hts (.fieldLink RX5 36 "KinkStreet$Lines" "ran" "I") (List.mem_of_getElem? (i := 3) rfl)) (fun _ h9 => h9) rfl dX5_call_91 ?_
              refine lv_iload hx hb dX5_call_94 (lv_at hl 0 rfl) ?_
              refine va_iast hx hb hK hP hD hS 2 0 rfl rfl (vp_in_iff.mpr ⟨by have := kk_rng p4; omega, by have := kk_rng p4; omega⟩) dX5_call_96 (fun H locs hP hD hS => ?_)
              generalize upd f2 (n0_ran : Int32).toNatClampNeg 50 = f_142 at hP hD
              have hP : va_P (dC, dI) vwCl [(h0, Sum.inr (5, [Value.ref h1, Value.int n0_size, Value.ref h2, Value.int n0_ran])), (h1, Sum.inl (cint, 50, Sum.inl f1)), (h2, Sum.inl (cint, 24, Sum.inl f_142))] H := hP
              have hD : va_D A [(h0, Sum.inr (5, [Value.ref h1, Value.int n0_size, Value.ref h2, Value.int n0_ran])), (h1, Sum.inl (cint, 50, Sum.inl f1)), (h2, Sum.inl (cint, 24, Sum.inl f_142))] := hD
              exact hcut_137 (f_142) _ _ _ ⟨hP, hD, hS, lv_sub hl [0, 1, 2, 3, 4, 5, 6, 7] rfl⟩
        · have t_132 : 40 < p4.toInt := kk_nle c_132
          refine lv_iconst (v := 0) hx hb dX5_call_63 (by decide) ?_
          obtain ⟨hP9, hD9⟩ := kk_leafout (wc := [(h0, Sum.inr (5, [Value.ref h1, Value.int n0_size, Value.ref h2, Value.int n0_ran])), (h1, Sum.inl (cint, 50, Sum.inl f1)), (h2, Sum.inl (cint, 24, Sum.inl f2))]) hP hD [0, 1, 2] (by decide) rfl
          have hK9 := hK.sub (tys' := []) [] rfl
          exact W.iret (v := 0) hx hb hr (fun t ht hW => ⟨⟨0, (), rfl, trivial, n0_ran, f2, (by show 0 ≤ (n0_ran : Int32).toInt ∧ (n0_ran : Int32).toInt ≤ 1000; first | decide | (constructor <;> (have := kk_rng p4; omega))), (by show (n0_ran : Int32).toInt ≤ (n0_ran : Int32).toInt + 6; first | decide | (have := kk_rng p4; omega)), by rw [ht]; exact hP9, va_K.moved hW.alike hK9, hD9⟩, hS.F ht⟩) hS.2.2 dX5_call_64
    · skip
      have t_130_0 : (0 : Int) ≤ 4 := t_130_0
      have t_130_1 : (4 : Int) < 8 := t_130_1
      refine lv_if_eq (tgt := 48) hx hb dX5_call_18 (by decide) (fun c => absurd c (by decide)) (fun _ => ?_)
      refine va_gets hx hb hZOWN_BODIES hS hown (hts (.fieldLink RX5 43 "KinkStreet$Lines" "OWN_BODIES" "[I") (List.mem_of_getElem? (i := 1) rfl)) (fun _ h9 => h9) dX5_call_21 ?_
      refine lv_iload hx hb dX5_call_24 (lv_at hl 1 rfl) ?_
      refine lv_iconst (v := 4) hx hb dX5_call_26 (by decide) ?_
      refine lv_imul hx hb dX5_call_27 ?_
      refine lv_topi (fun y_143 e_143 => ?_)
      obtain rfl : y_143 = 16 := e_143.trans (by decide)
      refine lv_iload_n hx hb dX5_call_28 rfl (lv_at hl 5 rfl) ?_
      refine lv_iadd hx hb dX5_call_29 ?_
      refine lv_topi (fun y_144 e_144 => ?_)
      obtain rfl : y_144 = 18 := e_144.trans (by decide)
      refine va_ti (v := .int 50) hx hb hTOWN_BODIES hS (by unfold vp_in; decide) rfl dX5_call_30 ?_
      refine lv_if_ne (tgt := 48) hx hb dX5_call_31 (by decide) (fun _ => ?_) (fun c => absurd c (by decide))
      refine lv_iload hx hb dX5_call_48 (lv_at hl 1 rfl) ?_
      obtain ⟨hPc, hDc, hFc⟩ := kk_cutout (wc := []) hP hD hS hA [] (by decide) rfl
      have hKc := hK.sub (tys' := []) [] rfl
      refine va_calli (va_runS (As := [.int 4]) (rest := []) ⟨hx, hb, hml, hown, hts⟩ (g_X5_isKind_0 l dC dI H.size 4) (va_cwS 1 hts gX5_call_X5_isKind rfl rfl rfl (by decide +kernel) ⟨Nat.le_of_ble_eq_true rfl, Nat.le_of_ble_eq_true rfl⟩) ⟨fun a U g mk q => by obtain ⟨q0, q1, qP, qK, qD⟩ := q; exact ⟨q0, q1, qP, va_K.moved (u := U) (U := U.calling g mk a) (Vm.Alike.refl U.vm) qK, qD⟩, fun U hU hW => ⟨rfl, by rw [hU], by rw [hU]; exact hPc, va_K.moved hW.alike hKc, hDc.weaken (fun _ _ _ _ => trivial)⟩⟩ rfl rfl hl.1 rfl (lv_room (Nat.le_of_ble_eq_true rfl)) dX5_call_50 ⟨Nat.le_of_ble_eq_true rfl, Nat.le_of_ble_eq_true rfl⟩) hS (fun q _ h => hFc q h) hFc (fun r_145 u t H1 locs ht hvm hw hB hz1 hk1 hS => ?_)
      obtain ⟨hP1, hK1, hD1⟩ := hB
      rw [ht] at hP1
      have hK1 := va_K.moved hvm.symm hK1
      obtain ⟨hP, hD⟩ := va_join (wr := [(h0, Sum.inr (5, [Value.ref h1, Value.int n0_size, Value.ref h2, Value.int n0_ran])), (h1, Sum.inl (cint, 50, Sum.inl f1)), (h2, Sum.inl (cint, 24, Sum.inl f2))]) (w1 := []) hP hD [] [0, 1, 2] rfl rfl (by decide) (by decide) hk1 hFc hP1 hD1
      generalize H1 = H at hP hS ⊢
      have hP : va_P (dC, dI) vwCl [(h0, Sum.inr (5, [Value.ref h1, Value.int n0_size, Value.ref h2, Value.int n0_ran])), (h1, Sum.inl (cint, 50, Sum.inl f1)), (h2, Sum.inl (cint, 24, Sum.inl f2))] H := hP
      have hD : va_D A [(h0, Sum.inr (5, [Value.ref h1, Value.int n0_size, Value.ref h2, Value.int n0_ran])), (h1, Sum.inl (cint, 50, Sum.inl f1)), (h2, Sum.inl (cint, 24, Sum.inl f2))] := hD
      rcases hw with ⟨rfl⟩ | ⟨t_145_0, t_145_1, rfl⟩
      · skip
        refine lv_if_eq (tgt := 63) hx hb dX5_call_53 (by decide) (fun _ => ?_) (fun c => absurd c (by decide))
        refine lv_iconst (v := 0) hx hb dX5_call_63 (by decide) ?_
        obtain ⟨hP9, hD9⟩ := kk_leafout (wc := [(h0, Sum.inr (5, [Value.ref h1, Value.int n0_size, Value.ref h2, Value.int n0_ran])), (h1, Sum.inl (cint, 50, Sum.inl f1)), (h2, Sum.inl (cint, 24, Sum.inl f2))]) hP hD [0, 1, 2] (by decide) rfl
        have hK9 := hK.sub (tys' := []) [] rfl
        exact W.iret (v := 0) hx hb hr (fun t ht hW => ⟨⟨0, (), rfl, trivial, n0_ran, f2, (by show 0 ≤ (n0_ran : Int32).toInt ∧ (n0_ran : Int32).toInt ≤ 1000; first | decide | (constructor <;> (omega))), (by show (n0_ran : Int32).toInt ≤ (n0_ran : Int32).toInt + 6; first | decide | (omega)), by rw [ht]; exact hP9, va_K.moved hW.alike hK9, hD9⟩, hS.F ht⟩) hS.2.2 dX5_call_64
      · skip
        have t_145_0 : (0 : Int) ≤ 4 := t_145_0
        have t_145_1 : (4 : Int) < 8 := t_145_1
        refine lv_if_eq (tgt := 63) hx hb dX5_call_53 (by decide) (fun c => absurd c (by decide)) (fun _ => ?_)
        refine lv_iload hx hb dX5_call_56 (lv_at hl 7 rfl) ?_
        refine lv_bipush (v := 40) hx hb dX5_call_58 (by decide) ?_
        refine lv_icmp_le (tgt := 65) hx hb dX5_call_60 (by decide) (fun c_146 => ?_) (fun c_146 => ?_)
        · have t_146 : p4.toInt ≤ 40 := kk_le c_146
          refine va_gets hx hb hZOWN_BODIES hS hown (hts (.fieldLink RX5 43 "KinkStreet$Lines" "OWN_BODIES" "[I") (List.mem_of_getElem? (i := 1) rfl)) (fun _ h9 => h9) dX5_call_65 ?_
          refine lv_iload hx hb dX5_call_68 (lv_at hl 1 rfl) ?_
          refine lv_iconst (v := 4) hx hb dX5_call_70 (by decide) ?_
          refine lv_imul hx hb dX5_call_71 ?_
          refine lv_topi (fun y_147 e_147 => ?_)
          obtain rfl : y_147 = 16 := e_147.trans (by decide)
          refine lv_iload_n hx hb dX5_call_72 rfl (lv_at hl 5 rfl) ?_
          refine lv_iadd hx hb dX5_call_73 ?_
          refine lv_topi (fun y_148 e_148 => ?_)
          obtain rfl : y_148 = 18 := e_148.trans (by decide)
          refine va_ti (v := .int 50) hx hb hTOWN_BODIES hS (by unfold vp_in; decide) rfl dX5_call_74 ?_
          refine lv_istore (lv' := [(7, .int 50), (6, .int 4), (0, .ref h0), (1, .int p0), (2, .int 4), (3, .int 2), (4, .int p3), (5, .int p4)]) hx hb dX5_call_75 hl (by decide) rfl (fun ls hl => ?_)
          refine lv_aload_n hx hb dX5_call_77 rfl (lv_at hl 2 rfl) ?_
          refine va_get (D := (dC, dI)) (ci := 5) (v := .int n0_ran) (C := RX5) (T := TX5) (N := 4) hx hb hts (fun _ h => List.mem_cons_of_mem _ (List.mem_append_right _ h)) hown hK hP 0 rfl rfl 3 (by decide) (hts (.fieldLink RX5 36 "KinkStreet$Lines" "ran" "I") (List.mem_of_getElem? (i := 3) rfl)) (fun _ h9 => h9) rfl dX5_call_78 ?_
          refine lv_bipush (v := 24) hx hb dX5_call_81 (by decide) ?_
          refine kk_cut (σ := (Nat → Int32)) (pc' := 97) (fun x H locs ls => va_P (dC, dI) vwCl [(h0, Sum.inr (5, [Value.ref h1, Value.int n0_size, Value.ref h2, Value.int n0_ran])), (h1, Sum.inl (cint, 50, Sum.inl f1)), (h2, Sum.inl (cint, 24, Sum.inl x))] H ∧ va_D A [(h0, Sum.inr (5, [Value.ref h1, Value.int n0_size, Value.ref h2, Value.int n0_ran])), (h1, Sum.inl (cint, 50, Sum.inl f1)), (h2, Sum.inl (cint, 24, Sum.inl x))] ∧ va_S A s.heap H locs ∧ lv_has ls 8 [(7, .int 50), (6, .int 4), (0, .ref h0), (1, .int p0), (2, .int 4), (3, .int 2), (4, .int p3), (5, .int p4)]) ?_ (fun hcut_151 => ?_)
          · rintro f_151_0 H locs ls ⟨hP, hD, hS, hl⟩
            have hl : lv_has ls 8 [(7, .int 50), (6, .int 4), (0, .ref h0), (1, .int p0), (2, .int 4), (3, .int 2), (4, .int p3), (5, .int p4)] := hl
            have hP : va_P (dC, dI) vwCl [(h0, Sum.inr (5, [Value.ref h1, Value.int n0_size, Value.ref h2, Value.int n0_ran])), (h1, Sum.inl (cint, 50, Sum.inl f1)), (h2, Sum.inl (cint, 24, Sum.inl f_151_0))] H := hP
            have hD : va_D A [(h0, Sum.inr (5, [Value.ref h1, Value.int n0_size, Value.ref h2, Value.int n0_ran])), (h1, Sum.inl (cint, 50, Sum.inl f1)), (h2, Sum.inl (cint, 24, Sum.inl f_151_0))] := hD
            refine lv_aload_n hx hb dX5_call_97 rfl (lv_at hl 2 rfl) ?_
            refine lv_dup hx hb dX5_call_98 rfl ?_
            refine va_get (D := (dC, dI)) (ci := 5) (v := .int n0_ran) (C := RX5) (T := TX5) (N := 4) hx hb hts (fun _ h => List.mem_cons_of_mem _ (List.mem_append_right _ h)) hown hK hP 0 rfl rfl 3 (by decide) (hts (.fieldLink RX5 36 "KinkStreet$Lines" "ran" "I") (List.mem_of_getElem? (i := 3) rfl)) (fun _ h9 => h9) rfl dX5_call_99 ?_
            refine lv_iconst (v := 1) hx hb dX5_call_102 (by decide) ?_
            refine lv_iadd hx hb dX5_call_103 ?_
            refine va_put (D := (dC, dI)) (ci := 5) (v := .int (n0_ran + 1)) (ty := .int) (C := RX5) (T := TX5) (N := 4) hx hb hts (fun _ h => List.mem_cons_of_mem _ (List.mem_append_right _ h)) tyX5 tyX5_ok nmX5 hown hK hP hD hS 0 rfl rfl 3 (by decide) (hts (.fieldLink RX5 36 "KinkStreet$Lines" "ran" "I") (List.mem_of_getElem? (i := 3) rfl)) (fun _ h9 => h9) rfl (by decide +kernel) rfl rfl (Nat.le_of_ble_eq_true rfl) dX5_call_104 (fun H locs hP hD hS => ?_)
            have hP : va_P (dC, dI) vwCl [(h0, Sum.inr (5, [Value.ref h1, Value.int n0_size, Value.ref h2, Value.int (n0_ran + 1)])), (h1, Sum.inl (cint, 50, Sum.inl f1)), (h2, Sum.inl (cint, 24, Sum.inl f_151_0))] H := hP
            have hD : va_D A [(h0, Sum.inr (5, [Value.ref h1, Value.int n0_size, Value.ref h2, Value.int (n0_ran + 1)])), (h1, Sum.inl (cint, 50, Sum.inl f1)), (h2, Sum.inl (cint, 24, Sum.inl f_151_0))] := hD
            refine lv_iload hx hb dX5_call_107 (lv_at hl 1 rfl) ?_
            refine lv_if_ne (tgt := 128) hx hb dX5_call_109 (by decide) (fun _ => ?_) (fun c => absurd c (by decide))
            refine lv_aload_n hx hb dX5_call_128 rfl (lv_at hl 2 rfl) ?_
            refine lv_iload_n hx hb dX5_call_129 rfl (lv_at hl 3 rfl) ?_
            refine lv_iload hx hb dX5_call_130 (lv_at hl 1 rfl) ?_
            refine lv_iload hx hb dX5_call_132 (lv_at hl 0 rfl) ?_
            refine lv_iload hx hb dX5_call_134 (lv_at hl 6 rfl) ?_
            refine lv_iload hx hb dX5_call_136 (lv_at hl 7 rfl) ?_
            refine lv_iconst (v := 1) hx hb dX5_call_138 (by decide) ?_
            refine lv_iadd hx hb dX5_call_139 ?_
            obtain ⟨hPc, hDc, hFc⟩ := kk_cutout (wc := [(h0, Sum.inr (5, [Value.ref h1, Value.int n0_size, Value.ref h2, Value.int (n0_ran + 1)])), (h1, Sum.inl (cint, 50, Sum.inl f1)), (h2, Sum.inl (cint, 24, Sum.inl f_151_0))]) hP hD hS hA [0, 1, 2] (by decide) rfl
            have hKc := hK.sub (tys' := [(cint, .int)]) [0] rfl
            refine va_calli (va_runV (As := [.int p0, .int 4, .int 50, .int p3, .int (p4 + 1)]) (rest := []) ⟨hx, hb, hml, hown, hts⟩ (g_X5_runUnder_10 l dC dI h0 h1 h2 cint H.size p0 p3 (p4 + 1) n0_size (n0_ran + 1) f1 f_151_0 tn0_size (by show 0 ≤ ((n0_ran + 1) : Int32).toInt ∧ ((n0_ran + 1) : Int32).toInt ≤ 995; first | decide | (constructor <;> (have := kk_rng p4; have := kk_add2 (x := n0_ran) (y := 1) (a := n0_ran.toInt) (b := 1) rfl rfl (by omega) (by omega); have := kk_rng p4; have := kk_add2 (x := p4) (y := 1) (a := p4.toInt) (b := 1) rfl rfl (by omega) (by omega); omega))) bf1 aOWN_BODIES aABOVE) (cwV 5 hts gX5_call_X5_runUnder rfl rfl rfl (by decide +kernel) ⟨Nat.le_of_ble_eq_true rfl, Nat.le_of_ble_eq_true rfl⟩) ⟨fun a U g mk q => by obtain ⟨q0, q1, qP, qK, qD, qx0, qx1, qx2, qx3⟩ := q; exact ⟨q0, q1, qP, va_K.moved (u := U) (U := U.calling g mk a) (Vm.Alike.refl U.vm) qK, qD, va_Z.moved (u := U) (U := U.calling g mk a) (Vm.Alike.refl U.vm) qx0, va_T.moved (u := U) (U := U.calling g mk a) (Vm.Alike.refl U.vm) qx1, va_Z.moved (u := U) (U := U.calling g mk a) (Vm.Alike.refl U.vm) qx2, va_T.moved (u := U) (U := U.calling g mk a) (Vm.Alike.refl U.vm) qx3⟩, va_recv hKc hPc (ci := 5) (q0 := 0) rfl rfl, fun U hU hW => ⟨rfl, by rw [hU], by rw [hU]; exact hPc, va_K.moved hW.alike hKc, hDc.weaken (fun _ _ _ _ => trivial), by rw [hU]; exact ((hZOWN_BODIES.kept (fun a h1 h2 => hS.2.1 a h1 h2)).narrow hFc).moved hW.alike, by rw [hU]; exact ((hTOWN_BODIES.kept (fun a h1 h2 => hS.2.1 a h1 h2)).narrow hFc).moved hW.alike, by rw [hU]; exact ((hZABOVE.kept (fun a h1 h2 => hS.2.1 a h1 h2)).narrow hFc).moved hW.alike, by rw [hU]; exact ((hTABOVE.kept (fun a h1 h2 => hS.2.1 a h1 h2)).narrow hFc).moved hW.alike⟩⟩ rfl rfl hl.1 rfl (lv_room (Nat.le_of_ble_eq_true rfl)) dX5_call_140 ⟨Nat.le_of_ble_eq_true rfl, Nat.le_of_ble_eq_true rfl⟩) hS (fun q _ h => hFc q h) hFc (fun r_152 u t H1 locs ht hvm hw hB hz1 hk1 hS => ?_)
            obtain ⟨y_153, f_154, by_153, v_154_0, hP1, hK1, hD1⟩ := hB
            have v_154_0 : y_153.toInt ≤ (n0_ran + 1).toInt + 5 := v_154_0
            rw [ht] at hP1
            have hK1 := va_K.moved hvm.symm hK1
            obtain ⟨hP, hD⟩ := va_join (wr := []) (w1 := [(h0, Sum.inr (5, [Value.ref h1, Value.int n0_size, Value.ref h2, Value.int y_153])), (h1, Sum.inl (cint, 50, Sum.inl f1)), (h2, Sum.inl (cint, 24, Sum.inl f_154))]) hP hD [0, 1, 2] [] rfl rfl (by decide) (by decide) hk1 hFc hP1 hD1
            generalize H1 = H at hP hS ⊢
            have hP : va_P (dC, dI) vwCl [(h0, Sum.inr (5, [Value.ref h1, Value.int n0_size, Value.ref h2, Value.int y_153])), (h1, Sum.inl (cint, 50, Sum.inl f1)), (h2, Sum.inl (cint, 24, Sum.inl f_154))] H := hP
            have hD : va_D A [(h0, Sum.inr (5, [Value.ref h1, Value.int n0_size, Value.ref h2, Value.int y_153])), (h1, Sum.inl (cint, 50, Sum.inl f1)), (h2, Sum.inl (cint, 24, Sum.inl f_154))] := hD
            obtain ⟨hP9, hD9⟩ := kk_leafout (wc := [(h0, Sum.inr (5, [Value.ref h1, Value.int n0_size, Value.ref h2, Value.int y_153])), (h1, Sum.inl (cint, 50, Sum.inl f1)), (h2, Sum.inl (cint, 24, Sum.inl f_154))]) hP hD [0, 1, 2] (by decide) rfl
            have hK9 := hK.sub (tys' := []) [] rfl
            exact W.iret (v := r_152) hx hb hr (fun t ht hW => ⟨⟨r_152, (), rfl, trivial, y_153, f_154, (by show 0 ≤ (y_153 : Int32).toInt ∧ (y_153 : Int32).toInt ≤ 1000; first | decide | (constructor <;> (have := kk_rng p4; have := kk_add2 (x := n0_ran) (y := 1) (a := n0_ran.toInt) (b := 1) rfl rfl (by omega) (by omega); have := kk_rng p4; have := kk_add2 (x := p4) (y := 1) (a := p4.toInt) (b := 1) rfl rfl (by omega) (by omega); omega))), (by show (y_153 : Int32).toInt ≤ (n0_ran : Int32).toInt + 6; first | decide | (have := kk_rng p4; have := kk_add2 (x := n0_ran) (y := 1) (a := n0_ran.toInt) (b := 1) rfl rfl (by omega) (by omega); have := kk_rng p4; have := kk_add2 (x := p4) (y := 1) (a := p4.toInt) (b := 1) rfl rfl (by omega) (by omega); omega)), by rw [ht]; exact hP9, va_K.moved hW.alike hK9, hD9⟩, hS.F ht⟩) hS.2.2 dX5_call_143
          · skip
            refine lv_icmp_ge (tgt := 97) hx hb dX5_call_83 (by decide) (fun c_155 => ?_) (fun c_155 => ?_)
            · have t_155 : 24 ≤ n0_ran.toInt := kk_le c_155
              exact hcut_151 (f2) _ _ _ ⟨hP, hD, hS, lv_sub hl [0, 1, 2, 3, 4, 5, 6, 7] rfl⟩
            · have t_155 : n0_ran.toInt < 24 := kk_nle c_155
              refine lv_aload_n hx hb dX5_call_86 rfl (lv_at hl 2 rfl) ?_
              refine va_get (D := (dC, dI)) (ci := 5) (v := .ref h2) (C := RX5) (T := TX5) (N := 4) hx hb hts (fun _ h => List.mem_cons_of_mem _ (List.mem_append_right _ h)) hown hK hP 0 rfl rfl 2 (by decide) (hts (.fieldLink RX5 15 "KinkStreet$Lines" "trace" "[I") (List.mem_of_getElem? (i := 4) rfl)) (fun _ h9 => h9) rfl dX5_call_87 ?_
              refine lv_aload_n hx hb dX5_call_90 rfl (lv_at hl 2 rfl) ?_
              refine va_get (D := (dC, dI)) (ci := 5) (v := .int n0_ran) (C := RX5) (T := TX5) (N := 4) hx hb hts (fun _ h => List.mem_cons_of_mem _ (List.mem_append_right _ h)) hown hK hP 0 rfl rfl 3 (by decide) (hts (.fieldLink RX5 36 "KinkStreet$Lines" "ran" "I") (List.mem_of_getElem? (i := 3) rfl)) (fun _ h9 => h9) rfl dX5_call_91 ?_
              refine lv_iload hx hb dX5_call_94 (lv_at hl 0 rfl) ?_
              refine va_iast hx hb hK hP hD hS 2 0 rfl rfl (vp_in_iff.mpr ⟨by have := kk_rng p4; omega, by have := kk_rng p4; omega⟩) dX5_call_96 (fun H locs hP hD hS => ?_)
              generalize upd f2 (n0_ran : Int32).toNatClampNeg 50 = f_156 at hP hD
              have hP : va_P (dC, dI) vwCl [(h0, Sum.inr (5, [Value.ref h1, Value.int n0_size, Value.ref h2, Value.int n0_ran])), (h1, Sum.inl (cint, 50, Sum.inl f1)), (h2, Sum.inl (cint, 24, Sum.inl f_156))] H := hP
              have hD : va_D A [(h0, Sum.inr (5, [Value.ref h1, Value.int n0_size, Value.ref h2, Value.int n0_ran])), (h1, Sum.inl (cint, 50, Sum.inl f1)), (h2, Sum.inl (cint, 24, Sum.inl f_156))] := hD
              exact hcut_151 (f_156) _ _ _ ⟨hP, hD, hS, lv_sub hl [0, 1, 2, 3, 4, 5, 6, 7] rfl⟩
        · have t_146 : 40 < p4.toInt := kk_nle c_146
          refine lv_iconst (v := 0) hx hb dX5_call_63 (by decide) ?_
          obtain ⟨hP9, hD9⟩ := kk_leafout (wc := [(h0, Sum.inr (5, [Value.ref h1, Value.int n0_size, Value.ref h2, Value.int n0_ran])), (h1, Sum.inl (cint, 50, Sum.inl f1)), (h2, Sum.inl (cint, 24, Sum.inl f2))]) hP hD [0, 1, 2] (by decide) rfl
          have hK9 := hK.sub (tys' := []) [] rfl
          exact W.iret (v := 0) hx hb hr (fun t ht hW => ⟨⟨0, (), rfl, trivial, n0_ran, f2, (by show 0 ≤ (n0_ran : Int32).toInt ∧ (n0_ran : Int32).toInt ≤ 1000; first | decide | (constructor <;> (have := kk_rng p4; omega))), (by show (n0_ran : Int32).toInt ≤ (n0_ran : Int32).toInt + 6; first | decide | (have := kk_rng p4; omega)), by rw [ht]; exact hP9, va_K.moved hW.alike hK9, hD9⟩, hS.F ht⟩) hS.2.2 dX5_call_64
  · have t_1 : p1.toInt = 5 := by rw [e_1]; rfl
    subst e_1
    refine lv_iload_n hx hb dX5_call_0 rfl (lv_at hl 2 rfl) ?_
    refine lv_istore (lv' := [(6, .int 5), (0, .ref h0), (1, .int p0), (2, .int 5), (3, .int 2), (4, .int p3), (5, .int p4)]) hx hb dX5_call_1 hl (by decide) rfl (fun ls hl => ?_)
    refine lv_iconst (v := 0) hx hb dX5_call_3 (by decide) ?_
    refine lv_istore (lv' := [(7, .int 0), (6, .int 5), (0, .ref h0), (1, .int p0), (2, .int 5), (3, .int 2), (4, .int p3), (5, .int p4)]) hx hb dX5_call_4 hl (by decide) rfl (fun ls hl => ?_)
    refine lv_iload hx hb dX5_call_6 (lv_at hl 0 rfl) ?_
    refine lv_bipush (v := 8) hx hb dX5_call_8 (by decide) ?_
    refine lv_icmp_ge (tgt := 48) hx hb dX5_call_10 (by decide) (fun c => absurd c (by decide)) (fun _ => ?_)
    refine lv_iload hx hb dX5_call_13 (lv_at hl 1 rfl) ?_
    obtain ⟨hPc, hDc, hFc⟩ := kk_cutout (wc := []) hP hD hS hA [] (by decide) rfl
    have hKc := hK.sub (tys' := []) [] rfl
    refine va_calli (va_runS (As := [.int 5]) (rest := []) ⟨hx, hb, hml, hown, hts⟩ (g_X5_isKind_0 l dC dI s.heap.size 5) (va_cwS 1 hts gX5_call_X5_isKind rfl rfl rfl (by decide +kernel) ⟨Nat.le_of_ble_eq_true rfl, Nat.le_of_ble_eq_true rfl⟩) ⟨fun a U g mk q => by obtain ⟨q0, q1, qP, qK, qD⟩ := q; exact ⟨q0, q1, qP, va_K.moved (u := U) (U := U.calling g mk a) (Vm.Alike.refl U.vm) qK, qD⟩, fun U hU hW => ⟨rfl, by rw [hU], by rw [hU]; exact hPc, va_K.moved hW.alike hKc, hDc.weaken (fun _ _ _ _ => trivial)⟩⟩ rfl rfl hl.1 rfl (lv_room (Nat.le_of_ble_eq_true rfl)) dX5_call_15 ⟨Nat.le_of_ble_eq_true rfl, Nat.le_of_ble_eq_true rfl⟩) hS (fun q _ h => hFc q h) hFc (fun r_157 u t H1 locs ht hvm hw hB hz1 hk1 hS => ?_)
    obtain ⟨hP1, hK1, hD1⟩ := hB
    rw [ht] at hP1
    have hK1 := va_K.moved hvm.symm hK1
    obtain ⟨hP, hD⟩ := va_join (wr := [(h0, Sum.inr (5, [Value.ref h1, Value.int n0_size, Value.ref h2, Value.int n0_ran])), (h1, Sum.inl (cint, 50, Sum.inl f1)), (h2, Sum.inl (cint, 24, Sum.inl f2))]) (w1 := []) hP hD [] [0, 1, 2] rfl rfl (by decide) (by decide) hk1 hFc hP1 hD1
    generalize H1 = H at hP hS ⊢
    have hP : va_P (dC, dI) vwCl [(h0, Sum.inr (5, [Value.ref h1, Value.int n0_size, Value.ref h2, Value.int n0_ran])), (h1, Sum.inl (cint, 50, Sum.inl f1)), (h2, Sum.inl (cint, 24, Sum.inl f2))] H := hP
    have hD : va_D A [(h0, Sum.inr (5, [Value.ref h1, Value.int n0_size, Value.ref h2, Value.int n0_ran])), (h1, Sum.inl (cint, 50, Sum.inl f1)), (h2, Sum.inl (cint, 24, Sum.inl f2))] := hD
    rcases hw with ⟨rfl⟩ | ⟨t_157_0, t_157_1, rfl⟩
    · skip
      refine lv_if_eq (tgt := 48) hx hb dX5_call_18 (by decide) (fun _ => ?_) (fun c => absurd c (by decide))
      refine lv_iload hx hb dX5_call_48 (lv_at hl 1 rfl) ?_
      obtain ⟨hPc, hDc, hFc⟩ := kk_cutout (wc := []) hP hD hS hA [] (by decide) rfl
      have hKc := hK.sub (tys' := []) [] rfl
      refine va_calli (va_runS (As := [.int 5]) (rest := []) ⟨hx, hb, hml, hown, hts⟩ (g_X5_isKind_0 l dC dI H.size 5) (va_cwS 1 hts gX5_call_X5_isKind rfl rfl rfl (by decide +kernel) ⟨Nat.le_of_ble_eq_true rfl, Nat.le_of_ble_eq_true rfl⟩) ⟨fun a U g mk q => by obtain ⟨q0, q1, qP, qK, qD⟩ := q; exact ⟨q0, q1, qP, va_K.moved (u := U) (U := U.calling g mk a) (Vm.Alike.refl U.vm) qK, qD⟩, fun U hU hW => ⟨rfl, by rw [hU], by rw [hU]; exact hPc, va_K.moved hW.alike hKc, hDc.weaken (fun _ _ _ _ => trivial)⟩⟩ rfl rfl hl.1 rfl (lv_room (Nat.le_of_ble_eq_true rfl)) dX5_call_50 ⟨Nat.le_of_ble_eq_true rfl, Nat.le_of_ble_eq_true rfl⟩) hS (fun q _ h => hFc q h) hFc (fun r_158 u t H1 locs ht hvm hw hB hz1 hk1 hS => ?_)
      obtain ⟨hP1, hK1, hD1⟩ := hB
      rw [ht] at hP1
      have hK1 := va_K.moved hvm.symm hK1
      obtain ⟨hP, hD⟩ := va_join (wr := [(h0, Sum.inr (5, [Value.ref h1, Value.int n0_size, Value.ref h2, Value.int n0_ran])), (h1, Sum.inl (cint, 50, Sum.inl f1)), (h2, Sum.inl (cint, 24, Sum.inl f2))]) (w1 := []) hP hD [] [0, 1, 2] rfl rfl (by decide) (by decide) hk1 hFc hP1 hD1
      generalize H1 = H at hP hS ⊢
      have hP : va_P (dC, dI) vwCl [(h0, Sum.inr (5, [Value.ref h1, Value.int n0_size, Value.ref h2, Value.int n0_ran])), (h1, Sum.inl (cint, 50, Sum.inl f1)), (h2, Sum.inl (cint, 24, Sum.inl f2))] H := hP
      have hD : va_D A [(h0, Sum.inr (5, [Value.ref h1, Value.int n0_size, Value.ref h2, Value.int n0_ran])), (h1, Sum.inl (cint, 50, Sum.inl f1)), (h2, Sum.inl (cint, 24, Sum.inl f2))] := hD
      rcases hw with ⟨rfl⟩ | ⟨t_158_0, t_158_1, rfl⟩
      · skip
        refine lv_if_eq (tgt := 63) hx hb dX5_call_53 (by decide) (fun _ => ?_) (fun c => absurd c (by decide))
        refine lv_iconst (v := 0) hx hb dX5_call_63 (by decide) ?_
        obtain ⟨hP9, hD9⟩ := kk_leafout (wc := [(h0, Sum.inr (5, [Value.ref h1, Value.int n0_size, Value.ref h2, Value.int n0_ran])), (h1, Sum.inl (cint, 50, Sum.inl f1)), (h2, Sum.inl (cint, 24, Sum.inl f2))]) hP hD [0, 1, 2] (by decide) rfl
        have hK9 := hK.sub (tys' := []) [] rfl
        exact W.iret (v := 0) hx hb hr (fun t ht hW => ⟨⟨0, (), rfl, trivial, n0_ran, f2, (by show 0 ≤ (n0_ran : Int32).toInt ∧ (n0_ran : Int32).toInt ≤ 1000; first | decide | (constructor <;> (omega))), (by show (n0_ran : Int32).toInt ≤ (n0_ran : Int32).toInt + 6; first | decide | (omega)), by rw [ht]; exact hP9, va_K.moved hW.alike hK9, hD9⟩, hS.F ht⟩) hS.2.2 dX5_call_64
      · skip
        have t_158_0 : (0 : Int) ≤ 5 := t_158_0
        have t_158_1 : (5 : Int) < 8 := t_158_1
        refine lv_if_eq (tgt := 63) hx hb dX5_call_53 (by decide) (fun c => absurd c (by decide)) (fun _ => ?_)
        refine lv_iload hx hb dX5_call_56 (lv_at hl 7 rfl) ?_
        refine lv_bipush (v := 40) hx hb dX5_call_58 (by decide) ?_
        refine lv_icmp_le (tgt := 65) hx hb dX5_call_60 (by decide) (fun c_159 => ?_) (fun c_159 => ?_)
        · have t_159 : p4.toInt ≤ 40 := kk_le c_159
          refine va_gets hx hb hZOWN_BODIES hS hown (hts (.fieldLink RX5 43 "KinkStreet$Lines" "OWN_BODIES" "[I") (List.mem_of_getElem? (i := 1) rfl)) (fun _ h9 => h9) dX5_call_65 ?_
          refine lv_iload hx hb dX5_call_68 (lv_at hl 1 rfl) ?_
          refine lv_iconst (v := 4) hx hb dX5_call_70 (by decide) ?_
          refine lv_imul hx hb dX5_call_71 ?_
          refine lv_topi (fun y_160 e_160 => ?_)
          obtain rfl : y_160 = 20 := e_160.trans (by decide)
          refine lv_iload_n hx hb dX5_call_72 rfl (lv_at hl 5 rfl) ?_
          refine lv_iadd hx hb dX5_call_73 ?_
          refine lv_topi (fun y_161 e_161 => ?_)
          obtain rfl : y_161 = 22 := e_161.trans (by decide)
          refine va_ti (v := .int 0) hx hb hTOWN_BODIES hS (by unfold vp_in; decide) rfl dX5_call_74 ?_
          refine lv_istore (lv' := [(7, .int 0), (6, .int 5), (0, .ref h0), (1, .int p0), (2, .int 5), (3, .int 2), (4, .int p3), (5, .int p4)]) hx hb dX5_call_75 hl (by decide) rfl (fun ls hl => ?_)
          refine lv_aload_n hx hb dX5_call_77 rfl (lv_at hl 2 rfl) ?_
          refine va_get (D := (dC, dI)) (ci := 5) (v := .int n0_ran) (C := RX5) (T := TX5) (N := 4) hx hb hts (fun _ h => List.mem_cons_of_mem _ (List.mem_append_right _ h)) hown hK hP 0 rfl rfl 3 (by decide) (hts (.fieldLink RX5 36 "KinkStreet$Lines" "ran" "I") (List.mem_of_getElem? (i := 3) rfl)) (fun _ h9 => h9) rfl dX5_call_78 ?_
          refine lv_bipush (v := 24) hx hb dX5_call_81 (by decide) ?_
          refine kk_cut (σ := (Nat → Int32)) (pc' := 97) (fun x H locs ls => va_P (dC, dI) vwCl [(h0, Sum.inr (5, [Value.ref h1, Value.int n0_size, Value.ref h2, Value.int n0_ran])), (h1, Sum.inl (cint, 50, Sum.inl f1)), (h2, Sum.inl (cint, 24, Sum.inl x))] H ∧ va_D A [(h0, Sum.inr (5, [Value.ref h1, Value.int n0_size, Value.ref h2, Value.int n0_ran])), (h1, Sum.inl (cint, 50, Sum.inl f1)), (h2, Sum.inl (cint, 24, Sum.inl x))] ∧ va_S A s.heap H locs ∧ lv_has ls 8 [(7, .int 0), (6, .int 5), (0, .ref h0), (1, .int p0), (2, .int 5), (3, .int 2), (4, .int p3), (5, .int p4)]) ?_ (fun hcut_164 => ?_)
          · rintro f_164_0 H locs ls ⟨hP, hD, hS, hl⟩
            have hl : lv_has ls 8 [(7, .int 0), (6, .int 5), (0, .ref h0), (1, .int p0), (2, .int 5), (3, .int 2), (4, .int p3), (5, .int p4)] := hl
            have hP : va_P (dC, dI) vwCl [(h0, Sum.inr (5, [Value.ref h1, Value.int n0_size, Value.ref h2, Value.int n0_ran])), (h1, Sum.inl (cint, 50, Sum.inl f1)), (h2, Sum.inl (cint, 24, Sum.inl f_164_0))] H := hP
            have hD : va_D A [(h0, Sum.inr (5, [Value.ref h1, Value.int n0_size, Value.ref h2, Value.int n0_ran])), (h1, Sum.inl (cint, 50, Sum.inl f1)), (h2, Sum.inl (cint, 24, Sum.inl f_164_0))] := hD
            refine lv_aload_n hx hb dX5_call_97 rfl (lv_at hl 2 rfl) ?_
            refine lv_dup hx hb dX5_call_98 rfl ?_
            refine va_get (D := (dC, dI)) (ci := 5) (v := .int n0_ran) (C := RX5) (T := TX5) (N := 4) hx hb hts (fun _ h => List.mem_cons_of_mem _ (List.mem_append_right _ h)) hown hK hP 0 rfl rfl 3 (by decide) (hts (.fieldLink RX5 36 "KinkStreet$Lines" "ran" "I") (List.mem_of_getElem? (i := 3) rfl)) (fun _ h9 => h9) rfl dX5_call_99 ?_
            refine lv_iconst (v := 1) hx hb dX5_call_102 (by decide) ?_
            refine lv_iadd hx hb dX5_call_103 ?_
            refine va_put (D := (dC, dI)) (ci := 5) (v := .int (n0_ran + 1)) (ty := .int) (C := RX5) (T := TX5) (N := 4) hx hb hts (fun _ h => List.mem_cons_of_mem _ (List.mem_append_right _ h)) tyX5 tyX5_ok nmX5 hown hK hP hD hS 0 rfl rfl 3 (by decide) (hts (.fieldLink RX5 36 "KinkStreet$Lines" "ran" "I") (List.mem_of_getElem? (i := 3) rfl)) (fun _ h9 => h9) rfl (by decide +kernel) rfl rfl (Nat.le_of_ble_eq_true rfl) dX5_call_104 (fun H locs hP hD hS => ?_)
            have hP : va_P (dC, dI) vwCl [(h0, Sum.inr (5, [Value.ref h1, Value.int n0_size, Value.ref h2, Value.int (n0_ran + 1)])), (h1, Sum.inl (cint, 50, Sum.inl f1)), (h2, Sum.inl (cint, 24, Sum.inl f_164_0))] H := hP
            have hD : va_D A [(h0, Sum.inr (5, [Value.ref h1, Value.int n0_size, Value.ref h2, Value.int (n0_ran + 1)])), (h1, Sum.inl (cint, 50, Sum.inl f1)), (h2, Sum.inl (cint, 24, Sum.inl f_164_0))] := hD
            refine lv_iload hx hb dX5_call_107 (lv_at hl 1 rfl) ?_
            refine lv_if_ne (tgt := 128) hx hb dX5_call_109 (by decide) (fun _ => ?_) (fun c => absurd c (by decide))
            refine lv_aload_n hx hb dX5_call_128 rfl (lv_at hl 2 rfl) ?_
            refine lv_iload_n hx hb dX5_call_129 rfl (lv_at hl 3 rfl) ?_
            refine lv_iload hx hb dX5_call_130 (lv_at hl 1 rfl) ?_
            refine lv_iload hx hb dX5_call_132 (lv_at hl 0 rfl) ?_
            refine lv_iload hx hb dX5_call_134 (lv_at hl 6 rfl) ?_
            refine lv_iload hx hb dX5_call_136 (lv_at hl 7 rfl) ?_
            refine lv_iconst (v := 1) hx hb dX5_call_138 (by decide) ?_
            refine lv_iadd hx hb dX5_call_139 ?_
            obtain ⟨hPc, hDc, hFc⟩ := kk_cutout (wc := [(h0, Sum.inr (5, [Value.ref h1, Value.int n0_size, Value.ref h2, Value.int (n0_ran + 1)])), (h1, Sum.inl (cint, 50, Sum.inl f1)), (h2, Sum.inl (cint, 24, Sum.inl f_164_0))]) hP hD hS hA [0, 1, 2] (by decide) rfl
            have hKc := hK.sub (tys' := [(cint, .int)]) [0] rfl
            refine va_calli (va_runV (As := [.int p0, .int 5, .int 0, .int p3, .int (p4 + 1)]) (rest := []) ⟨hx, hb, hml, hown, hts⟩ (g_X5_runUnder_6 l dC dI h0 h1 h2 cint H.size p0 p3 (p4 + 1) n0_size (n0_ran + 1) f1 f_164_0 tn0_size (by show 0 ≤ ((n0_ran + 1) : Int32).toInt ∧ ((n0_ran + 1) : Int32).toInt ≤ 998; first | decide | (constructor <;> (have := kk_rng p4; have := kk_add2 (x := n0_ran) (y := 1) (a := n0_ran.toInt) (b := 1) rfl rfl (by omega) (by omega); have := kk_rng p4; have := kk_add2 (x := p4) (y := 1) (a := p4.toInt) (b := 1) rfl rfl (by omega) (by omega); omega))) bf1 aOWN_BODIES aABOVE) (cwV 5 hts gX5_call_X5_runUnder rfl rfl rfl (by decide +kernel) ⟨Nat.le_of_ble_eq_true rfl, Nat.le_of_ble_eq_true rfl⟩) ⟨fun a U g mk q => by obtain ⟨q0, q1, qP, qK, qD, qx0, qx1, qx2, qx3⟩ := q; exact ⟨q0, q1, qP, va_K.moved (u := U) (U := U.calling g mk a) (Vm.Alike.refl U.vm) qK, qD, va_Z.moved (u := U) (U := U.calling g mk a) (Vm.Alike.refl U.vm) qx0, va_T.moved (u := U) (U := U.calling g mk a) (Vm.Alike.refl U.vm) qx1, va_Z.moved (u := U) (U := U.calling g mk a) (Vm.Alike.refl U.vm) qx2, va_T.moved (u := U) (U := U.calling g mk a) (Vm.Alike.refl U.vm) qx3⟩, va_recv hKc hPc (ci := 5) (q0 := 0) rfl rfl, fun U hU hW => ⟨rfl, by rw [hU], by rw [hU]; exact hPc, va_K.moved hW.alike hKc, hDc.weaken (fun _ _ _ _ => trivial), by rw [hU]; exact ((hZOWN_BODIES.kept (fun a h1 h2 => hS.2.1 a h1 h2)).narrow hFc).moved hW.alike, by rw [hU]; exact ((hTOWN_BODIES.kept (fun a h1 h2 => hS.2.1 a h1 h2)).narrow hFc).moved hW.alike, by rw [hU]; exact ((hZABOVE.kept (fun a h1 h2 => hS.2.1 a h1 h2)).narrow hFc).moved hW.alike, by rw [hU]; exact ((hTABOVE.kept (fun a h1 h2 => hS.2.1 a h1 h2)).narrow hFc).moved hW.alike⟩⟩ rfl rfl hl.1 rfl (lv_room (Nat.le_of_ble_eq_true rfl)) dX5_call_140 ⟨Nat.le_of_ble_eq_true rfl, Nat.le_of_ble_eq_true rfl⟩) hS (fun q _ h => hFc q h) hFc (fun r_165 u t H1 locs ht hvm hw hB hz1 hk1 hS => ?_)
            obtain ⟨y_166, f_167, by_166, v_167_0, hP1, hK1, hD1⟩ := hB
            have v_167_0 : y_166.toInt ≤ (n0_ran + 1).toInt + 2 := v_167_0
            rw [ht] at hP1
            have hK1 := va_K.moved hvm.symm hK1
            obtain ⟨hP, hD⟩ := va_join (wr := []) (w1 := [(h0, Sum.inr (5, [Value.ref h1, Value.int n0_size, Value.ref h2, Value.int y_166])), (h1, Sum.inl (cint, 50, Sum.inl f1)), (h2, Sum.inl (cint, 24, Sum.inl f_167))]) hP hD [0, 1, 2] [] rfl rfl (by decide) (by decide) hk1 hFc hP1 hD1
            generalize H1 = H at hP hS ⊢
            have hP : va_P (dC, dI) vwCl [(h0, Sum.inr (5, [Value.ref h1, Value.int n0_size, Value.ref h2, Value.int y_166])), (h1, Sum.inl (cint, 50, Sum.inl f1)), (h2, Sum.inl (cint, 24, Sum.inl f_167))] H := hP
            have hD : va_D A [(h0, Sum.inr (5, [Value.ref h1, Value.int n0_size, Value.ref h2, Value.int y_166])), (h1, Sum.inl (cint, 50, Sum.inl f1)), (h2, Sum.inl (cint, 24, Sum.inl f_167))] := hD
            obtain ⟨hP9, hD9⟩ := kk_leafout (wc := [(h0, Sum.inr (5, [Value.ref h1, Value.int n0_size, Value.ref h2, Value.int y_166])), (h1, Sum.inl (cint, 50, Sum.inl f1)), (h2, Sum.inl (cint, 24, Sum.inl f_167))]) hP hD [0, 1, 2] (by decide) rfl
            have hK9 := hK.sub (tys' := []) [] rfl
            exact W.iret (v := r_165) hx hb hr (fun t ht hW => ⟨⟨r_165, (), rfl, trivial, y_166, f_167, (by show 0 ≤ (y_166 : Int32).toInt ∧ (y_166 : Int32).toInt ≤ 1000; first | decide | (constructor <;> (have := kk_rng p4; have := kk_add2 (x := n0_ran) (y := 1) (a := n0_ran.toInt) (b := 1) rfl rfl (by omega) (by omega); have := kk_rng p4; have := kk_add2 (x := p4) (y := 1) (a := p4.toInt) (b := 1) rfl rfl (by omega) (by omega); omega))), (by show (y_166 : Int32).toInt ≤ (n0_ran : Int32).toInt + 6; first | decide | (have := kk_rng p4; have := kk_add2 (x := n0_ran) (y := 1) (a := n0_ran.toInt) (b := 1) rfl rfl (by omega) (by omega); have := kk_rng p4; have := kk_add2 (x := p4) (y := 1) (a := p4.toInt) (b := 1) rfl rfl (by omega) (by omega); omega)), by rw [ht]; exact hP9, va_K.moved hW.alike hK9, hD9⟩, hS.F ht⟩) hS.2.2 dX5_call_143
          · skip
            refine lv_icmp_ge (tgt := 97) hx hb dX5_call_83 (by decide) (fun c_168 => ?_) (fun c_168 => ?_)
            · have t_168 : 24 ≤ n0_ran.toInt := kk_le c_168
              exact hcut_164 (f2) _ _ _ ⟨hP, hD, hS, lv_sub hl [0, 1, 2, 3, 4, 5, 6, 7] rfl⟩
            · have t_168 : n0_ran.toInt < 24 := kk_nle c_168
              refine lv_aload_n hx hb dX5_call_86 rfl (lv_at hl 2 rfl) ?_
              refine va_get (D := (dC, dI)) (ci := 5) (v := .ref h2) (C := RX5) (T := TX5) (N := 4) hx hb hts (fun _ h => List.mem_cons_of_mem _ (List.mem_append_right _ h)) hown hK hP 0 rfl rfl 2 (by decide) (hts (.fieldLink RX5 15 "KinkStreet$Lines" "trace" "[I") (List.mem_of_getElem? (i := 4) rfl)) (fun _ h9 => h9) rfl dX5_call_87 ?_
              refine lv_aload_n hx hb dX5_call_90 rfl (lv_at hl 2 rfl) ?_
              refine va_get (D := (dC, dI)) (ci := 5) (v := .int n0_ran) (C := RX5) (T := TX5) (N := 4) hx hb hts (fun _ h => List.mem_cons_of_mem _ (List.mem_append_right _ h)) hown hK hP 0 rfl rfl 3 (by decide) (hts (.fieldLink RX5 36 "KinkStreet$Lines" "ran" "I") (List.mem_of_getElem? (i := 3) rfl)) (fun _ h9 => h9) rfl dX5_call_91 ?_
              refine lv_iload hx hb dX5_call_94 (lv_at hl 0 rfl) ?_
              refine va_iast hx hb hK hP hD hS 2 0 rfl rfl (vp_in_iff.mpr ⟨by have := kk_rng p4; omega, by have := kk_rng p4; omega⟩) dX5_call_96 (fun H locs hP hD hS => ?_)
              generalize upd f2 (n0_ran : Int32).toNatClampNeg 0 = f_169 at hP hD
              have hP : va_P (dC, dI) vwCl [(h0, Sum.inr (5, [Value.ref h1, Value.int n0_size, Value.ref h2, Value.int n0_ran])), (h1, Sum.inl (cint, 50, Sum.inl f1)), (h2, Sum.inl (cint, 24, Sum.inl f_169))] H := hP
              have hD : va_D A [(h0, Sum.inr (5, [Value.ref h1, Value.int n0_size, Value.ref h2, Value.int n0_ran])), (h1, Sum.inl (cint, 50, Sum.inl f1)), (h2, Sum.inl (cint, 24, Sum.inl f_169))] := hD
              exact hcut_164 (f_169) _ _ _ ⟨hP, hD, hS, lv_sub hl [0, 1, 2, 3, 4, 5, 6, 7] rfl⟩
        · have t_159 : 40 < p4.toInt := kk_nle c_159
          refine lv_iconst (v := 0) hx hb dX5_call_63 (by decide) ?_
          obtain ⟨hP9, hD9⟩ := kk_leafout (wc := [(h0, Sum.inr (5, [Value.ref h1, Value.int n0_size, Value.ref h2, Value.int n0_ran])), (h1, Sum.inl (cint, 50, Sum.inl f1)), (h2, Sum.inl (cint, 24, Sum.inl f2))]) hP hD [0, 1, 2] (by decide) rfl
          have hK9 := hK.sub (tys' := []) [] rfl
          exact W.iret (v := 0) hx hb hr (fun t ht hW => ⟨⟨0, (), rfl, trivial, n0_ran, f2, (by show 0 ≤ (n0_ran : Int32).toInt ∧ (n0_ran : Int32).toInt ≤ 1000; first | decide | (constructor <;> (have := kk_rng p4; omega))), (by show (n0_ran : Int32).toInt ≤ (n0_ran : Int32).toInt + 6; first | decide | (have := kk_rng p4; omega)), by rw [ht]; exact hP9, va_K.moved hW.alike hK9, hD9⟩, hS.F ht⟩) hS.2.2 dX5_call_64
    · skip
      have t_157_0 : (0 : Int) ≤ 5 := t_157_0
      have t_157_1 : (5 : Int) < 8 := t_157_1
      refine lv_if_eq (tgt := 48) hx hb dX5_call_18 (by decide) (fun c => absurd c (by decide)) (fun _ => ?_)
      refine va_gets hx hb hZOWN_BODIES hS hown (hts (.fieldLink RX5 43 "KinkStreet$Lines" "OWN_BODIES" "[I") (List.mem_of_getElem? (i := 1) rfl)) (fun _ h9 => h9) dX5_call_21 ?_
      refine lv_iload hx hb dX5_call_24 (lv_at hl 1 rfl) ?_
      refine lv_iconst (v := 4) hx hb dX5_call_26 (by decide) ?_
      refine lv_imul hx hb dX5_call_27 ?_
      refine lv_topi (fun y_170 e_170 => ?_)
      obtain rfl : y_170 = 20 := e_170.trans (by decide)
      refine lv_iload_n hx hb dX5_call_28 rfl (lv_at hl 5 rfl) ?_
      refine lv_iadd hx hb dX5_call_29 ?_
      refine lv_topi (fun y_171 e_171 => ?_)
      obtain rfl : y_171 = 22 := e_171.trans (by decide)
      refine va_ti (v := .int 0) hx hb hTOWN_BODIES hS (by unfold vp_in; decide) rfl dX5_call_30 ?_
      refine lv_if_ne (tgt := 48) hx hb dX5_call_31 (by decide) (fun c => absurd c (by decide)) (fun _ => ?_)
      refine va_gets hx hb hZABOVE hS hown (hts (.fieldLink RX5 22 "KinkStreet$Lines" "ABOVE" "[I") (List.mem_of_getElem? (i := 2) rfl)) (fun _ h9 => h9) dX5_call_34 ?_
      refine lv_iload hx hb dX5_call_37 (lv_at hl 1 rfl) ?_
      refine va_ti (v := .int 1) hx hb hTABOVE hS (by unfold vp_in; decide) rfl dX5_call_39 ?_
      refine lv_istore (lv' := [(6, .int 1), (7, .int 0), (0, .ref h0), (1, .int p0), (2, .int 5), (3, .int 2), (4, .int p3), (5, .int p4)]) hx hb dX5_call_40 hl (by decide) rfl (fun ls hl => ?_)
      refine lv_iinc (v := 1) (lv' := [(7, .int 1), (6, .int 1), (0, .ref h0), (1, .int p0), (2, .int 5), (3, .int 2), (4, .int p3), (5, .int p4)]) hx hb dX5_call_42 hl (k := 1) rfl (by first | rfl | decide) (by decide) rfl (fun ls hl => ?_)
      refine lv_goto (tgt := 6) hx hb dX5_call_45 (by decide) ?_
      refine lv_iload hx hb dX5_call_6 (lv_at hl 0 rfl) ?_
      refine lv_bipush (v := 8) hx hb dX5_call_8 (by decide) ?_
      refine lv_icmp_ge (tgt := 48) hx hb dX5_call_10 (by decide) (fun c => absurd c (by decide)) (fun _ => ?_)
      refine lv_iload hx hb dX5_call_13 (lv_at hl 1 rfl) ?_
      obtain ⟨hPc, hDc, hFc⟩ := kk_cutout (wc := []) hP hD hS hA [] (by decide) rfl
      have hKc := hK.sub (tys' := []) [] rfl
      refine va_calli (va_runS (As := [.int 1]) (rest := []) ⟨hx, hb, hml, hown, hts⟩ (g_X5_isKind_0 l dC dI H.size 1) (va_cwS 1 hts gX5_call_X5_isKind rfl rfl rfl (by decide +kernel) ⟨Nat.le_of_ble_eq_true rfl, Nat.le_of_ble_eq_true rfl⟩) ⟨fun a U g mk q => by obtain ⟨q0, q1, qP, qK, qD⟩ := q; exact ⟨q0, q1, qP, va_K.moved (u := U) (U := U.calling g mk a) (Vm.Alike.refl U.vm) qK, qD⟩, fun U hU hW => ⟨rfl, by rw [hU], by rw [hU]; exact hPc, va_K.moved hW.alike hKc, hDc.weaken (fun _ _ _ _ => trivial)⟩⟩ rfl rfl hl.1 rfl (lv_room (Nat.le_of_ble_eq_true rfl)) dX5_call_15 ⟨Nat.le_of_ble_eq_true rfl, Nat.le_of_ble_eq_true rfl⟩) hS (fun q _ h => hFc q h) hFc (fun r_172 u t H1 locs ht hvm hw hB hz1 hk1 hS => ?_)
      obtain ⟨hP1, hK1, hD1⟩ := hB
      rw [ht] at hP1
      have hK1 := va_K.moved hvm.symm hK1
      obtain ⟨hP, hD⟩ := va_join (wr := [(h0, Sum.inr (5, [Value.ref h1, Value.int n0_size, Value.ref h2, Value.int n0_ran])), (h1, Sum.inl (cint, 50, Sum.inl f1)), (h2, Sum.inl (cint, 24, Sum.inl f2))]) (w1 := []) hP hD [] [0, 1, 2] rfl rfl (by decide) (by decide) hk1 hFc hP1 hD1
      generalize H1 = H at hP hS ⊢
      have hP : va_P (dC, dI) vwCl [(h0, Sum.inr (5, [Value.ref h1, Value.int n0_size, Value.ref h2, Value.int n0_ran])), (h1, Sum.inl (cint, 50, Sum.inl f1)), (h2, Sum.inl (cint, 24, Sum.inl f2))] H := hP
      have hD : va_D A [(h0, Sum.inr (5, [Value.ref h1, Value.int n0_size, Value.ref h2, Value.int n0_ran])), (h1, Sum.inl (cint, 50, Sum.inl f1)), (h2, Sum.inl (cint, 24, Sum.inl f2))] := hD
      rcases hw with ⟨rfl⟩ | ⟨t_172_0, t_172_1, rfl⟩
      · skip
        refine lv_if_eq (tgt := 48) hx hb dX5_call_18 (by decide) (fun _ => ?_) (fun c => absurd c (by decide))
        refine lv_iload hx hb dX5_call_48 (lv_at hl 1 rfl) ?_
        obtain ⟨hPc, hDc, hFc⟩ := kk_cutout (wc := []) hP hD hS hA [] (by decide) rfl
        have hKc := hK.sub (tys' := []) [] rfl
        refine va_calli (va_runS (As := [.int 1]) (rest := []) ⟨hx, hb, hml, hown, hts⟩ (g_X5_isKind_0 l dC dI H.size 1) (va_cwS 1 hts gX5_call_X5_isKind rfl rfl rfl (by decide +kernel) ⟨Nat.le_of_ble_eq_true rfl, Nat.le_of_ble_eq_true rfl⟩) ⟨fun a U g mk q => by obtain ⟨q0, q1, qP, qK, qD⟩ := q; exact ⟨q0, q1, qP, va_K.moved (u := U) (U := U.calling g mk a) (Vm.Alike.refl U.vm) qK, qD⟩, fun U hU hW => ⟨rfl, by rw [hU], by rw [hU]; exact hPc, va_K.moved hW.alike hKc, hDc.weaken (fun _ _ _ _ => trivial)⟩⟩ rfl rfl hl.1 rfl (lv_room (Nat.le_of_ble_eq_true rfl)) dX5_call_50 ⟨Nat.le_of_ble_eq_true rfl, Nat.le_of_ble_eq_true rfl⟩) hS (fun q _ h => hFc q h) hFc (fun r_173 u t H1 locs ht hvm hw hB hz1 hk1 hS => ?_)
        obtain ⟨hP1, hK1, hD1⟩ := hB
        rw [ht] at hP1
        have hK1 := va_K.moved hvm.symm hK1
        obtain ⟨hP, hD⟩ := va_join (wr := [(h0, Sum.inr (5, [Value.ref h1, Value.int n0_size, Value.ref h2, Value.int n0_ran])), (h1, Sum.inl (cint, 50, Sum.inl f1)), (h2, Sum.inl (cint, 24, Sum.inl f2))]) (w1 := []) hP hD [] [0, 1, 2] rfl rfl (by decide) (by decide) hk1 hFc hP1 hD1
        generalize H1 = H at hP hS ⊢
        have hP : va_P (dC, dI) vwCl [(h0, Sum.inr (5, [Value.ref h1, Value.int n0_size, Value.ref h2, Value.int n0_ran])), (h1, Sum.inl (cint, 50, Sum.inl f1)), (h2, Sum.inl (cint, 24, Sum.inl f2))] H := hP
        have hD : va_D A [(h0, Sum.inr (5, [Value.ref h1, Value.int n0_size, Value.ref h2, Value.int n0_ran])), (h1, Sum.inl (cint, 50, Sum.inl f1)), (h2, Sum.inl (cint, 24, Sum.inl f2))] := hD
        rcases hw with ⟨rfl⟩ | ⟨t_173_0, t_173_1, rfl⟩
        · skip
          refine lv_if_eq (tgt := 63) hx hb dX5_call_53 (by decide) (fun _ => ?_) (fun c => absurd c (by decide))
          refine lv_iconst (v := 0) hx hb dX5_call_63 (by decide) ?_
          obtain ⟨hP9, hD9⟩ := kk_leafout (wc := [(h0, Sum.inr (5, [Value.ref h1, Value.int n0_size, Value.ref h2, Value.int n0_ran])), (h1, Sum.inl (cint, 50, Sum.inl f1)), (h2, Sum.inl (cint, 24, Sum.inl f2))]) hP hD [0, 1, 2] (by decide) rfl
          have hK9 := hK.sub (tys' := []) [] rfl
          exact W.iret (v := 0) hx hb hr (fun t ht hW => ⟨⟨0, (), rfl, trivial, n0_ran, f2, (by show 0 ≤ (n0_ran : Int32).toInt ∧ (n0_ran : Int32).toInt ≤ 1000; first | decide | (constructor <;> (omega))), (by show (n0_ran : Int32).toInt ≤ (n0_ran : Int32).toInt + 6; first | decide | (omega)), by rw [ht]; exact hP9, va_K.moved hW.alike hK9, hD9⟩, hS.F ht⟩) hS.2.2 dX5_call_64
        · skip
          have t_173_0 : (0 : Int) ≤ 1 := t_173_0
          have t_173_1 : (1 : Int) < 8 := t_173_1
          refine lv_if_eq (tgt := 63) hx hb dX5_call_53 (by decide) (fun c => absurd c (by decide)) (fun _ => ?_)
          refine lv_iload hx hb dX5_call_56 (lv_at hl 7 rfl) ?_
          refine lv_bipush (v := 40) hx hb dX5_call_58 (by decide) ?_
          refine lv_icmp_le (tgt := 65) hx hb dX5_call_60 (by decide) (fun c_174 => ?_) (fun c_174 => ?_)
          · have t_174 : p4.toInt ≤ 40 := kk_le c_174
            refine va_gets hx hb hZOWN_BODIES hS hown (hts (.fieldLink RX5 43 "KinkStreet$Lines" "OWN_BODIES" "[I") (List.mem_of_getElem? (i := 1) rfl)) (fun _ h9 => h9) dX5_call_65 ?_
            refine lv_iload hx hb dX5_call_68 (lv_at hl 1 rfl) ?_
            refine lv_iconst (v := 4) hx hb dX5_call_70 (by decide) ?_
            refine lv_imul hx hb dX5_call_71 ?_
            refine lv_topi (fun y_175 e_175 => ?_)
            obtain rfl : y_175 = 4 := e_175.trans (by decide)
            refine lv_iload_n hx hb dX5_call_72 rfl (lv_at hl 5 rfl) ?_
            refine lv_iadd hx hb dX5_call_73 ?_
            refine lv_topi (fun y_176 e_176 => ?_)
            obtain rfl : y_176 = 6 := e_176.trans (by decide)
            refine va_ti (v := .int 0) hx hb hTOWN_BODIES hS (by unfold vp_in; decide) rfl dX5_call_74 ?_
            refine lv_istore (lv' := [(7, .int 0), (6, .int 1), (0, .ref h0), (1, .int p0), (2, .int 5), (3, .int 2), (4, .int p3), (5, .int p4)]) hx hb dX5_call_75 hl (by decide) rfl (fun ls hl => ?_)
            refine lv_aload_n hx hb dX5_call_77 rfl (lv_at hl 2 rfl) ?_
            refine va_get (D := (dC, dI)) (ci := 5) (v := .int n0_ran) (C := RX5) (T := TX5) (N := 4) hx hb hts (fun _ h => List.mem_cons_of_mem _ (List.mem_append_right _ h)) hown hK hP 0 rfl rfl 3 (by decide) (hts (.fieldLink RX5 36 "KinkStreet$Lines" "ran" "I") (List.mem_of_getElem? (i := 3) rfl)) (fun _ h9 => h9) rfl dX5_call_78 ?_
            refine lv_bipush (v := 24) hx hb dX5_call_81 (by decide) ?_
            refine kk_cut (σ := (Nat → Int32)) (pc' := 97) (fun x H locs ls => va_P (dC, dI) vwCl [(h0, Sum.inr (5, [Value.ref h1, Value.int n0_size, Value.ref h2, Value.int n0_ran])), (h1, Sum.inl (cint, 50, Sum.inl f1)), (h2, Sum.inl (cint, 24, Sum.inl x))] H ∧ va_D A [(h0, Sum.inr (5, [Value.ref h1, Value.int n0_size, Value.ref h2, Value.int n0_ran])), (h1, Sum.inl (cint, 50, Sum.inl f1)), (h2, Sum.inl (cint, 24, Sum.inl x))] ∧ va_S A s.heap H locs ∧ lv_has ls 8 [(7, .int 0), (6, .int 1), (0, .ref h0), (1, .int p0), (2, .int 5), (3, .int 2), (4, .int p3), (5, .int p4)]) ?_ (fun hcut_179 => ?_)
            · rintro f_179_0 H locs ls ⟨hP, hD, hS, hl⟩
              have hl : lv_has ls 8 [(7, .int 0), (6, .int 1), (0, .ref h0), (1, .int p0), (2, .int 5), (3, .int 2), (4, .int p3), (5, .int p4)] := hl
              have hP : va_P (dC, dI) vwCl [(h0, Sum.inr (5, [Value.ref h1, Value.int n0_size, Value.ref h2, Value.int n0_ran])), (h1, Sum.inl (cint, 50, Sum.inl f1)), (h2, Sum.inl (cint, 24, Sum.inl f_179_0))] H := hP
              have hD : va_D A [(h0, Sum.inr (5, [Value.ref h1, Value.int n0_size, Value.ref h2, Value.int n0_ran])), (h1, Sum.inl (cint, 50, Sum.inl f1)), (h2, Sum.inl (cint, 24, Sum.inl f_179_0))] := hD
              refine lv_aload_n hx hb dX5_call_97 rfl (lv_at hl 2 rfl) ?_
              refine lv_dup hx hb dX5_call_98 rfl ?_
              refine va_get (D := (dC, dI)) (ci := 5) (v := .int n0_ran) (C := RX5) (T := TX5) (N := 4) hx hb hts (fun _ h => List.mem_cons_of_mem _ (List.mem_append_right _ h)) hown hK hP 0 rfl rfl 3 (by decide) (hts (.fieldLink RX5 36 "KinkStreet$Lines" "ran" "I") (List.mem_of_getElem? (i := 3) rfl)) (fun _ h9 => h9) rfl dX5_call_99 ?_
              refine lv_iconst (v := 1) hx hb dX5_call_102 (by decide) ?_
              refine lv_iadd hx hb dX5_call_103 ?_
              refine va_put (D := (dC, dI)) (ci := 5) (v := .int (n0_ran + 1)) (ty := .int) (C := RX5) (T := TX5) (N := 4) hx hb hts (fun _ h => List.mem_cons_of_mem _ (List.mem_append_right _ h)) tyX5 tyX5_ok nmX5 hown hK hP hD hS 0 rfl rfl 3 (by decide) (hts (.fieldLink RX5 36 "KinkStreet$Lines" "ran" "I") (List.mem_of_getElem? (i := 3) rfl)) (fun _ h9 => h9) rfl (by decide +kernel) rfl rfl (Nat.le_of_ble_eq_true rfl) dX5_call_104 (fun H locs hP hD hS => ?_)
              have hP : va_P (dC, dI) vwCl [(h0, Sum.inr (5, [Value.ref h1, Value.int n0_size, Value.ref h2, Value.int (n0_ran + 1)])), (h1, Sum.inl (cint, 50, Sum.inl f1)), (h2, Sum.inl (cint, 24, Sum.inl f_179_0))] H := hP
              have hD : va_D A [(h0, Sum.inr (5, [Value.ref h1, Value.int n0_size, Value.ref h2, Value.int (n0_ran + 1)])), (h1, Sum.inl (cint, 50, Sum.inl f1)), (h2, Sum.inl (cint, 24, Sum.inl f_179_0))] := hD
              refine lv_iload hx hb dX5_call_107 (lv_at hl 1 rfl) ?_
              refine lv_if_ne (tgt := 128) hx hb dX5_call_109 (by decide) (fun _ => ?_) (fun c => absurd c (by decide))
              refine lv_aload_n hx hb dX5_call_128 rfl (lv_at hl 2 rfl) ?_
              refine lv_iload_n hx hb dX5_call_129 rfl (lv_at hl 3 rfl) ?_
              refine lv_iload hx hb dX5_call_130 (lv_at hl 1 rfl) ?_
              refine lv_iload hx hb dX5_call_132 (lv_at hl 0 rfl) ?_
              refine lv_iload hx hb dX5_call_134 (lv_at hl 6 rfl) ?_
              refine lv_iload hx hb dX5_call_136 (lv_at hl 7 rfl) ?_
              refine lv_iconst (v := 1) hx hb dX5_call_138 (by decide) ?_
              refine lv_iadd hx hb dX5_call_139 ?_
              obtain ⟨hPc, hDc, hFc⟩ := kk_cutout (wc := [(h0, Sum.inr (5, [Value.ref h1, Value.int n0_size, Value.ref h2, Value.int (n0_ran + 1)])), (h1, Sum.inl (cint, 50, Sum.inl f1)), (h2, Sum.inl (cint, 24, Sum.inl f_179_0))]) hP hD hS hA [0, 1, 2] (by decide) rfl
              have hKc := hK.sub (tys' := [(cint, .int)]) [0] rfl
              refine va_calli (va_runV (As := [.int p0, .int 1, .int 0, .int p3, .int (p4 + 1)]) (rest := []) ⟨hx, hb, hml, hown, hts⟩ (g_X5_runUnder_5 l dC dI h0 h1 h2 cint H.size p0 p3 (p4 + 1) n0_size (n0_ran + 1) f1 f_179_0 tn0_size (by show 0 ≤ ((n0_ran + 1) : Int32).toInt ∧ ((n0_ran + 1) : Int32).toInt ≤ 999; first | decide | (constructor <;> (have := kk_rng p4; have := kk_add2 (x := n0_ran) (y := 1) (a := n0_ran.toInt) (b := 1) rfl rfl (by omega) (by omega); have := kk_rng p4; have := kk_add2 (x := p4) (y := 1) (a := p4.toInt) (b := 1) rfl rfl (by omega) (by omega); omega))) bf1 aOWN_BODIES aABOVE) (cwV 5 hts gX5_call_X5_runUnder rfl rfl rfl (by decide +kernel) ⟨Nat.le_of_ble_eq_true rfl, Nat.le_of_ble_eq_true rfl⟩) ⟨fun a U g mk q => by obtain ⟨q0, q1, qP, qK, qD, qx0, qx1, qx2, qx3⟩ := q; exact ⟨q0, q1, qP, va_K.moved (u := U) (U := U.calling g mk a) (Vm.Alike.refl U.vm) qK, qD, va_Z.moved (u := U) (U := U.calling g mk a) (Vm.Alike.refl U.vm) qx0, va_T.moved (u := U) (U := U.calling g mk a) (Vm.Alike.refl U.vm) qx1, va_Z.moved (u := U) (U := U.calling g mk a) (Vm.Alike.refl U.vm) qx2, va_T.moved (u := U) (U := U.calling g mk a) (Vm.Alike.refl U.vm) qx3⟩, va_recv hKc hPc (ci := 5) (q0 := 0) rfl rfl, fun U hU hW => ⟨rfl, by rw [hU], by rw [hU]; exact hPc, va_K.moved hW.alike hKc, hDc.weaken (fun _ _ _ _ => trivial), by rw [hU]; exact ((hZOWN_BODIES.kept (fun a h1 h2 => hS.2.1 a h1 h2)).narrow hFc).moved hW.alike, by rw [hU]; exact ((hTOWN_BODIES.kept (fun a h1 h2 => hS.2.1 a h1 h2)).narrow hFc).moved hW.alike, by rw [hU]; exact ((hZABOVE.kept (fun a h1 h2 => hS.2.1 a h1 h2)).narrow hFc).moved hW.alike, by rw [hU]; exact ((hTABOVE.kept (fun a h1 h2 => hS.2.1 a h1 h2)).narrow hFc).moved hW.alike⟩⟩ rfl rfl hl.1 rfl (lv_room (Nat.le_of_ble_eq_true rfl)) dX5_call_140 ⟨Nat.le_of_ble_eq_true rfl, Nat.le_of_ble_eq_true rfl⟩) hS (fun q _ h => hFc q h) hFc (fun r_180 u t H1 locs ht hvm hw hB hz1 hk1 hS => ?_)
              obtain ⟨y_181, f_182, by_181, v_182_0, hP1, hK1, hD1⟩ := hB
              have v_182_0 : y_181.toInt ≤ (n0_ran + 1).toInt + 1 := v_182_0
              rw [ht] at hP1
              have hK1 := va_K.moved hvm.symm hK1
              obtain ⟨hP, hD⟩ := va_join (wr := []) (w1 := [(h0, Sum.inr (5, [Value.ref h1, Value.int n0_size, Value.ref h2, Value.int y_181])), (h1, Sum.inl (cint, 50, Sum.inl f1)), (h2, Sum.inl (cint, 24, Sum.inl f_182))]) hP hD [0, 1, 2] [] rfl rfl (by decide) (by decide) hk1 hFc hP1 hD1
              generalize H1 = H at hP hS ⊢
              have hP : va_P (dC, dI) vwCl [(h0, Sum.inr (5, [Value.ref h1, Value.int n0_size, Value.ref h2, Value.int y_181])), (h1, Sum.inl (cint, 50, Sum.inl f1)), (h2, Sum.inl (cint, 24, Sum.inl f_182))] H := hP
              have hD : va_D A [(h0, Sum.inr (5, [Value.ref h1, Value.int n0_size, Value.ref h2, Value.int y_181])), (h1, Sum.inl (cint, 50, Sum.inl f1)), (h2, Sum.inl (cint, 24, Sum.inl f_182))] := hD
              obtain ⟨hP9, hD9⟩ := kk_leafout (wc := [(h0, Sum.inr (5, [Value.ref h1, Value.int n0_size, Value.ref h2, Value.int y_181])), (h1, Sum.inl (cint, 50, Sum.inl f1)), (h2, Sum.inl (cint, 24, Sum.inl f_182))]) hP hD [0, 1, 2] (by decide) rfl
              have hK9 := hK.sub (tys' := []) [] rfl
              exact W.iret (v := r_180) hx hb hr (fun t ht hW => ⟨⟨r_180, (), rfl, trivial, y_181, f_182, (by show 0 ≤ (y_181 : Int32).toInt ∧ (y_181 : Int32).toInt ≤ 1000; first | decide | (constructor <;> (have := kk_rng p4; have := kk_add2 (x := n0_ran) (y := 1) (a := n0_ran.toInt) (b := 1) rfl rfl (by omega) (by omega); have := kk_rng p4; have := kk_add2 (x := p4) (y := 1) (a := p4.toInt) (b := 1) rfl rfl (by omega) (by omega); omega))), (by show (y_181 : Int32).toInt ≤ (n0_ran : Int32).toInt + 6; first | decide | (have := kk_rng p4; have := kk_add2 (x := n0_ran) (y := 1) (a := n0_ran.toInt) (b := 1) rfl rfl (by omega) (by omega); have := kk_rng p4; have := kk_add2 (x := p4) (y := 1) (a := p4.toInt) (b := 1) rfl rfl (by omega) (by omega); omega)), by rw [ht]; exact hP9, va_K.moved hW.alike hK9, hD9⟩, hS.F ht⟩) hS.2.2 dX5_call_143
            · skip
              refine lv_icmp_ge (tgt := 97) hx hb dX5_call_83 (by decide) (fun c_183 => ?_) (fun c_183 => ?_)
              · have t_183 : 24 ≤ n0_ran.toInt := kk_le c_183
                exact hcut_179 (f2) _ _ _ ⟨hP, hD, hS, lv_sub hl [0, 1, 2, 3, 4, 5, 6, 7] rfl⟩
              · have t_183 : n0_ran.toInt < 24 := kk_nle c_183
                refine lv_aload_n hx hb dX5_call_86 rfl (lv_at hl 2 rfl) ?_
                refine va_get (D := (dC, dI)) (ci := 5) (v := .ref h2) (C := RX5) (T := TX5) (N := 4) hx hb hts (fun _ h => List.mem_cons_of_mem _ (List.mem_append_right _ h)) hown hK hP 0 rfl rfl 2 (by decide) (hts (.fieldLink RX5 15 "KinkStreet$Lines" "trace" "[I") (List.mem_of_getElem? (i := 4) rfl)) (fun _ h9 => h9) rfl dX5_call_87 ?_
                refine lv_aload_n hx hb dX5_call_90 rfl (lv_at hl 2 rfl) ?_
                refine va_get (D := (dC, dI)) (ci := 5) (v := .int n0_ran) (C := RX5) (T := TX5) (N := 4) hx hb hts (fun _ h => List.mem_cons_of_mem _ (List.mem_append_right _ h)) hown hK hP 0 rfl rfl 3 (by decide) (hts (.fieldLink RX5 36 "KinkStreet$Lines" "ran" "I") (List.mem_of_getElem? (i := 3) rfl)) (fun _ h9 => h9) rfl dX5_call_91 ?_
                refine lv_iload hx hb dX5_call_94 (lv_at hl 0 rfl) ?_
                refine va_iast hx hb hK hP hD hS 2 0 rfl rfl (vp_in_iff.mpr ⟨by have := kk_rng p4; omega, by have := kk_rng p4; omega⟩) dX5_call_96 (fun H locs hP hD hS => ?_)
                generalize upd f2 (n0_ran : Int32).toNatClampNeg 0 = f_184 at hP hD
                have hP : va_P (dC, dI) vwCl [(h0, Sum.inr (5, [Value.ref h1, Value.int n0_size, Value.ref h2, Value.int n0_ran])), (h1, Sum.inl (cint, 50, Sum.inl f1)), (h2, Sum.inl (cint, 24, Sum.inl f_184))] H := hP
                have hD : va_D A [(h0, Sum.inr (5, [Value.ref h1, Value.int n0_size, Value.ref h2, Value.int n0_ran])), (h1, Sum.inl (cint, 50, Sum.inl f1)), (h2, Sum.inl (cint, 24, Sum.inl f_184))] := hD
                exact hcut_179 (f_184) _ _ _ ⟨hP, hD, hS, lv_sub hl [0, 1, 2, 3, 4, 5, 6, 7] rfl⟩
          · have t_174 : 40 < p4.toInt := kk_nle c_174
            refine lv_iconst (v := 0) hx hb dX5_call_63 (by decide) ?_
            obtain ⟨hP9, hD9⟩ := kk_leafout (wc := [(h0, Sum.inr (5, [Value.ref h1, Value.int n0_size, Value.ref h2, Value.int n0_ran])), (h1, Sum.inl (cint, 50, Sum.inl f1)), (h2, Sum.inl (cint, 24, Sum.inl f2))]) hP hD [0, 1, 2] (by decide) rfl
            have hK9 := hK.sub (tys' := []) [] rfl
            exact W.iret (v := 0) hx hb hr (fun t ht hW => ⟨⟨0, (), rfl, trivial, n0_ran, f2, (by show 0 ≤ (n0_ran : Int32).toInt ∧ (n0_ran : Int32).toInt ≤ 1000; first | decide | (constructor <;> (have := kk_rng p4; omega))), (by show (n0_ran : Int32).toInt ≤ (n0_ran : Int32).toInt + 6; first | decide | (have := kk_rng p4; omega)), by rw [ht]; exact hP9, va_K.moved hW.alike hK9, hD9⟩, hS.F ht⟩) hS.2.2 dX5_call_64
      · skip
        have t_172_0 : (0 : Int) ≤ 1 := t_172_0
        have t_172_1 : (1 : Int) < 8 := t_172_1
        refine lv_if_eq (tgt := 48) hx hb dX5_call_18 (by decide) (fun c => absurd c (by decide)) (fun _ => ?_)
        refine va_gets hx hb hZOWN_BODIES hS hown (hts (.fieldLink RX5 43 "KinkStreet$Lines" "OWN_BODIES" "[I") (List.mem_of_getElem? (i := 1) rfl)) (fun _ h9 => h9) dX5_call_21 ?_
        refine lv_iload hx hb dX5_call_24 (lv_at hl 1 rfl) ?_
        refine lv_iconst (v := 4) hx hb dX5_call_26 (by decide) ?_
        refine lv_imul hx hb dX5_call_27 ?_
        refine lv_topi (fun y_185 e_185 => ?_)
        obtain rfl : y_185 = 4 := e_185.trans (by decide)
        refine lv_iload_n hx hb dX5_call_28 rfl (lv_at hl 5 rfl) ?_
        refine lv_iadd hx hb dX5_call_29 ?_
        refine lv_topi (fun y_186 e_186 => ?_)
        obtain rfl : y_186 = 6 := e_186.trans (by decide)
        refine va_ti (v := .int 0) hx hb hTOWN_BODIES hS (by unfold vp_in; decide) rfl dX5_call_30 ?_
        refine lv_if_ne (tgt := 48) hx hb dX5_call_31 (by decide) (fun c => absurd c (by decide)) (fun _ => ?_)
        refine va_gets hx hb hZABOVE hS hown (hts (.fieldLink RX5 22 "KinkStreet$Lines" "ABOVE" "[I") (List.mem_of_getElem? (i := 2) rfl)) (fun _ h9 => h9) dX5_call_34 ?_
        refine lv_iload hx hb dX5_call_37 (lv_at hl 1 rfl) ?_
        refine va_ti (v := .int 0) hx hb hTABOVE hS (by unfold vp_in; decide) rfl dX5_call_39 ?_
        refine lv_istore (lv' := [(6, .int 0), (7, .int 1), (0, .ref h0), (1, .int p0), (2, .int 5), (3, .int 2), (4, .int p3), (5, .int p4)]) hx hb dX5_call_40 hl (by decide) rfl (fun ls hl => ?_)
        refine lv_iinc (v := 2) (lv' := [(7, .int 2), (6, .int 0), (0, .ref h0), (1, .int p0), (2, .int 5), (3, .int 2), (4, .int p3), (5, .int p4)]) hx hb dX5_call_42 hl (k := 1) rfl (by first | rfl | decide) (by decide) rfl (fun ls hl => ?_)
        refine lv_goto (tgt := 6) hx hb dX5_call_45 (by decide) ?_
        refine lv_iload hx hb dX5_call_6 (lv_at hl 0 rfl) ?_
        refine lv_bipush (v := 8) hx hb dX5_call_8 (by decide) ?_
        refine lv_icmp_ge (tgt := 48) hx hb dX5_call_10 (by decide) (fun c => absurd c (by decide)) (fun _ => ?_)
        refine lv_iload hx hb dX5_call_13 (lv_at hl 1 rfl) ?_
        obtain ⟨hPc, hDc, hFc⟩ := kk_cutout (wc := []) hP hD hS hA [] (by decide) rfl
        have hKc := hK.sub (tys' := []) [] rfl
        refine va_calli (va_runS (As := [.int 0]) (rest := []) ⟨hx, hb, hml, hown, hts⟩ (g_X5_isKind_0 l dC dI H.size 0) (va_cwS 1 hts gX5_call_X5_isKind rfl rfl rfl (by decide +kernel) ⟨Nat.le_of_ble_eq_true rfl, Nat.le_of_ble_eq_true rfl⟩) ⟨fun a U g mk q => by obtain ⟨q0, q1, qP, qK, qD⟩ := q; exact ⟨q0, q1, qP, va_K.moved (u := U) (U := U.calling g mk a) (Vm.Alike.refl U.vm) qK, qD⟩, fun U hU hW => ⟨rfl, by rw [hU], by rw [hU]; exact hPc, va_K.moved hW.alike hKc, hDc.weaken (fun _ _ _ _ => trivial)⟩⟩ rfl rfl hl.1 rfl (lv_room (Nat.le_of_ble_eq_true rfl)) dX5_call_15 ⟨Nat.le_of_ble_eq_true rfl, Nat.le_of_ble_eq_true rfl⟩) hS (fun q _ h => hFc q h) hFc (fun r_187 u t H1 locs ht hvm hw hB hz1 hk1 hS => ?_)
        obtain ⟨hP1, hK1, hD1⟩ := hB
        rw [ht] at hP1
        have hK1 := va_K.moved hvm.symm hK1
        obtain ⟨hP, hD⟩ := va_join (wr := [(h0, Sum.inr (5, [Value.ref h1, Value.int n0_size, Value.ref h2, Value.int n0_ran])), (h1, Sum.inl (cint, 50, Sum.inl f1)), (h2, Sum.inl (cint, 24, Sum.inl f2))]) (w1 := []) hP hD [] [0, 1, 2] rfl rfl (by decide) (by decide) hk1 hFc hP1 hD1
        generalize H1 = H at hP hS ⊢
        have hP : va_P (dC, dI) vwCl [(h0, Sum.inr (5, [Value.ref h1, Value.int n0_size, Value.ref h2, Value.int n0_ran])), (h1, Sum.inl (cint, 50, Sum.inl f1)), (h2, Sum.inl (cint, 24, Sum.inl f2))] H := hP
        have hD : va_D A [(h0, Sum.inr (5, [Value.ref h1, Value.int n0_size, Value.ref h2, Value.int n0_ran])), (h1, Sum.inl (cint, 50, Sum.inl f1)), (h2, Sum.inl (cint, 24, Sum.inl f2))] := hD
        rcases hw with ⟨rfl⟩ | ⟨t_187_0, t_187_1, rfl⟩
        · skip
          refine lv_if_eq (tgt := 48) hx hb dX5_call_18 (by decide) (fun _ => ?_) (fun c => absurd c (by decide))
          refine lv_iload hx hb dX5_call_48 (lv_at hl 1 rfl) ?_
          obtain ⟨hPc, hDc, hFc⟩ := kk_cutout (wc := []) hP hD hS hA [] (by decide) rfl
          have hKc := hK.sub (tys' := []) [] rfl
          refine va_calli (va_runS (As := [.int 0]) (rest := []) ⟨hx, hb, hml, hown, hts⟩ (g_X5_isKind_0 l dC dI H.size 0) (va_cwS 1 hts gX5_call_X5_isKind rfl rfl rfl (by decide +kernel) ⟨Nat.le_of_ble_eq_true rfl, Nat.le_of_ble_eq_true rfl⟩) ⟨fun a U g mk q => by obtain ⟨q0, q1, qP, qK, qD⟩ := q; exact ⟨q0, q1, qP, va_K.moved (u := U) (U := U.calling g mk a) (Vm.Alike.refl U.vm) qK, qD⟩, fun U hU hW => ⟨rfl, by rw [hU], by rw [hU]; exact hPc, va_K.moved hW.alike hKc, hDc.weaken (fun _ _ _ _ => trivial)⟩⟩ rfl rfl hl.1 rfl (lv_room (Nat.le_of_ble_eq_true rfl)) dX5_call_50 ⟨Nat.le_of_ble_eq_true rfl, Nat.le_of_ble_eq_true rfl⟩) hS (fun q _ h => hFc q h) hFc (fun r_188 u t H1 locs ht hvm hw hB hz1 hk1 hS => ?_)
          obtain ⟨hP1, hK1, hD1⟩ := hB
          rw [ht] at hP1
          have hK1 := va_K.moved hvm.symm hK1
          obtain ⟨hP, hD⟩ := va_join (wr := [(h0, Sum.inr (5, [Value.ref h1, Value.int n0_size, Value.ref h2, Value.int n0_ran])), (h1, Sum.inl (cint, 50, Sum.inl f1)), (h2, Sum.inl (cint, 24, Sum.inl f2))]) (w1 := []) hP hD [] [0, 1, 2] rfl rfl (by decide) (by decide) hk1 hFc hP1 hD1
          generalize H1 = H at hP hS ⊢
          have hP : va_P (dC, dI) vwCl [(h0, Sum.inr (5, [Value.ref h1, Value.int n0_size, Value.ref h2, Value.int n0_ran])), (h1, Sum.inl (cint, 50, Sum.inl f1)), (h2, Sum.inl (cint, 24, Sum.inl f2))] H := hP
          have hD : va_D A [(h0, Sum.inr (5, [Value.ref h1, Value.int n0_size, Value.ref h2, Value.int n0_ran])), (h1, Sum.inl (cint, 50, Sum.inl f1)), (h2, Sum.inl (cint, 24, Sum.inl f2))] := hD
          rcases hw with ⟨rfl⟩ | ⟨t_188_0, t_188_1, rfl⟩
          · skip
            refine lv_if_eq (tgt := 63) hx hb dX5_call_53 (by decide) (fun _ => ?_) (fun c => absurd c (by decide))
            refine lv_iconst (v := 0) hx hb dX5_call_63 (by decide) ?_
            obtain ⟨hP9, hD9⟩ := kk_leafout (wc := [(h0, Sum.inr (5, [Value.ref h1, Value.int n0_size, Value.ref h2, Value.int n0_ran])), (h1, Sum.inl (cint, 50, Sum.inl f1)), (h2, Sum.inl (cint, 24, Sum.inl f2))]) hP hD [0, 1, 2] (by decide) rfl
            have hK9 := hK.sub (tys' := []) [] rfl
            exact W.iret (v := 0) hx hb hr (fun t ht hW => ⟨⟨0, (), rfl, trivial, n0_ran, f2, (by show 0 ≤ (n0_ran : Int32).toInt ∧ (n0_ran : Int32).toInt ≤ 1000; first | decide | (constructor <;> (omega))), (by show (n0_ran : Int32).toInt ≤ (n0_ran : Int32).toInt + 6; first | decide | (omega)), by rw [ht]; exact hP9, va_K.moved hW.alike hK9, hD9⟩, hS.F ht⟩) hS.2.2 dX5_call_64
          · skip
            have t_188_0 : (0 : Int) ≤ 0 := t_188_0
            have t_188_1 : (0 : Int) < 8 := t_188_1
            refine lv_if_eq (tgt := 63) hx hb dX5_call_53 (by decide) (fun c => absurd c (by decide)) (fun _ => ?_)
            refine lv_iload hx hb dX5_call_56 (lv_at hl 7 rfl) ?_
            refine lv_bipush (v := 40) hx hb dX5_call_58 (by decide) ?_
            refine lv_icmp_le (tgt := 65) hx hb dX5_call_60 (by decide) (fun c_189 => ?_) (fun c_189 => ?_)
            · have t_189 : p4.toInt ≤ 40 := kk_le c_189
              refine va_gets hx hb hZOWN_BODIES hS hown (hts (.fieldLink RX5 43 "KinkStreet$Lines" "OWN_BODIES" "[I") (List.mem_of_getElem? (i := 1) rfl)) (fun _ h9 => h9) dX5_call_65 ?_
              refine lv_iload hx hb dX5_call_68 (lv_at hl 1 rfl) ?_
              refine lv_iconst (v := 4) hx hb dX5_call_70 (by decide) ?_
              refine lv_imul hx hb dX5_call_71 ?_
              refine lv_topi (fun y_190 e_190 => ?_)
              obtain rfl : y_190 = 0 := e_190.trans (by decide)
              refine lv_iload_n hx hb dX5_call_72 rfl (lv_at hl 5 rfl) ?_
              refine lv_iadd hx hb dX5_call_73 ?_
              refine lv_topi (fun y_191 e_191 => ?_)
              obtain rfl : y_191 = 2 := e_191.trans (by decide)
              refine va_ti (v := .int 11) hx hb hTOWN_BODIES hS (by unfold vp_in; decide) rfl dX5_call_74 ?_
              refine lv_istore (lv' := [(7, .int 11), (6, .int 0), (0, .ref h0), (1, .int p0), (2, .int 5), (3, .int 2), (4, .int p3), (5, .int p4)]) hx hb dX5_call_75 hl (by decide) rfl (fun ls hl => ?_)
              refine lv_aload_n hx hb dX5_call_77 rfl (lv_at hl 2 rfl) ?_
              refine va_get (D := (dC, dI)) (ci := 5) (v := .int n0_ran) (C := RX5) (T := TX5) (N := 4) hx hb hts (fun _ h => List.mem_cons_of_mem _ (List.mem_append_right _ h)) hown hK hP 0 rfl rfl 3 (by decide) (hts (.fieldLink RX5 36 "KinkStreet$Lines" "ran" "I") (List.mem_of_getElem? (i := 3) rfl)) (fun _ h9 => h9) rfl dX5_call_78 ?_
              refine lv_bipush (v := 24) hx hb dX5_call_81 (by decide) ?_
              refine kk_cut (σ := (Nat → Int32)) (pc' := 97) (fun x H locs ls => va_P (dC, dI) vwCl [(h0, Sum.inr (5, [Value.ref h1, Value.int n0_size, Value.ref h2, Value.int n0_ran])), (h1, Sum.inl (cint, 50, Sum.inl f1)), (h2, Sum.inl (cint, 24, Sum.inl x))] H ∧ va_D A [(h0, Sum.inr (5, [Value.ref h1, Value.int n0_size, Value.ref h2, Value.int n0_ran])), (h1, Sum.inl (cint, 50, Sum.inl f1)), (h2, Sum.inl (cint, 24, Sum.inl x))] ∧ va_S A s.heap H locs ∧ lv_has ls 8 [(7, .int 11), (6, .int 0), (0, .ref h0), (1, .int p0), (2, .int 5), (3, .int 2), (4, .int p3), (5, .int p4)]) ?_ (fun hcut_194 => ?_)
              · rintro f_194_0 H locs ls ⟨hP, hD, hS, hl⟩
                have hl : lv_has ls 8 [(7, .int 11), (6, .int 0), (0, .ref h0), (1, .int p0), (2, .int 5), (3, .int 2), (4, .int p3), (5, .int p4)] := hl
                have hP : va_P (dC, dI) vwCl [(h0, Sum.inr (5, [Value.ref h1, Value.int n0_size, Value.ref h2, Value.int n0_ran])), (h1, Sum.inl (cint, 50, Sum.inl f1)), (h2, Sum.inl (cint, 24, Sum.inl f_194_0))] H := hP
                have hD : va_D A [(h0, Sum.inr (5, [Value.ref h1, Value.int n0_size, Value.ref h2, Value.int n0_ran])), (h1, Sum.inl (cint, 50, Sum.inl f1)), (h2, Sum.inl (cint, 24, Sum.inl f_194_0))] := hD
                refine lv_aload_n hx hb dX5_call_97 rfl (lv_at hl 2 rfl) ?_
                refine lv_dup hx hb dX5_call_98 rfl ?_
                refine va_get (D := (dC, dI)) (ci := 5) (v := .int n0_ran) (C := RX5) (T := TX5) (N := 4) hx hb hts (fun _ h => List.mem_cons_of_mem _ (List.mem_append_right _ h)) hown hK hP 0 rfl rfl 3 (by decide) (hts (.fieldLink RX5 36 "KinkStreet$Lines" "ran" "I") (List.mem_of_getElem? (i := 3) rfl)) (fun _ h9 => h9) rfl dX5_call_99 ?_
                refine lv_iconst (v := 1) hx hb dX5_call_102 (by decide) ?_
                refine lv_iadd hx hb dX5_call_103 ?_
                refine va_put (D := (dC, dI)) (ci := 5) (v := .int (n0_ran + 1)) (ty := .int) (C := RX5) (T := TX5) (N := 4) hx hb hts (fun _ h => List.mem_cons_of_mem _ (List.mem_append_right _ h)) tyX5 tyX5_ok nmX5 hown hK hP hD hS 0 rfl rfl 3 (by decide) (hts (.fieldLink RX5 36 "KinkStreet$Lines" "ran" "I") (List.mem_of_getElem? (i := 3) rfl)) (fun _ h9 => h9) rfl (by decide +kernel) rfl rfl (Nat.le_of_ble_eq_true rfl) dX5_call_104 (fun H locs hP hD hS => ?_)
                have hP : va_P (dC, dI) vwCl [(h0, Sum.inr (5, [Value.ref h1, Value.int n0_size, Value.ref h2, Value.int (n0_ran + 1)])), (h1, Sum.inl (cint, 50, Sum.inl f1)), (h2, Sum.inl (cint, 24, Sum.inl f_194_0))] H := hP
                have hD : va_D A [(h0, Sum.inr (5, [Value.ref h1, Value.int n0_size, Value.ref h2, Value.int (n0_ran + 1)])), (h1, Sum.inl (cint, 50, Sum.inl f1)), (h2, Sum.inl (cint, 24, Sum.inl f_194_0))] := hD
                refine lv_iload hx hb dX5_call_107 (lv_at hl 1 rfl) ?_
                refine lv_if_ne (tgt := 128) hx hb dX5_call_109 (by decide) (fun c => absurd c (by decide)) (fun _ => ?_)
                refine lv_aload_n hx hb dX5_call_112 rfl (lv_at hl 2 rfl) ?_
                refine lv_iload_n hx hb dX5_call_113 rfl (lv_at hl 3 rfl) ?_
                refine lv_iload hx hb dX5_call_114 (lv_at hl 0 rfl) ?_
                refine lv_iload hx hb dX5_call_116 (lv_at hl 6 rfl) ?_
                refine lv_iload hx hb dX5_call_118 (lv_at hl 7 rfl) ?_
                refine lv_iconst (v := 1) hx hb dX5_call_120 (by decide) ?_
                refine lv_iadd hx hb dX5_call_121 ?_
                obtain ⟨hPc, hDc, hFc⟩ := kk_cutout (wc := [(h0, Sum.inr (5, [Value.ref h1, Value.int n0_size, Value.ref h2, Value.int (n0_ran + 1)])), (h1, Sum.inl (cint, 50, Sum.inl f1))]) hP hD hS hA [0, 1] (by decide) rfl
                have hKc := hK.sub (tys' := [(cint, .int)]) [0] rfl
                refine va_calli (va_runV (As := [.int p0, .int 11, .int p3, .int (p4 + 1)]) (rest := []) ⟨hx, hb, hml, hown, hts⟩ (g_X5_runLine_1 l dC dI h0 h1 h2 cint H.size p0 p3 (p4 + 1) n0_size (n0_ran + 1) f1 tn0_size (by show 0 ≤ ((n0_ran + 1) : Int32).toInt ∧ ((n0_ran + 1) : Int32).toInt ≤ 1000; first | decide | (constructor <;> (have := kk_rng p4; have := kk_add2 (x := n0_ran) (y := 1) (a := n0_ran.toInt) (b := 1) rfl rfl (by omega) (by omega); have := kk_rng p4; have := kk_add2 (x := p4) (y := 1) (a := p4.toInt) (b := 1) rfl rfl (by omega) (by omega); omega))) bf1) (cwV 4 hts gX5_call_X5_runLine rfl rfl rfl (by decide +kernel) ⟨Nat.le_of_ble_eq_true rfl, Nat.le_of_ble_eq_true rfl⟩) ⟨fun a U g mk q => by obtain ⟨q0, q1, qP, qK, qD⟩ := q; exact ⟨q0, q1, qP, va_K.moved (u := U) (U := U.calling g mk a) (Vm.Alike.refl U.vm) qK, qD⟩, va_recv hKc hPc (ci := 5) (q0 := 0) rfl rfl, fun U hU hW => ⟨rfl, by rw [hU], by rw [hU]; exact hPc, va_K.moved hW.alike hKc, hDc.weaken (fun _ _ _ _ => trivial)⟩⟩ rfl rfl hl.1 rfl (lv_room (Nat.le_of_ble_eq_true rfl)) dX5_call_122 ⟨Nat.le_of_ble_eq_true rfl, Nat.le_of_ble_eq_true rfl⟩) hS (fun q _ h => hFc q h) hFc (fun r_195 u t H1 locs ht hvm hw hB hz1 hk1 hS => ?_)
                obtain ⟨hP1, hK1, hD1⟩ := hB
                rw [ht] at hP1
                have hK1 := va_K.moved hvm.symm hK1
                obtain ⟨hP, hD⟩ := va_join (wr := [(h2, Sum.inl (cint, 24, Sum.inl f_194_0))]) (w1 := [(h0, Sum.inr (5, [Value.ref h1, Value.int n0_size, Value.ref h2, Value.int (n0_ran + 1)])), (h1, Sum.inl (cint, 50, Sum.inl f1))]) hP hD [0, 1] [2] rfl rfl (by decide) (by decide) hk1 hFc hP1 hD1
                generalize H1 = H at hP hS ⊢
                have hP : va_P (dC, dI) vwCl [(h2, Sum.inl (cint, 24, Sum.inl f_194_0)), (h0, Sum.inr (5, [Value.ref h1, Value.int n0_size, Value.ref h2, Value.int (n0_ran + 1)])), (h1, Sum.inl (cint, 50, Sum.inl f1))] H := hP
                have hD : va_D A [(h2, Sum.inl (cint, 24, Sum.inl f_194_0)), (h0, Sum.inr (5, [Value.ref h1, Value.int n0_size, Value.ref h2, Value.int (n0_ran + 1)])), (h1, Sum.inl (cint, 50, Sum.inl f1))] := hD
                refine lv_goto (tgt := 143) hx hb dX5_call_125 (by decide) ?_
                obtain ⟨hP9, hD9⟩ := kk_leafout (wc := [(h0, Sum.inr (5, [Value.ref h1, Value.int n0_size, Value.ref h2, Value.int (n0_ran + 1)])), (h1, Sum.inl (cint, 50, Sum.inl f1)), (h2, Sum.inl (cint, 24, Sum.inl f_194_0))]) hP hD [1, 2, 0] (by decide) rfl
                have hK9 := hK.sub (tys' := []) [] rfl
                exact W.iret (v := r_195) hx hb hr (fun t ht hW => ⟨⟨r_195, (), rfl, trivial, (n0_ran + 1), f_194_0, (by show 0 ≤ ((n0_ran + 1) : Int32).toInt ∧ ((n0_ran + 1) : Int32).toInt ≤ 1000; first | decide | (constructor <;> (have := kk_rng p4; have := kk_add2 (x := n0_ran) (y := 1) (a := n0_ran.toInt) (b := 1) rfl rfl (by omega) (by omega); have := kk_rng p4; have := kk_add2 (x := p4) (y := 1) (a := p4.toInt) (b := 1) rfl rfl (by omega) (by omega); omega))), (by show ((n0_ran + 1) : Int32).toInt ≤ (n0_ran : Int32).toInt + 6; first | decide | (have := kk_rng p4; have := kk_add2 (x := n0_ran) (y := 1) (a := n0_ran.toInt) (b := 1) rfl rfl (by omega) (by omega); have := kk_rng p4; have := kk_add2 (x := p4) (y := 1) (a := p4.toInt) (b := 1) rfl rfl (by omega) (by omega); omega)), by rw [ht]; exact hP9, va_K.moved hW.alike hK9, hD9⟩, hS.F ht⟩) hS.2.2 dX5_call_143
              · skip
                refine lv_icmp_ge (tgt := 97) hx hb dX5_call_83 (by decide) (fun c_196 => ?_) (fun c_196 => ?_)
                · have t_196 : 24 ≤ n0_ran.toInt := kk_le c_196
                  exact hcut_194 (f2) _ _ _ ⟨hP, hD, hS, lv_sub hl [0, 1, 2, 3, 4, 5, 6, 7] rfl⟩
                · have t_196 : n0_ran.toInt < 24 := kk_nle c_196
                  refine lv_aload_n hx hb dX5_call_86 rfl (lv_at hl 2 rfl) ?_
                  refine va_get (D := (dC, dI)) (ci := 5) (v := .ref h2) (C := RX5) (T := TX5) (N := 4) hx hb hts (fun _ h => List.mem_cons_of_mem _ (List.mem_append_right _ h)) hown hK hP 0 rfl rfl 2 (by decide) (hts (.fieldLink RX5 15 "KinkStreet$Lines" "trace" "[I") (List.mem_of_getElem? (i := 4) rfl)) (fun _ h9 => h9) rfl dX5_call_87 ?_
                  refine lv_aload_n hx hb dX5_call_90 rfl (lv_at hl 2 rfl) ?_
                  refine va_get (D := (dC, dI)) (ci := 5) (v := .int n0_ran) (C := RX5) (T := TX5) (N := 4) hx hb hts (fun _ h => List.mem_cons_of_mem _ (List.mem_append_right _ h)) hown hK hP 0 rfl rfl 3 (by decide) (hts (.fieldLink RX5 36 "KinkStreet$Lines" "ran" "I") (List.mem_of_getElem? (i := 3) rfl)) (fun _ h9 => h9) rfl dX5_call_91 ?_
                  refine lv_iload hx hb dX5_call_94 (lv_at hl 0 rfl) ?_
                  refine va_iast hx hb hK hP hD hS 2 0 rfl rfl (vp_in_iff.mpr ⟨by have := kk_rng p4; omega, by have := kk_rng p4; omega⟩) dX5_call_96 (fun H locs hP hD hS => ?_)
                  generalize upd f2 (n0_ran : Int32).toNatClampNeg 11 = f_197 at hP hD
                  have hP : va_P (dC, dI) vwCl [(h0, Sum.inr (5, [Value.ref h1, Value.int n0_size, Value.ref h2, Value.int n0_ran])), (h1, Sum.inl (cint, 50, Sum.inl f1)), (h2, Sum.inl (cint, 24, Sum.inl f_197))] H := hP
                  have hD : va_D A [(h0, Sum.inr (5, [Value.ref h1, Value.int n0_size, Value.ref h2, Value.int n0_ran])), (h1, Sum.inl (cint, 50, Sum.inl f1)), (h2, Sum.inl (cint, 24, Sum.inl f_197))] := hD
                  exact hcut_194 (f_197) _ _ _ ⟨hP, hD, hS, lv_sub hl [0, 1, 2, 3, 4, 5, 6, 7] rfl⟩
            · have t_189 : 40 < p4.toInt := kk_nle c_189
              refine lv_iconst (v := 0) hx hb dX5_call_63 (by decide) ?_
              obtain ⟨hP9, hD9⟩ := kk_leafout (wc := [(h0, Sum.inr (5, [Value.ref h1, Value.int n0_size, Value.ref h2, Value.int n0_ran])), (h1, Sum.inl (cint, 50, Sum.inl f1)), (h2, Sum.inl (cint, 24, Sum.inl f2))]) hP hD [0, 1, 2] (by decide) rfl
              have hK9 := hK.sub (tys' := []) [] rfl
              exact W.iret (v := 0) hx hb hr (fun t ht hW => ⟨⟨0, (), rfl, trivial, n0_ran, f2, (by show 0 ≤ (n0_ran : Int32).toInt ∧ (n0_ran : Int32).toInt ≤ 1000; first | decide | (constructor <;> (have := kk_rng p4; omega))), (by show (n0_ran : Int32).toInt ≤ (n0_ran : Int32).toInt + 6; first | decide | (have := kk_rng p4; omega)), by rw [ht]; exact hP9, va_K.moved hW.alike hK9, hD9⟩, hS.F ht⟩) hS.2.2 dX5_call_64
        · skip
          have t_187_0 : (0 : Int) ≤ 0 := t_187_0
          have t_187_1 : (0 : Int) < 8 := t_187_1
          refine lv_if_eq (tgt := 48) hx hb dX5_call_18 (by decide) (fun c => absurd c (by decide)) (fun _ => ?_)
          refine va_gets hx hb hZOWN_BODIES hS hown (hts (.fieldLink RX5 43 "KinkStreet$Lines" "OWN_BODIES" "[I") (List.mem_of_getElem? (i := 1) rfl)) (fun _ h9 => h9) dX5_call_21 ?_
          refine lv_iload hx hb dX5_call_24 (lv_at hl 1 rfl) ?_
          refine lv_iconst (v := 4) hx hb dX5_call_26 (by decide) ?_
          refine lv_imul hx hb dX5_call_27 ?_
          refine lv_topi (fun y_198 e_198 => ?_)
          obtain rfl : y_198 = 0 := e_198.trans (by decide)
          refine lv_iload_n hx hb dX5_call_28 rfl (lv_at hl 5 rfl) ?_
          refine lv_iadd hx hb dX5_call_29 ?_
          refine lv_topi (fun y_199 e_199 => ?_)
          obtain rfl : y_199 = 2 := e_199.trans (by decide)
          refine va_ti (v := .int 11) hx hb hTOWN_BODIES hS (by unfold vp_in; decide) rfl dX5_call_30 ?_
          refine lv_if_ne (tgt := 48) hx hb dX5_call_31 (by decide) (fun _ => ?_) (fun c => absurd c (by decide))
          refine lv_iload hx hb dX5_call_48 (lv_at hl 1 rfl) ?_
          obtain ⟨hPc, hDc, hFc⟩ := kk_cutout (wc := []) hP hD hS hA [] (by decide) rfl
          have hKc := hK.sub (tys' := []) [] rfl
          refine va_calli (va_runS (As := [.int 0]) (rest := []) ⟨hx, hb, hml, hown, hts⟩ (g_X5_isKind_0 l dC dI H.size 0) (va_cwS 1 hts gX5_call_X5_isKind rfl rfl rfl (by decide +kernel) ⟨Nat.le_of_ble_eq_true rfl, Nat.le_of_ble_eq_true rfl⟩) ⟨fun a U g mk q => by obtain ⟨q0, q1, qP, qK, qD⟩ := q; exact ⟨q0, q1, qP, va_K.moved (u := U) (U := U.calling g mk a) (Vm.Alike.refl U.vm) qK, qD⟩, fun U hU hW => ⟨rfl, by rw [hU], by rw [hU]; exact hPc, va_K.moved hW.alike hKc, hDc.weaken (fun _ _ _ _ => trivial)⟩⟩ rfl rfl hl.1 rfl (lv_room (Nat.le_of_ble_eq_true rfl)) dX5_call_50 ⟨Nat.le_of_ble_eq_true rfl, Nat.le_of_ble_eq_true rfl⟩) hS (fun q _ h => hFc q h) hFc (fun r_200 u t H1 locs ht hvm hw hB hz1 hk1 hS => ?_)
          obtain ⟨hP1, hK1, hD1⟩ := hB
          rw [ht] at hP1
          have hK1 := va_K.moved hvm.symm hK1
          obtain ⟨hP, hD⟩ := va_join (wr := [(h0, Sum.inr (5, [Value.ref h1, Value.int n0_size, Value.ref h2, Value.int n0_ran])), (h1, Sum.inl (cint, 50, Sum.inl f1)), (h2, Sum.inl (cint, 24, Sum.inl f2))]) (w1 := []) hP hD [] [0, 1, 2] rfl rfl (by decide) (by decide) hk1 hFc hP1 hD1
          generalize H1 = H at hP hS ⊢
          have hP : va_P (dC, dI) vwCl [(h0, Sum.inr (5, [Value.ref h1, Value.int n0_size, Value.ref h2, Value.int n0_ran])), (h1, Sum.inl (cint, 50, Sum.inl f1)), (h2, Sum.inl (cint, 24, Sum.inl f2))] H := hP
          have hD : va_D A [(h0, Sum.inr (5, [Value.ref h1, Value.int n0_size, Value.ref h2, Value.int n0_ran])), (h1, Sum.inl (cint, 50, Sum.inl f1)), (h2, Sum.inl (cint, 24, Sum.inl f2))] := hD
          rcases hw with ⟨rfl⟩ | ⟨t_200_0, t_200_1, rfl⟩
          · skip
            refine lv_if_eq (tgt := 63) hx hb dX5_call_53 (by decide) (fun _ => ?_) (fun c => absurd c (by decide))
            refine lv_iconst (v := 0) hx hb dX5_call_63 (by decide) ?_
            obtain ⟨hP9, hD9⟩ := kk_leafout (wc := [(h0, Sum.inr (5, [Value.ref h1, Value.int n0_size, Value.ref h2, Value.int n0_ran])), (h1, Sum.inl (cint, 50, Sum.inl f1)), (h2, Sum.inl (cint, 24, Sum.inl f2))]) hP hD [0, 1, 2] (by decide) rfl
            have hK9 := hK.sub (tys' := []) [] rfl
            exact W.iret (v := 0) hx hb hr (fun t ht hW => ⟨⟨0, (), rfl, trivial, n0_ran, f2, (by show 0 ≤ (n0_ran : Int32).toInt ∧ (n0_ran : Int32).toInt ≤ 1000; first | decide | (constructor <;> (omega))), (by show (n0_ran : Int32).toInt ≤ (n0_ran : Int32).toInt + 6; first | decide | (omega)), by rw [ht]; exact hP9, va_K.moved hW.alike hK9, hD9⟩, hS.F ht⟩) hS.2.2 dX5_call_64
          · skip
            have t_200_0 : (0 : Int) ≤ 0 := t_200_0
            have t_200_1 : (0 : Int) < 8 := t_200_1
            refine lv_if_eq (tgt := 63) hx hb dX5_call_53 (by decide) (fun c => absurd c (by decide)) (fun _ => ?_)
            refine lv_iload hx hb dX5_call_56 (lv_at hl 7 rfl) ?_
            refine lv_bipush (v := 40) hx hb dX5_call_58 (by decide) ?_
            refine lv_icmp_le (tgt := 65) hx hb dX5_call_60 (by decide) (fun c_201 => ?_) (fun c_201 => ?_)
            · have t_201 : p4.toInt ≤ 40 := kk_le c_201
              refine va_gets hx hb hZOWN_BODIES hS hown (hts (.fieldLink RX5 43 "KinkStreet$Lines" "OWN_BODIES" "[I") (List.mem_of_getElem? (i := 1) rfl)) (fun _ h9 => h9) dX5_call_65 ?_
              refine lv_iload hx hb dX5_call_68 (lv_at hl 1 rfl) ?_
              refine lv_iconst (v := 4) hx hb dX5_call_70 (by decide) ?_
              refine lv_imul hx hb dX5_call_71 ?_
              refine lv_topi (fun y_202 e_202 => ?_)
              obtain rfl : y_202 = 0 := e_202.trans (by decide)
              refine lv_iload_n hx hb dX5_call_72 rfl (lv_at hl 5 rfl) ?_
              refine lv_iadd hx hb dX5_call_73 ?_
              refine lv_topi (fun y_203 e_203 => ?_)
              obtain rfl : y_203 = 2 := e_203.trans (by decide)
              refine va_ti (v := .int 11) hx hb hTOWN_BODIES hS (by unfold vp_in; decide) rfl dX5_call_74 ?_
              refine lv_istore (lv' := [(7, .int 11), (6, .int 0), (0, .ref h0), (1, .int p0), (2, .int 5), (3, .int 2), (4, .int p3), (5, .int p4)]) hx hb dX5_call_75 hl (by decide) rfl (fun ls hl => ?_)
              refine lv_aload_n hx hb dX5_call_77 rfl (lv_at hl 2 rfl) ?_
              refine va_get (D := (dC, dI)) (ci := 5) (v := .int n0_ran) (C := RX5) (T := TX5) (N := 4) hx hb hts (fun _ h => List.mem_cons_of_mem _ (List.mem_append_right _ h)) hown hK hP 0 rfl rfl 3 (by decide) (hts (.fieldLink RX5 36 "KinkStreet$Lines" "ran" "I") (List.mem_of_getElem? (i := 3) rfl)) (fun _ h9 => h9) rfl dX5_call_78 ?_
              refine lv_bipush (v := 24) hx hb dX5_call_81 (by decide) ?_
              refine kk_cut (σ := (Nat → Int32)) (pc' := 97) (fun x H locs ls => va_P (dC, dI) vwCl [(h0, Sum.inr (5, [Value.ref h1, Value.int n0_size, Value.ref h2, Value.int n0_ran])), (h1, Sum.inl (cint, 50, Sum.inl f1)), (h2, Sum.inl (cint, 24, Sum.inl x))] H ∧ va_D A [(h0, Sum.inr (5, [Value.ref h1, Value.int n0_size, Value.ref h2, Value.int n0_ran])), (h1, Sum.inl (cint, 50, Sum.inl f1)), (h2, Sum.inl (cint, 24, Sum.inl x))] ∧ va_S A s.heap H locs ∧ lv_has ls 8 [(7, .int 11), (6, .int 0), (0, .ref h0), (1, .int p0), (2, .int 5), (3, .int 2), (4, .int p3), (5, .int p4)]) ?_ (fun hcut_206 => ?_)
              · rintro f_206_0 H locs ls ⟨hP, hD, hS, hl⟩
                have hl : lv_has ls 8 [(7, .int 11), (6, .int 0), (0, .ref h0), (1, .int p0), (2, .int 5), (3, .int 2), (4, .int p3), (5, .int p4)] := hl
                have hP : va_P (dC, dI) vwCl [(h0, Sum.inr (5, [Value.ref h1, Value.int n0_size, Value.ref h2, Value.int n0_ran])), (h1, Sum.inl (cint, 50, Sum.inl f1)), (h2, Sum.inl (cint, 24, Sum.inl f_206_0))] H := hP
                have hD : va_D A [(h0, Sum.inr (5, [Value.ref h1, Value.int n0_size, Value.ref h2, Value.int n0_ran])), (h1, Sum.inl (cint, 50, Sum.inl f1)), (h2, Sum.inl (cint, 24, Sum.inl f_206_0))] := hD
                refine lv_aload_n hx hb dX5_call_97 rfl (lv_at hl 2 rfl) ?_
                refine lv_dup hx hb dX5_call_98 rfl ?_
                refine va_get (D := (dC, dI)) (ci := 5) (v := .int n0_ran) (C := RX5) (T := TX5) (N := 4) hx hb hts (fun _ h => List.mem_cons_of_mem _ (List.mem_append_right _ h)) hown hK hP 0 rfl rfl 3 (by decide) (hts (.fieldLink RX5 36 "KinkStreet$Lines" "ran" "I") (List.mem_of_getElem? (i := 3) rfl)) (fun _ h9 => h9) rfl dX5_call_99 ?_
                refine lv_iconst (v := 1) hx hb dX5_call_102 (by decide) ?_
                refine lv_iadd hx hb dX5_call_103 ?_
                refine va_put (D := (dC, dI)) (ci := 5) (v := .int (n0_ran + 1)) (ty := .int) (C := RX5) (T := TX5) (N := 4) hx hb hts (fun _ h => List.mem_cons_of_mem _ (List.mem_append_right _ h)) tyX5 tyX5_ok nmX5 hown hK hP hD hS 0 rfl rfl 3 (by decide) (hts (.fieldLink RX5 36 "KinkStreet$Lines" "ran" "I") (List.mem_of_getElem? (i := 3) rfl)) (fun _ h9 => h9) rfl (by decide +kernel) rfl rfl (Nat.le_of_ble_eq_true rfl) dX5_call_104 (fun H locs hP hD hS => ?_)
                have hP : va_P (dC, dI) vwCl [(h0, Sum.inr (5, [Value.ref h1, Value.int n0_size, Value.ref h2, Value.int (n0_ran + 1)])), (h1, Sum.inl (cint, 50, Sum.inl f1)), (h2, Sum.inl (cint, 24, Sum.inl f_206_0))] H := hP
                have hD : va_D A [(h0, Sum.inr (5, [Value.ref h1, Value.int n0_size, Value.ref h2, Value.int (n0_ran + 1)])), (h1, Sum.inl (cint, 50, Sum.inl f1)), (h2, Sum.inl (cint, 24, Sum.inl f_206_0))] := hD
                refine lv_iload hx hb dX5_call_107 (lv_at hl 1 rfl) ?_
                refine lv_if_ne (tgt := 128) hx hb dX5_call_109 (by decide) (fun c => absurd c (by decide)) (fun _ => ?_)
                refine lv_aload_n hx hb dX5_call_112 rfl (lv_at hl 2 rfl) ?_
                refine lv_iload_n hx hb dX5_call_113 rfl (lv_at hl 3 rfl) ?_
                refine lv_iload hx hb dX5_call_114 (lv_at hl 0 rfl) ?_
                refine lv_iload hx hb dX5_call_116 (lv_at hl 6 rfl) ?_
                refine lv_iload hx hb dX5_call_118 (lv_at hl 7 rfl) ?_
                refine lv_iconst (v := 1) hx hb dX5_call_120 (by decide) ?_
                refine lv_iadd hx hb dX5_call_121 ?_
                obtain ⟨hPc, hDc, hFc⟩ := kk_cutout (wc := [(h0, Sum.inr (5, [Value.ref h1, Value.int n0_size, Value.ref h2, Value.int (n0_ran + 1)])), (h1, Sum.inl (cint, 50, Sum.inl f1))]) hP hD hS hA [0, 1] (by decide) rfl
                have hKc := hK.sub (tys' := [(cint, .int)]) [0] rfl
                refine va_calli (va_runV (As := [.int p0, .int 11, .int p3, .int (p4 + 1)]) (rest := []) ⟨hx, hb, hml, hown, hts⟩ (g_X5_runLine_1 l dC dI h0 h1 h2 cint H.size p0 p3 (p4 + 1) n0_size (n0_ran + 1) f1 tn0_size (by show 0 ≤ ((n0_ran + 1) : Int32).toInt ∧ ((n0_ran + 1) : Int32).toInt ≤ 1000; first | decide | (constructor <;> (have := kk_rng p4; have := kk_add2 (x := n0_ran) (y := 1) (a := n0_ran.toInt) (b := 1) rfl rfl (by omega) (by omega); have := kk_rng p4; have := kk_add2 (x := p4) (y := 1) (a := p4.toInt) (b := 1) rfl rfl (by omega) (by omega); omega))) bf1) (cwV 4 hts gX5_call_X5_runLine rfl rfl rfl (by decide +kernel) ⟨Nat.le_of_ble_eq_true rfl, Nat.le_of_ble_eq_true rfl⟩) ⟨fun a U g mk q => by obtain ⟨q0, q1, qP, qK, qD⟩ := q; exact ⟨q0, q1, qP, va_K.moved (u := U) (U := U.calling g mk a) (Vm.Alike.refl U.vm) qK, qD⟩, va_recv hKc hPc (ci := 5) (q0 := 0) rfl rfl, fun U hU hW => ⟨rfl, by rw [hU], by rw [hU]; exact hPc, va_K.moved hW.alike hKc, hDc.weaken (fun _ _ _ _ => trivial)⟩⟩ rfl rfl hl.1 rfl (lv_room (Nat.le_of_ble_eq_true rfl)) dX5_call_122 ⟨Nat.le_of_ble_eq_true rfl, Nat.le_of_ble_eq_true rfl⟩) hS (fun q _ h => hFc q h) hFc (fun r_207 u t H1 locs ht hvm hw hB hz1 hk1 hS => ?_)
                obtain ⟨hP1, hK1, hD1⟩ := hB
                rw [ht] at hP1
                have hK1 := va_K.moved hvm.symm hK1
                obtain ⟨hP, hD⟩ := va_join (wr := [(h2, Sum.inl (cint, 24, Sum.inl f_206_0))]) (w1 := [(h0, Sum.inr (5, [Value.ref h1, Value.int n0_size, Value.ref h2, Value.int (n0_ran + 1)])), (h1, Sum.inl (cint, 50, Sum.inl f1))]) hP hD [0, 1] [2] rfl rfl (by decide) (by decide) hk1 hFc hP1 hD1
                generalize H1 = H at hP hS ⊢
                have hP : va_P (dC, dI) vwCl [(h2, Sum.inl (cint, 24, Sum.inl f_206_0)), (h0, Sum.inr (5, [Value.ref h1, Value.int n0_size, Value.ref h2, Value.int (n0_ran + 1)])), (h1, Sum.inl (cint, 50, Sum.inl f1))] H := hP
                have hD : va_D A [(h2, Sum.inl (cint, 24, Sum.inl f_206_0)), (h0, Sum.inr (5, [Value.ref h1, Value.int n0_size, Value.ref h2, Value.int (n0_ran + 1)])), (h1, Sum.inl (cint, 50, Sum.inl f1))] := hD
                refine lv_goto (tgt := 143) hx hb dX5_call_125 (by decide) ?_
                obtain ⟨hP9, hD9⟩ := kk_leafout (wc := [(h0, Sum.inr (5, [Value.ref h1, Value.int n0_size, Value.ref h2, Value.int (n0_ran + 1)])), (h1, Sum.inl (cint, 50, Sum.inl f1)), (h2, Sum.inl (cint, 24, Sum.inl f_206_0))]) hP hD [1, 2, 0] (by decide) rfl
                have hK9 := hK.sub (tys' := []) [] rfl
                exact W.iret (v := r_207) hx hb hr (fun t ht hW => ⟨⟨r_207, (), rfl, trivial, (n0_ran + 1), f_206_0, (by show 0 ≤ ((n0_ran + 1) : Int32).toInt ∧ ((n0_ran + 1) : Int32).toInt ≤ 1000; first | decide | (constructor <;> (have := kk_rng p4; have := kk_add2 (x := n0_ran) (y := 1) (a := n0_ran.toInt) (b := 1) rfl rfl (by omega) (by omega); have := kk_rng p4; have := kk_add2 (x := p4) (y := 1) (a := p4.toInt) (b := 1) rfl rfl (by omega) (by omega); omega))), (by show ((n0_ran + 1) : Int32).toInt ≤ (n0_ran : Int32).toInt + 6; first | decide | (have := kk_rng p4; have := kk_add2 (x := n0_ran) (y := 1) (a := n0_ran.toInt) (b := 1) rfl rfl (by omega) (by omega); have := kk_rng p4; have := kk_add2 (x := p4) (y := 1) (a := p4.toInt) (b := 1) rfl rfl (by omega) (by omega); omega)), by rw [ht]; exact hP9, va_K.moved hW.alike hK9, hD9⟩, hS.F ht⟩) hS.2.2 dX5_call_143
              · skip
                refine lv_icmp_ge (tgt := 97) hx hb dX5_call_83 (by decide) (fun c_208 => ?_) (fun c_208 => ?_)
                · have t_208 : 24 ≤ n0_ran.toInt := kk_le c_208
                  exact hcut_206 (f2) _ _ _ ⟨hP, hD, hS, lv_sub hl [0, 1, 2, 3, 4, 5, 6, 7] rfl⟩
                · have t_208 : n0_ran.toInt < 24 := kk_nle c_208
                  refine lv_aload_n hx hb dX5_call_86 rfl (lv_at hl 2 rfl) ?_
                  refine va_get (D := (dC, dI)) (ci := 5) (v := .ref h2) (C := RX5) (T := TX5) (N := 4) hx hb hts (fun _ h => List.mem_cons_of_mem _ (List.mem_append_right _ h)) hown hK hP 0 rfl rfl 2 (by decide) (hts (.fieldLink RX5 15 "KinkStreet$Lines" "trace" "[I") (List.mem_of_getElem? (i := 4) rfl)) (fun _ h9 => h9) rfl dX5_call_87 ?_
                  refine lv_aload_n hx hb dX5_call_90 rfl (lv_at hl 2 rfl) ?_
                  refine va_get (D := (dC, dI)) (ci := 5) (v := .int n0_ran) (C := RX5) (T := TX5) (N := 4) hx hb hts (fun _ h => List.mem_cons_of_mem _ (List.mem_append_right _ h)) hown hK hP 0 rfl rfl 3 (by decide) (hts (.fieldLink RX5 36 "KinkStreet$Lines" "ran" "I") (List.mem_of_getElem? (i := 3) rfl)) (fun _ h9 => h9) rfl dX5_call_91 ?_
                  refine lv_iload hx hb dX5_call_94 (lv_at hl 0 rfl) ?_
                  refine va_iast hx hb hK hP hD hS 2 0 rfl rfl (vp_in_iff.mpr ⟨by have := kk_rng p4; omega, by have := kk_rng p4; omega⟩) dX5_call_96 (fun H locs hP hD hS => ?_)
                  generalize upd f2 (n0_ran : Int32).toNatClampNeg 11 = f_209 at hP hD
                  have hP : va_P (dC, dI) vwCl [(h0, Sum.inr (5, [Value.ref h1, Value.int n0_size, Value.ref h2, Value.int n0_ran])), (h1, Sum.inl (cint, 50, Sum.inl f1)), (h2, Sum.inl (cint, 24, Sum.inl f_209))] H := hP
                  have hD : va_D A [(h0, Sum.inr (5, [Value.ref h1, Value.int n0_size, Value.ref h2, Value.int n0_ran])), (h1, Sum.inl (cint, 50, Sum.inl f1)), (h2, Sum.inl (cint, 24, Sum.inl f_209))] := hD
                  exact hcut_206 (f_209) _ _ _ ⟨hP, hD, hS, lv_sub hl [0, 1, 2, 3, 4, 5, 6, 7] rfl⟩
            · have t_201 : 40 < p4.toInt := kk_nle c_201
              refine lv_iconst (v := 0) hx hb dX5_call_63 (by decide) ?_
              obtain ⟨hP9, hD9⟩ := kk_leafout (wc := [(h0, Sum.inr (5, [Value.ref h1, Value.int n0_size, Value.ref h2, Value.int n0_ran])), (h1, Sum.inl (cint, 50, Sum.inl f1)), (h2, Sum.inl (cint, 24, Sum.inl f2))]) hP hD [0, 1, 2] (by decide) rfl
              have hK9 := hK.sub (tys' := []) [] rfl
              exact W.iret (v := 0) hx hb hr (fun t ht hW => ⟨⟨0, (), rfl, trivial, n0_ran, f2, (by show 0 ≤ (n0_ran : Int32).toInt ∧ (n0_ran : Int32).toInt ≤ 1000; first | decide | (constructor <;> (have := kk_rng p4; omega))), (by show (n0_ran : Int32).toInt ≤ (n0_ran : Int32).toInt + 6; first | decide | (have := kk_rng p4; omega)), by rw [ht]; exact hP9, va_K.moved hW.alike hK9, hD9⟩, hS.F ht⟩) hS.2.2 dX5_call_64
  · have t_1 : p1.toInt = 6 := by rw [e_1]; rfl
    subst e_1
    refine lv_iload_n hx hb dX5_call_0 rfl (lv_at hl 2 rfl) ?_
    refine lv_istore (lv' := [(6, .int 6), (0, .ref h0), (1, .int p0), (2, .int 6), (3, .int 2), (4, .int p3), (5, .int p4)]) hx hb dX5_call_1 hl (by decide) rfl (fun ls hl => ?_)
    refine lv_iconst (v := 0) hx hb dX5_call_3 (by decide) ?_
    refine lv_istore (lv' := [(7, .int 0), (6, .int 6), (0, .ref h0), (1, .int p0), (2, .int 6), (3, .int 2), (4, .int p3), (5, .int p4)]) hx hb dX5_call_4 hl (by decide) rfl (fun ls hl => ?_)
    refine lv_iload hx hb dX5_call_6 (lv_at hl 0 rfl) ?_
    refine lv_bipush (v := 8) hx hb dX5_call_8 (by decide) ?_
    refine lv_icmp_ge (tgt := 48) hx hb dX5_call_10 (by decide) (fun c => absurd c (by decide)) (fun _ => ?_)
    refine lv_iload hx hb dX5_call_13 (lv_at hl 1 rfl) ?_
    obtain ⟨hPc, hDc, hFc⟩ := kk_cutout (wc := []) hP hD hS hA [] (by decide) rfl
    have hKc := hK.sub (tys' := []) [] rfl
    refine va_calli (va_runS (As := [.int 6]) (rest := []) ⟨hx, hb, hml, hown, hts⟩ (g_X5_isKind_0 l dC dI s.heap.size 6) (va_cwS 1 hts gX5_call_X5_isKind rfl rfl rfl (by decide +kernel) ⟨Nat.le_of_ble_eq_true rfl, Nat.le_of_ble_eq_true rfl⟩) ⟨fun a U g mk q => by obtain ⟨q0, q1, qP, qK, qD⟩ := q; exact ⟨q0, q1, qP, va_K.moved (u := U) (U := U.calling g mk a) (Vm.Alike.refl U.vm) qK, qD⟩, fun U hU hW => ⟨rfl, by rw [hU], by rw [hU]; exact hPc, va_K.moved hW.alike hKc, hDc.weaken (fun _ _ _ _ => trivial)⟩⟩ rfl rfl hl.1 rfl (lv_room (Nat.le_of_ble_eq_true rfl)) dX5_call_15 ⟨Nat.le_of_ble_eq_true rfl, Nat.le_of_ble_eq_true rfl⟩) hS (fun q _ h => hFc q h) hFc (fun r_210 u t H1 locs ht hvm hw hB hz1 hk1 hS => ?_)
    obtain ⟨hP1, hK1, hD1⟩ := hB
    rw [ht] at hP1
    have hK1 := va_K.moved hvm.symm hK1
    obtain ⟨hP, hD⟩ := va_join (wr := [(h0, Sum.inr (5, [Value.ref h1, Value.int n0_size, Value.ref h2, Value.int n0_ran])), (h1, Sum.inl (cint, 50, Sum.inl f1)), (h2, Sum.inl (cint, 24, Sum.inl f2))]) (w1 := []) hP hD [] [0, 1, 2] rfl rfl (by decide) (by decide) hk1 hFc hP1 hD1
    generalize H1 = H at hP hS ⊢
    have hP : va_P (dC, dI) vwCl [(h0, Sum.inr (5, [Value.ref h1, Value.int n0_size, Value.ref h2, Value.int n0_ran])), (h1, Sum.inl (cint, 50, Sum.inl f1)), (h2, Sum.inl (cint, 24, Sum.inl f2))] H := hP
    have hD : va_D A [(h0, Sum.inr (5, [Value.ref h1, Value.int n0_size, Value.ref h2, Value.int n0_ran])), (h1, Sum.inl (cint, 50, Sum.inl f1)), (h2, Sum.inl (cint, 24, Sum.inl f2))] := hD
    rcases hw with ⟨rfl⟩ | ⟨t_210_0, t_210_1, rfl⟩
    · skip
      refine lv_if_eq (tgt := 48) hx hb dX5_call_18 (by decide) (fun _ => ?_) (fun c => absurd c (by decide))
      refine lv_iload hx hb dX5_call_48 (lv_at hl 1 rfl) ?_
      obtain ⟨hPc, hDc, hFc⟩ := kk_cutout (wc := []) hP hD hS hA [] (by decide) rfl
      have hKc := hK.sub (tys' := []) [] rfl
      refine va_calli (va_runS (As := [.int 6]) (rest := []) ⟨hx, hb, hml, hown, hts⟩ (g_X5_isKind_0 l dC dI H.size 6) (va_cwS 1 hts gX5_call_X5_isKind rfl rfl rfl (by decide +kernel) ⟨Nat.le_of_ble_eq_true rfl, Nat.le_of_ble_eq_true rfl⟩) ⟨fun a U g mk q => by obtain ⟨q0, q1, qP, qK, qD⟩ := q; exact ⟨q0, q1, qP, va_K.moved (u := U) (U := U.calling g mk a) (Vm.Alike.refl U.vm) qK, qD⟩, fun U hU hW => ⟨rfl, by rw [hU], by rw [hU]; exact hPc, va_K.moved hW.alike hKc, hDc.weaken (fun _ _ _ _ => trivial)⟩⟩ rfl rfl hl.1 rfl (lv_room (Nat.le_of_ble_eq_true rfl)) dX5_call_50 ⟨Nat.le_of_ble_eq_true rfl, Nat.le_of_ble_eq_true rfl⟩) hS (fun q _ h => hFc q h) hFc (fun r_211 u t H1 locs ht hvm hw hB hz1 hk1 hS => ?_)
      obtain ⟨hP1, hK1, hD1⟩ := hB
      rw [ht] at hP1
      have hK1 := va_K.moved hvm.symm hK1
      obtain ⟨hP, hD⟩ := va_join (wr := [(h0, Sum.inr (5, [Value.ref h1, Value.int n0_size, Value.ref h2, Value.int n0_ran])), (h1, Sum.inl (cint, 50, Sum.inl f1)), (h2, Sum.inl (cint, 24, Sum.inl f2))]) (w1 := []) hP hD [] [0, 1, 2] rfl rfl (by decide) (by decide) hk1 hFc hP1 hD1
      generalize H1 = H at hP hS ⊢
      have hP : va_P (dC, dI) vwCl [(h0, Sum.inr (5, [Value.ref h1, Value.int n0_size, Value.ref h2, Value.int n0_ran])), (h1, Sum.inl (cint, 50, Sum.inl f1)), (h2, Sum.inl (cint, 24, Sum.inl f2))] H := hP
      have hD : va_D A [(h0, Sum.inr (5, [Value.ref h1, Value.int n0_size, Value.ref h2, Value.int n0_ran])), (h1, Sum.inl (cint, 50, Sum.inl f1)), (h2, Sum.inl (cint, 24, Sum.inl f2))] := hD
      rcases hw with ⟨rfl⟩ | ⟨t_211_0, t_211_1, rfl⟩
      · skip
        refine lv_if_eq (tgt := 63) hx hb dX5_call_53 (by decide) (fun _ => ?_) (fun c => absurd c (by decide))
        refine lv_iconst (v := 0) hx hb dX5_call_63 (by decide) ?_
        obtain ⟨hP9, hD9⟩ := kk_leafout (wc := [(h0, Sum.inr (5, [Value.ref h1, Value.int n0_size, Value.ref h2, Value.int n0_ran])), (h1, Sum.inl (cint, 50, Sum.inl f1)), (h2, Sum.inl (cint, 24, Sum.inl f2))]) hP hD [0, 1, 2] (by decide) rfl
        have hK9 := hK.sub (tys' := []) [] rfl
        exact W.iret (v := 0) hx hb hr (fun t ht hW => ⟨⟨0, (), rfl, trivial, n0_ran, f2, (by show 0 ≤ (n0_ran : Int32).toInt ∧ (n0_ran : Int32).toInt ≤ 1000; first | decide | (constructor <;> (omega))), (by show (n0_ran : Int32).toInt ≤ (n0_ran : Int32).toInt + 6; first | decide | (omega)), by rw [ht]; exact hP9, va_K.moved hW.alike hK9, hD9⟩, hS.F ht⟩) hS.2.2 dX5_call_64
      · skip
        have t_211_0 : (0 : Int) ≤ 6 := t_211_0
        have t_211_1 : (6 : Int) < 8 := t_211_1
        refine lv_if_eq (tgt := 63) hx hb dX5_call_53 (by decide) (fun c => absurd c (by decide)) (fun _ => ?_)
        refine lv_iload hx hb dX5_call_56 (lv_at hl 7 rfl) ?_
        refine lv_bipush (v := 40) hx hb dX5_call_58 (by decide) ?_
        refine lv_icmp_le (tgt := 65) hx hb dX5_call_60 (by decide) (fun c_212 => ?_) (fun c_212 => ?_)
        · have t_212 : p4.toInt ≤ 40 := kk_le c_212
          refine va_gets hx hb hZOWN_BODIES hS hown (hts (.fieldLink RX5 43 "KinkStreet$Lines" "OWN_BODIES" "[I") (List.mem_of_getElem? (i := 1) rfl)) (fun _ h9 => h9) dX5_call_65 ?_
          refine lv_iload hx hb dX5_call_68 (lv_at hl 1 rfl) ?_
          refine lv_iconst (v := 4) hx hb dX5_call_70 (by decide) ?_
          refine lv_imul hx hb dX5_call_71 ?_
          refine lv_topi (fun y_213 e_213 => ?_)
          obtain rfl : y_213 = 24 := e_213.trans (by decide)
          refine lv_iload_n hx hb dX5_call_72 rfl (lv_at hl 5 rfl) ?_
          refine lv_iadd hx hb dX5_call_73 ?_
          refine lv_topi (fun y_214 e_214 => ?_)
          obtain rfl : y_214 = 26 := e_214.trans (by decide)
          refine va_ti (v := .int 0) hx hb hTOWN_BODIES hS (by unfold vp_in; decide) rfl dX5_call_74 ?_
          refine lv_istore (lv' := [(7, .int 0), (6, .int 6), (0, .ref h0), (1, .int p0), (2, .int 6), (3, .int 2), (4, .int p3), (5, .int p4)]) hx hb dX5_call_75 hl (by decide) rfl (fun ls hl => ?_)
          refine lv_aload_n hx hb dX5_call_77 rfl (lv_at hl 2 rfl) ?_
          refine va_get (D := (dC, dI)) (ci := 5) (v := .int n0_ran) (C := RX5) (T := TX5) (N := 4) hx hb hts (fun _ h => List.mem_cons_of_mem _ (List.mem_append_right _ h)) hown hK hP 0 rfl rfl 3 (by decide) (hts (.fieldLink RX5 36 "KinkStreet$Lines" "ran" "I") (List.mem_of_getElem? (i := 3) rfl)) (fun _ h9 => h9) rfl dX5_call_78 ?_
          refine lv_bipush (v := 24) hx hb dX5_call_81 (by decide) ?_
          refine kk_cut (σ := (Nat → Int32)) (pc' := 97) (fun x H locs ls => va_P (dC, dI) vwCl [(h0, Sum.inr (5, [Value.ref h1, Value.int n0_size, Value.ref h2, Value.int n0_ran])), (h1, Sum.inl (cint, 50, Sum.inl f1)), (h2, Sum.inl (cint, 24, Sum.inl x))] H ∧ va_D A [(h0, Sum.inr (5, [Value.ref h1, Value.int n0_size, Value.ref h2, Value.int n0_ran])), (h1, Sum.inl (cint, 50, Sum.inl f1)), (h2, Sum.inl (cint, 24, Sum.inl x))] ∧ va_S A s.heap H locs ∧ lv_has ls 8 [(7, .int 0), (6, .int 6), (0, .ref h0), (1, .int p0), (2, .int 6), (3, .int 2), (4, .int p3), (5, .int p4)]) ?_ (fun hcut_217 => ?_)
          · rintro f_217_0 H locs ls ⟨hP, hD, hS, hl⟩
            have hl : lv_has ls 8 [(7, .int 0), (6, .int 6), (0, .ref h0), (1, .int p0), (2, .int 6), (3, .int 2), (4, .int p3), (5, .int p4)] := hl
            have hP : va_P (dC, dI) vwCl [(h0, Sum.inr (5, [Value.ref h1, Value.int n0_size, Value.ref h2, Value.int n0_ran])), (h1, Sum.inl (cint, 50, Sum.inl f1)), (h2, Sum.inl (cint, 24, Sum.inl f_217_0))] H := hP
            have hD : va_D A [(h0, Sum.inr (5, [Value.ref h1, Value.int n0_size, Value.ref h2, Value.int n0_ran])), (h1, Sum.inl (cint, 50, Sum.inl f1)), (h2, Sum.inl (cint, 24, Sum.inl f_217_0))] := hD
            refine lv_aload_n hx hb dX5_call_97 rfl (lv_at hl 2 rfl) ?_
            refine lv_dup hx hb dX5_call_98 rfl ?_
            refine va_get (D := (dC, dI)) (ci := 5) (v := .int n0_ran) (C := RX5) (T := TX5) (N := 4) hx hb hts (fun _ h => List.mem_cons_of_mem _ (List.mem_append_right _ h)) hown hK hP 0 rfl rfl 3 (by decide) (hts (.fieldLink RX5 36 "KinkStreet$Lines" "ran" "I") (List.mem_of_getElem? (i := 3) rfl)) (fun _ h9 => h9) rfl dX5_call_99 ?_
            refine lv_iconst (v := 1) hx hb dX5_call_102 (by decide) ?_
            refine lv_iadd hx hb dX5_call_103 ?_
            refine va_put (D := (dC, dI)) (ci := 5) (v := .int (n0_ran + 1)) (ty := .int) (C := RX5) (T := TX5) (N := 4) hx hb hts (fun _ h => List.mem_cons_of_mem _ (List.mem_append_right _ h)) tyX5 tyX5_ok nmX5 hown hK hP hD hS 0 rfl rfl 3 (by decide) (hts (.fieldLink RX5 36 "KinkStreet$Lines" "ran" "I") (List.mem_of_getElem? (i := 3) rfl)) (fun _ h9 => h9) rfl (by decide +kernel) rfl rfl (Nat.le_of_ble_eq_true rfl) dX5_call_104 (fun H locs hP hD hS => ?_)
            have hP : va_P (dC, dI) vwCl [(h0, Sum.inr (5, [Value.ref h1, Value.int n0_size, Value.ref h2, Value.int (n0_ran + 1)])), (h1, Sum.inl (cint, 50, Sum.inl f1)), (h2, Sum.inl (cint, 24, Sum.inl f_217_0))] H := hP
            have hD : va_D A [(h0, Sum.inr (5, [Value.ref h1, Value.int n0_size, Value.ref h2, Value.int (n0_ran + 1)])), (h1, Sum.inl (cint, 50, Sum.inl f1)), (h2, Sum.inl (cint, 24, Sum.inl f_217_0))] := hD
            refine lv_iload hx hb dX5_call_107 (lv_at hl 1 rfl) ?_
            refine lv_if_ne (tgt := 128) hx hb dX5_call_109 (by decide) (fun _ => ?_) (fun c => absurd c (by decide))
            refine lv_aload_n hx hb dX5_call_128 rfl (lv_at hl 2 rfl) ?_
            refine lv_iload_n hx hb dX5_call_129 rfl (lv_at hl 3 rfl) ?_
            refine lv_iload hx hb dX5_call_130 (lv_at hl 1 rfl) ?_
            refine lv_iload hx hb dX5_call_132 (lv_at hl 0 rfl) ?_
            refine lv_iload hx hb dX5_call_134 (lv_at hl 6 rfl) ?_
            refine lv_iload hx hb dX5_call_136 (lv_at hl 7 rfl) ?_
            refine lv_iconst (v := 1) hx hb dX5_call_138 (by decide) ?_
            refine lv_iadd hx hb dX5_call_139 ?_
            obtain ⟨hPc, hDc, hFc⟩ := kk_cutout (wc := [(h0, Sum.inr (5, [Value.ref h1, Value.int n0_size, Value.ref h2, Value.int (n0_ran + 1)])), (h1, Sum.inl (cint, 50, Sum.inl f1)), (h2, Sum.inl (cint, 24, Sum.inl f_217_0))]) hP hD hS hA [0, 1, 2] (by decide) rfl
            have hKc := hK.sub (tys' := [(cint, .int)]) [0] rfl
            refine va_calli (va_runV (As := [.int p0, .int 6, .int 0, .int p3, .int (p4 + 1)]) (rest := []) ⟨hx, hb, hml, hown, hts⟩ (g_X5_runUnder_11 l dC dI h0 h1 h2 cint H.size p0 p3 (p4 + 1) n0_size (n0_ran + 1) f1 f_217_0 tn0_size (by show 0 ≤ ((n0_ran + 1) : Int32).toInt ∧ ((n0_ran + 1) : Int32).toInt ≤ 999; first | decide | (constructor <;> (have := kk_rng p4; have := kk_add2 (x := n0_ran) (y := 1) (a := n0_ran.toInt) (b := 1) rfl rfl (by omega) (by omega); have := kk_rng p4; have := kk_add2 (x := p4) (y := 1) (a := p4.toInt) (b := 1) rfl rfl (by omega) (by omega); omega))) bf1 aOWN_BODIES aABOVE) (cwV 5 hts gX5_call_X5_runUnder rfl rfl rfl (by decide +kernel) ⟨Nat.le_of_ble_eq_true rfl, Nat.le_of_ble_eq_true rfl⟩) ⟨fun a U g mk q => by obtain ⟨q0, q1, qP, qK, qD, qx0, qx1, qx2, qx3⟩ := q; exact ⟨q0, q1, qP, va_K.moved (u := U) (U := U.calling g mk a) (Vm.Alike.refl U.vm) qK, qD, va_Z.moved (u := U) (U := U.calling g mk a) (Vm.Alike.refl U.vm) qx0, va_T.moved (u := U) (U := U.calling g mk a) (Vm.Alike.refl U.vm) qx1, va_Z.moved (u := U) (U := U.calling g mk a) (Vm.Alike.refl U.vm) qx2, va_T.moved (u := U) (U := U.calling g mk a) (Vm.Alike.refl U.vm) qx3⟩, va_recv hKc hPc (ci := 5) (q0 := 0) rfl rfl, fun U hU hW => ⟨rfl, by rw [hU], by rw [hU]; exact hPc, va_K.moved hW.alike hKc, hDc.weaken (fun _ _ _ _ => trivial), by rw [hU]; exact ((hZOWN_BODIES.kept (fun a h1 h2 => hS.2.1 a h1 h2)).narrow hFc).moved hW.alike, by rw [hU]; exact ((hTOWN_BODIES.kept (fun a h1 h2 => hS.2.1 a h1 h2)).narrow hFc).moved hW.alike, by rw [hU]; exact ((hZABOVE.kept (fun a h1 h2 => hS.2.1 a h1 h2)).narrow hFc).moved hW.alike, by rw [hU]; exact ((hTABOVE.kept (fun a h1 h2 => hS.2.1 a h1 h2)).narrow hFc).moved hW.alike⟩⟩ rfl rfl hl.1 rfl (lv_room (Nat.le_of_ble_eq_true rfl)) dX5_call_140 ⟨Nat.le_of_ble_eq_true rfl, Nat.le_of_ble_eq_true rfl⟩) hS (fun q _ h => hFc q h) hFc (fun r_218 u t H1 locs ht hvm hw hB hz1 hk1 hS => ?_)
            obtain ⟨y_219, f_220, by_219, v_220_0, hP1, hK1, hD1⟩ := hB
            have v_220_0 : y_219.toInt ≤ (n0_ran + 1).toInt + 1 := v_220_0
            rw [ht] at hP1
            have hK1 := va_K.moved hvm.symm hK1
            obtain ⟨hP, hD⟩ := va_join (wr := []) (w1 := [(h0, Sum.inr (5, [Value.ref h1, Value.int n0_size, Value.ref h2, Value.int y_219])), (h1, Sum.inl (cint, 50, Sum.inl f1)), (h2, Sum.inl (cint, 24, Sum.inl f_220))]) hP hD [0, 1, 2] [] rfl rfl (by decide) (by decide) hk1 hFc hP1 hD1
            generalize H1 = H at hP hS ⊢
            have hP : va_P (dC, dI) vwCl [(h0, Sum.inr (5, [Value.ref h1, Value.int n0_size, Value.ref h2, Value.int y_219])), (h1, Sum.inl (cint, 50, Sum.inl f1)), (h2, Sum.inl (cint, 24, Sum.inl f_220))] H := hP
            have hD : va_D A [(h0, Sum.inr (5, [Value.ref h1, Value.int n0_size, Value.ref h2, Value.int y_219])), (h1, Sum.inl (cint, 50, Sum.inl f1)), (h2, Sum.inl (cint, 24, Sum.inl f_220))] := hD
            obtain ⟨hP9, hD9⟩ := kk_leafout (wc := [(h0, Sum.inr (5, [Value.ref h1, Value.int n0_size, Value.ref h2, Value.int y_219])), (h1, Sum.inl (cint, 50, Sum.inl f1)), (h2, Sum.inl (cint, 24, Sum.inl f_220))]) hP hD [0, 1, 2] (by decide) rfl
            have hK9 := hK.sub (tys' := []) [] rfl
            exact W.iret (v := r_218) hx hb hr (fun t ht hW => ⟨⟨r_218, (), rfl, trivial, y_219, f_220, (by show 0 ≤ (y_219 : Int32).toInt ∧ (y_219 : Int32).toInt ≤ 1000; first | decide | (constructor <;> (have := kk_rng p4; have := kk_add2 (x := n0_ran) (y := 1) (a := n0_ran.toInt) (b := 1) rfl rfl (by omega) (by omega); have := kk_rng p4; have := kk_add2 (x := p4) (y := 1) (a := p4.toInt) (b := 1) rfl rfl (by omega) (by omega); omega))), (by show (y_219 : Int32).toInt ≤ (n0_ran : Int32).toInt + 6; first | decide | (have := kk_rng p4; have := kk_add2 (x := n0_ran) (y := 1) (a := n0_ran.toInt) (b := 1) rfl rfl (by omega) (by omega); have := kk_rng p4; have := kk_add2 (x := p4) (y := 1) (a := p4.toInt) (b := 1) rfl rfl (by omega) (by omega); omega)), by rw [ht]; exact hP9, va_K.moved hW.alike hK9, hD9⟩, hS.F ht⟩) hS.2.2 dX5_call_143
          · skip
            refine lv_icmp_ge (tgt := 97) hx hb dX5_call_83 (by decide) (fun c_221 => ?_) (fun c_221 => ?_)
            · have t_221 : 24 ≤ n0_ran.toInt := kk_le c_221
              exact hcut_217 (f2) _ _ _ ⟨hP, hD, hS, lv_sub hl [0, 1, 2, 3, 4, 5, 6, 7] rfl⟩
            · have t_221 : n0_ran.toInt < 24 := kk_nle c_221
              refine lv_aload_n hx hb dX5_call_86 rfl (lv_at hl 2 rfl) ?_
              refine va_get (D := (dC, dI)) (ci := 5) (v := .ref h2) (C := RX5) (T := TX5) (N := 4) hx hb hts (fun _ h => List.mem_cons_of_mem _ (List.mem_append_right _ h)) hown hK hP 0 rfl rfl 2 (by decide) (hts (.fieldLink RX5 15 "KinkStreet$Lines" "trace" "[I") (List.mem_of_getElem? (i := 4) rfl)) (fun _ h9 => h9) rfl dX5_call_87 ?_
              refine lv_aload_n hx hb dX5_call_90 rfl (lv_at hl 2 rfl) ?_
              refine va_get (D := (dC, dI)) (ci := 5) (v := .int n0_ran) (C := RX5) (T := TX5) (N := 4) hx hb hts (fun _ h => List.mem_cons_of_mem _ (List.mem_append_right _ h)) hown hK hP 0 rfl rfl 3 (by decide) (hts (.fieldLink RX5 36 "KinkStreet$Lines" "ran" "I") (List.mem_of_getElem? (i := 3) rfl)) (fun _ h9 => h9) rfl dX5_call_91 ?_
              refine lv_iload hx hb dX5_call_94 (lv_at hl 0 rfl) ?_
              refine va_iast hx hb hK hP hD hS 2 0 rfl rfl (vp_in_iff.mpr ⟨by have := kk_rng p4; omega, by have := kk_rng p4; omega⟩) dX5_call_96 (fun H locs hP hD hS => ?_)
              generalize upd f2 (n0_ran : Int32).toNatClampNeg 0 = f_222 at hP hD
              have hP : va_P (dC, dI) vwCl [(h0, Sum.inr (5, [Value.ref h1, Value.int n0_size, Value.ref h2, Value.int n0_ran])), (h1, Sum.inl (cint, 50, Sum.inl f1)), (h2, Sum.inl (cint, 24, Sum.inl f_222))] H := hP
              have hD : va_D A [(h0, Sum.inr (5, [Value.ref h1, Value.int n0_size, Value.ref h2, Value.int n0_ran])), (h1, Sum.inl (cint, 50, Sum.inl f1)), (h2, Sum.inl (cint, 24, Sum.inl f_222))] := hD
              exact hcut_217 (f_222) _ _ _ ⟨hP, hD, hS, lv_sub hl [0, 1, 2, 3, 4, 5, 6, 7] rfl⟩
        · have t_212 : 40 < p4.toInt := kk_nle c_212
          refine lv_iconst (v := 0) hx hb dX5_call_63 (by decide) ?_
          obtain ⟨hP9, hD9⟩ := kk_leafout (wc := [(h0, Sum.inr (5, [Value.ref h1, Value.int n0_size, Value.ref h2, Value.int n0_ran])), (h1, Sum.inl (cint, 50, Sum.inl f1)), (h2, Sum.inl (cint, 24, Sum.inl f2))]) hP hD [0, 1, 2] (by decide) rfl
          have hK9 := hK.sub (tys' := []) [] rfl
          exact W.iret (v := 0) hx hb hr (fun t ht hW => ⟨⟨0, (), rfl, trivial, n0_ran, f2, (by show 0 ≤ (n0_ran : Int32).toInt ∧ (n0_ran : Int32).toInt ≤ 1000; first | decide | (constructor <;> (have := kk_rng p4; omega))), (by show (n0_ran : Int32).toInt ≤ (n0_ran : Int32).toInt + 6; first | decide | (have := kk_rng p4; omega)), by rw [ht]; exact hP9, va_K.moved hW.alike hK9, hD9⟩, hS.F ht⟩) hS.2.2 dX5_call_64
    · skip
      have t_210_0 : (0 : Int) ≤ 6 := t_210_0
      have t_210_1 : (6 : Int) < 8 := t_210_1
      refine lv_if_eq (tgt := 48) hx hb dX5_call_18 (by decide) (fun c => absurd c (by decide)) (fun _ => ?_)
      refine va_gets hx hb hZOWN_BODIES hS hown (hts (.fieldLink RX5 43 "KinkStreet$Lines" "OWN_BODIES" "[I") (List.mem_of_getElem? (i := 1) rfl)) (fun _ h9 => h9) dX5_call_21 ?_
      refine lv_iload hx hb dX5_call_24 (lv_at hl 1 rfl) ?_
      refine lv_iconst (v := 4) hx hb dX5_call_26 (by decide) ?_
      refine lv_imul hx hb dX5_call_27 ?_
      refine lv_topi (fun y_223 e_223 => ?_)
      obtain rfl : y_223 = 24 := e_223.trans (by decide)
      refine lv_iload_n hx hb dX5_call_28 rfl (lv_at hl 5 rfl) ?_
      refine lv_iadd hx hb dX5_call_29 ?_
      refine lv_topi (fun y_224 e_224 => ?_)
      obtain rfl : y_224 = 26 := e_224.trans (by decide)
      refine va_ti (v := .int 0) hx hb hTOWN_BODIES hS (by unfold vp_in; decide) rfl dX5_call_30 ?_
      refine lv_if_ne (tgt := 48) hx hb dX5_call_31 (by decide) (fun c => absurd c (by decide)) (fun _ => ?_)
      refine va_gets hx hb hZABOVE hS hown (hts (.fieldLink RX5 22 "KinkStreet$Lines" "ABOVE" "[I") (List.mem_of_getElem? (i := 2) rfl)) (fun _ h9 => h9) dX5_call_34 ?_
      refine lv_iload hx hb dX5_call_37 (lv_at hl 1 rfl) ?_
      refine va_ti (v := .int 0) hx hb hTABOVE hS (by unfold vp_in; decide) rfl dX5_call_39 ?_
      refine lv_istore (lv' := [(6, .int 0), (7, .int 0), (0, .ref h0), (1, .int p0), (2, .int 6), (3, .int 2), (4, .int p3), (5, .int p4)]) hx hb dX5_call_40 hl (by decide) rfl (fun ls hl => ?_)
      refine lv_iinc (v := 1) (lv' := [(7, .int 1), (6, .int 0), (0, .ref h0), (1, .int p0), (2, .int 6), (3, .int 2), (4, .int p3), (5, .int p4)]) hx hb dX5_call_42 hl (k := 1) rfl (by first | rfl | decide) (by decide) rfl (fun ls hl => ?_)
      refine lv_goto (tgt := 6) hx hb dX5_call_45 (by decide) ?_
      refine lv_iload hx hb dX5_call_6 (lv_at hl 0 rfl) ?_
      refine lv_bipush (v := 8) hx hb dX5_call_8 (by decide) ?_
      refine lv_icmp_ge (tgt := 48) hx hb dX5_call_10 (by decide) (fun c => absurd c (by decide)) (fun _ => ?_)
      refine lv_iload hx hb dX5_call_13 (lv_at hl 1 rfl) ?_
      obtain ⟨hPc, hDc, hFc⟩ := kk_cutout (wc := []) hP hD hS hA [] (by decide) rfl
      have hKc := hK.sub (tys' := []) [] rfl
      refine va_calli (va_runS (As := [.int 0]) (rest := []) ⟨hx, hb, hml, hown, hts⟩ (g_X5_isKind_0 l dC dI H.size 0) (va_cwS 1 hts gX5_call_X5_isKind rfl rfl rfl (by decide +kernel) ⟨Nat.le_of_ble_eq_true rfl, Nat.le_of_ble_eq_true rfl⟩) ⟨fun a U g mk q => by obtain ⟨q0, q1, qP, qK, qD⟩ := q; exact ⟨q0, q1, qP, va_K.moved (u := U) (U := U.calling g mk a) (Vm.Alike.refl U.vm) qK, qD⟩, fun U hU hW => ⟨rfl, by rw [hU], by rw [hU]; exact hPc, va_K.moved hW.alike hKc, hDc.weaken (fun _ _ _ _ => trivial)⟩⟩ rfl rfl hl.1 rfl (lv_room (Nat.le_of_ble_eq_true rfl)) dX5_call_15 ⟨Nat.le_of_ble_eq_true rfl, Nat.le_of_ble_eq_true rfl⟩) hS (fun q _ h => hFc q h) hFc (fun r_225 u t H1 locs ht hvm hw hB hz1 hk1 hS => ?_)
      obtain ⟨hP1, hK1, hD1⟩ := hB
      rw [ht] at hP1
      have hK1 := va_K.moved hvm.symm hK1
      obtain ⟨hP, hD⟩ := va_join (wr := [(h0, Sum.inr (5, [Value.ref h1, Value.int n0_size, Value.ref h2, Value.int n0_ran])), (h1, Sum.inl (cint, 50, Sum.inl f1)), (h2, Sum.inl (cint, 24, Sum.inl f2))]) (w1 := []) hP hD [] [0, 1, 2] rfl rfl (by decide) (by decide) hk1 hFc hP1 hD1
      generalize H1 = H at hP hS ⊢
      have hP : va_P (dC, dI) vwCl [(h0, Sum.inr (5, [Value.ref h1, Value.int n0_size, Value.ref h2, Value.int n0_ran])), (h1, Sum.inl (cint, 50, Sum.inl f1)), (h2, Sum.inl (cint, 24, Sum.inl f2))] H := hP
      have hD : va_D A [(h0, Sum.inr (5, [Value.ref h1, Value.int n0_size, Value.ref h2, Value.int n0_ran])), (h1, Sum.inl (cint, 50, Sum.inl f1)), (h2, Sum.inl (cint, 24, Sum.inl f2))] := hD
      rcases hw with ⟨rfl⟩ | ⟨t_225_0, t_225_1, rfl⟩
      · skip
        refine lv_if_eq (tgt := 48) hx hb dX5_call_18 (by decide) (fun _ => ?_) (fun c => absurd c (by decide))
        refine lv_iload hx hb dX5_call_48 (lv_at hl 1 rfl) ?_
        obtain ⟨hPc, hDc, hFc⟩ := kk_cutout (wc := []) hP hD hS hA [] (by decide) rfl
        have hKc := hK.sub (tys' := []) [] rfl
        refine va_calli (va_runS (As := [.int 0]) (rest := []) ⟨hx, hb, hml, hown, hts⟩ (g_X5_isKind_0 l dC dI H.size 0) (va_cwS 1 hts gX5_call_X5_isKind rfl rfl rfl (by decide +kernel) ⟨Nat.le_of_ble_eq_true rfl, Nat.le_of_ble_eq_true rfl⟩) ⟨fun a U g mk q => by obtain ⟨q0, q1, qP, qK, qD⟩ := q; exact ⟨q0, q1, qP, va_K.moved (u := U) (U := U.calling g mk a) (Vm.Alike.refl U.vm) qK, qD⟩, fun U hU hW => ⟨rfl, by rw [hU], by rw [hU]; exact hPc, va_K.moved hW.alike hKc, hDc.weaken (fun _ _ _ _ => trivial)⟩⟩ rfl rfl hl.1 rfl (lv_room (Nat.le_of_ble_eq_true rfl)) dX5_call_50 ⟨Nat.le_of_ble_eq_true rfl, Nat.le_of_ble_eq_true rfl⟩) hS (fun q _ h => hFc q h) hFc (fun r_226 u t H1 locs ht hvm hw hB hz1 hk1 hS => ?_)
        obtain ⟨hP1, hK1, hD1⟩ := hB
        rw [ht] at hP1
        have hK1 := va_K.moved hvm.symm hK1
        obtain ⟨hP, hD⟩ := va_join (wr := [(h0, Sum.inr (5, [Value.ref h1, Value.int n0_size, Value.ref h2, Value.int n0_ran])), (h1, Sum.inl (cint, 50, Sum.inl f1)), (h2, Sum.inl (cint, 24, Sum.inl f2))]) (w1 := []) hP hD [] [0, 1, 2] rfl rfl (by decide) (by decide) hk1 hFc hP1 hD1
        generalize H1 = H at hP hS ⊢
        have hP : va_P (dC, dI) vwCl [(h0, Sum.inr (5, [Value.ref h1, Value.int n0_size, Value.ref h2, Value.int n0_ran])), (h1, Sum.inl (cint, 50, Sum.inl f1)), (h2, Sum.inl (cint, 24, Sum.inl f2))] H := hP
        have hD : va_D A [(h0, Sum.inr (5, [Value.ref h1, Value.int n0_size, Value.ref h2, Value.int n0_ran])), (h1, Sum.inl (cint, 50, Sum.inl f1)), (h2, Sum.inl (cint, 24, Sum.inl f2))] := hD
        rcases hw with ⟨rfl⟩ | ⟨t_226_0, t_226_1, rfl⟩
        · skip
          refine lv_if_eq (tgt := 63) hx hb dX5_call_53 (by decide) (fun _ => ?_) (fun c => absurd c (by decide))
          refine lv_iconst (v := 0) hx hb dX5_call_63 (by decide) ?_
          obtain ⟨hP9, hD9⟩ := kk_leafout (wc := [(h0, Sum.inr (5, [Value.ref h1, Value.int n0_size, Value.ref h2, Value.int n0_ran])), (h1, Sum.inl (cint, 50, Sum.inl f1)), (h2, Sum.inl (cint, 24, Sum.inl f2))]) hP hD [0, 1, 2] (by decide) rfl
          have hK9 := hK.sub (tys' := []) [] rfl
          exact W.iret (v := 0) hx hb hr (fun t ht hW => ⟨⟨0, (), rfl, trivial, n0_ran, f2, (by show 0 ≤ (n0_ran : Int32).toInt ∧ (n0_ran : Int32).toInt ≤ 1000; first | decide | (constructor <;> (omega))), (by show (n0_ran : Int32).toInt ≤ (n0_ran : Int32).toInt + 6; first | decide | (omega)), by rw [ht]; exact hP9, va_K.moved hW.alike hK9, hD9⟩, hS.F ht⟩) hS.2.2 dX5_call_64
        · skip
          have t_226_0 : (0 : Int) ≤ 0 := t_226_0
          have t_226_1 : (0 : Int) < 8 := t_226_1
          refine lv_if_eq (tgt := 63) hx hb dX5_call_53 (by decide) (fun c => absurd c (by decide)) (fun _ => ?_)
          refine lv_iload hx hb dX5_call_56 (lv_at hl 7 rfl) ?_
          refine lv_bipush (v := 40) hx hb dX5_call_58 (by decide) ?_
          refine lv_icmp_le (tgt := 65) hx hb dX5_call_60 (by decide) (fun c_227 => ?_) (fun c_227 => ?_)
          · have t_227 : p4.toInt ≤ 40 := kk_le c_227
            refine va_gets hx hb hZOWN_BODIES hS hown (hts (.fieldLink RX5 43 "KinkStreet$Lines" "OWN_BODIES" "[I") (List.mem_of_getElem? (i := 1) rfl)) (fun _ h9 => h9) dX5_call_65 ?_
            refine lv_iload hx hb dX5_call_68 (lv_at hl 1 rfl) ?_
            refine lv_iconst (v := 4) hx hb dX5_call_70 (by decide) ?_
            refine lv_imul hx hb dX5_call_71 ?_
            refine lv_topi (fun y_228 e_228 => ?_)
            obtain rfl : y_228 = 0 := e_228.trans (by decide)
            refine lv_iload_n hx hb dX5_call_72 rfl (lv_at hl 5 rfl) ?_
            refine lv_iadd hx hb dX5_call_73 ?_
            refine lv_topi (fun y_229 e_229 => ?_)
            obtain rfl : y_229 = 2 := e_229.trans (by decide)
            refine va_ti (v := .int 11) hx hb hTOWN_BODIES hS (by unfold vp_in; decide) rfl dX5_call_74 ?_
            refine lv_istore (lv' := [(7, .int 11), (6, .int 0), (0, .ref h0), (1, .int p0), (2, .int 6), (3, .int 2), (4, .int p3), (5, .int p4)]) hx hb dX5_call_75 hl (by decide) rfl (fun ls hl => ?_)
            refine lv_aload_n hx hb dX5_call_77 rfl (lv_at hl 2 rfl) ?_
            refine va_get (D := (dC, dI)) (ci := 5) (v := .int n0_ran) (C := RX5) (T := TX5) (N := 4) hx hb hts (fun _ h => List.mem_cons_of_mem _ (List.mem_append_right _ h)) hown hK hP 0 rfl rfl 3 (by decide) (hts (.fieldLink RX5 36 "KinkStreet$Lines" "ran" "I") (List.mem_of_getElem? (i := 3) rfl)) (fun _ h9 => h9) rfl dX5_call_78 ?_
            refine lv_bipush (v := 24) hx hb dX5_call_81 (by decide) ?_
            refine kk_cut (σ := (Nat → Int32)) (pc' := 97) (fun x H locs ls => va_P (dC, dI) vwCl [(h0, Sum.inr (5, [Value.ref h1, Value.int n0_size, Value.ref h2, Value.int n0_ran])), (h1, Sum.inl (cint, 50, Sum.inl f1)), (h2, Sum.inl (cint, 24, Sum.inl x))] H ∧ va_D A [(h0, Sum.inr (5, [Value.ref h1, Value.int n0_size, Value.ref h2, Value.int n0_ran])), (h1, Sum.inl (cint, 50, Sum.inl f1)), (h2, Sum.inl (cint, 24, Sum.inl x))] ∧ va_S A s.heap H locs ∧ lv_has ls 8 [(7, .int 11), (6, .int 0), (0, .ref h0), (1, .int p0), (2, .int 6), (3, .int 2), (4, .int p3), (5, .int p4)]) ?_ (fun hcut_232 => ?_)
            · rintro f_232_0 H locs ls ⟨hP, hD, hS, hl⟩
              have hl : lv_has ls 8 [(7, .int 11), (6, .int 0), (0, .ref h0), (1, .int p0), (2, .int 6), (3, .int 2), (4, .int p3), (5, .int p4)] := hl
              have hP : va_P (dC, dI) vwCl [(h0, Sum.inr (5, [Value.ref h1, Value.int n0_size, Value.ref h2, Value.int n0_ran])), (h1, Sum.inl (cint, 50, Sum.inl f1)), (h2, Sum.inl (cint, 24, Sum.inl f_232_0))] H := hP
              have hD : va_D A [(h0, Sum.inr (5, [Value.ref h1, Value.int n0_size, Value.ref h2, Value.int n0_ran])), (h1, Sum.inl (cint, 50, Sum.inl f1)), (h2, Sum.inl (cint, 24, Sum.inl f_232_0))] := hD
              refine lv_aload_n hx hb dX5_call_97 rfl (lv_at hl 2 rfl) ?_
              refine lv_dup hx hb dX5_call_98 rfl ?_
              refine va_get (D := (dC, dI)) (ci := 5) (v := .int n0_ran) (C := RX5) (T := TX5) (N := 4) hx hb hts (fun _ h => List.mem_cons_of_mem _ (List.mem_append_right _ h)) hown hK hP 0 rfl rfl 3 (by decide) (hts (.fieldLink RX5 36 "KinkStreet$Lines" "ran" "I") (List.mem_of_getElem? (i := 3) rfl)) (fun _ h9 => h9) rfl dX5_call_99 ?_
              refine lv_iconst (v := 1) hx hb dX5_call_102 (by decide) ?_
              refine lv_iadd hx hb dX5_call_103 ?_
              refine va_put (D := (dC, dI)) (ci := 5) (v := .int (n0_ran + 1)) (ty := .int) (C := RX5) (T := TX5) (N := 4) hx hb hts (fun _ h => List.mem_cons_of_mem _ (List.mem_append_right _ h)) tyX5 tyX5_ok nmX5 hown hK hP hD hS 0 rfl rfl 3 (by decide) (hts (.fieldLink RX5 36 "KinkStreet$Lines" "ran" "I") (List.mem_of_getElem? (i := 3) rfl)) (fun _ h9 => h9) rfl (by decide +kernel) rfl rfl (Nat.le_of_ble_eq_true rfl) dX5_call_104 (fun H locs hP hD hS => ?_)
              have hP : va_P (dC, dI) vwCl [(h0, Sum.inr (5, [Value.ref h1, Value.int n0_size, Value.ref h2, Value.int (n0_ran + 1)])), (h1, Sum.inl (cint, 50, Sum.inl f1)), (h2, Sum.inl (cint, 24, Sum.inl f_232_0))] H := hP
              have hD : va_D A [(h0, Sum.inr (5, [Value.ref h1, Value.int n0_size, Value.ref h2, Value.int (n0_ran + 1)])), (h1, Sum.inl (cint, 50, Sum.inl f1)), (h2, Sum.inl (cint, 24, Sum.inl f_232_0))] := hD
              refine lv_iload hx hb dX5_call_107 (lv_at hl 1 rfl) ?_
              refine lv_if_ne (tgt := 128) hx hb dX5_call_109 (by decide) (fun c => absurd c (by decide)) (fun _ => ?_)
              refine lv_aload_n hx hb dX5_call_112 rfl (lv_at hl 2 rfl) ?_
              refine lv_iload_n hx hb dX5_call_113 rfl (lv_at hl 3 rfl) ?_
              refine lv_iload hx hb dX5_call_114 (lv_at hl 0 rfl) ?_
              refine lv_iload hx hb dX5_call_116 (lv_at hl 6 rfl) ?_
              refine lv_iload hx hb dX5_call_118 (lv_at hl 7 rfl) ?_
              refine lv_iconst (v := 1) hx hb dX5_call_120 (by decide) ?_
              refine lv_iadd hx hb dX5_call_121 ?_
              obtain ⟨hPc, hDc, hFc⟩ := kk_cutout (wc := [(h0, Sum.inr (5, [Value.ref h1, Value.int n0_size, Value.ref h2, Value.int (n0_ran + 1)])), (h1, Sum.inl (cint, 50, Sum.inl f1))]) hP hD hS hA [0, 1] (by decide) rfl
              have hKc := hK.sub (tys' := [(cint, .int)]) [0] rfl
              refine va_calli (va_runV (As := [.int p0, .int 11, .int p3, .int (p4 + 1)]) (rest := []) ⟨hx, hb, hml, hown, hts⟩ (g_X5_runLine_1 l dC dI h0 h1 h2 cint H.size p0 p3 (p4 + 1) n0_size (n0_ran + 1) f1 tn0_size (by show 0 ≤ ((n0_ran + 1) : Int32).toInt ∧ ((n0_ran + 1) : Int32).toInt ≤ 1000; first | decide | (constructor <;> (have := kk_rng p4; have := kk_add2 (x := n0_ran) (y := 1) (a := n0_ran.toInt) (b := 1) rfl rfl (by omega) (by omega); have := kk_rng p4; have := kk_add2 (x := p4) (y := 1) (a := p4.toInt) (b := 1) rfl rfl (by omega) (by omega); omega))) bf1) (cwV 4 hts gX5_call_X5_runLine rfl rfl rfl (by decide +kernel) ⟨Nat.le_of_ble_eq_true rfl, Nat.le_of_ble_eq_true rfl⟩) ⟨fun a U g mk q => by obtain ⟨q0, q1, qP, qK, qD⟩ := q; exact ⟨q0, q1, qP, va_K.moved (u := U) (U := U.calling g mk a) (Vm.Alike.refl U.vm) qK, qD⟩, va_recv hKc hPc (ci := 5) (q0 := 0) rfl rfl, fun U hU hW => ⟨rfl, by rw [hU], by rw [hU]; exact hPc, va_K.moved hW.alike hKc, hDc.weaken (fun _ _ _ _ => trivial)⟩⟩ rfl rfl hl.1 rfl (lv_room (Nat.le_of_ble_eq_true rfl)) dX5_call_122 ⟨Nat.le_of_ble_eq_true rfl, Nat.le_of_ble_eq_true rfl⟩) hS (fun q _ h => hFc q h) hFc (fun r_233 u t H1 locs ht hvm hw hB hz1 hk1 hS => ?_)
              obtain ⟨hP1, hK1, hD1⟩ := hB
              rw [ht] at hP1
              have hK1 := va_K.moved hvm.symm hK1
              obtain ⟨hP, hD⟩ := va_join (wr := [(h2, Sum.inl (cint, 24, Sum.inl f_232_0))]) (w1 := [(h0, Sum.inr (5, [Value.ref h1, Value.int n0_size, Value.ref h2, Value.int (n0_ran + 1)])), (h1, Sum.inl (cint, 50, Sum.inl f1))]) hP hD [0, 1] [2] rfl rfl (by decide) (by decide) hk1 hFc hP1 hD1
              generalize H1 = H at hP hS ⊢
              have hP : va_P (dC, dI) vwCl [(h2, Sum.inl (cint, 24, Sum.inl f_232_0)), (h0, Sum.inr (5, [Value.ref h1, Value.int n0_size, Value.ref h2, Value.int (n0_ran + 1)])), (h1, Sum.inl (cint, 50, Sum.inl f1))] H := hP
              have hD : va_D A [(h2, Sum.inl (cint, 24, Sum.inl f_232_0)), (h0, Sum.inr (5, [Value.ref h1, Value.int n0_size, Value.ref h2, Value.int (n0_ran + 1)])), (h1, Sum.inl (cint, 50, Sum.inl f1))] := hD
              refine lv_goto (tgt := 143) hx hb dX5_call_125 (by decide) ?_
              obtain ⟨hP9, hD9⟩ := kk_leafout (wc := [(h0, Sum.inr (5, [Value.ref h1, Value.int n0_size, Value.ref h2, Value.int (n0_ran + 1)])), (h1, Sum.inl (cint, 50, Sum.inl f1)), (h2, Sum.inl (cint, 24, Sum.inl f_232_0))]) hP hD [1, 2, 0] (by decide) rfl
              have hK9 := hK.sub (tys' := []) [] rfl
              exact W.iret (v := r_233) hx hb hr (fun t ht hW => ⟨⟨r_233, (), rfl, trivial, (n0_ran + 1), f_232_0, (by show 0 ≤ ((n0_ran + 1) : Int32).toInt ∧ ((n0_ran + 1) : Int32).toInt ≤ 1000; first | decide | (constructor <;> (have := kk_rng p4; have := kk_add2 (x := n0_ran) (y := 1) (a := n0_ran.toInt) (b := 1) rfl rfl (by omega) (by omega); have := kk_rng p4; have := kk_add2 (x := p4) (y := 1) (a := p4.toInt) (b := 1) rfl rfl (by omega) (by omega); omega))), (by show ((n0_ran + 1) : Int32).toInt ≤ (n0_ran : Int32).toInt + 6; first | decide | (have := kk_rng p4; have := kk_add2 (x := n0_ran) (y := 1) (a := n0_ran.toInt) (b := 1) rfl rfl (by omega) (by omega); have := kk_rng p4; have := kk_add2 (x := p4) (y := 1) (a := p4.toInt) (b := 1) rfl rfl (by omega) (by omega); omega)), by rw [ht]; exact hP9, va_K.moved hW.alike hK9, hD9⟩, hS.F ht⟩) hS.2.2 dX5_call_143
            · skip
              refine lv_icmp_ge (tgt := 97) hx hb dX5_call_83 (by decide) (fun c_234 => ?_) (fun c_234 => ?_)
              · have t_234 : 24 ≤ n0_ran.toInt := kk_le c_234
                exact hcut_232 (f2) _ _ _ ⟨hP, hD, hS, lv_sub hl [0, 1, 2, 3, 4, 5, 6, 7] rfl⟩
              · have t_234 : n0_ran.toInt < 24 := kk_nle c_234
                refine lv_aload_n hx hb dX5_call_86 rfl (lv_at hl 2 rfl) ?_
                refine va_get (D := (dC, dI)) (ci := 5) (v := .ref h2) (C := RX5) (T := TX5) (N := 4) hx hb hts (fun _ h => List.mem_cons_of_mem _ (List.mem_append_right _ h)) hown hK hP 0 rfl rfl 2 (by decide) (hts (.fieldLink RX5 15 "KinkStreet$Lines" "trace" "[I") (List.mem_of_getElem? (i := 4) rfl)) (fun _ h9 => h9) rfl dX5_call_87 ?_
                refine lv_aload_n hx hb dX5_call_90 rfl (lv_at hl 2 rfl) ?_
                refine va_get (D := (dC, dI)) (ci := 5) (v := .int n0_ran) (C := RX5) (T := TX5) (N := 4) hx hb hts (fun _ h => List.mem_cons_of_mem _ (List.mem_append_right _ h)) hown hK hP 0 rfl rfl 3 (by decide) (hts (.fieldLink RX5 36 "KinkStreet$Lines" "ran" "I") (List.mem_of_getElem? (i := 3) rfl)) (fun _ h9 => h9) rfl dX5_call_91 ?_
                refine lv_iload hx hb dX5_call_94 (lv_at hl 0 rfl) ?_
                refine va_iast hx hb hK hP hD hS 2 0 rfl rfl (vp_in_iff.mpr ⟨by have := kk_rng p4; omega, by have := kk_rng p4; omega⟩) dX5_call_96 (fun H locs hP hD hS => ?_)
                generalize upd f2 (n0_ran : Int32).toNatClampNeg 11 = f_235 at hP hD
                have hP : va_P (dC, dI) vwCl [(h0, Sum.inr (5, [Value.ref h1, Value.int n0_size, Value.ref h2, Value.int n0_ran])), (h1, Sum.inl (cint, 50, Sum.inl f1)), (h2, Sum.inl (cint, 24, Sum.inl f_235))] H := hP
                have hD : va_D A [(h0, Sum.inr (5, [Value.ref h1, Value.int n0_size, Value.ref h2, Value.int n0_ran])), (h1, Sum.inl (cint, 50, Sum.inl f1)), (h2, Sum.inl (cint, 24, Sum.inl f_235))] := hD
                exact hcut_232 (f_235) _ _ _ ⟨hP, hD, hS, lv_sub hl [0, 1, 2, 3, 4, 5, 6, 7] rfl⟩
          · have t_227 : 40 < p4.toInt := kk_nle c_227
            refine lv_iconst (v := 0) hx hb dX5_call_63 (by decide) ?_
            obtain ⟨hP9, hD9⟩ := kk_leafout (wc := [(h0, Sum.inr (5, [Value.ref h1, Value.int n0_size, Value.ref h2, Value.int n0_ran])), (h1, Sum.inl (cint, 50, Sum.inl f1)), (h2, Sum.inl (cint, 24, Sum.inl f2))]) hP hD [0, 1, 2] (by decide) rfl
            have hK9 := hK.sub (tys' := []) [] rfl
            exact W.iret (v := 0) hx hb hr (fun t ht hW => ⟨⟨0, (), rfl, trivial, n0_ran, f2, (by show 0 ≤ (n0_ran : Int32).toInt ∧ (n0_ran : Int32).toInt ≤ 1000; first | decide | (constructor <;> (have := kk_rng p4; omega))), (by show (n0_ran : Int32).toInt ≤ (n0_ran : Int32).toInt + 6; first | decide | (have := kk_rng p4; omega)), by rw [ht]; exact hP9, va_K.moved hW.alike hK9, hD9⟩, hS.F ht⟩) hS.2.2 dX5_call_64
      · skip
        have t_225_0 : (0 : Int) ≤ 0 := t_225_0
        have t_225_1 : (0 : Int) < 8 := t_225_1
        refine lv_if_eq (tgt := 48) hx hb dX5_call_18 (by decide) (fun c => absurd c (by decide)) (fun _ => ?_)
        refine va_gets hx hb hZOWN_BODIES hS hown (hts (.fieldLink RX5 43 "KinkStreet$Lines" "OWN_BODIES" "[I") (List.mem_of_getElem? (i := 1) rfl)) (fun _ h9 => h9) dX5_call_21 ?_
        refine lv_iload hx hb dX5_call_24 (lv_at hl 1 rfl) ?_
        refine lv_iconst (v := 4) hx hb dX5_call_26 (by decide) ?_
        refine lv_imul hx hb dX5_call_27 ?_
        refine lv_topi (fun y_236 e_236 => ?_)
        obtain rfl : y_236 = 0 := e_236.trans (by decide)
        refine lv_iload_n hx hb dX5_call_28 rfl (lv_at hl 5 rfl) ?_
        refine lv_iadd hx hb dX5_call_29 ?_
        refine lv_topi (fun y_237 e_237 => ?_)
        obtain rfl : y_237 = 2 := e_237.trans (by decide)
        refine va_ti (v := .int 11) hx hb hTOWN_BODIES hS (by unfold vp_in; decide) rfl dX5_call_30 ?_
        refine lv_if_ne (tgt := 48) hx hb dX5_call_31 (by decide) (fun _ => ?_) (fun c => absurd c (by decide))
        refine lv_iload hx hb dX5_call_48 (lv_at hl 1 rfl) ?_
        obtain ⟨hPc, hDc, hFc⟩ := kk_cutout (wc := []) hP hD hS hA [] (by decide) rfl
        have hKc := hK.sub (tys' := []) [] rfl
        refine va_calli (va_runS (As := [.int 0]) (rest := []) ⟨hx, hb, hml, hown, hts⟩ (g_X5_isKind_0 l dC dI H.size 0) (va_cwS 1 hts gX5_call_X5_isKind rfl rfl rfl (by decide +kernel) ⟨Nat.le_of_ble_eq_true rfl, Nat.le_of_ble_eq_true rfl⟩) ⟨fun a U g mk q => by obtain ⟨q0, q1, qP, qK, qD⟩ := q; exact ⟨q0, q1, qP, va_K.moved (u := U) (U := U.calling g mk a) (Vm.Alike.refl U.vm) qK, qD⟩, fun U hU hW => ⟨rfl, by rw [hU], by rw [hU]; exact hPc, va_K.moved hW.alike hKc, hDc.weaken (fun _ _ _ _ => trivial)⟩⟩ rfl rfl hl.1 rfl (lv_room (Nat.le_of_ble_eq_true rfl)) dX5_call_50 ⟨Nat.le_of_ble_eq_true rfl, Nat.le_of_ble_eq_true rfl⟩) hS (fun q _ h => hFc q h) hFc (fun r_238 u t H1 locs ht hvm hw hB hz1 hk1 hS => ?_)
        obtain ⟨hP1, hK1, hD1⟩ := hB
        rw [ht] at hP1
        have hK1 := va_K.moved hvm.symm hK1
        obtain ⟨hP, hD⟩ := va_join (wr := [(h0, Sum.inr (5, [Value.ref h1, Value.int n0_size, Value.ref h2, Value.int n0_ran])), (h1, Sum.inl (cint, 50, Sum.inl f1)), (h2, Sum.inl (cint, 24, Sum.inl f2))]) (w1 := []) hP hD [] [0, 1, 2] rfl rfl (by decide) (by decide) hk1 hFc hP1 hD1
        generalize H1 = H at hP hS ⊢
        have hP : va_P (dC, dI) vwCl [(h0, Sum.inr (5, [Value.ref h1, Value.int n0_size, Value.ref h2, Value.int n0_ran])), (h1, Sum.inl (cint, 50, Sum.inl f1)), (h2, Sum.inl (cint, 24, Sum.inl f2))] H := hP
        have hD : va_D A [(h0, Sum.inr (5, [Value.ref h1, Value.int n0_size, Value.ref h2, Value.int n0_ran])), (h1, Sum.inl (cint, 50, Sum.inl f1)), (h2, Sum.inl (cint, 24, Sum.inl f2))] := hD
        rcases hw with ⟨rfl⟩ | ⟨t_238_0, t_238_1, rfl⟩
        · skip
          refine lv_if_eq (tgt := 63) hx hb dX5_call_53 (by decide) (fun _ => ?_) (fun c => absurd c (by decide))
          refine lv_iconst (v := 0) hx hb dX5_call_63 (by decide) ?_
          obtain ⟨hP9, hD9⟩ := kk_leafout (wc := [(h0, Sum.inr (5, [Value.ref h1, Value.int n0_size, Value.ref h2, Value.int n0_ran])), (h1, Sum.inl (cint, 50, Sum.inl f1)), (h2, Sum.inl (cint, 24, Sum.inl f2))]) hP hD [0, 1, 2] (by decide) rfl
          have hK9 := hK.sub (tys' := []) [] rfl
          exact W.iret (v := 0) hx hb hr (fun t ht hW => ⟨⟨0, (), rfl, trivial, n0_ran, f2, (by show 0 ≤ (n0_ran : Int32).toInt ∧ (n0_ran : Int32).toInt ≤ 1000; first | decide | (constructor <;> (omega))), (by show (n0_ran : Int32).toInt ≤ (n0_ran : Int32).toInt + 6; first | decide | (omega)), by rw [ht]; exact hP9, va_K.moved hW.alike hK9, hD9⟩, hS.F ht⟩) hS.2.2 dX5_call_64
        · skip
          have t_238_0 : (0 : Int) ≤ 0 := t_238_0
          have t_238_1 : (0 : Int) < 8 := t_238_1
          refine lv_if_eq (tgt := 63) hx hb dX5_call_53 (by decide) (fun c => absurd c (by decide)) (fun _ => ?_)
          refine lv_iload hx hb dX5_call_56 (lv_at hl 7 rfl) ?_
          refine lv_bipush (v := 40) hx hb dX5_call_58 (by decide) ?_
          refine lv_icmp_le (tgt := 65) hx hb dX5_call_60 (by decide) (fun c_239 => ?_) (fun c_239 => ?_)
          · have t_239 : p4.toInt ≤ 40 := kk_le c_239
            refine va_gets hx hb hZOWN_BODIES hS hown (hts (.fieldLink RX5 43 "KinkStreet$Lines" "OWN_BODIES" "[I") (List.mem_of_getElem? (i := 1) rfl)) (fun _ h9 => h9) dX5_call_65 ?_
            refine lv_iload hx hb dX5_call_68 (lv_at hl 1 rfl) ?_
            refine lv_iconst (v := 4) hx hb dX5_call_70 (by decide) ?_
            refine lv_imul hx hb dX5_call_71 ?_
            refine lv_topi (fun y_240 e_240 => ?_)
            obtain rfl : y_240 = 0 := e_240.trans (by decide)
            refine lv_iload_n hx hb dX5_call_72 rfl (lv_at hl 5 rfl) ?_
            refine lv_iadd hx hb dX5_call_73 ?_
            refine lv_topi (fun y_241 e_241 => ?_)
            obtain rfl : y_241 = 2 := e_241.trans (by decide)
            refine va_ti (v := .int 11) hx hb hTOWN_BODIES hS (by unfold vp_in; decide) rfl dX5_call_74 ?_
            refine lv_istore (lv' := [(7, .int 11), (6, .int 0), (0, .ref h0), (1, .int p0), (2, .int 6), (3, .int 2), (4, .int p3), (5, .int p4)]) hx hb dX5_call_75 hl (by decide) rfl (fun ls hl => ?_)
            refine lv_aload_n hx hb dX5_call_77 rfl (lv_at hl 2 rfl) ?_
            refine va_get (D := (dC, dI)) (ci := 5) (v := .int n0_ran) (C := RX5) (T := TX5) (N := 4) hx hb hts (fun _ h => List.mem_cons_of_mem _ (List.mem_append_right _ h)) hown hK hP 0 rfl rfl 3 (by decide) (hts (.fieldLink RX5 36 "KinkStreet$Lines" "ran" "I") (List.mem_of_getElem? (i := 3) rfl)) (fun _ h9 => h9) rfl dX5_call_78 ?_
            refine lv_bipush (v := 24) hx hb dX5_call_81 (by decide) ?_
            refine kk_cut (σ := (Nat → Int32)) (pc' := 97) (fun x H locs ls => va_P (dC, dI) vwCl [(h0, Sum.inr (5, [Value.ref h1, Value.int n0_size, Value.ref h2, Value.int n0_ran])), (h1, Sum.inl (cint, 50, Sum.inl f1)), (h2, Sum.inl (cint, 24, Sum.inl x))] H ∧ va_D A [(h0, Sum.inr (5, [Value.ref h1, Value.int n0_size, Value.ref h2, Value.int n0_ran])), (h1, Sum.inl (cint, 50, Sum.inl f1)), (h2, Sum.inl (cint, 24, Sum.inl x))] ∧ va_S A s.heap H locs ∧ lv_has ls 8 [(7, .int 11), (6, .int 0), (0, .ref h0), (1, .int p0), (2, .int 6), (3, .int 2), (4, .int p3), (5, .int p4)]) ?_ (fun hcut_244 => ?_)
            · rintro f_244_0 H locs ls ⟨hP, hD, hS, hl⟩
              have hl : lv_has ls 8 [(7, .int 11), (6, .int 0), (0, .ref h0), (1, .int p0), (2, .int 6), (3, .int 2), (4, .int p3), (5, .int p4)] := hl
              have hP : va_P (dC, dI) vwCl [(h0, Sum.inr (5, [Value.ref h1, Value.int n0_size, Value.ref h2, Value.int n0_ran])), (h1, Sum.inl (cint, 50, Sum.inl f1)), (h2, Sum.inl (cint, 24, Sum.inl f_244_0))] H := hP
              have hD : va_D A [(h0, Sum.inr (5, [Value.ref h1, Value.int n0_size, Value.ref h2, Value.int n0_ran])), (h1, Sum.inl (cint, 50, Sum.inl f1)), (h2, Sum.inl (cint, 24, Sum.inl f_244_0))] := hD
              refine lv_aload_n hx hb dX5_call_97 rfl (lv_at hl 2 rfl) ?_
              refine lv_dup hx hb dX5_call_98 rfl ?_
              refine va_get (D := (dC, dI)) (ci := 5) (v := .int n0_ran) (C := RX5) (T := TX5) (N := 4) hx hb hts (fun _ h => List.mem_cons_of_mem _ (List.mem_append_right _ h)) hown hK hP 0 rfl rfl 3 (by decide) (hts (.fieldLink RX5 36 "KinkStreet$Lines" "ran" "I") (List.mem_of_getElem? (i := 3) rfl)) (fun _ h9 => h9) rfl dX5_call_99 ?_
              refine lv_iconst (v := 1) hx hb dX5_call_102 (by decide) ?_
              refine lv_iadd hx hb dX5_call_103 ?_
              refine va_put (D := (dC, dI)) (ci := 5) (v := .int (n0_ran + 1)) (ty := .int) (C := RX5) (T := TX5) (N := 4) hx hb hts (fun _ h => List.mem_cons_of_mem _ (List.mem_append_right _ h)) tyX5 tyX5_ok nmX5 hown hK hP hD hS 0 rfl rfl 3 (by decide) (hts (.fieldLink RX5 36 "KinkStreet$Lines" "ran" "I") (List.mem_of_getElem? (i := 3) rfl)) (fun _ h9 => h9) rfl (by decide +kernel) rfl rfl (Nat.le_of_ble_eq_true rfl) dX5_call_104 (fun H locs hP hD hS => ?_)
              have hP : va_P (dC, dI) vwCl [(h0, Sum.inr (5, [Value.ref h1, Value.int n0_size, Value.ref h2, Value.int (n0_ran + 1)])), (h1, Sum.inl (cint, 50, Sum.inl f1)), (h2, Sum.inl (cint, 24, Sum.inl f_244_0))] H := hP
              have hD : va_D A [(h0, Sum.inr (5, [Value.ref h1, Value.int n0_size, Value.ref h2, Value.int (n0_ran + 1)])), (h1, Sum.inl (cint, 50, Sum.inl f1)), (h2, Sum.inl (cint, 24, Sum.inl f_244_0))] := hD
              refine lv_iload hx hb dX5_call_107 (lv_at hl 1 rfl) ?_
              refine lv_if_ne (tgt := 128) hx hb dX5_call_109 (by decide) (fun c => absurd c (by decide)) (fun _ => ?_)
              refine lv_aload_n hx hb dX5_call_112 rfl (lv_at hl 2 rfl) ?_
              refine lv_iload_n hx hb dX5_call_113 rfl (lv_at hl 3 rfl) ?_
              refine lv_iload hx hb dX5_call_114 (lv_at hl 0 rfl) ?_
              refine lv_iload hx hb dX5_call_116 (lv_at hl 6 rfl) ?_
              refine lv_iload hx hb dX5_call_118 (lv_at hl 7 rfl) ?_
              refine lv_iconst (v := 1) hx hb dX5_call_120 (by decide) ?_
              refine lv_iadd hx hb dX5_call_121 ?_
              obtain ⟨hPc, hDc, hFc⟩ := kk_cutout (wc := [(h0, Sum.inr (5, [Value.ref h1, Value.int n0_size, Value.ref h2, Value.int (n0_ran + 1)])), (h1, Sum.inl (cint, 50, Sum.inl f1))]) hP hD hS hA [0, 1] (by decide) rfl
              have hKc := hK.sub (tys' := [(cint, .int)]) [0] rfl
              refine va_calli (va_runV (As := [.int p0, .int 11, .int p3, .int (p4 + 1)]) (rest := []) ⟨hx, hb, hml, hown, hts⟩ (g_X5_runLine_1 l dC dI h0 h1 h2 cint H.size p0 p3 (p4 + 1) n0_size (n0_ran + 1) f1 tn0_size (by show 0 ≤ ((n0_ran + 1) : Int32).toInt ∧ ((n0_ran + 1) : Int32).toInt ≤ 1000; first | decide | (constructor <;> (have := kk_rng p4; have := kk_add2 (x := n0_ran) (y := 1) (a := n0_ran.toInt) (b := 1) rfl rfl (by omega) (by omega); have := kk_rng p4; have := kk_add2 (x := p4) (y := 1) (a := p4.toInt) (b := 1) rfl rfl (by omega) (by omega); omega))) bf1) (cwV 4 hts gX5_call_X5_runLine rfl rfl rfl (by decide +kernel) ⟨Nat.le_of_ble_eq_true rfl, Nat.le_of_ble_eq_true rfl⟩) ⟨fun a U g mk q => by obtain ⟨q0, q1, qP, qK, qD⟩ := q; exact ⟨q0, q1, qP, va_K.moved (u := U) (U := U.calling g mk a) (Vm.Alike.refl U.vm) qK, qD⟩, va_recv hKc hPc (ci := 5) (q0 := 0) rfl rfl, fun U hU hW => ⟨rfl, by rw [hU], by rw [hU]; exact hPc, va_K.moved hW.alike hKc, hDc.weaken (fun _ _ _ _ => trivial)⟩⟩ rfl rfl hl.1 rfl (lv_room (Nat.le_of_ble_eq_true rfl)) dX5_call_122 ⟨Nat.le_of_ble_eq_true rfl, Nat.le_of_ble_eq_true rfl⟩) hS (fun q _ h => hFc q h) hFc (fun r_245 u t H1 locs ht hvm hw hB hz1 hk1 hS => ?_)
              obtain ⟨hP1, hK1, hD1⟩ := hB
              rw [ht] at hP1
              have hK1 := va_K.moved hvm.symm hK1
              obtain ⟨hP, hD⟩ := va_join (wr := [(h2, Sum.inl (cint, 24, Sum.inl f_244_0))]) (w1 := [(h0, Sum.inr (5, [Value.ref h1, Value.int n0_size, Value.ref h2, Value.int (n0_ran + 1)])), (h1, Sum.inl (cint, 50, Sum.inl f1))]) hP hD [0, 1] [2] rfl rfl (by decide) (by decide) hk1 hFc hP1 hD1
              generalize H1 = H at hP hS ⊢
              have hP : va_P (dC, dI) vwCl [(h2, Sum.inl (cint, 24, Sum.inl f_244_0)), (h0, Sum.inr (5, [Value.ref h1, Value.int n0_size, Value.ref h2, Value.int (n0_ran + 1)])), (h1, Sum.inl (cint, 50, Sum.inl f1))] H := hP
              have hD : va_D A [(h2, Sum.inl (cint, 24, Sum.inl f_244_0)), (h0, Sum.inr (5, [Value.ref h1, Value.int n0_size, Value.ref h2, Value.int (n0_ran + 1)])), (h1, Sum.inl (cint, 50, Sum.inl f1))] := hD
              refine lv_goto (tgt := 143) hx hb dX5_call_125 (by decide) ?_
              obtain ⟨hP9, hD9⟩ := kk_leafout (wc := [(h0, Sum.inr (5, [Value.ref h1, Value.int n0_size, Value.ref h2, Value.int (n0_ran + 1)])), (h1, Sum.inl (cint, 50, Sum.inl f1)), (h2, Sum.inl (cint, 24, Sum.inl f_244_0))]) hP hD [1, 2, 0] (by decide) rfl
              have hK9 := hK.sub (tys' := []) [] rfl
              exact W.iret (v := r_245) hx hb hr (fun t ht hW => ⟨⟨r_245, (), rfl, trivial, (n0_ran + 1), f_244_0, (by show 0 ≤ ((n0_ran + 1) : Int32).toInt ∧ ((n0_ran + 1) : Int32).toInt ≤ 1000; first | decide | (constructor <;> (have := kk_rng p4; have := kk_add2 (x := n0_ran) (y := 1) (a := n0_ran.toInt) (b := 1) rfl rfl (by omega) (by omega); have := kk_rng p4; have := kk_add2 (x := p4) (y := 1) (a := p4.toInt) (b := 1) rfl rfl (by omega) (by omega); omega))), (by show ((n0_ran + 1) : Int32).toInt ≤ (n0_ran : Int32).toInt + 6; first | decide | (have := kk_rng p4; have := kk_add2 (x := n0_ran) (y := 1) (a := n0_ran.toInt) (b := 1) rfl rfl (by omega) (by omega); have := kk_rng p4; have := kk_add2 (x := p4) (y := 1) (a := p4.toInt) (b := 1) rfl rfl (by omega) (by omega); omega)), by rw [ht]; exact hP9, va_K.moved hW.alike hK9, hD9⟩, hS.F ht⟩) hS.2.2 dX5_call_143
            · skip
              refine lv_icmp_ge (tgt := 97) hx hb dX5_call_83 (by decide) (fun c_246 => ?_) (fun c_246 => ?_)
              · have t_246 : 24 ≤ n0_ran.toInt := kk_le c_246
                exact hcut_244 (f2) _ _ _ ⟨hP, hD, hS, lv_sub hl [0, 1, 2, 3, 4, 5, 6, 7] rfl⟩
              · have t_246 : n0_ran.toInt < 24 := kk_nle c_246
                refine lv_aload_n hx hb dX5_call_86 rfl (lv_at hl 2 rfl) ?_
                refine va_get (D := (dC, dI)) (ci := 5) (v := .ref h2) (C := RX5) (T := TX5) (N := 4) hx hb hts (fun _ h => List.mem_cons_of_mem _ (List.mem_append_right _ h)) hown hK hP 0 rfl rfl 2 (by decide) (hts (.fieldLink RX5 15 "KinkStreet$Lines" "trace" "[I") (List.mem_of_getElem? (i := 4) rfl)) (fun _ h9 => h9) rfl dX5_call_87 ?_
                refine lv_aload_n hx hb dX5_call_90 rfl (lv_at hl 2 rfl) ?_
                refine va_get (D := (dC, dI)) (ci := 5) (v := .int n0_ran) (C := RX5) (T := TX5) (N := 4) hx hb hts (fun _ h => List.mem_cons_of_mem _ (List.mem_append_right _ h)) hown hK hP 0 rfl rfl 3 (by decide) (hts (.fieldLink RX5 36 "KinkStreet$Lines" "ran" "I") (List.mem_of_getElem? (i := 3) rfl)) (fun _ h9 => h9) rfl dX5_call_91 ?_
                refine lv_iload hx hb dX5_call_94 (lv_at hl 0 rfl) ?_
                refine va_iast hx hb hK hP hD hS 2 0 rfl rfl (vp_in_iff.mpr ⟨by have := kk_rng p4; omega, by have := kk_rng p4; omega⟩) dX5_call_96 (fun H locs hP hD hS => ?_)
                generalize upd f2 (n0_ran : Int32).toNatClampNeg 11 = f_247 at hP hD
                have hP : va_P (dC, dI) vwCl [(h0, Sum.inr (5, [Value.ref h1, Value.int n0_size, Value.ref h2, Value.int n0_ran])), (h1, Sum.inl (cint, 50, Sum.inl f1)), (h2, Sum.inl (cint, 24, Sum.inl f_247))] H := hP
                have hD : va_D A [(h0, Sum.inr (5, [Value.ref h1, Value.int n0_size, Value.ref h2, Value.int n0_ran])), (h1, Sum.inl (cint, 50, Sum.inl f1)), (h2, Sum.inl (cint, 24, Sum.inl f_247))] := hD
                exact hcut_244 (f_247) _ _ _ ⟨hP, hD, hS, lv_sub hl [0, 1, 2, 3, 4, 5, 6, 7] rfl⟩
          · have t_239 : 40 < p4.toInt := kk_nle c_239
            refine lv_iconst (v := 0) hx hb dX5_call_63 (by decide) ?_
            obtain ⟨hP9, hD9⟩ := kk_leafout (wc := [(h0, Sum.inr (5, [Value.ref h1, Value.int n0_size, Value.ref h2, Value.int n0_ran])), (h1, Sum.inl (cint, 50, Sum.inl f1)), (h2, Sum.inl (cint, 24, Sum.inl f2))]) hP hD [0, 1, 2] (by decide) rfl
            have hK9 := hK.sub (tys' := []) [] rfl
            exact W.iret (v := 0) hx hb hr (fun t ht hW => ⟨⟨0, (), rfl, trivial, n0_ran, f2, (by show 0 ≤ (n0_ran : Int32).toInt ∧ (n0_ran : Int32).toInt ≤ 1000; first | decide | (constructor <;> (have := kk_rng p4; omega))), (by show (n0_ran : Int32).toInt ≤ (n0_ran : Int32).toInt + 6; first | decide | (have := kk_rng p4; omega)), by rw [ht]; exact hP9, va_K.moved hW.alike hK9, hD9⟩, hS.F ht⟩) hS.2.2 dX5_call_64
  · have t_1 : p1.toInt = 7 := by rw [e_1]; rfl
    subst e_1
    refine lv_iload_n hx hb dX5_call_0 rfl (lv_at hl 2 rfl) ?_
    refine lv_istore (lv' := [(6, .int 7), (0, .ref h0), (1, .int p0), (2, .int 7), (3, .int 2), (4, .int p3), (5, .int p4)]) hx hb dX5_call_1 hl (by decide) rfl (fun ls hl => ?_)
    refine lv_iconst (v := 0) hx hb dX5_call_3 (by decide) ?_
    refine lv_istore (lv' := [(7, .int 0), (6, .int 7), (0, .ref h0), (1, .int p0), (2, .int 7), (3, .int 2), (4, .int p3), (5, .int p4)]) hx hb dX5_call_4 hl (by decide) rfl (fun ls hl => ?_)
    refine lv_iload hx hb dX5_call_6 (lv_at hl 0 rfl) ?_
    refine lv_bipush (v := 8) hx hb dX5_call_8 (by decide) ?_
    refine lv_icmp_ge (tgt := 48) hx hb dX5_call_10 (by decide) (fun c => absurd c (by decide)) (fun _ => ?_)
    refine lv_iload hx hb dX5_call_13 (lv_at hl 1 rfl) ?_
    obtain ⟨hPc, hDc, hFc⟩ := kk_cutout (wc := []) hP hD hS hA [] (by decide) rfl
    have hKc := hK.sub (tys' := []) [] rfl
    refine va_calli (va_runS (As := [.int 7]) (rest := []) ⟨hx, hb, hml, hown, hts⟩ (g_X5_isKind_0 l dC dI s.heap.size 7) (va_cwS 1 hts gX5_call_X5_isKind rfl rfl rfl (by decide +kernel) ⟨Nat.le_of_ble_eq_true rfl, Nat.le_of_ble_eq_true rfl⟩) ⟨fun a U g mk q => by obtain ⟨q0, q1, qP, qK, qD⟩ := q; exact ⟨q0, q1, qP, va_K.moved (u := U) (U := U.calling g mk a) (Vm.Alike.refl U.vm) qK, qD⟩, fun U hU hW => ⟨rfl, by rw [hU], by rw [hU]; exact hPc, va_K.moved hW.alike hKc, hDc.weaken (fun _ _ _ _ => trivial)⟩⟩ rfl rfl hl.1 rfl (lv_room (Nat.le_of_ble_eq_true rfl)) dX5_call_15 ⟨Nat.le_of_ble_eq_true rfl, Nat.le_of_ble_eq_true rfl⟩) hS (fun q _ h => hFc q h) hFc (fun r_248 u t H1 locs ht hvm hw hB hz1 hk1 hS => ?_)
    obtain ⟨hP1, hK1, hD1⟩ := hB
    rw [ht] at hP1
    have hK1 := va_K.moved hvm.symm hK1
    obtain ⟨hP, hD⟩ := va_join (wr := [(h0, Sum.inr (5, [Value.ref h1, Value.int n0_size, Value.ref h2, Value.int n0_ran])), (h1, Sum.inl (cint, 50, Sum.inl f1)), (h2, Sum.inl (cint, 24, Sum.inl f2))]) (w1 := []) hP hD [] [0, 1, 2] rfl rfl (by decide) (by decide) hk1 hFc hP1 hD1
    generalize H1 = H at hP hS ⊢
    have hP : va_P (dC, dI) vwCl [(h0, Sum.inr (5, [Value.ref h1, Value.int n0_size, Value.ref h2, Value.int n0_ran])), (h1, Sum.inl (cint, 50, Sum.inl f1)), (h2, Sum.inl (cint, 24, Sum.inl f2))] H := hP
    have hD : va_D A [(h0, Sum.inr (5, [Value.ref h1, Value.int n0_size, Value.ref h2, Value.int n0_ran])), (h1, Sum.inl (cint, 50, Sum.inl f1)), (h2, Sum.inl (cint, 24, Sum.inl f2))] := hD
    rcases hw with ⟨rfl⟩ | ⟨t_248_0, t_248_1, rfl⟩
    · skip
      refine lv_if_eq (tgt := 48) hx hb dX5_call_18 (by decide) (fun _ => ?_) (fun c => absurd c (by decide))
      refine lv_iload hx hb dX5_call_48 (lv_at hl 1 rfl) ?_
      obtain ⟨hPc, hDc, hFc⟩ := kk_cutout (wc := []) hP hD hS hA [] (by decide) rfl
      have hKc := hK.sub (tys' := []) [] rfl
      refine va_calli (va_runS (As := [.int 7]) (rest := []) ⟨hx, hb, hml, hown, hts⟩ (g_X5_isKind_0 l dC dI H.size 7) (va_cwS 1 hts gX5_call_X5_isKind rfl rfl rfl (by decide +kernel) ⟨Nat.le_of_ble_eq_true rfl, Nat.le_of_ble_eq_true rfl⟩) ⟨fun a U g mk q => by obtain ⟨q0, q1, qP, qK, qD⟩ := q; exact ⟨q0, q1, qP, va_K.moved (u := U) (U := U.calling g mk a) (Vm.Alike.refl U.vm) qK, qD⟩, fun U hU hW => ⟨rfl, by rw [hU], by rw [hU]; exact hPc, va_K.moved hW.alike hKc, hDc.weaken (fun _ _ _ _ => trivial)⟩⟩ rfl rfl hl.1 rfl (lv_room (Nat.le_of_ble_eq_true rfl)) dX5_call_50 ⟨Nat.le_of_ble_eq_true rfl, Nat.le_of_ble_eq_true rfl⟩) hS (fun q _ h => hFc q h) hFc (fun r_249 u t H1 locs ht hvm hw hB hz1 hk1 hS => ?_)
      obtain ⟨hP1, hK1, hD1⟩ := hB
      rw [ht] at hP1
      have hK1 := va_K.moved hvm.symm hK1
      obtain ⟨hP, hD⟩ := va_join (wr := [(h0, Sum.inr (5, [Value.ref h1, Value.int n0_size, Value.ref h2, Value.int n0_ran])), (h1, Sum.inl (cint, 50, Sum.inl f1)), (h2, Sum.inl (cint, 24, Sum.inl f2))]) (w1 := []) hP hD [] [0, 1, 2] rfl rfl (by decide) (by decide) hk1 hFc hP1 hD1
      generalize H1 = H at hP hS ⊢
      have hP : va_P (dC, dI) vwCl [(h0, Sum.inr (5, [Value.ref h1, Value.int n0_size, Value.ref h2, Value.int n0_ran])), (h1, Sum.inl (cint, 50, Sum.inl f1)), (h2, Sum.inl (cint, 24, Sum.inl f2))] H := hP
      have hD : va_D A [(h0, Sum.inr (5, [Value.ref h1, Value.int n0_size, Value.ref h2, Value.int n0_ran])), (h1, Sum.inl (cint, 50, Sum.inl f1)), (h2, Sum.inl (cint, 24, Sum.inl f2))] := hD
      rcases hw with ⟨rfl⟩ | ⟨t_249_0, t_249_1, rfl⟩
      · skip
        refine lv_if_eq (tgt := 63) hx hb dX5_call_53 (by decide) (fun _ => ?_) (fun c => absurd c (by decide))
        refine lv_iconst (v := 0) hx hb dX5_call_63 (by decide) ?_
        obtain ⟨hP9, hD9⟩ := kk_leafout (wc := [(h0, Sum.inr (5, [Value.ref h1, Value.int n0_size, Value.ref h2, Value.int n0_ran])), (h1, Sum.inl (cint, 50, Sum.inl f1)), (h2, Sum.inl (cint, 24, Sum.inl f2))]) hP hD [0, 1, 2] (by decide) rfl
        have hK9 := hK.sub (tys' := []) [] rfl
        exact W.iret (v := 0) hx hb hr (fun t ht hW => ⟨⟨0, (), rfl, trivial, n0_ran, f2, (by show 0 ≤ (n0_ran : Int32).toInt ∧ (n0_ran : Int32).toInt ≤ 1000; first | decide | (constructor <;> (omega))), (by show (n0_ran : Int32).toInt ≤ (n0_ran : Int32).toInt + 6; first | decide | (omega)), by rw [ht]; exact hP9, va_K.moved hW.alike hK9, hD9⟩, hS.F ht⟩) hS.2.2 dX5_call_64
      · skip
        have t_249_0 : (0 : Int) ≤ 7 := t_249_0
        have t_249_1 : (7 : Int) < 8 := t_249_1
        refine lv_if_eq (tgt := 63) hx hb dX5_call_53 (by decide) (fun c => absurd c (by decide)) (fun _ => ?_)
        refine lv_iload hx hb dX5_call_56 (lv_at hl 7 rfl) ?_
        refine lv_bipush (v := 40) hx hb dX5_call_58 (by decide) ?_
        refine lv_icmp_le (tgt := 65) hx hb dX5_call_60 (by decide) (fun c_250 => ?_) (fun c_250 => ?_)
        · have t_250 : p4.toInt ≤ 40 := kk_le c_250
          refine va_gets hx hb hZOWN_BODIES hS hown (hts (.fieldLink RX5 43 "KinkStreet$Lines" "OWN_BODIES" "[I") (List.mem_of_getElem? (i := 1) rfl)) (fun _ h9 => h9) dX5_call_65 ?_
          refine lv_iload hx hb dX5_call_68 (lv_at hl 1 rfl) ?_
          refine lv_iconst (v := 4) hx hb dX5_call_70 (by decide) ?_
          refine lv_imul hx hb dX5_call_71 ?_
          refine lv_topi (fun y_251 e_251 => ?_)
          obtain rfl : y_251 = 28 := e_251.trans (by decide)
          refine lv_iload_n hx hb dX5_call_72 rfl (lv_at hl 5 rfl) ?_
          refine lv_iadd hx hb dX5_call_73 ?_
          refine lv_topi (fun y_252 e_252 => ?_)
          obtain rfl : y_252 = 30 := e_252.trans (by decide)
          refine va_ti (v := .int 81) hx hb hTOWN_BODIES hS (by unfold vp_in; decide) rfl dX5_call_74 ?_
          refine lv_istore (lv' := [(7, .int 81), (6, .int 7), (0, .ref h0), (1, .int p0), (2, .int 7), (3, .int 2), (4, .int p3), (5, .int p4)]) hx hb dX5_call_75 hl (by decide) rfl (fun ls hl => ?_)
          refine lv_aload_n hx hb dX5_call_77 rfl (lv_at hl 2 rfl) ?_
          refine va_get (D := (dC, dI)) (ci := 5) (v := .int n0_ran) (C := RX5) (T := TX5) (N := 4) hx hb hts (fun _ h => List.mem_cons_of_mem _ (List.mem_append_right _ h)) hown hK hP 0 rfl rfl 3 (by decide) (hts (.fieldLink RX5 36 "KinkStreet$Lines" "ran" "I") (List.mem_of_getElem? (i := 3) rfl)) (fun _ h9 => h9) rfl dX5_call_78 ?_
          refine lv_bipush (v := 24) hx hb dX5_call_81 (by decide) ?_
          refine kk_cut (σ := (Nat → Int32)) (pc' := 97) (fun x H locs ls => va_P (dC, dI) vwCl [(h0, Sum.inr (5, [Value.ref h1, Value.int n0_size, Value.ref h2, Value.int n0_ran])), (h1, Sum.inl (cint, 50, Sum.inl f1)), (h2, Sum.inl (cint, 24, Sum.inl x))] H ∧ va_D A [(h0, Sum.inr (5, [Value.ref h1, Value.int n0_size, Value.ref h2, Value.int n0_ran])), (h1, Sum.inl (cint, 50, Sum.inl f1)), (h2, Sum.inl (cint, 24, Sum.inl x))] ∧ va_S A s.heap H locs ∧ lv_has ls 8 [(7, .int 81), (6, .int 7), (0, .ref h0), (1, .int p0), (2, .int 7), (3, .int 2), (4, .int p3), (5, .int p4)]) ?_ (fun hcut_255 => ?_)
          · rintro f_255_0 H locs ls ⟨hP, hD, hS, hl⟩
            have hl : lv_has ls 8 [(7, .int 81), (6, .int 7), (0, .ref h0), (1, .int p0), (2, .int 7), (3, .int 2), (4, .int p3), (5, .int p4)] := hl
            have hP : va_P (dC, dI) vwCl [(h0, Sum.inr (5, [Value.ref h1, Value.int n0_size, Value.ref h2, Value.int n0_ran])), (h1, Sum.inl (cint, 50, Sum.inl f1)), (h2, Sum.inl (cint, 24, Sum.inl f_255_0))] H := hP
            have hD : va_D A [(h0, Sum.inr (5, [Value.ref h1, Value.int n0_size, Value.ref h2, Value.int n0_ran])), (h1, Sum.inl (cint, 50, Sum.inl f1)), (h2, Sum.inl (cint, 24, Sum.inl f_255_0))] := hD
            refine lv_aload_n hx hb dX5_call_97 rfl (lv_at hl 2 rfl) ?_
            refine lv_dup hx hb dX5_call_98 rfl ?_
            refine va_get (D := (dC, dI)) (ci := 5) (v := .int n0_ran) (C := RX5) (T := TX5) (N := 4) hx hb hts (fun _ h => List.mem_cons_of_mem _ (List.mem_append_right _ h)) hown hK hP 0 rfl rfl 3 (by decide) (hts (.fieldLink RX5 36 "KinkStreet$Lines" "ran" "I") (List.mem_of_getElem? (i := 3) rfl)) (fun _ h9 => h9) rfl dX5_call_99 ?_
            refine lv_iconst (v := 1) hx hb dX5_call_102 (by decide) ?_
            refine lv_iadd hx hb dX5_call_103 ?_
            refine va_put (D := (dC, dI)) (ci := 5) (v := .int (n0_ran + 1)) (ty := .int) (C := RX5) (T := TX5) (N := 4) hx hb hts (fun _ h => List.mem_cons_of_mem _ (List.mem_append_right _ h)) tyX5 tyX5_ok nmX5 hown hK hP hD hS 0 rfl rfl 3 (by decide) (hts (.fieldLink RX5 36 "KinkStreet$Lines" "ran" "I") (List.mem_of_getElem? (i := 3) rfl)) (fun _ h9 => h9) rfl (by decide +kernel) rfl rfl (Nat.le_of_ble_eq_true rfl) dX5_call_104 (fun H locs hP hD hS => ?_)
            have hP : va_P (dC, dI) vwCl [(h0, Sum.inr (5, [Value.ref h1, Value.int n0_size, Value.ref h2, Value.int (n0_ran + 1)])), (h1, Sum.inl (cint, 50, Sum.inl f1)), (h2, Sum.inl (cint, 24, Sum.inl f_255_0))] H := hP
            have hD : va_D A [(h0, Sum.inr (5, [Value.ref h1, Value.int n0_size, Value.ref h2, Value.int (n0_ran + 1)])), (h1, Sum.inl (cint, 50, Sum.inl f1)), (h2, Sum.inl (cint, 24, Sum.inl f_255_0))] := hD
            refine lv_iload hx hb dX5_call_107 (lv_at hl 1 rfl) ?_
            refine lv_if_ne (tgt := 128) hx hb dX5_call_109 (by decide) (fun _ => ?_) (fun c => absurd c (by decide))
            refine lv_aload_n hx hb dX5_call_128 rfl (lv_at hl 2 rfl) ?_
            refine lv_iload_n hx hb dX5_call_129 rfl (lv_at hl 3 rfl) ?_
            refine lv_iload hx hb dX5_call_130 (lv_at hl 1 rfl) ?_
            refine lv_iload hx hb dX5_call_132 (lv_at hl 0 rfl) ?_
            refine lv_iload hx hb dX5_call_134 (lv_at hl 6 rfl) ?_
            refine lv_iload hx hb dX5_call_136 (lv_at hl 7 rfl) ?_
            refine lv_iconst (v := 1) hx hb dX5_call_138 (by decide) ?_
            refine lv_iadd hx hb dX5_call_139 ?_
            obtain ⟨hPc, hDc, hFc⟩ := kk_cutout (wc := [(h0, Sum.inr (5, [Value.ref h1, Value.int n0_size, Value.ref h2, Value.int (n0_ran + 1)])), (h1, Sum.inl (cint, 50, Sum.inl f1)), (h2, Sum.inl (cint, 24, Sum.inl f_255_0))]) hP hD hS hA [0, 1, 2] (by decide) rfl
            have hKc := hK.sub (tys' := [(cint, .int)]) [0] rfl
            refine va_calli (va_runV (As := [.int p0, .int 7, .int 81, .int p3, .int (p4 + 1)]) (rest := []) ⟨hx, hb, hml, hown, hts⟩ (g_X5_runUnder_12 l dC dI h0 h1 h2 cint H.size p0 p3 (p4 + 1) n0_size (n0_ran + 1) f1 f_255_0 tn0_size (by show 0 ≤ ((n0_ran + 1) : Int32).toInt ∧ ((n0_ran + 1) : Int32).toInt ≤ 998; first | decide | (constructor <;> (have := kk_rng p4; have := kk_add2 (x := n0_ran) (y := 1) (a := n0_ran.toInt) (b := 1) rfl rfl (by omega) (by omega); have := kk_rng p4; have := kk_add2 (x := p4) (y := 1) (a := p4.toInt) (b := 1) rfl rfl (by omega) (by omega); omega))) bf1 aOWN_BODIES aABOVE) (cwV 5 hts gX5_call_X5_runUnder rfl rfl rfl (by decide +kernel) ⟨Nat.le_of_ble_eq_true rfl, Nat.le_of_ble_eq_true rfl⟩) ⟨fun a U g mk q => by obtain ⟨q0, q1, qP, qK, qD, qx0, qx1, qx2, qx3⟩ := q; exact ⟨q0, q1, qP, va_K.moved (u := U) (U := U.calling g mk a) (Vm.Alike.refl U.vm) qK, qD, va_Z.moved (u := U) (U := U.calling g mk a) (Vm.Alike.refl U.vm) qx0, va_T.moved (u := U) (U := U.calling g mk a) (Vm.Alike.refl U.vm) qx1, va_Z.moved (u := U) (U := U.calling g mk a) (Vm.Alike.refl U.vm) qx2, va_T.moved (u := U) (U := U.calling g mk a) (Vm.Alike.refl U.vm) qx3⟩, va_recv hKc hPc (ci := 5) (q0 := 0) rfl rfl, fun U hU hW => ⟨rfl, by rw [hU], by rw [hU]; exact hPc, va_K.moved hW.alike hKc, hDc.weaken (fun _ _ _ _ => trivial), by rw [hU]; exact ((hZOWN_BODIES.kept (fun a h1 h2 => hS.2.1 a h1 h2)).narrow hFc).moved hW.alike, by rw [hU]; exact ((hTOWN_BODIES.kept (fun a h1 h2 => hS.2.1 a h1 h2)).narrow hFc).moved hW.alike, by rw [hU]; exact ((hZABOVE.kept (fun a h1 h2 => hS.2.1 a h1 h2)).narrow hFc).moved hW.alike, by rw [hU]; exact ((hTABOVE.kept (fun a h1 h2 => hS.2.1 a h1 h2)).narrow hFc).moved hW.alike⟩⟩ rfl rfl hl.1 rfl (lv_room (Nat.le_of_ble_eq_true rfl)) dX5_call_140 ⟨Nat.le_of_ble_eq_true rfl, Nat.le_of_ble_eq_true rfl⟩) hS (fun q _ h => hFc q h) hFc (fun r_256 u t H1 locs ht hvm hw hB hz1 hk1 hS => ?_)
            obtain ⟨y_257, f_258, by_257, v_258_0, hP1, hK1, hD1⟩ := hB
            have v_258_0 : y_257.toInt ≤ (n0_ran + 1).toInt + 2 := v_258_0
            rw [ht] at hP1
            have hK1 := va_K.moved hvm.symm hK1
            obtain ⟨hP, hD⟩ := va_join (wr := []) (w1 := [(h0, Sum.inr (5, [Value.ref h1, Value.int n0_size, Value.ref h2, Value.int y_257])), (h1, Sum.inl (cint, 50, Sum.inl f1)), (h2, Sum.inl (cint, 24, Sum.inl f_258))]) hP hD [0, 1, 2] [] rfl rfl (by decide) (by decide) hk1 hFc hP1 hD1
            generalize H1 = H at hP hS ⊢
            have hP : va_P (dC, dI) vwCl [(h0, Sum.inr (5, [Value.ref h1, Value.int n0_size, Value.ref h2, Value.int y_257])), (h1, Sum.inl (cint, 50, Sum.inl f1)), (h2, Sum.inl (cint, 24, Sum.inl f_258))] H := hP
            have hD : va_D A [(h0, Sum.inr (5, [Value.ref h1, Value.int n0_size, Value.ref h2, Value.int y_257])), (h1, Sum.inl (cint, 50, Sum.inl f1)), (h2, Sum.inl (cint, 24, Sum.inl f_258))] := hD
            obtain ⟨hP9, hD9⟩ := kk_leafout (wc := [(h0, Sum.inr (5, [Value.ref h1, Value.int n0_size, Value.ref h2, Value.int y_257])), (h1, Sum.inl (cint, 50, Sum.inl f1)), (h2, Sum.inl (cint, 24, Sum.inl f_258))]) hP hD [0, 1, 2] (by decide) rfl
            have hK9 := hK.sub (tys' := []) [] rfl
            exact W.iret (v := r_256) hx hb hr (fun t ht hW => ⟨⟨r_256, (), rfl, trivial, y_257, f_258, (by show 0 ≤ (y_257 : Int32).toInt ∧ (y_257 : Int32).toInt ≤ 1000; first | decide | (constructor <;> (have := kk_rng p4; have := kk_add2 (x := n0_ran) (y := 1) (a := n0_ran.toInt) (b := 1) rfl rfl (by omega) (by omega); have := kk_rng p4; have := kk_add2 (x := p4) (y := 1) (a := p4.toInt) (b := 1) rfl rfl (by omega) (by omega); omega))), (by show (y_257 : Int32).toInt ≤ (n0_ran : Int32).toInt + 6; first | decide | (have := kk_rng p4; have := kk_add2 (x := n0_ran) (y := 1) (a := n0_ran.toInt) (b := 1) rfl rfl (by omega) (by omega); have := kk_rng p4; have := kk_add2 (x := p4) (y := 1) (a := p4.toInt) (b := 1) rfl rfl (by omega) (by omega); omega)), by rw [ht]; exact hP9, va_K.moved hW.alike hK9, hD9⟩, hS.F ht⟩) hS.2.2 dX5_call_143
          · skip
            refine lv_icmp_ge (tgt := 97) hx hb dX5_call_83 (by decide) (fun c_259 => ?_) (fun c_259 => ?_)
            · have t_259 : 24 ≤ n0_ran.toInt := kk_le c_259
              exact hcut_255 (f2) _ _ _ ⟨hP, hD, hS, lv_sub hl [0, 1, 2, 3, 4, 5, 6, 7] rfl⟩
            · have t_259 : n0_ran.toInt < 24 := kk_nle c_259
              refine lv_aload_n hx hb dX5_call_86 rfl (lv_at hl 2 rfl) ?_
              refine va_get (D := (dC, dI)) (ci := 5) (v := .ref h2) (C := RX5) (T := TX5) (N := 4) hx hb hts (fun _ h => List.mem_cons_of_mem _ (List.mem_append_right _ h)) hown hK hP 0 rfl rfl 2 (by decide) (hts (.fieldLink RX5 15 "KinkStreet$Lines" "trace" "[I") (List.mem_of_getElem? (i := 4) rfl)) (fun _ h9 => h9) rfl dX5_call_87 ?_
              refine lv_aload_n hx hb dX5_call_90 rfl (lv_at hl 2 rfl) ?_
              refine va_get (D := (dC, dI)) (ci := 5) (v := .int n0_ran) (C := RX5) (T := TX5) (N := 4) hx hb hts (fun _ h => List.mem_cons_of_mem _ (List.mem_append_right _ h)) hown hK hP 0 rfl rfl 3 (by decide) (hts (.fieldLink RX5 36 "KinkStreet$Lines" "ran" "I") (List.mem_of_getElem? (i := 3) rfl)) (fun _ h9 => h9) rfl dX5_call_91 ?_
              refine lv_iload hx hb dX5_call_94 (lv_at hl 0 rfl) ?_
              refine va_iast hx hb hK hP hD hS 2 0 rfl rfl (vp_in_iff.mpr ⟨by have := kk_rng p4; omega, by have := kk_rng p4; omega⟩) dX5_call_96 (fun H locs hP hD hS => ?_)
              generalize upd f2 (n0_ran : Int32).toNatClampNeg 81 = f_260 at hP hD
              have hP : va_P (dC, dI) vwCl [(h0, Sum.inr (5, [Value.ref h1, Value.int n0_size, Value.ref h2, Value.int n0_ran])), (h1, Sum.inl (cint, 50, Sum.inl f1)), (h2, Sum.inl (cint, 24, Sum.inl f_260))] H := hP
              have hD : va_D A [(h0, Sum.inr (5, [Value.ref h1, Value.int n0_size, Value.ref h2, Value.int n0_ran])), (h1, Sum.inl (cint, 50, Sum.inl f1)), (h2, Sum.inl (cint, 24, Sum.inl f_260))] := hD
              exact hcut_255 (f_260) _ _ _ ⟨hP, hD, hS, lv_sub hl [0, 1, 2, 3, 4, 5, 6, 7] rfl⟩
        · have t_250 : 40 < p4.toInt := kk_nle c_250
          refine lv_iconst (v := 0) hx hb dX5_call_63 (by decide) ?_
          obtain ⟨hP9, hD9⟩ := kk_leafout (wc := [(h0, Sum.inr (5, [Value.ref h1, Value.int n0_size, Value.ref h2, Value.int n0_ran])), (h1, Sum.inl (cint, 50, Sum.inl f1)), (h2, Sum.inl (cint, 24, Sum.inl f2))]) hP hD [0, 1, 2] (by decide) rfl
          have hK9 := hK.sub (tys' := []) [] rfl
          exact W.iret (v := 0) hx hb hr (fun t ht hW => ⟨⟨0, (), rfl, trivial, n0_ran, f2, (by show 0 ≤ (n0_ran : Int32).toInt ∧ (n0_ran : Int32).toInt ≤ 1000; first | decide | (constructor <;> (have := kk_rng p4; omega))), (by show (n0_ran : Int32).toInt ≤ (n0_ran : Int32).toInt + 6; first | decide | (have := kk_rng p4; omega)), by rw [ht]; exact hP9, va_K.moved hW.alike hK9, hD9⟩, hS.F ht⟩) hS.2.2 dX5_call_64
    · skip
      have t_248_0 : (0 : Int) ≤ 7 := t_248_0
      have t_248_1 : (7 : Int) < 8 := t_248_1
      refine lv_if_eq (tgt := 48) hx hb dX5_call_18 (by decide) (fun c => absurd c (by decide)) (fun _ => ?_)
      refine va_gets hx hb hZOWN_BODIES hS hown (hts (.fieldLink RX5 43 "KinkStreet$Lines" "OWN_BODIES" "[I") (List.mem_of_getElem? (i := 1) rfl)) (fun _ h9 => h9) dX5_call_21 ?_
      refine lv_iload hx hb dX5_call_24 (lv_at hl 1 rfl) ?_
      refine lv_iconst (v := 4) hx hb dX5_call_26 (by decide) ?_
      refine lv_imul hx hb dX5_call_27 ?_
      refine lv_topi (fun y_261 e_261 => ?_)
      obtain rfl : y_261 = 28 := e_261.trans (by decide)
      refine lv_iload_n hx hb dX5_call_28 rfl (lv_at hl 5 rfl) ?_
      refine lv_iadd hx hb dX5_call_29 ?_
      refine lv_topi (fun y_262 e_262 => ?_)
      obtain rfl : y_262 = 30 := e_262.trans (by decide)
      refine va_ti (v := .int 81) hx hb hTOWN_BODIES hS (by unfold vp_in; decide) rfl dX5_call_30 ?_
      refine lv_if_ne (tgt := 48) hx hb dX5_call_31 (by decide) (fun _ => ?_) (fun c => absurd c (by decide))
      refine lv_iload hx hb dX5_call_48 (lv_at hl 1 rfl) ?_
      obtain ⟨hPc, hDc, hFc⟩ := kk_cutout (wc := []) hP hD hS hA [] (by decide) rfl
      have hKc := hK.sub (tys' := []) [] rfl
      refine va_calli (va_runS (As := [.int 7]) (rest := []) ⟨hx, hb, hml, hown, hts⟩ (g_X5_isKind_0 l dC dI H.size 7) (va_cwS 1 hts gX5_call_X5_isKind rfl rfl rfl (by decide +kernel) ⟨Nat.le_of_ble_eq_true rfl, Nat.le_of_ble_eq_true rfl⟩) ⟨fun a U g mk q => by obtain ⟨q0, q1, qP, qK, qD⟩ := q; exact ⟨q0, q1, qP, va_K.moved (u := U) (U := U.calling g mk a) (Vm.Alike.refl U.vm) qK, qD⟩, fun U hU hW => ⟨rfl, by rw [hU], by rw [hU]; exact hPc, va_K.moved hW.alike hKc, hDc.weaken (fun _ _ _ _ => trivial)⟩⟩ rfl rfl hl.1 rfl (lv_room (Nat.le_of_ble_eq_true rfl)) dX5_call_50 ⟨Nat.le_of_ble_eq_true rfl, Nat.le_of_ble_eq_true rfl⟩) hS (fun q _ h => hFc q h) hFc (fun r_263 u t H1 locs ht hvm hw hB hz1 hk1 hS => ?_)
      obtain ⟨hP1, hK1, hD1⟩ := hB
      rw [ht] at hP1
      have hK1 := va_K.moved hvm.symm hK1
      obtain ⟨hP, hD⟩ := va_join (wr := [(h0, Sum.inr (5, [Value.ref h1, Value.int n0_size, Value.ref h2, Value.int n0_ran])), (h1, Sum.inl (cint, 50, Sum.inl f1)), (h2, Sum.inl (cint, 24, Sum.inl f2))]) (w1 := []) hP hD [] [0, 1, 2] rfl rfl (by decide) (by decide) hk1 hFc hP1 hD1
      generalize H1 = H at hP hS ⊢
      have hP : va_P (dC, dI) vwCl [(h0, Sum.inr (5, [Value.ref h1, Value.int n0_size, Value.ref h2, Value.int n0_ran])), (h1, Sum.inl (cint, 50, Sum.inl f1)), (h2, Sum.inl (cint, 24, Sum.inl f2))] H := hP
      have hD : va_D A [(h0, Sum.inr (5, [Value.ref h1, Value.int n0_size, Value.ref h2, Value.int n0_ran])), (h1, Sum.inl (cint, 50, Sum.inl f1)), (h2, Sum.inl (cint, 24, Sum.inl f2))] := hD
      rcases hw with ⟨rfl⟩ | ⟨t_263_0, t_263_1, rfl⟩
      · skip
        refine lv_if_eq (tgt := 63) hx hb dX5_call_53 (by decide) (fun _ => ?_) (fun c => absurd c (by decide))
        refine lv_iconst (v := 0) hx hb dX5_call_63 (by decide) ?_
        obtain ⟨hP9, hD9⟩ := kk_leafout (wc := [(h0, Sum.inr (5, [Value.ref h1, Value.int n0_size, Value.ref h2, Value.int n0_ran])), (h1, Sum.inl (cint, 50, Sum.inl f1)), (h2, Sum.inl (cint, 24, Sum.inl f2))]) hP hD [0, 1, 2] (by decide) rfl
        have hK9 := hK.sub (tys' := []) [] rfl
        exact W.iret (v := 0) hx hb hr (fun t ht hW => ⟨⟨0, (), rfl, trivial, n0_ran, f2, (by show 0 ≤ (n0_ran : Int32).toInt ∧ (n0_ran : Int32).toInt ≤ 1000; first | decide | (constructor <;> (omega))), (by show (n0_ran : Int32).toInt ≤ (n0_ran : Int32).toInt + 6; first | decide | (omega)), by rw [ht]; exact hP9, va_K.moved hW.alike hK9, hD9⟩, hS.F ht⟩) hS.2.2 dX5_call_64
      · skip
        have t_263_0 : (0 : Int) ≤ 7 := t_263_0
        have t_263_1 : (7 : Int) < 8 := t_263_1
        refine lv_if_eq (tgt := 63) hx hb dX5_call_53 (by decide) (fun c => absurd c (by decide)) (fun _ => ?_)
        refine lv_iload hx hb dX5_call_56 (lv_at hl 7 rfl) ?_
        refine lv_bipush (v := 40) hx hb dX5_call_58 (by decide) ?_
        refine lv_icmp_le (tgt := 65) hx hb dX5_call_60 (by decide) (fun c_264 => ?_) (fun c_264 => ?_)
        · have t_264 : p4.toInt ≤ 40 := kk_le c_264
          refine va_gets hx hb hZOWN_BODIES hS hown (hts (.fieldLink RX5 43 "KinkStreet$Lines" "OWN_BODIES" "[I") (List.mem_of_getElem? (i := 1) rfl)) (fun _ h9 => h9) dX5_call_65 ?_
          refine lv_iload hx hb dX5_call_68 (lv_at hl 1 rfl) ?_
          refine lv_iconst (v := 4) hx hb dX5_call_70 (by decide) ?_
          refine lv_imul hx hb dX5_call_71 ?_
          refine lv_topi (fun y_265 e_265 => ?_)
          obtain rfl : y_265 = 28 := e_265.trans (by decide)
          refine lv_iload_n hx hb dX5_call_72 rfl (lv_at hl 5 rfl) ?_
          refine lv_iadd hx hb dX5_call_73 ?_
          refine lv_topi (fun y_266 e_266 => ?_)
          obtain rfl : y_266 = 30 := e_266.trans (by decide)
          refine va_ti (v := .int 81) hx hb hTOWN_BODIES hS (by unfold vp_in; decide) rfl dX5_call_74 ?_
          refine lv_istore (lv' := [(7, .int 81), (6, .int 7), (0, .ref h0), (1, .int p0), (2, .int 7), (3, .int 2), (4, .int p3), (5, .int p4)]) hx hb dX5_call_75 hl (by decide) rfl (fun ls hl => ?_)
          refine lv_aload_n hx hb dX5_call_77 rfl (lv_at hl 2 rfl) ?_
          refine va_get (D := (dC, dI)) (ci := 5) (v := .int n0_ran) (C := RX5) (T := TX5) (N := 4) hx hb hts (fun _ h => List.mem_cons_of_mem _ (List.mem_append_right _ h)) hown hK hP 0 rfl rfl 3 (by decide) (hts (.fieldLink RX5 36 "KinkStreet$Lines" "ran" "I") (List.mem_of_getElem? (i := 3) rfl)) (fun _ h9 => h9) rfl dX5_call_78 ?_
          refine lv_bipush (v := 24) hx hb dX5_call_81 (by decide) ?_
          refine kk_cut (σ := (Nat → Int32)) (pc' := 97) (fun x H locs ls => va_P (dC, dI) vwCl [(h0, Sum.inr (5, [Value.ref h1, Value.int n0_size, Value.ref h2, Value.int n0_ran])), (h1, Sum.inl (cint, 50, Sum.inl f1)), (h2, Sum.inl (cint, 24, Sum.inl x))] H ∧ va_D A [(h0, Sum.inr (5, [Value.ref h1, Value.int n0_size, Value.ref h2, Value.int n0_ran])), (h1, Sum.inl (cint, 50, Sum.inl f1)), (h2, Sum.inl (cint, 24, Sum.inl x))] ∧ va_S A s.heap H locs ∧ lv_has ls 8 [(7, .int 81), (6, .int 7), (0, .ref h0), (1, .int p0), (2, .int 7), (3, .int 2), (4, .int p3), (5, .int p4)]) ?_ (fun hcut_269 => ?_)
          · rintro f_269_0 H locs ls ⟨hP, hD, hS, hl⟩
            have hl : lv_has ls 8 [(7, .int 81), (6, .int 7), (0, .ref h0), (1, .int p0), (2, .int 7), (3, .int 2), (4, .int p3), (5, .int p4)] := hl
            have hP : va_P (dC, dI) vwCl [(h0, Sum.inr (5, [Value.ref h1, Value.int n0_size, Value.ref h2, Value.int n0_ran])), (h1, Sum.inl (cint, 50, Sum.inl f1)), (h2, Sum.inl (cint, 24, Sum.inl f_269_0))] H := hP
            have hD : va_D A [(h0, Sum.inr (5, [Value.ref h1, Value.int n0_size, Value.ref h2, Value.int n0_ran])), (h1, Sum.inl (cint, 50, Sum.inl f1)), (h2, Sum.inl (cint, 24, Sum.inl f_269_0))] := hD
            refine lv_aload_n hx hb dX5_call_97 rfl (lv_at hl 2 rfl) ?_
            refine lv_dup hx hb dX5_call_98 rfl ?_
            refine va_get (D := (dC, dI)) (ci := 5) (v := .int n0_ran) (C := RX5) (T := TX5) (N := 4) hx hb hts (fun _ h => List.mem_cons_of_mem _ (List.mem_append_right _ h)) hown hK hP 0 rfl rfl 3 (by decide) (hts (.fieldLink RX5 36 "KinkStreet$Lines" "ran" "I") (List.mem_of_getElem? (i := 3) rfl)) (fun _ h9 => h9) rfl dX5_call_99 ?_
            refine lv_iconst (v := 1) hx hb dX5_call_102 (by decide) ?_
            refine lv_iadd hx hb dX5_call_103 ?_
            refine va_put (D := (dC, dI)) (ci := 5) (v := .int (n0_ran + 1)) (ty := .int) (C := RX5) (T := TX5) (N := 4) hx hb hts (fun _ h => List.mem_cons_of_mem _ (List.mem_append_right _ h)) tyX5 tyX5_ok nmX5 hown hK hP hD hS 0 rfl rfl 3 (by decide) (hts (.fieldLink RX5 36 "KinkStreet$Lines" "ran" "I") (List.mem_of_getElem? (i := 3) rfl)) (fun _ h9 => h9) rfl (by decide +kernel) rfl rfl (Nat.le_of_ble_eq_true rfl) dX5_call_104 (fun H locs hP hD hS => ?_)
            have hP : va_P (dC, dI) vwCl [(h0, Sum.inr (5, [Value.ref h1, Value.int n0_size, Value.ref h2, Value.int (n0_ran + 1)])), (h1, Sum.inl (cint, 50, Sum.inl f1)), (h2, Sum.inl (cint, 24, Sum.inl f_269_0))] H := hP
            have hD : va_D A [(h0, Sum.inr (5, [Value.ref h1, Value.int n0_size, Value.ref h2, Value.int (n0_ran + 1)])), (h1, Sum.inl (cint, 50, Sum.inl f1)), (h2, Sum.inl (cint, 24, Sum.inl f_269_0))] := hD
            refine lv_iload hx hb dX5_call_107 (lv_at hl 1 rfl) ?_
            refine lv_if_ne (tgt := 128) hx hb dX5_call_109 (by decide) (fun _ => ?_) (fun c => absurd c (by decide))
            refine lv_aload_n hx hb dX5_call_128 rfl (lv_at hl 2 rfl) ?_
            refine lv_iload_n hx hb dX5_call_129 rfl (lv_at hl 3 rfl) ?_
            refine lv_iload hx hb dX5_call_130 (lv_at hl 1 rfl) ?_
            refine lv_iload hx hb dX5_call_132 (lv_at hl 0 rfl) ?_
            refine lv_iload hx hb dX5_call_134 (lv_at hl 6 rfl) ?_
            refine lv_iload hx hb dX5_call_136 (lv_at hl 7 rfl) ?_
            refine lv_iconst (v := 1) hx hb dX5_call_138 (by decide) ?_
            refine lv_iadd hx hb dX5_call_139 ?_
            obtain ⟨hPc, hDc, hFc⟩ := kk_cutout (wc := [(h0, Sum.inr (5, [Value.ref h1, Value.int n0_size, Value.ref h2, Value.int (n0_ran + 1)])), (h1, Sum.inl (cint, 50, Sum.inl f1)), (h2, Sum.inl (cint, 24, Sum.inl f_269_0))]) hP hD hS hA [0, 1, 2] (by decide) rfl
            have hKc := hK.sub (tys' := [(cint, .int)]) [0] rfl
            refine va_calli (va_runV (As := [.int p0, .int 7, .int 81, .int p3, .int (p4 + 1)]) (rest := []) ⟨hx, hb, hml, hown, hts⟩ (g_X5_runUnder_12 l dC dI h0 h1 h2 cint H.size p0 p3 (p4 + 1) n0_size (n0_ran + 1) f1 f_269_0 tn0_size (by show 0 ≤ ((n0_ran + 1) : Int32).toInt ∧ ((n0_ran + 1) : Int32).toInt ≤ 998; first | decide | (constructor <;> (have := kk_rng p4; have := kk_add2 (x := n0_ran) (y := 1) (a := n0_ran.toInt) (b := 1) rfl rfl (by omega) (by omega); have := kk_rng p4; have := kk_add2 (x := p4) (y := 1) (a := p4.toInt) (b := 1) rfl rfl (by omega) (by omega); omega))) bf1 aOWN_BODIES aABOVE) (cwV 5 hts gX5_call_X5_runUnder rfl rfl rfl (by decide +kernel) ⟨Nat.le_of_ble_eq_true rfl, Nat.le_of_ble_eq_true rfl⟩) ⟨fun a U g mk q => by obtain ⟨q0, q1, qP, qK, qD, qx0, qx1, qx2, qx3⟩ := q; exact ⟨q0, q1, qP, va_K.moved (u := U) (U := U.calling g mk a) (Vm.Alike.refl U.vm) qK, qD, va_Z.moved (u := U) (U := U.calling g mk a) (Vm.Alike.refl U.vm) qx0, va_T.moved (u := U) (U := U.calling g mk a) (Vm.Alike.refl U.vm) qx1, va_Z.moved (u := U) (U := U.calling g mk a) (Vm.Alike.refl U.vm) qx2, va_T.moved (u := U) (U := U.calling g mk a) (Vm.Alike.refl U.vm) qx3⟩, va_recv hKc hPc (ci := 5) (q0 := 0) rfl rfl, fun U hU hW => ⟨rfl, by rw [hU], by rw [hU]; exact hPc, va_K.moved hW.alike hKc, hDc.weaken (fun _ _ _ _ => trivial), by rw [hU]; exact ((hZOWN_BODIES.kept (fun a h1 h2 => hS.2.1 a h1 h2)).narrow hFc).moved hW.alike, by rw [hU]; exact ((hTOWN_BODIES.kept (fun a h1 h2 => hS.2.1 a h1 h2)).narrow hFc).moved hW.alike, by rw [hU]; exact ((hZABOVE.kept (fun a h1 h2 => hS.2.1 a h1 h2)).narrow hFc).moved hW.alike, by rw [hU]; exact ((hTABOVE.kept (fun a h1 h2 => hS.2.1 a h1 h2)).narrow hFc).moved hW.alike⟩⟩ rfl rfl hl.1 rfl (lv_room (Nat.le_of_ble_eq_true rfl)) dX5_call_140 ⟨Nat.le_of_ble_eq_true rfl, Nat.le_of_ble_eq_true rfl⟩) hS (fun q _ h => hFc q h) hFc (fun r_270 u t H1 locs ht hvm hw hB hz1 hk1 hS => ?_)
            obtain ⟨y_271, f_272, by_271, v_272_0, hP1, hK1, hD1⟩ := hB
            have v_272_0 : y_271.toInt ≤ (n0_ran + 1).toInt + 2 := v_272_0
            rw [ht] at hP1
            have hK1 := va_K.moved hvm.symm hK1
            obtain ⟨hP, hD⟩ := va_join (wr := []) (w1 := [(h0, Sum.inr (5, [Value.ref h1, Value.int n0_size, Value.ref h2, Value.int y_271])), (h1, Sum.inl (cint, 50, Sum.inl f1)), (h2, Sum.inl (cint, 24, Sum.inl f_272))]) hP hD [0, 1, 2] [] rfl rfl (by decide) (by decide) hk1 hFc hP1 hD1
            generalize H1 = H at hP hS ⊢
            have hP : va_P (dC, dI) vwCl [(h0, Sum.inr (5, [Value.ref h1, Value.int n0_size, Value.ref h2, Value.int y_271])), (h1, Sum.inl (cint, 50, Sum.inl f1)), (h2, Sum.inl (cint, 24, Sum.inl f_272))] H := hP
            have hD : va_D A [(h0, Sum.inr (5, [Value.ref h1, Value.int n0_size, Value.ref h2, Value.int y_271])), (h1, Sum.inl (cint, 50, Sum.inl f1)), (h2, Sum.inl (cint, 24, Sum.inl f_272))] := hD
            obtain ⟨hP9, hD9⟩ := kk_leafout (wc := [(h0, Sum.inr (5, [Value.ref h1, Value.int n0_size, Value.ref h2, Value.int y_271])), (h1, Sum.inl (cint, 50, Sum.inl f1)), (h2, Sum.inl (cint, 24, Sum.inl f_272))]) hP hD [0, 1, 2] (by decide) rfl
            have hK9 := hK.sub (tys' := []) [] rfl
            exact W.iret (v := r_270) hx hb hr (fun t ht hW => ⟨⟨r_270, (), rfl, trivial, y_271, f_272, (by show 0 ≤ (y_271 : Int32).toInt ∧ (y_271 : Int32).toInt ≤ 1000; first | decide | (constructor <;> (have := kk_rng p4; have := kk_add2 (x := n0_ran) (y := 1) (a := n0_ran.toInt) (b := 1) rfl rfl (by omega) (by omega); have := kk_rng p4; have := kk_add2 (x := p4) (y := 1) (a := p4.toInt) (b := 1) rfl rfl (by omega) (by omega); omega))), (by show (y_271 : Int32).toInt ≤ (n0_ran : Int32).toInt + 6; first | decide | (have := kk_rng p4; have := kk_add2 (x := n0_ran) (y := 1) (a := n0_ran.toInt) (b := 1) rfl rfl (by omega) (by omega); have := kk_rng p4; have := kk_add2 (x := p4) (y := 1) (a := p4.toInt) (b := 1) rfl rfl (by omega) (by omega); omega)), by rw [ht]; exact hP9, va_K.moved hW.alike hK9, hD9⟩, hS.F ht⟩) hS.2.2 dX5_call_143
          · skip
            refine lv_icmp_ge (tgt := 97) hx hb dX5_call_83 (by decide) (fun c_273 => ?_) (fun c_273 => ?_)
            · have t_273 : 24 ≤ n0_ran.toInt := kk_le c_273
              exact hcut_269 (f2) _ _ _ ⟨hP, hD, hS, lv_sub hl [0, 1, 2, 3, 4, 5, 6, 7] rfl⟩
            · have t_273 : n0_ran.toInt < 24 := kk_nle c_273
              refine lv_aload_n hx hb dX5_call_86 rfl (lv_at hl 2 rfl) ?_
              refine va_get (D := (dC, dI)) (ci := 5) (v := .ref h2) (C := RX5) (T := TX5) (N := 4) hx hb hts (fun _ h => List.mem_cons_of_mem _ (List.mem_append_right _ h)) hown hK hP 0 rfl rfl 2 (by decide) (hts (.fieldLink RX5 15 "KinkStreet$Lines" "trace" "[I") (List.mem_of_getElem? (i := 4) rfl)) (fun _ h9 => h9) rfl dX5_call_87 ?_
              refine lv_aload_n hx hb dX5_call_90 rfl (lv_at hl 2 rfl) ?_
              refine va_get (D := (dC, dI)) (ci := 5) (v := .int n0_ran) (C := RX5) (T := TX5) (N := 4) hx hb hts (fun _ h => List.mem_cons_of_mem _ (List.mem_append_right _ h)) hown hK hP 0 rfl rfl 3 (by decide) (hts (.fieldLink RX5 36 "KinkStreet$Lines" "ran" "I") (List.mem_of_getElem? (i := 3) rfl)) (fun _ h9 => h9) rfl dX5_call_91 ?_
              refine lv_iload hx hb dX5_call_94 (lv_at hl 0 rfl) ?_
              refine va_iast hx hb hK hP hD hS 2 0 rfl rfl (vp_in_iff.mpr ⟨by have := kk_rng p4; omega, by have := kk_rng p4; omega⟩) dX5_call_96 (fun H locs hP hD hS => ?_)
              generalize upd f2 (n0_ran : Int32).toNatClampNeg 81 = f_274 at hP hD
              have hP : va_P (dC, dI) vwCl [(h0, Sum.inr (5, [Value.ref h1, Value.int n0_size, Value.ref h2, Value.int n0_ran])), (h1, Sum.inl (cint, 50, Sum.inl f1)), (h2, Sum.inl (cint, 24, Sum.inl f_274))] H := hP
              have hD : va_D A [(h0, Sum.inr (5, [Value.ref h1, Value.int n0_size, Value.ref h2, Value.int n0_ran])), (h1, Sum.inl (cint, 50, Sum.inl f1)), (h2, Sum.inl (cint, 24, Sum.inl f_274))] := hD
              exact hcut_269 (f_274) _ _ _ ⟨hP, hD, hS, lv_sub hl [0, 1, 2, 3, 4, 5, 6, 7] rfl⟩
        · have t_264 : 40 < p4.toInt := kk_nle c_264
          refine lv_iconst (v := 0) hx hb dX5_call_63 (by decide) ?_
          obtain ⟨hP9, hD9⟩ := kk_leafout (wc := [(h0, Sum.inr (5, [Value.ref h1, Value.int n0_size, Value.ref h2, Value.int n0_ran])), (h1, Sum.inl (cint, 50, Sum.inl f1)), (h2, Sum.inl (cint, 24, Sum.inl f2))]) hP hD [0, 1, 2] (by decide) rfl
          have hK9 := hK.sub (tys' := []) [] rfl
          exact W.iret (v := 0) hx hb hr (fun t ht hW => ⟨⟨0, (), rfl, trivial, n0_ran, f2, (by show 0 ≤ (n0_ran : Int32).toInt ∧ (n0_ran : Int32).toInt ≤ 1000; first | decide | (constructor <;> (have := kk_rng p4; omega))), (by show (n0_ran : Int32).toInt ≤ (n0_ran : Int32).toInt + 6; first | decide | (have := kk_rng p4; omega)), by rw [ht]; exact hP9, va_K.moved hW.alike hK9, hD9⟩, hS.F ht⟩) hS.2.2 dX5_call_64
