set_option maxHeartbeats 4000000 in
set_option maxRecDepth 100000 in
theorem g_X5_call_9 (l : Launch) (dC : Nat → ClassId) (dI : Nat → Nat → Nat) (h0 : Nat) (h1 : Nat) (h2 : Nat) (cint : ClassId) (sz : Nat) (p0 : Int32) (p1 : Int32) (p3 : Int32) (p4 : Int32) (tp1 : (-1) ≤ p1.toInt ∧ p1.toInt ≤ 7) (n0_size : Int32) (n0_ran : Int32) (f1 : Nat → Int32) (f2 : Nat → Int32) (tn0_size : 0 ≤ n0_size.toInt ∧ n0_size.toInt ≤ 50) (tn0_ran : 0 ≤ n0_ran.toInt ∧ n0_ran.toInt ≤ 989) (bf1 : ∀ j, j < 50 → 0 ≤ (f1 j).toInt ∧ (f1 j).toInt ≤ 7) (aOWN_BODIES : Nat) (aABOVE : Nat) : Met l yX5_call wsX5_call ({ frames := 11, cells := 0, slots := 0, locals := 283 }) (va_Pc [.ref h0, .int p0, .int p1, .int 1, .int p3, .int p4] (fun U => U.heap.size = sz ∧ va_P (dC, dI) vwCl [(h0, Sum.inr (5, [Value.ref h1, Value.int n0_size, Value.ref h2, Value.int n0_ran])), (h1, Sum.inl (cint, 50, Sum.inl f1)), (h2, Sum.inl (cint, 24, Sum.inl f2))] U.heap ∧ va_K (dC, dI) vwCl [(cint, .int)] U ∧ va_D (fun _ => True) [(h0, Sum.inr (5, [Value.ref h1, Value.int n0_size, Value.ref h2, Value.int n0_ran])), (h1, Sum.inl (cint, 50, Sum.inl f1)), (h2, Sum.inl (cint, 24, Sum.inl f2))] ∧ va_Z "KinkStreet$Lines" "OWN_BODIES" "[I" (.ref aOWN_BODIES) (va_A [(h0, Sum.inr (5, [Value.ref h1, Value.int n0_size, Value.ref h2, Value.int n0_ran])), (h1, Sum.inl (cint, 50, Sum.inl f1)), (h2, Sum.inl (cint, 24, Sum.inl f2))] sz) U U.heap ∧ va_T .int aOWN_BODIES 32 tb_OWN_BODIES (va_A [(h0, Sum.inr (5, [Value.ref h1, Value.int n0_size, Value.ref h2, Value.int n0_ran])), (h1, Sum.inl (cint, 50, Sum.inl f1)), (h2, Sum.inl (cint, 24, Sum.inl f2))] sz) U U.heap ∧ va_Z "KinkStreet$Lines" "ABOVE" "[I" (.ref aABOVE) (va_A [(h0, Sum.inr (5, [Value.ref h1, Value.int n0_size, Value.ref h2, Value.int n0_ran])), (h1, Sum.inl (cint, 50, Sum.inl f1)), (h2, Sum.inl (cint, 24, Sum.inl f2))] sz) U U.heap ∧ va_T .int aABOVE 8 tb_ABOVE (va_A [(h0, Sum.inr (5, [Value.ref h1, Value.int n0_size, Value.ref h2, Value.int n0_ran])), (h1, Sum.inl (cint, 50, Sum.inl f1)), (h2, Sum.inl (cint, 24, Sum.inl f2))] sz) U U.heap)) (va_Qi (fun (r : Int32) (_ : Unit) => True) (fun (_ : Unit) t => ∃ (m0_ran : Int32) (g2 : Nat → Int32), (0 ≤ m0_ran.toInt ∧ m0_ran.toInt ≤ 1000) ∧ (m0_ran.toInt ≤ n0_ran.toInt + 11) ∧ va_P (dC, dI) vwCl [(h0, Sum.inr (5, [Value.ref h1, Value.int n0_size, Value.ref h2, Value.int m0_ran])), (h1, Sum.inl (cint, 50, Sum.inl f1)), (h2, Sum.inl (cint, 24, Sum.inl g2))] t.heap ∧ va_K (dC, dI) vwCl [] t ∧ va_D (va_A [(h0, Sum.inr (5, [Value.ref h1, Value.int n0_size, Value.ref h2, Value.int n0_ran])), (h1, Sum.inl (cint, 50, Sum.inl f1)), (h2, Sum.inl (cint, 24, Sum.inl f2))] sz) [(h0, Sum.inr (5, [Value.ref h1, Value.int n0_size, Value.ref h2, Value.int m0_ran])), (h1, Sum.inl (cint, 50, Sum.inl f1)), (h2, Sum.inl (cint, 24, Sum.inl g2))]) (va_A [(h0, Sum.inr (5, [Value.ref h1, Value.int n0_size, Value.ref h2, Value.int n0_ran])), (h1, Sum.inl (cint, 50, Sum.inl f1)), (h2, Sum.inl (cint, 24, Sum.inl f2))] sz)) 0 0 (va_A [(h0, Sum.inr (5, [Value.ref h1, Value.int n0_size, Value.ref h2, Value.int n0_ran])), (h1, Sum.inl (cint, 50, Sum.inl f1)), (h2, Sum.inl (cint, 24, Sum.inl f2))] sz) := by
  refine Met.ofW (cc := cX5_call) (maxL := 8) (ret := (some .int)) (by decide) rfl ?_
  intro p e s m args below meth c s₁ B hml hv
  obtain ⟨rfl, hsz, hP, hK, hD0, hZOWN_BODIES, hTOWN_BODIES, hZABOVE, hTABOVE⟩ := hv
  have hx := B.exec
  have hb := B.bytes
  have hr := B.returns
  have hts := atoms_spec (ws := wsX5_call) B.pre
  have hown : s.vm.findClass RX5 = some m.cls := findClass_of_methodNamed B.named
  have hlocks := B.notSynchronized
  subst hsz
  have hD := hD0.self (sz := s.heap.size)
  generalize hAe : va_A [(h0, Sum.inr (5, [Value.ref h1, Value.int n0_size, Value.ref h2, Value.int n0_ran])), (h1, Sum.inl (cint, 50, Sum.inl f1)), (h2, Sum.inl (cint, 24, Sum.inl f2))] s.heap.size = A at hD hZOWN_BODIES hTOWN_BODIES hZABOVE hTABOVE ⊢
  have hA : ∀ q : Nat, s.heap.size ≤ q → A q := fun q h => by rw [← hAe]; exact Or.inr h
  have hS : va_S A s.heap s.heap [] := va_S.rf
  have hP : va_P (dC, dI) vwCl [(h0, Sum.inr (5, [Value.ref h1, Value.int n0_size, Value.ref h2, Value.int n0_ran])), (h1, Sum.inl (cint, 50, Sum.inl f1)), (h2, Sum.inl (cint, 24, Sum.inl f2))] s.heap := hP
  have hl := lv_entry ([.ref h0, .int p0, .int p1, .int 1, .int p3, .int p4]) (n := 8) (Nat.le_of_ble_eq_true rfl)
  rw [lg_entry_eq]
  generalize (lg_sl ([.ref h0, .int p0, .int p1, .int 1, .int p3, .int p4]) ++ List.replicate (8 - (lg_sl ([.ref h0, .int p0, .int p1, .int 1, .int p3, .int p4])).length) Slot.unset).toArray = ls at hl ⊢
  have hl : lv_has ls 8 [(0, .ref h0), (1, .int p0), (2, .int p1), (3, .int 1), (4, .int p3), (5, .int p4)] := hl
  rcases (show p1 = (-1) ∨ p1 = 0 ∨ p1 = 1 ∨ p1 = 2 ∨ p1 = 3 ∨ p1 = 4 ∨ p1 = 5 ∨ p1 = 6 ∨ p1 = 7 from by simp only [← Int32.toInt_inj]; simp; omega) with e_1 | e_1 | e_1 | e_1 | e_1 | e_1 | e_1 | e_1 | e_1
  · have t_1 : p1.toInt = (-1) := by rw [e_1]; rfl
    subst e_1
    refine lv_iload_n hx hb dX5_call_0 rfl (lv_at hl 2 rfl) ?_
    refine lv_istore (lv' := [(6, .int (-1)), (0, .ref h0), (1, .int p0), (2, .int (-1)), (3, .int 1), (4, .int p3), (5, .int p4)]) hx hb dX5_call_1 hl (by decide) rfl (fun ls hl => ?_)
    refine lv_iconst (v := 0) hx hb dX5_call_3 (by decide) ?_
    refine lv_istore (lv' := [(7, .int 0), (6, .int (-1)), (0, .ref h0), (1, .int p0), (2, .int (-1)), (3, .int 1), (4, .int p3), (5, .int p4)]) hx hb dX5_call_4 hl (by decide) rfl (fun ls hl => ?_)
    refine lv_iload hx hb dX5_call_6 (lv_at hl 0 rfl) ?_
    refine lv_bipush (v := 8) hx hb dX5_call_8 (by decide) ?_
    refine lv_icmp_ge (tgt := 48) hx hb dX5_call_10 (by decide) (fun c => absurd c (by decide)) (fun _ => ?_)
    refine lv_iload hx hb dX5_call_13 (lv_at hl 1 rfl) ?_
    obtain ⟨hPc, hDc, hFc⟩ := kk_cutout (wc := []) hP hD hS hA [] (by decide) rfl
    have hKc := hK.sub (tys' := []) [] rfl
    refine va_calli (va_runS (As := [.int (-1)]) (rest := []) ⟨hx, hb, hml, hown, hts⟩ (g_X5_isKind_0 l dC dI s.heap.size (-1)) (va_cwS 1 hts gX5_call_X5_isKind rfl rfl rfl (by decide +kernel) ⟨Nat.le_of_ble_eq_true rfl, Nat.le_of_ble_eq_true rfl⟩) ⟨fun a U g mk q => by obtain ⟨q0, q1, qP, qK, qD⟩ := q; exact ⟨q0, q1, qP, va_K.moved (u := U) (U := U.calling g mk a) (Vm.Alike.refl U.vm) qK, qD⟩, fun U hU hW => ⟨rfl, by rw [hU], by rw [hU]; exact hPc, va_K.moved hW.alike hKc, hDc.weaken (fun _ _ _ _ => trivial)⟩⟩ rfl rfl hl.1 rfl (lv_room (Nat.le_of_ble_eq_true rfl)) dX5_call_15 ⟨Nat.le_of_ble_eq_true rfl, Nat.le_of_ble_eq_true rfl⟩) hS (fun q _ h => hFc q h) hFc (fun r_2 u t H1 locs ht hvm hw hB hz1 hk1 hS => ?_)
    obtain ⟨hP1, hK1, hD1⟩ := hB
    rw [ht] at hP1
    have hK1 := va_K.moved hvm.symm hK1
    obtain ⟨hP, hD⟩ := va_join (wr := [(h0, Sum.inr (5, [Value.ref h1, Value.int n0_size, Value.ref h2, Value.int n0_ran])), (h1, Sum.inl (cint, 50, Sum.inl f1)), (h2, Sum.inl (cint, 24, Sum.inl f2))]) (w1 := []) hP hD [] [0, 1, 2] rfl rfl (by decide) (by decide) hk1 hFc hP1 hD1
    generalize H1 = H at hP hS ⊢
    have hP : va_P (dC, dI) vwCl [(h0, Sum.inr (5, [Value.ref h1, Value.int n0_size, Value.ref h2, Value.int n0_ran])), (h1, Sum.inl (cint, 50, Sum.inl f1)), (h2, Sum.inl (cint, 24, Sum.inl f2))] H := hP
    have hD : va_D A [(h0, Sum.inr (5, [Value.ref h1, Value.int n0_size, Value.ref h2, Value.int n0_ran])), (h1, Sum.inl (cint, 50, Sum.inl f1)), (h2, Sum.inl (cint, 24, Sum.inl f2))] := hD
    rcases hw with ⟨rfl⟩ | ⟨t_2_0, t_2_1, rfl⟩
    · skip
      refine lv_if_eq (tgt := 48) hx hb dX5_call_18 (by decide) (fun _ => ?_) (fun c => absurd c (by decide))
      refine lv_iload hx hb dX5_call_48 (lv_at hl 1 rfl) ?_
      obtain ⟨hPc, hDc, hFc⟩ := kk_cutout (wc := []) hP hD hS hA [] (by decide) rfl
      have hKc := hK.sub (tys' := []) [] rfl
      refine va_calli (va_runS (As := [.int (-1)]) (rest := []) ⟨hx, hb, hml, hown, hts⟩ (g_X5_isKind_0 l dC dI H.size (-1)) (va_cwS 1 hts gX5_call_X5_isKind rfl rfl rfl (by decide +kernel) ⟨Nat.le_of_ble_eq_true rfl, Nat.le_of_ble_eq_true rfl⟩) ⟨fun a U g mk q => by obtain ⟨q0, q1, qP, qK, qD⟩ := q; exact ⟨q0, q1, qP, va_K.moved (u := U) (U := U.calling g mk a) (Vm.Alike.refl U.vm) qK, qD⟩, fun U hU hW => ⟨rfl, by rw [hU], by rw [hU]; exact hPc, va_K.moved hW.alike hKc, hDc.weaken (fun _ _ _ _ => trivial)⟩⟩ rfl rfl hl.1 rfl (lv_room (Nat.le_of_ble_eq_true rfl)) dX5_call_50 ⟨Nat.le_of_ble_eq_true rfl, Nat.le_of_ble_eq_true rfl⟩) hS (fun q _ h => hFc q h) hFc (fun r_3 u t H1 locs ht hvm hw hB hz1 hk1 hS => ?_)
      obtain ⟨hP1, hK1, hD1⟩ := hB
      rw [ht] at hP1
      have hK1 := va_K.moved hvm.symm hK1
      obtain ⟨hP, hD⟩ := va_join (wr := [(h0, Sum.inr (5, [Value.ref h1, Value.int n0_size, Value.ref h2, Value.int n0_ran])), (h1, Sum.inl (cint, 50, Sum.inl f1)), (h2, Sum.inl (cint, 24, Sum.inl f2))]) (w1 := []) hP hD [] [0, 1, 2] rfl rfl (by decide) (by decide) hk1 hFc hP1 hD1
      generalize H1 = H at hP hS ⊢
      have hP : va_P (dC, dI) vwCl [(h0, Sum.inr (5, [Value.ref h1, Value.int n0_size, Value.ref h2, Value.int n0_ran])), (h1, Sum.inl (cint, 50, Sum.inl f1)), (h2, Sum.inl (cint, 24, Sum.inl f2))] H := hP
      have hD : va_D A [(h0, Sum.inr (5, [Value.ref h1, Value.int n0_size, Value.ref h2, Value.int n0_ran])), (h1, Sum.inl (cint, 50, Sum.inl f1)), (h2, Sum.inl (cint, 24, Sum.inl f2))] := hD
      rcases hw with ⟨rfl⟩ | ⟨t_3_0, t_3_1, rfl⟩
      · skip
        refine lv_if_eq (tgt := 63) hx hb dX5_call_53 (by decide) (fun _ => ?_) (fun c => absurd c (by decide))
        refine lv_iconst (v := 0) hx hb dX5_call_63 (by decide) ?_
        obtain ⟨hP9, hD9⟩ := kk_leafout (wc := [(h0, Sum.inr (5, [Value.ref h1, Value.int n0_size, Value.ref h2, Value.int n0_ran])), (h1, Sum.inl (cint, 50, Sum.inl f1)), (h2, Sum.inl (cint, 24, Sum.inl f2))]) hP hD [0, 1, 2] (by decide) rfl
        have hK9 := hK.sub (tys' := []) [] rfl
        exact W.iret (v := 0) hx hb hr (fun t ht hW => ⟨⟨0, (), rfl, trivial, n0_ran, f2, (by show 0 ≤ (n0_ran : Int32).toInt ∧ (n0_ran : Int32).toInt ≤ 1000; first | decide | (constructor <;> (omega))), (by show (n0_ran : Int32).toInt ≤ (n0_ran : Int32).toInt + 11; first | decide | (omega)), by rw [ht]; exact hP9, va_K.moved hW.alike hK9, hD9⟩, hS.F ht⟩) hS.2.2 dX5_call_64
      · have t_3_0 : (0 : Int) ≤ (-1) := t_3_0; have t_3_1 : ((-1) : Int) < 8 := t_3_1; exfalso; omega
    · have t_2_0 : (0 : Int) ≤ (-1) := t_2_0; have t_2_1 : ((-1) : Int) < 8 := t_2_1; exfalso; omega
  · have t_1 : p1.toInt = 0 := by rw [e_1]; rfl
    subst e_1
    refine lv_iload_n hx hb dX5_call_0 rfl (lv_at hl 2 rfl) ?_
    refine lv_istore (lv' := [(6, .int 0), (0, .ref h0), (1, .int p0), (2, .int 0), (3, .int 1), (4, .int p3), (5, .int p4)]) hx hb dX5_call_1 hl (by decide) rfl (fun ls hl => ?_)
    refine lv_iconst (v := 0) hx hb dX5_call_3 (by decide) ?_
    refine lv_istore (lv' := [(7, .int 0), (6, .int 0), (0, .ref h0), (1, .int p0), (2, .int 0), (3, .int 1), (4, .int p3), (5, .int p4)]) hx hb dX5_call_4 hl (by decide) rfl (fun ls hl => ?_)
    refine lv_iload hx hb dX5_call_6 (lv_at hl 0 rfl) ?_
    refine lv_bipush (v := 8) hx hb dX5_call_8 (by decide) ?_
    refine lv_icmp_ge (tgt := 48) hx hb dX5_call_10 (by decide) (fun c => absurd c (by decide)) (fun _ => ?_)
    refine lv_iload hx hb dX5_call_13 (lv_at hl 1 rfl) ?_
    obtain ⟨hPc, hDc, hFc⟩ := kk_cutout (wc := []) hP hD hS hA [] (by decide) rfl
    have hKc := hK.sub (tys' := []) [] rfl
    refine va_calli (va_runS (As := [.int 0]) (rest := []) ⟨hx, hb, hml, hown, hts⟩ (g_X5_isKind_0 l dC dI s.heap.size 0) (va_cwS 1 hts gX5_call_X5_isKind rfl rfl rfl (by decide +kernel) ⟨Nat.le_of_ble_eq_true rfl, Nat.le_of_ble_eq_true rfl⟩) ⟨fun a U g mk q => by obtain ⟨q0, q1, qP, qK, qD⟩ := q; exact ⟨q0, q1, qP, va_K.moved (u := U) (U := U.calling g mk a) (Vm.Alike.refl U.vm) qK, qD⟩, fun U hU hW => ⟨rfl, by rw [hU], by rw [hU]; exact hPc, va_K.moved hW.alike hKc, hDc.weaken (fun _ _ _ _ => trivial)⟩⟩ rfl rfl hl.1 rfl (lv_room (Nat.le_of_ble_eq_true rfl)) dX5_call_15 ⟨Nat.le_of_ble_eq_true rfl, Nat.le_of_ble_eq_true rfl⟩) hS (fun q _ h => hFc q h) hFc (fun r_4 u t H1 locs ht hvm hw hB hz1 hk1 hS => ?_)
    obtain ⟨hP1, hK1, hD1⟩ := hB
    rw [ht] at hP1
    have hK1 := va_K.moved hvm.symm hK1
    obtain ⟨hP, hD⟩ := va_join (wr := [(h0, Sum.inr (5, [Value.ref h1, Value.int n0_size, Value.ref h2, Value.int n0_ran])), (h1, Sum.inl (cint, 50, Sum.inl f1)), (h2, Sum.inl (cint, 24, Sum.inl f2))]) (w1 := []) hP hD [] [0, 1, 2] rfl rfl (by decide) (by decide) hk1 hFc hP1 hD1
    generalize H1 = H at hP hS ⊢
    have hP : va_P (dC, dI) vwCl [(h0, Sum.inr (5, [Value.ref h1, Value.int n0_size, Value.ref h2, Value.int n0_ran])), (h1, Sum.inl (cint, 50, Sum.inl f1)), (h2, Sum.inl (cint, 24, Sum.inl f2))] H := hP
    have hD : va_D A [(h0, Sum.inr (5, [Value.ref h1, Value.int n0_size, Value.ref h2, Value.int n0_ran])), (h1, Sum.inl (cint, 50, Sum.inl f1)), (h2, Sum.inl (cint, 24, Sum.inl f2))] := hD
    rcases hw with ⟨rfl⟩ | ⟨t_4_0, t_4_1, rfl⟩
    · skip
      refine lv_if_eq (tgt := 48) hx hb dX5_call_18 (by decide) (fun _ => ?_) (fun c => absurd c (by decide))
      refine lv_iload hx hb dX5_call_48 (lv_at hl 1 rfl) ?_
      obtain ⟨hPc, hDc, hFc⟩ := kk_cutout (wc := []) hP hD hS hA [] (by decide) rfl
      have hKc := hK.sub (tys' := []) [] rfl
      refine va_calli (va_runS (As := [.int 0]) (rest := []) ⟨hx, hb, hml, hown, hts⟩ (g_X5_isKind_0 l dC dI H.size 0) (va_cwS 1 hts gX5_call_X5_isKind rfl rfl rfl (by decide +kernel) ⟨Nat.le_of_ble_eq_true rfl, Nat.le_of_ble_eq_true rfl⟩) ⟨fun a U g mk q => by obtain ⟨q0, q1, qP, qK, qD⟩ := q; exact ⟨q0, q1, qP, va_K.moved (u := U) (U := U.calling g mk a) (Vm.Alike.refl U.vm) qK, qD⟩, fun U hU hW => ⟨rfl, by rw [hU], by rw [hU]; exact hPc, va_K.moved hW.alike hKc, hDc.weaken (fun _ _ _ _ => trivial)⟩⟩ rfl rfl hl.1 rfl (lv_room (Nat.le_of_ble_eq_true rfl)) dX5_call_50 ⟨Nat.le_of_ble_eq_true rfl, Nat.le_of_ble_eq_true rfl⟩) hS (fun q _ h => hFc q h) hFc (fun r_5 u t H1 locs ht hvm hw hB hz1 hk1 hS => ?_)
      obtain ⟨hP1, hK1, hD1⟩ := hB
      rw [ht] at hP1
      have hK1 := va_K.moved hvm.symm hK1
      obtain ⟨hP, hD⟩ := va_join (wr := [(h0, Sum.inr (5, [Value.ref h1, Value.int n0_size, Value.ref h2, Value.int n0_ran])), (h1, Sum.inl (cint, 50, Sum.inl f1)), (h2, Sum.inl (cint, 24, Sum.inl f2))]) (w1 := []) hP hD [] [0, 1, 2] rfl rfl (by decide) (by decide) hk1 hFc hP1 hD1
      generalize H1 = H at hP hS ⊢
      have hP : va_P (dC, dI) vwCl [(h0, Sum.inr (5, [Value.ref h1, Value.int n0_size, Value.ref h2, Value.int n0_ran])), (h1, Sum.inl (cint, 50, Sum.inl f1)), (h2, Sum.inl (cint, 24, Sum.inl f2))] H := hP
      have hD : va_D A [(h0, Sum.inr (5, [Value.ref h1, Value.int n0_size, Value.ref h2, Value.int n0_ran])), (h1, Sum.inl (cint, 50, Sum.inl f1)), (h2, Sum.inl (cint, 24, Sum.inl f2))] := hD
      rcases hw with ⟨rfl⟩ | ⟨t_5_0, t_5_1, rfl⟩
      · skip
        refine lv_if_eq (tgt := 63) hx hb dX5_call_53 (by decide) (fun _ => ?_) (fun c => absurd c (by decide))
        refine lv_iconst (v := 0) hx hb dX5_call_63 (by decide) ?_
        obtain ⟨hP9, hD9⟩ := kk_leafout (wc := [(h0, Sum.inr (5, [Value.ref h1, Value.int n0_size, Value.ref h2, Value.int n0_ran])), (h1, Sum.inl (cint, 50, Sum.inl f1)), (h2, Sum.inl (cint, 24, Sum.inl f2))]) hP hD [0, 1, 2] (by decide) rfl
        have hK9 := hK.sub (tys' := []) [] rfl
        exact W.iret (v := 0) hx hb hr (fun t ht hW => ⟨⟨0, (), rfl, trivial, n0_ran, f2, (by show 0 ≤ (n0_ran : Int32).toInt ∧ (n0_ran : Int32).toInt ≤ 1000; first | decide | (constructor <;> (omega))), (by show (n0_ran : Int32).toInt ≤ (n0_ran : Int32).toInt + 11; first | decide | (omega)), by rw [ht]; exact hP9, va_K.moved hW.alike hK9, hD9⟩, hS.F ht⟩) hS.2.2 dX5_call_64
      · skip
        have t_5_0 : (0 : Int) ≤ 0 := t_5_0
        have t_5_1 : (0 : Int) < 8 := t_5_1
        refine lv_if_eq (tgt := 63) hx hb dX5_call_53 (by decide) (fun c => absurd c (by decide)) (fun _ => ?_)
        refine lv_iload hx hb dX5_call_56 (lv_at hl 7 rfl) ?_
        refine lv_bipush (v := 40) hx hb dX5_call_58 (by decide) ?_
        refine lv_icmp_le (tgt := 65) hx hb dX5_call_60 (by decide) (fun c_6 => ?_) (fun c_6 => ?_)
        · have t_6 : p4.toInt ≤ 40 := kk_le c_6
          refine va_gets hx hb hZOWN_BODIES hS hown (hts (.fieldLink RX5 43 "KinkStreet$Lines" "OWN_BODIES" "[I") (List.mem_of_getElem? (i := 1) rfl)) (fun _ h9 => h9) dX5_call_65 ?_
          refine lv_iload hx hb dX5_call_68 (lv_at hl 1 rfl) ?_
          refine lv_iconst (v := 4) hx hb dX5_call_70 (by decide) ?_
          refine lv_imul hx hb dX5_call_71 ?_
          refine lv_topi (fun y_7 e_7 => ?_)
          obtain rfl : y_7 = 0 := e_7.trans (by decide)
          refine lv_iload_n hx hb dX5_call_72 rfl (lv_at hl 5 rfl) ?_
          refine lv_iadd hx hb dX5_call_73 ?_
          refine lv_topi (fun y_8 e_8 => ?_)
          obtain rfl : y_8 = 1 := e_8.trans (by decide)
          refine va_ti (v := .int 10) hx hb hTOWN_BODIES hS (by unfold vp_in; decide) rfl dX5_call_74 ?_
          refine lv_istore (lv' := [(7, .int 10), (6, .int 0), (0, .ref h0), (1, .int p0), (2, .int 0), (3, .int 1), (4, .int p3), (5, .int p4)]) hx hb dX5_call_75 hl (by decide) rfl (fun ls hl => ?_)
          refine lv_aload_n hx hb dX5_call_77 rfl (lv_at hl 2 rfl) ?_
          refine va_get (D := (dC, dI)) (ci := 5) (v := .int n0_ran) (C := RX5) (T := TX5) (N := 4) hx hb hts (fun _ h => List.mem_cons_of_mem _ (List.mem_append_right _ h)) hown hK hP 0 rfl rfl 3 (by decide) (hts (.fieldLink RX5 36 "KinkStreet$Lines" "ran" "I") (List.mem_of_getElem? (i := 3) rfl)) (fun _ h9 => h9) rfl dX5_call_78 ?_
          refine lv_bipush (v := 24) hx hb dX5_call_81 (by decide) ?_
          refine kk_cut (σ := (Nat → Int32)) (pc' := 97) (fun x H locs ls => va_P (dC, dI) vwCl [(h0, Sum.inr (5, [Value.ref h1, Value.int n0_size, Value.ref h2, Value.int n0_ran])), (h1, Sum.inl (cint, 50, Sum.inl f1)), (h2, Sum.inl (cint, 24, Sum.inl x))] H ∧ va_D A [(h0, Sum.inr (5, [Value.ref h1, Value.int n0_size, Value.ref h2, Value.int n0_ran])), (h1, Sum.inl (cint, 50, Sum.inl f1)), (h2, Sum.inl (cint, 24, Sum.inl x))] ∧ va_S A s.heap H locs ∧ lv_has ls 8 [(7, .int 10), (6, .int 0), (0, .ref h0), (1, .int p0), (2, .int 0), (3, .int 1), (4, .int p3), (5, .int p4)]) ?_ (fun hcut_11 => ?_)
          · rintro f_11_0 H locs ls ⟨hP, hD, hS, hl⟩
            have hl : lv_has ls 8 [(7, .int 10), (6, .int 0), (0, .ref h0), (1, .int p0), (2, .int 0), (3, .int 1), (4, .int p3), (5, .int p4)] := hl
            have hP : va_P (dC, dI) vwCl [(h0, Sum.inr (5, [Value.ref h1, Value.int n0_size, Value.ref h2, Value.int n0_ran])), (h1, Sum.inl (cint, 50, Sum.inl f1)), (h2, Sum.inl (cint, 24, Sum.inl f_11_0))] H := hP
            have hD : va_D A [(h0, Sum.inr (5, [Value.ref h1, Value.int n0_size, Value.ref h2, Value.int n0_ran])), (h1, Sum.inl (cint, 50, Sum.inl f1)), (h2, Sum.inl (cint, 24, Sum.inl f_11_0))] := hD
            refine lv_aload_n hx hb dX5_call_97 rfl (lv_at hl 2 rfl) ?_
            refine lv_dup hx hb dX5_call_98 rfl ?_
            refine va_get (D := (dC, dI)) (ci := 5) (v := .int n0_ran) (C := RX5) (T := TX5) (N := 4) hx hb hts (fun _ h => List.mem_cons_of_mem _ (List.mem_append_right _ h)) hown hK hP 0 rfl rfl 3 (by decide) (hts (.fieldLink RX5 36 "KinkStreet$Lines" "ran" "I") (List.mem_of_getElem? (i := 3) rfl)) (fun _ h9 => h9) rfl dX5_call_99 ?_
            refine lv_iconst (v := 1) hx hb dX5_call_102 (by decide) ?_
            refine lv_iadd hx hb dX5_call_103 ?_
            refine va_put (D := (dC, dI)) (ci := 5) (v := .int (n0_ran + 1)) (ty := .int) (C := RX5) (T := TX5) (N := 4) hx hb hts (fun _ h => List.mem_cons_of_mem _ (List.mem_append_right _ h)) tyX5 tyX5_ok nmX5 hown hK hP hD hS 0 rfl rfl 3 (by decide) (hts (.fieldLink RX5 36 "KinkStreet$Lines" "ran" "I") (List.mem_of_getElem? (i := 3) rfl)) (fun _ h9 => h9) rfl (by decide +kernel) rfl rfl (Nat.le_of_ble_eq_true rfl) dX5_call_104 (fun H locs hP hD hS => ?_)
            have hP : va_P (dC, dI) vwCl [(h0, Sum.inr (5, [Value.ref h1, Value.int n0_size, Value.ref h2, Value.int (n0_ran + 1)])), (h1, Sum.inl (cint, 50, Sum.inl f1)), (h2, Sum.inl (cint, 24, Sum.inl f_11_0))] H := hP
            have hD : va_D A [(h0, Sum.inr (5, [Value.ref h1, Value.int n0_size, Value.ref h2, Value.int (n0_ran + 1)])), (h1, Sum.inl (cint, 50, Sum.inl f1)), (h2, Sum.inl (cint, 24, Sum.inl f_11_0))] := hD
            refine lv_iload hx hb dX5_call_107 (lv_at hl 1 rfl) ?_
            refine lv_if_ne (tgt := 128) hx hb dX5_call_109 (by decide) (fun c => absurd c (by decide)) (fun _ => ?_)
            refine lv_aload_n hx hb dX5_call_112 rfl (lv_at hl 2 rfl) ?_
            refine lv_iload_n hx hb dX5_call_113 rfl (lv_at hl 3 rfl) ?_
            refine lv_iload hx hb dX5_call_114 (lv_at hl 0 rfl) ?_
            refine lv_iload hx hb dX5_call_116 (lv_at hl 6 rfl) ?_
            refine lv_iload hx hb dX5_call_118 (lv_at hl 7 rfl) ?_
            refine lv_iconst (v := 1) hx hb dX5_call_120 (by decide) ?_
            refine lv_iadd hx hb dX5_call_121 ?_
            obtain ⟨hPc, hDc, hFc⟩ := kk_cutout (wc := [(h0, Sum.inr (5, [Value.ref h1, Value.int n0_size, Value.ref h2, Value.int (n0_ran + 1)])), (h1, Sum.inl (cint, 50, Sum.inl f1)), (h2, Sum.inl (cint, 24, Sum.inl f_11_0))]) hP hD hS hA [0, 1, 2] (by decide) rfl
            have hKc := hK.sub (tys' := [(cint, .int)]) [0] rfl
            refine va_calli (va_runV (As := [.int p0, .int 10, .int p3, .int (p4 + 1)]) (rest := []) ⟨hx, hb, hml, hown, hts⟩ (g_X5_runLine_2 l dC dI h0 h1 h2 cint H.size p0 p3 (p4 + 1) n0_size (n0_ran + 1) f1 f_11_0 tn0_size (by show 0 ≤ ((n0_ran + 1) : Int32).toInt ∧ ((n0_ran + 1) : Int32).toInt ≤ 997; first | decide | (constructor <;> (have := kk_rng p4; have := kk_add2 (x := n0_ran) (y := 1) (a := n0_ran.toInt) (b := 1) rfl rfl (by omega) (by omega); have := kk_rng p4; have := kk_add2 (x := p4) (y := 1) (a := p4.toInt) (b := 1) rfl rfl (by omega) (by omega); omega))) bf1 aOWN_BODIES aABOVE) (cwV 4 hts gX5_call_X5_runLine rfl rfl rfl (by decide +kernel) ⟨Nat.le_of_ble_eq_true rfl, Nat.le_of_ble_eq_true rfl⟩) ⟨fun a U g mk q => by obtain ⟨q0, q1, qP, qK, qD, qx0, qx1, qx2, qx3⟩ := q; exact ⟨q0, q1, qP, va_K.moved (u := U) (U := U.calling g mk a) (Vm.Alike.refl U.vm) qK, qD, va_Z.moved (u := U) (U := U.calling g mk a) (Vm.Alike.refl U.vm) qx0, va_T.moved (u := U) (U := U.calling g mk a) (Vm.Alike.refl U.vm) qx1, va_Z.moved (u := U) (U := U.calling g mk a) (Vm.Alike.refl U.vm) qx2, va_T.moved (u := U) (U := U.calling g mk a) (Vm.Alike.refl U.vm) qx3⟩, va_recv hKc hPc (ci := 5) (q0 := 0) rfl rfl, fun U hU hW => ⟨rfl, by rw [hU], by rw [hU]; exact hPc, va_K.moved hW.alike hKc, hDc.weaken (fun _ _ _ _ => trivial), by rw [hU]; exact ((hZOWN_BODIES.kept (fun a h1 h2 => hS.2.1 a h1 h2)).narrow hFc).moved hW.alike, by rw [hU]; exact ((hTOWN_BODIES.kept (fun a h1 h2 => hS.2.1 a h1 h2)).narrow hFc).moved hW.alike, by rw [hU]; exact ((hZABOVE.kept (fun a h1 h2 => hS.2.1 a h1 h2)).narrow hFc).moved hW.alike, by rw [hU]; exact ((hTABOVE.kept (fun a h1 h2 => hS.2.1 a h1 h2)).narrow hFc).moved hW.alike⟩⟩ rfl rfl hl.1 rfl (lv_room (Nat.le_of_ble_eq_true rfl)) dX5_call_122 ⟨Nat.le_of_ble_eq_true rfl, Nat.le_of_ble_eq_true rfl⟩) hS (fun q _ h => hFc q h) hFc (fun r_12 u t H1 locs ht hvm hw hB hz1 hk1 hS => ?_)
            obtain ⟨y_13, f_14, by_13, v_14_0, hP1, hK1, hD1⟩ := hB
            have v_14_0 : y_13.toInt ≤ (n0_ran + 1).toInt + 3 := v_14_0
            rw [ht] at hP1
            have hK1 := va_K.moved hvm.symm hK1
            obtain ⟨hP, hD⟩ := va_join (wr := []) (w1 := [(h0, Sum.inr (5, [Value.ref h1, Value.int n0_size, Value.ref h2, Value.int y_13])), (h1, Sum.inl (cint, 50, Sum.inl f1)), (h2, Sum.inl (cint, 24, Sum.inl f_14))]) hP hD [0, 1, 2] [] rfl rfl (by decide) (by decide) hk1 hFc hP1 hD1
            generalize H1 = H at hP hS ⊢
            have hP : va_P (dC, dI) vwCl [(h0, Sum.inr (5, [Value.ref h1, Value.int n0_size, Value.ref h2, Value.int y_13])), (h1, Sum.inl (cint, 50, Sum.inl f1)), (h2, Sum.inl (cint, 24, Sum.inl f_14))] H := hP
            have hD : va_D A [(h0, Sum.inr (5, [Value.ref h1, Value.int n0_size, Value.ref h2, Value.int y_13])), (h1, Sum.inl (cint, 50, Sum.inl f1)), (h2, Sum.inl (cint, 24, Sum.inl f_14))] := hD
            refine lv_goto (tgt := 143) hx hb dX5_call_125 (by decide) ?_
            obtain ⟨hP9, hD9⟩ := kk_leafout (wc := [(h0, Sum.inr (5, [Value.ref h1, Value.int n0_size, Value.ref h2, Value.int y_13])), (h1, Sum.inl (cint, 50, Sum.inl f1)), (h2, Sum.inl (cint, 24, Sum.inl f_14))]) hP hD [0, 1, 2] (by decide) rfl
            have hK9 := hK.sub (tys' := []) [] rfl
            exact W.iret (v := r_12) hx hb hr (fun t ht hW => ⟨⟨r_12, (), rfl, trivial, y_13, f_14, (by show 0 ≤ (y_13 : Int32).toInt ∧ (y_13 : Int32).toInt ≤ 1000; first | decide | (constructor <;> (have := kk_rng p4; have := kk_add2 (x := n0_ran) (y := 1) (a := n0_ran.toInt) (b := 1) rfl rfl (by omega) (by omega); have := kk_rng p4; have := kk_add2 (x := p4) (y := 1) (a := p4.toInt) (b := 1) rfl rfl (by omega) (by omega); omega))), (by show (y_13 : Int32).toInt ≤ (n0_ran : Int32).toInt + 11; first | decide | (have := kk_rng p4; have := kk_add2 (x := n0_ran) (y := 1) (a := n0_ran.toInt) (b := 1) rfl rfl (by omega) (by omega); have := kk_rng p4; have := kk_add2 (x := p4) (y := 1) (a := p4.toInt) (b := 1) rfl rfl (by omega) (by omega); omega)), by rw [ht]; exact hP9, va_K.moved hW.alike hK9, hD9⟩, hS.F ht⟩) hS.2.2 dX5_call_143
          · skip
            refine lv_icmp_ge (tgt := 97) hx hb dX5_call_83 (by decide) (fun c_15 => ?_) (fun c_15 => ?_)
            · have t_15 : 24 ≤ n0_ran.toInt := kk_le c_15
              exact hcut_11 (f2) _ _ _ ⟨hP, hD, hS, lv_sub hl [0, 1, 2, 3, 4, 5, 6, 7] rfl⟩
            · have t_15 : n0_ran.toInt < 24 := kk_nle c_15
              refine lv_aload_n hx hb dX5_call_86 rfl (lv_at hl 2 rfl) ?_
              refine va_get (D := (dC, dI)) (ci := 5) (v := .ref h2) (C := RX5) (T := TX5) (N := 4) hx hb hts (fun _ h => List.mem_cons_of_mem _ (List.mem_append_right _ h)) hown hK hP 0 rfl rfl 2 (by decide) (hts (.fieldLink RX5 15 "KinkStreet$Lines" "trace" "[I") (List.mem_of_getElem? (i := 4) rfl)) (fun _ h9 => h9) rfl dX5_call_87 ?_
              refine lv_aload_n hx hb dX5_call_90 rfl (lv_at hl 2 rfl) ?_
              refine va_get (D := (dC, dI)) (ci := 5) (v := .int n0_ran) (C := RX5) (T := TX5) (N := 4) hx hb hts (fun _ h => List.mem_cons_of_mem _ (List.mem_append_right _ h)) hown hK hP 0 rfl rfl 3 (by decide) (hts (.fieldLink RX5 36 "KinkStreet$Lines" "ran" "I") (List.mem_of_getElem? (i := 3) rfl)) (fun _ h9 => h9) rfl dX5_call_91 ?_
              refine lv_iload hx hb dX5_call_94 (lv_at hl 0 rfl) ?_
              refine va_iast hx hb hK hP hD hS 2 0 rfl rfl (vp_in_iff.mpr ⟨by have := kk_rng p4; omega, by have := kk_rng p4; omega⟩) dX5_call_96 (fun H locs hP hD hS => ?_)
              generalize upd f2 (n0_ran : Int32).toNatClampNeg 10 = f_16 at hP hD
              have hP : va_P (dC, dI) vwCl [(h0, Sum.inr (5, [Value.ref h1, Value.int n0_size, Value.ref h2, Value.int n0_ran])), (h1, Sum.inl (cint, 50, Sum.inl f1)), (h2, Sum.inl (cint, 24, Sum.inl f_16))] H := hP
              have hD : va_D A [(h0, Sum.inr (5, [Value.ref h1, Value.int n0_size, Value.ref h2, Value.int n0_ran])), (h1, Sum.inl (cint, 50, Sum.inl f1)), (h2, Sum.inl (cint, 24, Sum.inl f_16))] := hD
              exact hcut_11 (f_16) _ _ _ ⟨hP, hD, hS, lv_sub hl [0, 1, 2, 3, 4, 5, 6, 7] rfl⟩
        · have t_6 : 40 < p4.toInt := kk_nle c_6
          refine lv_iconst (v := 0) hx hb dX5_call_63 (by decide) ?_
          obtain ⟨hP9, hD9⟩ := kk_leafout (wc := [(h0, Sum.inr (5, [Value.ref h1, Value.int n0_size, Value.ref h2, Value.int n0_ran])), (h1, Sum.inl (cint, 50, Sum.inl f1)), (h2, Sum.inl (cint, 24, Sum.inl f2))]) hP hD [0, 1, 2] (by decide) rfl
          have hK9 := hK.sub (tys' := []) [] rfl
          exact W.iret (v := 0) hx hb hr (fun t ht hW => ⟨⟨0, (), rfl, trivial, n0_ran, f2, (by show 0 ≤ (n0_ran : Int32).toInt ∧ (n0_ran : Int32).toInt ≤ 1000; first | decide | (constructor <;> (have := kk_rng p4; omega))), (by show (n0_ran : Int32).toInt ≤ (n0_ran : Int32).toInt + 11; first | decide | (have := kk_rng p4; omega)), by rw [ht]; exact hP9, va_K.moved hW.alike hK9, hD9⟩, hS.F ht⟩) hS.2.2 dX5_call_64
    · skip
      have t_4_0 : (0 : Int) ≤ 0 := t_4_0
      have t_4_1 : (0 : Int) < 8 := t_4_1
      refine lv_if_eq (tgt := 48) hx hb dX5_call_18 (by decide) (fun c => absurd c (by decide)) (fun _ => ?_)
      refine va_gets hx hb hZOWN_BODIES hS hown (hts (.fieldLink RX5 43 "KinkStreet$Lines" "OWN_BODIES" "[I") (List.mem_of_getElem? (i := 1) rfl)) (fun _ h9 => h9) dX5_call_21 ?_
      refine lv_iload hx hb dX5_call_24 (lv_at hl 1 rfl) ?_
      refine lv_iconst (v := 4) hx hb dX5_call_26 (by decide) ?_
      refine lv_imul hx hb dX5_call_27 ?_
      refine lv_topi (fun y_17 e_17 => ?_)
      obtain rfl : y_17 = 0 := e_17.trans (by decide)
      refine lv_iload_n hx hb dX5_call_28 rfl (lv_at hl 5 rfl) ?_
      refine lv_iadd hx hb dX5_call_29 ?_
      refine lv_topi (fun y_18 e_18 => ?_)
      obtain rfl : y_18 = 1 := e_18.trans (by decide)
      refine va_ti (v := .int 10) hx hb hTOWN_BODIES hS (by unfold vp_in; decide) rfl dX5_call_30 ?_
      refine lv_if_ne (tgt := 48) hx hb dX5_call_31 (by decide) (fun _ => ?_) (fun c => absurd c (by decide))
      refine lv_iload hx hb dX5_call_48 (lv_at hl 1 rfl) ?_
      obtain ⟨hPc, hDc, hFc⟩ := kk_cutout (wc := []) hP hD hS hA [] (by decide) rfl
      have hKc := hK.sub (tys' := []) [] rfl
      refine va_calli (va_runS (As := [.int 0]) (rest := []) ⟨hx, hb, hml, hown, hts⟩ (g_X5_isKind_0 l dC dI H.size 0) (va_cwS 1 hts gX5_call_X5_isKind rfl rfl rfl (by decide +kernel) ⟨Nat.le_of_ble_eq_true rfl, Nat.le_of_ble_eq_true rfl⟩) ⟨fun a U g mk q => by obtain ⟨q0, q1, qP, qK, qD⟩ := q; exact ⟨q0, q1, qP, va_K.moved (u := U) (U := U.calling g mk a) (Vm.Alike.refl U.vm) qK, qD⟩, fun U hU hW => ⟨rfl, by rw [hU], by rw [hU]; exact hPc, va_K.moved hW.alike hKc, hDc.weaken (fun _ _ _ _ => trivial)⟩⟩ rfl rfl hl.1 rfl (lv_room (Nat.le_of_ble_eq_true rfl)) dX5_call_50 ⟨Nat.le_of_ble_eq_true rfl, Nat.le_of_ble_eq_true rfl⟩) hS (fun q _ h => hFc q h) hFc (fun r_19 u t H1 locs ht hvm hw hB hz1 hk1 hS => ?_)
      obtain ⟨hP1, hK1, hD1⟩ := hB
      rw [ht] at hP1
      have hK1 := va_K.moved hvm.symm hK1
      obtain ⟨hP, hD⟩ := va_join (wr := [(h0, Sum.inr (5, [Value.ref h1, Value.int n0_size, Value.ref h2, Value.int n0_ran])), (h1, Sum.inl (cint, 50, Sum.inl f1)), (h2, Sum.inl (cint, 24, Sum.inl f2))]) (w1 := []) hP hD [] [0, 1, 2] rfl rfl (by decide) (by decide) hk1 hFc hP1 hD1
      generalize H1 = H at hP hS ⊢
      have hP : va_P (dC, dI) vwCl [(h0, Sum.inr (5, [Value.ref h1, Value.int n0_size, Value.ref h2, Value.int n0_ran])), (h1, Sum.inl (cint, 50, Sum.inl f1)), (h2, Sum.inl (cint, 24, Sum.inl f2))] H := hP
      have hD : va_D A [(h0, Sum.inr (5, [Value.ref h1, Value.int n0_size, Value.ref h2, Value.int n0_ran])), (h1, Sum.inl (cint, 50, Sum.inl f1)), (h2, Sum.inl (cint, 24, Sum.inl f2))] := hD
      rcases hw with ⟨rfl⟩ | ⟨t_19_0, t_19_1, rfl⟩
      · skip
        refine lv_if_eq (tgt := 63) hx hb dX5_call_53 (by decide) (fun _ => ?_) (fun c => absurd c (by decide))
        refine lv_iconst (v := 0) hx hb dX5_call_63 (by decide) ?_
        obtain ⟨hP9, hD9⟩ := kk_leafout (wc := [(h0, Sum.inr (5, [Value.ref h1, Value.int n0_size, Value.ref h2, Value.int n0_ran])), (h1, Sum.inl (cint, 50, Sum.inl f1)), (h2, Sum.inl (cint, 24, Sum.inl f2))]) hP hD [0, 1, 2] (by decide) rfl
        have hK9 := hK.sub (tys' := []) [] rfl
        exact W.iret (v := 0) hx hb hr (fun t ht hW => ⟨⟨0, (), rfl, trivial, n0_ran, f2, (by show 0 ≤ (n0_ran : Int32).toInt ∧ (n0_ran : Int32).toInt ≤ 1000; first | decide | (constructor <;> (omega))), (by show (n0_ran : Int32).toInt ≤ (n0_ran : Int32).toInt + 11; first | decide | (omega)), by rw [ht]; exact hP9, va_K.moved hW.alike hK9, hD9⟩, hS.F ht⟩) hS.2.2 dX5_call_64
      · skip
        have t_19_0 : (0 : Int) ≤ 0 := t_19_0
        have t_19_1 : (0 : Int) < 8 := t_19_1
        refine lv_if_eq (tgt := 63) hx hb dX5_call_53 (by decide) (fun c => absurd c (by decide)) (fun _ => ?_)
        refine lv_iload hx hb dX5_call_56 (lv_at hl 7 rfl) ?_
        refine lv_bipush (v := 40) hx hb dX5_call_58 (by decide) ?_
        refine lv_icmp_le (tgt := 65) hx hb dX5_call_60 (by decide) (fun c_20 => ?_) (fun c_20 => ?_)
        · have t_20 : p4.toInt ≤ 40 := kk_le c_20
          refine va_gets hx hb hZOWN_BODIES hS hown (hts (.fieldLink RX5 43 "KinkStreet$Lines" "OWN_BODIES" "[I") (List.mem_of_getElem? (i := 1) rfl)) (fun _ h9 => h9) dX5_call_65 ?_
          refine lv_iload hx hb dX5_call_68 (lv_at hl 1 rfl) ?_
          refine lv_iconst (v := 4) hx hb dX5_call_70 (by decide) ?_
          refine lv_imul hx hb dX5_call_71 ?_
          refine lv_topi (fun y_21 e_21 => ?_)
          obtain rfl : y_21 = 0 := e_21.trans (by decide)
          refine lv_iload_n hx hb dX5_call_72 rfl (lv_at hl 5 rfl) ?_
          refine lv_iadd hx hb dX5_call_73 ?_
          refine lv_topi (fun y_22 e_22 => ?_)
          obtain rfl : y_22 = 1 := e_22.trans (by decide)
          refine va_ti (v := .int 10) hx hb hTOWN_BODIES hS (by unfold vp_in; decide) rfl dX5_call_74 ?_
          refine lv_istore (lv' := [(7, .int 10), (6, .int 0), (0, .ref h0), (1, .int p0), (2, .int 0), (3, .int 1), (4, .int p3), (5, .int p4)]) hx hb dX5_call_75 hl (by decide) rfl (fun ls hl => ?_)
          refine lv_aload_n hx hb dX5_call_77 rfl (lv_at hl 2 rfl) ?_
          refine va_get (D := (dC, dI)) (ci := 5) (v := .int n0_ran) (C := RX5) (T := TX5) (N := 4) hx hb hts (fun _ h => List.mem_cons_of_mem _ (List.mem_append_right _ h)) hown hK hP 0 rfl rfl 3 (by decide) (hts (.fieldLink RX5 36 "KinkStreet$Lines" "ran" "I") (List.mem_of_getElem? (i := 3) rfl)) (fun _ h9 => h9) rfl dX5_call_78 ?_
          refine lv_bipush (v := 24) hx hb dX5_call_81 (by decide) ?_
          refine kk_cut (σ := (Nat → Int32)) (pc' := 97) (fun x H locs ls => va_P (dC, dI) vwCl [(h0, Sum.inr (5, [Value.ref h1, Value.int n0_size, Value.ref h2, Value.int n0_ran])), (h1, Sum.inl (cint, 50, Sum.inl f1)), (h2, Sum.inl (cint, 24, Sum.inl x))] H ∧ va_D A [(h0, Sum.inr (5, [Value.ref h1, Value.int n0_size, Value.ref h2, Value.int n0_ran])), (h1, Sum.inl (cint, 50, Sum.inl f1)), (h2, Sum.inl (cint, 24, Sum.inl x))] ∧ va_S A s.heap H locs ∧ lv_has ls 8 [(7, .int 10), (6, .int 0), (0, .ref h0), (1, .int p0), (2, .int 0), (3, .int 1), (4, .int p3), (5, .int p4)]) ?_ (fun hcut_25 => ?_)
          · rintro f_25_0 H locs ls ⟨hP, hD, hS, hl⟩
            have hl : lv_has ls 8 [(7, .int 10), (6, .int 0), (0, .ref h0), (1, .int p0), (2, .int 0), (3, .int 1), (4, .int p3), (5, .int p4)] := hl
            have hP : va_P (dC, dI) vwCl [(h0, Sum.inr (5, [Value.ref h1, Value.int n0_size, Value.ref h2, Value.int n0_ran])), (h1, Sum.inl (cint, 50, Sum.inl f1)), (h2, Sum.inl (cint, 24, Sum.inl f_25_0))] H := hP
            have hD : va_D A [(h0, Sum.inr (5, [Value.ref h1, Value.int n0_size, Value.ref h2, Value.int n0_ran])), (h1, Sum.inl (cint, 50, Sum.inl f1)), (h2, Sum.inl (cint, 24, Sum.inl f_25_0))] := hD
            refine lv_aload_n hx hb dX5_call_97 rfl (lv_at hl 2 rfl) ?_
            refine lv_dup hx hb dX5_call_98 rfl ?_
            refine va_get (D := (dC, dI)) (ci := 5) (v := .int n0_ran) (C := RX5) (T := TX5) (N := 4) hx hb hts (fun _ h => List.mem_cons_of_mem _ (List.mem_append_right _ h)) hown hK hP 0 rfl rfl 3 (by decide) (hts (.fieldLink RX5 36 "KinkStreet$Lines" "ran" "I") (List.mem_of_getElem? (i := 3) rfl)) (fun _ h9 => h9) rfl dX5_call_99 ?_
            refine lv_iconst (v := 1) hx hb dX5_call_102 (by decide) ?_
            refine lv_iadd hx hb dX5_call_103 ?_
            refine va_put (D := (dC, dI)) (ci := 5) (v := .int (n0_ran + 1)) (ty := .int) (C := RX5) (T := TX5) (N := 4) hx hb hts (fun _ h => List.mem_cons_of_mem _ (List.mem_append_right _ h)) tyX5 tyX5_ok nmX5 hown hK hP hD hS 0 rfl rfl 3 (by decide) (hts (.fieldLink RX5 36 "KinkStreet$Lines" "ran" "I") (List.mem_of_getElem? (i := 3) rfl)) (fun _ h9 => h9) rfl (by decide +kernel) rfl rfl (Nat.le_of_ble_eq_true rfl) dX5_call_104 (fun H locs hP hD hS => ?_)
            have hP : va_P (dC, dI) vwCl [(h0, Sum.inr (5, [Value.ref h1, Value.int n0_size, Value.ref h2, Value.int (n0_ran + 1)])), (h1, Sum.inl (cint, 50, Sum.inl f1)), (h2, Sum.inl (cint, 24, Sum.inl f_25_0))] H := hP
            have hD : va_D A [(h0, Sum.inr (5, [Value.ref h1, Value.int n0_size, Value.ref h2, Value.int (n0_ran + 1)])), (h1, Sum.inl (cint, 50, Sum.inl f1)), (h2, Sum.inl (cint, 24, Sum.inl f_25_0))] := hD
            refine lv_iload hx hb dX5_call_107 (lv_at hl 1 rfl) ?_
            refine lv_if_ne (tgt := 128) hx hb dX5_call_109 (by decide) (fun c => absurd c (by decide)) (fun _ => ?_)
            refine lv_aload_n hx hb dX5_call_112 rfl (lv_at hl 2 rfl) ?_
            refine lv_iload_n hx hb dX5_call_113 rfl (lv_at hl 3 rfl) ?_
            refine lv_iload hx hb dX5_call_114 (lv_at hl 0 rfl) ?_
            refine lv_iload hx hb dX5_call_116 (lv_at hl 6 rfl) ?_
            refine lv_iload hx hb dX5_call_118 (lv_at hl 7 rfl) ?_
            refine lv_iconst (v := 1) hx hb dX5_call_120 (by decide) ?_
            refine lv_iadd hx hb dX5_call_121 ?_
            obtain ⟨hPc, hDc, hFc⟩ := kk_cutout (wc := [(h0, Sum.inr (5, [Value.ref h1, Value.int n0_size, Value.ref h2, Value.int (n0_ran + 1)])), (h1, Sum.inl (cint, 50, Sum.inl f1)), (h2, Sum.inl (cint, 24, Sum.inl f_25_0))]) hP hD hS hA [0, 1, 2] (by decide) rfl
            have hKc := hK.sub (tys' := [(cint, .int)]) [0] rfl
            refine va_calli (va_runV (As := [.int p0, .int 10, .int p3, .int (p4 + 1)]) (rest := []) ⟨hx, hb, hml, hown, hts⟩ (g_X5_runLine_2 l dC dI h0 h1 h2 cint H.size p0 p3 (p4 + 1) n0_size (n0_ran + 1) f1 f_25_0 tn0_size (by show 0 ≤ ((n0_ran + 1) : Int32).toInt ∧ ((n0_ran + 1) : Int32).toInt ≤ 997; first | decide | (constructor <;> (have := kk_rng p4; have := kk_add2 (x := n0_ran) (y := 1) (a := n0_ran.toInt) (b := 1) rfl rfl (by omega) (by omega); have := kk_rng p4; have := kk_add2 (x := p4) (y := 1) (a := p4.toInt) (b := 1) rfl rfl (by omega) (by omega); omega))) bf1 aOWN_BODIES aABOVE) (cwV 4 hts gX5_call_X5_runLine rfl rfl rfl (by decide +kernel) ⟨Nat.le_of_ble_eq_true rfl, Nat.le_of_ble_eq_true rfl⟩) ⟨fun a U g mk q => by obtain ⟨q0, q1, qP, qK, qD, qx0, qx1, qx2, qx3⟩ := q; exact ⟨q0, q1, qP, va_K.moved (u := U) (U := U.calling g mk a) (Vm.Alike.refl U.vm) qK, qD, va_Z.moved (u := U) (U := U.calling g mk a) (Vm.Alike.refl U.vm) qx0, va_T.moved (u := U) (U := U.calling g mk a) (Vm.Alike.refl U.vm) qx1, va_Z.moved (u := U) (U := U.calling g mk a) (Vm.Alike.refl U.vm) qx2, va_T.moved (u := U) (U := U.calling g mk a) (Vm.Alike.refl U.vm) qx3⟩, va_recv hKc hPc (ci := 5) (q0 := 0) rfl rfl, fun U hU hW => ⟨rfl, by rw [hU], by rw [hU]; exact hPc, va_K.moved hW.alike hKc, hDc.weaken (fun _ _ _ _ => trivial), by rw [hU]; exact ((hZOWN_BODIES.kept (fun a h1 h2 => hS.2.1 a h1 h2)).narrow hFc).moved hW.alike, by rw [hU]; exact ((hTOWN_BODIES.kept (fun a h1 h2 => hS.2.1 a h1 h2)).narrow hFc).moved hW.alike, by rw [hU]; exact ((hZABOVE.kept (fun a h1 h2 => hS.2.1 a h1 h2)).narrow hFc).moved hW.alike, by rw [hU]; exact ((hTABOVE.kept (fun a h1 h2 => hS.2.1 a h1 h2)).narrow hFc).moved hW.alike⟩⟩ rfl rfl hl.1 rfl (lv_room (Nat.le_of_ble_eq_true rfl)) dX5_call_122 ⟨Nat.le_of_ble_eq_true rfl, Nat.le_of_ble_eq_true rfl⟩) hS (fun q _ h => hFc q h) hFc (fun r_26 u t H1 locs ht hvm hw hB hz1 hk1 hS => ?_)
            obtain ⟨y_27, f_28, by_27, v_28_0, hP1, hK1, hD1⟩ := hB
            have v_28_0 : y_27.toInt ≤ (n0_ran + 1).toInt + 3 := v_28_0
            rw [ht] at hP1
            have hK1 := va_K.moved hvm.symm hK1
            obtain ⟨hP, hD⟩ := va_join (wr := []) (w1 := [(h0, Sum.inr (5, [Value.ref h1, Value.int n0_size, Value.ref h2, Value.int y_27])), (h1, Sum.inl (cint, 50, Sum.inl f1)), (h2, Sum.inl (cint, 24, Sum.inl f_28))]) hP hD [0, 1, 2] [] rfl rfl (by decide) (by decide) hk1 hFc hP1 hD1
            generalize H1 = H at hP hS ⊢
            have hP : va_P (dC, dI) vwCl [(h0, Sum.inr (5, [Value.ref h1, Value.int n0_size, Value.ref h2, Value.int y_27])), (h1, Sum.inl (cint, 50, Sum.inl f1)), (h2, Sum.inl (cint, 24, Sum.inl f_28))] H := hP
            have hD : va_D A [(h0, Sum.inr (5, [Value.ref h1, Value.int n0_size, Value.ref h2, Value.int y_27])), (h1, Sum.inl (cint, 50, Sum.inl f1)), (h2, Sum.inl (cint, 24, Sum.inl f_28))] := hD
            refine lv_goto (tgt := 143) hx hb dX5_call_125 (by decide) ?_
            obtain ⟨hP9, hD9⟩ := kk_leafout (wc := [(h0, Sum.inr (5, [Value.ref h1, Value.int n0_size, Value.ref h2, Value.int y_27])), (h1, Sum.inl (cint, 50, Sum.inl f1)), (h2, Sum.inl (cint, 24, Sum.inl f_28))]) hP hD [0, 1, 2] (by decide) rfl
            have hK9 := hK.sub (tys' := []) [] rfl
            exact W.iret (v := r_26) hx hb hr (fun t ht hW => ⟨⟨r_26, (), rfl, trivial, y_27, f_28, (by show 0 ≤ (y_27 : Int32).toInt ∧ (y_27 : Int32).toInt ≤ 1000; first | decide | (constructor <;> (have := kk_rng p4; have := kk_add2 (x := n0_ran) (y := 1) (a := n0_ran.toInt) (b := 1) rfl rfl (by omega) (by omega); have := kk_rng p4; have := kk_add2 (x := p4) (y := 1) (a := p4.toInt) (b := 1) rfl rfl (by omega) (by omega); omega))), (by show (y_27 : Int32).toInt ≤ (n0_ran : Int32).toInt + 11; first | decide | (have := kk_rng p4; have := kk_add2 (x := n0_ran) (y := 1) (a := n0_ran.toInt) (b := 1) rfl rfl (by omega) (by omega); have := kk_rng p4; have := kk_add2 (x := p4) (y := 1) (a := p4.toInt) (b := 1) rfl rfl (by omega) (by omega); omega)), by rw [ht]; exact hP9, va_K.moved hW.alike hK9, hD9⟩, hS.F ht⟩) hS.2.2 dX5_call_143
          · skip
            refine lv_icmp_ge (tgt := 97) hx hb dX5_call_83 (by decide) (fun c_29 => ?_) (fun c_29 => ?_)
            · have t_29 : 24 ≤ n0_ran.toInt := kk_le c_29
              exact hcut_25 (f2) _ _ _ ⟨hP, hD, hS, lv_sub hl [0, 1, 2, 3, 4, 5, 6, 7] rfl⟩
            · have t_29 : n0_ran.toInt < 24 := kk_nle c_29
              refine lv_aload_n hx hb dX5_call_86 rfl (lv_at hl 2 rfl) ?_
              refine va_get (D := (dC, dI)) (ci := 5) (v := .ref h2) (C := RX5) (T := TX5) (N := 4) hx hb hts (fun _ h => List.mem_cons_of_mem _ (List.mem_append_right _ h)) hown hK hP 0 rfl rfl 2 (by decide) (hts (.fieldLink RX5 15 "KinkStreet$Lines" "trace" "[I") (List.mem_of_getElem? (i := 4) rfl)) (fun _ h9 => h9) rfl dX5_call_87 ?_
              refine lv_aload_n hx hb dX5_call_90 rfl (lv_at hl 2 rfl) ?_
              refine va_get (D := (dC, dI)) (ci := 5) (v := .int n0_ran) (C := RX5) (T := TX5) (N := 4) hx hb hts (fun _ h => List.mem_cons_of_mem _ (List.mem_append_right _ h)) hown hK hP 0 rfl rfl 3 (by decide) (hts (.fieldLink RX5 36 "KinkStreet$Lines" "ran" "I") (List.mem_of_getElem? (i := 3) rfl)) (fun _ h9 => h9) rfl dX5_call_91 ?_
              refine lv_iload hx hb dX5_call_94 (lv_at hl 0 rfl) ?_
              refine va_iast hx hb hK hP hD hS 2 0 rfl rfl (vp_in_iff.mpr ⟨by have := kk_rng p4; omega, by have := kk_rng p4; omega⟩) dX5_call_96 (fun H locs hP hD hS => ?_)
              generalize upd f2 (n0_ran : Int32).toNatClampNeg 10 = f_30 at hP hD
              have hP : va_P (dC, dI) vwCl [(h0, Sum.inr (5, [Value.ref h1, Value.int n0_size, Value.ref h2, Value.int n0_ran])), (h1, Sum.inl (cint, 50, Sum.inl f1)), (h2, Sum.inl (cint, 24, Sum.inl f_30))] H := hP
              have hD : va_D A [(h0, Sum.inr (5, [Value.ref h1, Value.int n0_size, Value.ref h2, Value.int n0_ran])), (h1, Sum.inl (cint, 50, Sum.inl f1)), (h2, Sum.inl (cint, 24, Sum.inl f_30))] := hD
              exact hcut_25 (f_30) _ _ _ ⟨hP, hD, hS, lv_sub hl [0, 1, 2, 3, 4, 5, 6, 7] rfl⟩
        · have t_20 : 40 < p4.toInt := kk_nle c_20
          refine lv_iconst (v := 0) hx hb dX5_call_63 (by decide) ?_
          obtain ⟨hP9, hD9⟩ := kk_leafout (wc := [(h0, Sum.inr (5, [Value.ref h1, Value.int n0_size, Value.ref h2, Value.int n0_ran])), (h1, Sum.inl (cint, 50, Sum.inl f1)), (h2, Sum.inl (cint, 24, Sum.inl f2))]) hP hD [0, 1, 2] (by decide) rfl
          have hK9 := hK.sub (tys' := []) [] rfl
          exact W.iret (v := 0) hx hb hr (fun t ht hW => ⟨⟨0, (), rfl, trivial, n0_ran, f2, (by show 0 ≤ (n0_ran : Int32).toInt ∧ (n0_ran : Int32).toInt ≤ 1000; first | decide | (constructor <;> (have := kk_rng p4; omega))), (by show (n0_ran : Int32).toInt ≤ (n0_ran : Int32).toInt + 11; first | decide | (have := kk_rng p4; omega)), by rw [ht]; exact hP9, va_K.moved hW.alike hK9, hD9⟩, hS.F ht⟩) hS.2.2 dX5_call_64
  · have t_1 : p1.toInt = 1 := by rw [e_1]; rfl
    subst e_1
    refine lv_iload_n hx hb dX5_call_0 rfl (lv_at hl 2 rfl) ?_
    refine lv_istore (lv' := [(6, .int 1), (0, .ref h0), (1, .int p0), (2, .int 1), (3, .int 1), (4, .int p3), (5, .int p4)]) hx hb dX5_call_1 hl (by decide) rfl (fun ls hl => ?_)
    refine lv_iconst (v := 0) hx hb dX5_call_3 (by decide) ?_
    refine lv_istore (lv' := [(7, .int 0), (6, .int 1), (0, .ref h0), (1, .int p0), (2, .int 1), (3, .int 1), (4, .int p3), (5, .int p4)]) hx hb dX5_call_4 hl (by decide) rfl (fun ls hl => ?_)
    refine lv_iload hx hb dX5_call_6 (lv_at hl 0 rfl) ?_
    refine lv_bipush (v := 8) hx hb dX5_call_8 (by decide) ?_
    refine lv_icmp_ge (tgt := 48) hx hb dX5_call_10 (by decide) (fun c => absurd c (by decide)) (fun _ => ?_)
    refine lv_iload hx hb dX5_call_13 (lv_at hl 1 rfl) ?_
    obtain ⟨hPc, hDc, hFc⟩ := kk_cutout (wc := []) hP hD hS hA [] (by decide) rfl
    have hKc := hK.sub (tys' := []) [] rfl
    refine va_calli (va_runS (As := [.int 1]) (rest := []) ⟨hx, hb, hml, hown, hts⟩ (g_X5_isKind_0 l dC dI s.heap.size 1) (va_cwS 1 hts gX5_call_X5_isKind rfl rfl rfl (by decide +kernel) ⟨Nat.le_of_ble_eq_true rfl, Nat.le_of_ble_eq_true rfl⟩) ⟨fun a U g mk q => by obtain ⟨q0, q1, qP, qK, qD⟩ := q; exact ⟨q0, q1, qP, va_K.moved (u := U) (U := U.calling g mk a) (Vm.Alike.refl U.vm) qK, qD⟩, fun U hU hW => ⟨rfl, by rw [hU], by rw [hU]; exact hPc, va_K.moved hW.alike hKc, hDc.weaken (fun _ _ _ _ => trivial)⟩⟩ rfl rfl hl.1 rfl (lv_room (Nat.le_of_ble_eq_true rfl)) dX5_call_15 ⟨Nat.le_of_ble_eq_true rfl, Nat.le_of_ble_eq_true rfl⟩) hS (fun q _ h => hFc q h) hFc (fun r_31 u t H1 locs ht hvm hw hB hz1 hk1 hS => ?_)
    obtain ⟨hP1, hK1, hD1⟩ := hB
    rw [ht] at hP1
    have hK1 := va_K.moved hvm.symm hK1
    obtain ⟨hP, hD⟩ := va_join (wr := [(h0, Sum.inr (5, [Value.ref h1, Value.int n0_size, Value.ref h2, Value.int n0_ran])), (h1, Sum.inl (cint, 50, Sum.inl f1)), (h2, Sum.inl (cint, 24, Sum.inl f2))]) (w1 := []) hP hD [] [0, 1, 2] rfl rfl (by decide) (by decide) hk1 hFc hP1 hD1
    generalize H1 = H at hP hS ⊢
    have hP : va_P (dC, dI) vwCl [(h0, Sum.inr (5, [Value.ref h1, Value.int n0_size, Value.ref h2, Value.int n0_ran])), (h1, Sum.inl (cint, 50, Sum.inl f1)), (h2, Sum.inl (cint, 24, Sum.inl f2))] H := hP
    have hD : va_D A [(h0, Sum.inr (5, [Value.ref h1, Value.int n0_size, Value.ref h2, Value.int n0_ran])), (h1, Sum.inl (cint, 50, Sum.inl f1)), (h2, Sum.inl (cint, 24, Sum.inl f2))] := hD
    rcases hw with ⟨rfl⟩ | ⟨t_31_0, t_31_1, rfl⟩
    · skip
      refine lv_if_eq (tgt := 48) hx hb dX5_call_18 (by decide) (fun _ => ?_) (fun c => absurd c (by decide))
      refine lv_iload hx hb dX5_call_48 (lv_at hl 1 rfl) ?_
      obtain ⟨hPc, hDc, hFc⟩ := kk_cutout (wc := []) hP hD hS hA [] (by decide) rfl
      have hKc := hK.sub (tys' := []) [] rfl
      refine va_calli (va_runS (As := [.int 1]) (rest := []) ⟨hx, hb, hml, hown, hts⟩ (g_X5_isKind_0 l dC dI H.size 1) (va_cwS 1 hts gX5_call_X5_isKind rfl rfl rfl (by decide +kernel) ⟨Nat.le_of_ble_eq_true rfl, Nat.le_of_ble_eq_true rfl⟩) ⟨fun a U g mk q => by obtain ⟨q0, q1, qP, qK, qD⟩ := q; exact ⟨q0, q1, qP, va_K.moved (u := U) (U := U.calling g mk a) (Vm.Alike.refl U.vm) qK, qD⟩, fun U hU hW => ⟨rfl, by rw [hU], by rw [hU]; exact hPc, va_K.moved hW.alike hKc, hDc.weaken (fun _ _ _ _ => trivial)⟩⟩ rfl rfl hl.1 rfl (lv_room (Nat.le_of_ble_eq_true rfl)) dX5_call_50 ⟨Nat.le_of_ble_eq_true rfl, Nat.le_of_ble_eq_true rfl⟩) hS (fun q _ h => hFc q h) hFc (fun r_32 u t H1 locs ht hvm hw hB hz1 hk1 hS => ?_)
      obtain ⟨hP1, hK1, hD1⟩ := hB
      rw [ht] at hP1
      have hK1 := va_K.moved hvm.symm hK1
      obtain ⟨hP, hD⟩ := va_join (wr := [(h0, Sum.inr (5, [Value.ref h1, Value.int n0_size, Value.ref h2, Value.int n0_ran])), (h1, Sum.inl (cint, 50, Sum.inl f1)), (h2, Sum.inl (cint, 24, Sum.inl f2))]) (w1 := []) hP hD [] [0, 1, 2] rfl rfl (by decide) (by decide) hk1 hFc hP1 hD1
      generalize H1 = H at hP hS ⊢
      have hP : va_P (dC, dI) vwCl [(h0, Sum.inr (5, [Value.ref h1, Value.int n0_size, Value.ref h2, Value.int n0_ran])), (h1, Sum.inl (cint, 50, Sum.inl f1)), (h2, Sum.inl (cint, 24, Sum.inl f2))] H := hP
      have hD : va_D A [(h0, Sum.inr (5, [Value.ref h1, Value.int n0_size, Value.ref h2, Value.int n0_ran])), (h1, Sum.inl (cint, 50, Sum.inl f1)), (h2, Sum.inl (cint, 24, Sum.inl f2))] := hD
      rcases hw with ⟨rfl⟩ | ⟨t_32_0, t_32_1, rfl⟩
      · skip
        refine lv_if_eq (tgt := 63) hx hb dX5_call_53 (by decide) (fun _ => ?_) (fun c => absurd c (by decide))
        refine lv_iconst (v := 0) hx hb dX5_call_63 (by decide) ?_
        obtain ⟨hP9, hD9⟩ := kk_leafout (wc := [(h0, Sum.inr (5, [Value.ref h1, Value.int n0_size, Value.ref h2, Value.int n0_ran])), (h1, Sum.inl (cint, 50, Sum.inl f1)), (h2, Sum.inl (cint, 24, Sum.inl f2))]) hP hD [0, 1, 2] (by decide) rfl
        have hK9 := hK.sub (tys' := []) [] rfl
        exact W.iret (v := 0) hx hb hr (fun t ht hW => ⟨⟨0, (), rfl, trivial, n0_ran, f2, (by show 0 ≤ (n0_ran : Int32).toInt ∧ (n0_ran : Int32).toInt ≤ 1000; first | decide | (constructor <;> (omega))), (by show (n0_ran : Int32).toInt ≤ (n0_ran : Int32).toInt + 11; first | decide | (omega)), by rw [ht]; exact hP9, va_K.moved hW.alike hK9, hD9⟩, hS.F ht⟩) hS.2.2 dX5_call_64
      · skip
        have t_32_0 : (0 : Int) ≤ 1 := t_32_0
        have t_32_1 : (1 : Int) < 8 := t_32_1
        refine lv_if_eq (tgt := 63) hx hb dX5_call_53 (by decide) (fun c => absurd c (by decide)) (fun _ => ?_)
        refine lv_iload hx hb dX5_call_56 (lv_at hl 7 rfl) ?_
        refine lv_bipush (v := 40) hx hb dX5_call_58 (by decide) ?_
        refine lv_icmp_le (tgt := 65) hx hb dX5_call_60 (by decide) (fun c_33 => ?_) (fun c_33 => ?_)
        · have t_33 : p4.toInt ≤ 40 := kk_le c_33
          refine va_gets hx hb hZOWN_BODIES hS hown (hts (.fieldLink RX5 43 "KinkStreet$Lines" "OWN_BODIES" "[I") (List.mem_of_getElem? (i := 1) rfl)) (fun _ h9 => h9) dX5_call_65 ?_
          refine lv_iload hx hb dX5_call_68 (lv_at hl 1 rfl) ?_
          refine lv_iconst (v := 4) hx hb dX5_call_70 (by decide) ?_
          refine lv_imul hx hb dX5_call_71 ?_
          refine lv_topi (fun y_34 e_34 => ?_)
          obtain rfl : y_34 = 4 := e_34.trans (by decide)
          refine lv_iload_n hx hb dX5_call_72 rfl (lv_at hl 5 rfl) ?_
          refine lv_iadd hx hb dX5_call_73 ?_
          refine lv_topi (fun y_35 e_35 => ?_)
          obtain rfl : y_35 = 5 := e_35.trans (by decide)
          refine va_ti (v := .int 0) hx hb hTOWN_BODIES hS (by unfold vp_in; decide) rfl dX5_call_74 ?_
          refine lv_istore (lv' := [(7, .int 0), (6, .int 1), (0, .ref h0), (1, .int p0), (2, .int 1), (3, .int 1), (4, .int p3), (5, .int p4)]) hx hb dX5_call_75 hl (by decide) rfl (fun ls hl => ?_)
          refine lv_aload_n hx hb dX5_call_77 rfl (lv_at hl 2 rfl) ?_
          refine va_get (D := (dC, dI)) (ci := 5) (v := .int n0_ran) (C := RX5) (T := TX5) (N := 4) hx hb hts (fun _ h => List.mem_cons_of_mem _ (List.mem_append_right _ h)) hown hK hP 0 rfl rfl 3 (by decide) (hts (.fieldLink RX5 36 "KinkStreet$Lines" "ran" "I") (List.mem_of_getElem? (i := 3) rfl)) (fun _ h9 => h9) rfl dX5_call_78 ?_
          refine lv_bipush (v := 24) hx hb dX5_call_81 (by decide) ?_
          refine kk_cut (σ := (Nat → Int32)) (pc' := 97) (fun x H locs ls => va_P (dC, dI) vwCl [(h0, Sum.inr (5, [Value.ref h1, Value.int n0_size, Value.ref h2, Value.int n0_ran])), (h1, Sum.inl (cint, 50, Sum.inl f1)), (h2, Sum.inl (cint, 24, Sum.inl x))] H ∧ va_D A [(h0, Sum.inr (5, [Value.ref h1, Value.int n0_size, Value.ref h2, Value.int n0_ran])), (h1, Sum.inl (cint, 50, Sum.inl f1)), (h2, Sum.inl (cint, 24, Sum.inl x))] ∧ va_S A s.heap H locs ∧ lv_has ls 8 [(7, .int 0), (6, .int 1), (0, .ref h0), (1, .int p0), (2, .int 1), (3, .int 1), (4, .int p3), (5, .int p4)]) ?_ (fun hcut_38 => ?_)
          · rintro f_38_0 H locs ls ⟨hP, hD, hS, hl⟩
            have hl : lv_has ls 8 [(7, .int 0), (6, .int 1), (0, .ref h0), (1, .int p0), (2, .int 1), (3, .int 1), (4, .int p3), (5, .int p4)] := hl
            have hP : va_P (dC, dI) vwCl [(h0, Sum.inr (5, [Value.ref h1, Value.int n0_size, Value.ref h2, Value.int n0_ran])), (h1, Sum.inl (cint, 50, Sum.inl f1)), (h2, Sum.inl (cint, 24, Sum.inl f_38_0))] H := hP
            have hD : va_D A [(h0, Sum.inr (5, [Value.ref h1, Value.int n0_size, Value.ref h2, Value.int n0_ran])), (h1, Sum.inl (cint, 50, Sum.inl f1)), (h2, Sum.inl (cint, 24, Sum.inl f_38_0))] := hD
            refine lv_aload_n hx hb dX5_call_97 rfl (lv_at hl 2 rfl) ?_
            refine lv_dup hx hb dX5_call_98 rfl ?_
            refine va_get (D := (dC, dI)) (ci := 5) (v := .int n0_ran) (C := RX5) (T := TX5) (N := 4) hx hb hts (fun _ h => List.mem_cons_of_mem _ (List.mem_append_right _ h)) hown hK hP 0 rfl rfl 3 (by decide) (hts (.fieldLink RX5 36 "KinkStreet$Lines" "ran" "I") (List.mem_of_getElem? (i := 3) rfl)) (fun _ h9 => h9) rfl dX5_call_99 ?_
            refine lv_iconst (v := 1) hx hb dX5_call_102 (by decide) ?_
            refine lv_iadd hx hb dX5_call_103 ?_
            refine va_put (D := (dC, dI)) (ci := 5) (v := .int (n0_ran + 1)) (ty := .int) (C := RX5) (T := TX5) (N := 4) hx hb hts (fun _ h => List.mem_cons_of_mem _ (List.mem_append_right _ h)) tyX5 tyX5_ok nmX5 hown hK hP hD hS 0 rfl rfl 3 (by decide) (hts (.fieldLink RX5 36 "KinkStreet$Lines" "ran" "I") (List.mem_of_getElem? (i := 3) rfl)) (fun _ h9 => h9) rfl (by decide +kernel) rfl rfl (Nat.le_of_ble_eq_true rfl) dX5_call_104 (fun H locs hP hD hS => ?_)
            have hP : va_P (dC, dI) vwCl [(h0, Sum.inr (5, [Value.ref h1, Value.int n0_size, Value.ref h2, Value.int (n0_ran + 1)])), (h1, Sum.inl (cint, 50, Sum.inl f1)), (h2, Sum.inl (cint, 24, Sum.inl f_38_0))] H := hP
            have hD : va_D A [(h0, Sum.inr (5, [Value.ref h1, Value.int n0_size, Value.ref h2, Value.int (n0_ran + 1)])), (h1, Sum.inl (cint, 50, Sum.inl f1)), (h2, Sum.inl (cint, 24, Sum.inl f_38_0))] := hD
            refine lv_iload hx hb dX5_call_107 (lv_at hl 1 rfl) ?_
            refine lv_if_ne (tgt := 128) hx hb dX5_call_109 (by decide) (fun _ => ?_) (fun c => absurd c (by decide))
            refine lv_aload_n hx hb dX5_call_128 rfl (lv_at hl 2 rfl) ?_
            refine lv_iload_n hx hb dX5_call_129 rfl (lv_at hl 3 rfl) ?_
            refine lv_iload hx hb dX5_call_130 (lv_at hl 1 rfl) ?_
            refine lv_iload hx hb dX5_call_132 (lv_at hl 0 rfl) ?_
            refine lv_iload hx hb dX5_call_134 (lv_at hl 6 rfl) ?_
            refine lv_iload hx hb dX5_call_136 (lv_at hl 7 rfl) ?_
            refine lv_iconst (v := 1) hx hb dX5_call_138 (by decide) ?_
            refine lv_iadd hx hb dX5_call_139 ?_
            obtain ⟨hPc, hDc, hFc⟩ := kk_cutout (wc := [(h0, Sum.inr (5, [Value.ref h1, Value.int n0_size, Value.ref h2, Value.int (n0_ran + 1)])), (h1, Sum.inl (cint, 50, Sum.inl f1)), (h2, Sum.inl (cint, 24, Sum.inl f_38_0))]) hP hD hS hA [0, 1, 2] (by decide) rfl
            have hKc := hK.sub (tys' := [(cint, .int)]) [0] rfl
            refine va_calli (va_runV (As := [.int p0, .int 1, .int 0, .int p3, .int (p4 + 1)]) (rest := []) ⟨hx, hb, hml, hown, hts⟩ (g_X5_runUnder_5 l dC dI h0 h1 h2 cint H.size p0 p3 (p4 + 1) n0_size (n0_ran + 1) f1 f_38_0 tn0_size (by show 0 ≤ ((n0_ran + 1) : Int32).toInt ∧ ((n0_ran + 1) : Int32).toInt ≤ 999; first | decide | (constructor <;> (have := kk_rng p4; have := kk_add2 (x := n0_ran) (y := 1) (a := n0_ran.toInt) (b := 1) rfl rfl (by omega) (by omega); have := kk_rng p4; have := kk_add2 (x := p4) (y := 1) (a := p4.toInt) (b := 1) rfl rfl (by omega) (by omega); omega))) bf1 aOWN_BODIES aABOVE) (cwV 5 hts gX5_call_X5_runUnder rfl rfl rfl (by decide +kernel) ⟨Nat.le_of_ble_eq_true rfl, Nat.le_of_ble_eq_true rfl⟩) ⟨fun a U g mk q => by obtain ⟨q0, q1, qP, qK, qD, qx0, qx1, qx2, qx3⟩ := q; exact ⟨q0, q1, qP, va_K.moved (u := U) (U := U.calling g mk a) (Vm.Alike.refl U.vm) qK, qD, va_Z.moved (u := U) (U := U.calling g mk a) (Vm.Alike.refl U.vm) qx0, va_T.moved (u := U) (U := U.calling g mk a) (Vm.Alike.refl U.vm) qx1, va_Z.moved (u := U) (U := U.calling g mk a) (Vm.Alike.refl U.vm) qx2, va_T.moved (u := U) (U := U.calling g mk a) (Vm.Alike.refl U.vm) qx3⟩, va_recv hKc hPc (ci := 5) (q0 := 0) rfl rfl, fun U hU hW => ⟨rfl, by rw [hU], by rw [hU]; exact hPc, va_K.moved hW.alike hKc, hDc.weaken (fun _ _ _ _ => trivial), by rw [hU]; exact ((hZOWN_BODIES.kept (fun a h1 h2 => hS.2.1 a h1 h2)).narrow hFc).moved hW.alike, by rw [hU]; exact ((hTOWN_BODIES.kept (fun a h1 h2 => hS.2.1 a h1 h2)).narrow hFc).moved hW.alike, by rw [hU]; exact ((hZABOVE.kept (fun a h1 h2 => hS.2.1 a h1 h2)).narrow hFc).moved hW.alike, by rw [hU]; exact ((hTABOVE.kept (fun a h1 h2 => hS.2.1 a h1 h2)).narrow hFc).moved hW.alike⟩⟩ rfl rfl hl.1 rfl (lv_room (Nat.le_of_ble_eq_true rfl)) dX5_call_140 ⟨Nat.le_of_ble_eq_true rfl, Nat.le_of_ble_eq_true rfl⟩) hS (fun q _ h => hFc q h) hFc (fun r_39 u t H1 locs ht hvm hw hB hz1 hk1 hS => ?_)
            obtain ⟨y_40, f_41, by_40, v_41_0, hP1, hK1, hD1⟩ := hB
            have v_41_0 : y_40.toInt ≤ (n0_ran + 1).toInt + 1 := v_41_0
            rw [ht] at hP1
            have hK1 := va_K.moved hvm.symm hK1
            obtain ⟨hP, hD⟩ := va_join (wr := []) (w1 := [(h0, Sum.inr (5, [Value.ref h1, Value.int n0_size, Value.ref h2, Value.int y_40])), (h1, Sum.inl (cint, 50, Sum.inl f1)), (h2, Sum.inl (cint, 24, Sum.inl f_41))]) hP hD [0, 1, 2] [] rfl rfl (by decide) (by decide) hk1 hFc hP1 hD1
            generalize H1 = H at hP hS ⊢
            have hP : va_P (dC, dI) vwCl [(h0, Sum.inr (5, [Value.ref h1, Value.int n0_size, Value.ref h2, Value.int y_40])), (h1, Sum.inl (cint, 50, Sum.inl f1)), (h2, Sum.inl (cint, 24, Sum.inl f_41))] H := hP
            have hD : va_D A [(h0, Sum.inr (5, [Value.ref h1, Value.int n0_size, Value.ref h2, Value.int y_40])), (h1, Sum.inl (cint, 50, Sum.inl f1)), (h2, Sum.inl (cint, 24, Sum.inl f_41))] := hD
            obtain ⟨hP9, hD9⟩ := kk_leafout (wc := [(h0, Sum.inr (5, [Value.ref h1, Value.int n0_size, Value.ref h2, Value.int y_40])), (h1, Sum.inl (cint, 50, Sum.inl f1)), (h2, Sum.inl (cint, 24, Sum.inl f_41))]) hP hD [0, 1, 2] (by decide) rfl
            have hK9 := hK.sub (tys' := []) [] rfl
            exact W.iret (v := r_39) hx hb hr (fun t ht hW => ⟨⟨r_39, (), rfl, trivial, y_40, f_41, (by show 0 ≤ (y_40 : Int32).toInt ∧ (y_40 : Int32).toInt ≤ 1000; first | decide | (constructor <;> (have := kk_rng p4; have := kk_add2 (x := n0_ran) (y := 1) (a := n0_ran.toInt) (b := 1) rfl rfl (by omega) (by omega); have := kk_rng p4; have := kk_add2 (x := p4) (y := 1) (a := p4.toInt) (b := 1) rfl rfl (by omega) (by omega); omega))), (by show (y_40 : Int32).toInt ≤ (n0_ran : Int32).toInt + 11; first | decide | (have := kk_rng p4; have := kk_add2 (x := n0_ran) (y := 1) (a := n0_ran.toInt) (b := 1) rfl rfl (by omega) (by omega); have := kk_rng p4; have := kk_add2 (x := p4) (y := 1) (a := p4.toInt) (b := 1) rfl rfl (by omega) (by omega); omega)), by rw [ht]; exact hP9, va_K.moved hW.alike hK9, hD9⟩, hS.F ht⟩) hS.2.2 dX5_call_143
          · skip
            refine lv_icmp_ge (tgt := 97) hx hb dX5_call_83 (by decide) (fun c_42 => ?_) (fun c_42 => ?_)
            · have t_42 : 24 ≤ n0_ran.toInt := kk_le c_42
              exact hcut_38 (f2) _ _ _ ⟨hP, hD, hS, lv_sub hl [0, 1, 2, 3, 4, 5, 6, 7] rfl⟩
            · have t_42 : n0_ran.toInt < 24 := kk_nle c_42
              refine lv_aload_n hx hb dX5_call_86 rfl (lv_at hl 2 rfl) ?_
              refine va_get (D := (dC, dI)) (ci := 5) (v := .ref h2) (C := RX5) (T := TX5) (N := 4) hx hb hts (fun _ h => List.mem_cons_of_mem _ (List.mem_append_right _ h)) hown hK hP 0 rfl rfl 2 (by decide) (hts (.fieldLink RX5 15 "KinkStreet$Lines" "trace" "[I") (List.mem_of_getElem? (i := 4) rfl)) (fun _ h9 => h9) rfl dX5_call_87 ?_
              refine lv_aload_n hx hb dX5_call_90 rfl (lv_at hl 2 rfl) ?_
              refine va_get (D := (dC, dI)) (ci := 5) (v := .int n0_ran) (C := RX5) (T := TX5) (N := 4) hx hb hts (fun _ h => List.mem_cons_of_mem _ (List.mem_append_right _ h)) hown hK hP 0 rfl rfl 3 (by decide) (hts (.fieldLink RX5 36 "KinkStreet$Lines" "ran" "I") (List.mem_of_getElem? (i := 3) rfl)) (fun _ h9 => h9) rfl dX5_call_91 ?_
              refine lv_iload hx hb dX5_call_94 (lv_at hl 0 rfl) ?_
              refine va_iast hx hb hK hP hD hS 2 0 rfl rfl (vp_in_iff.mpr ⟨by have := kk_rng p4; omega, by have := kk_rng p4; omega⟩) dX5_call_96 (fun H locs hP hD hS => ?_)
              generalize upd f2 (n0_ran : Int32).toNatClampNeg 0 = f_43 at hP hD
              have hP : va_P (dC, dI) vwCl [(h0, Sum.inr (5, [Value.ref h1, Value.int n0_size, Value.ref h2, Value.int n0_ran])), (h1, Sum.inl (cint, 50, Sum.inl f1)), (h2, Sum.inl (cint, 24, Sum.inl f_43))] H := hP
              have hD : va_D A [(h0, Sum.inr (5, [Value.ref h1, Value.int n0_size, Value.ref h2, Value.int n0_ran])), (h1, Sum.inl (cint, 50, Sum.inl f1)), (h2, Sum.inl (cint, 24, Sum.inl f_43))] := hD
              exact hcut_38 (f_43) _ _ _ ⟨hP, hD, hS, lv_sub hl [0, 1, 2, 3, 4, 5, 6, 7] rfl⟩
        · have t_33 : 40 < p4.toInt := kk_nle c_33
          refine lv_iconst (v := 0) hx hb dX5_call_63 (by decide) ?_
          obtain ⟨hP9, hD9⟩ := kk_leafout (wc := [(h0, Sum.inr (5, [Value.ref h1, Value.int n0_size, Value.ref h2, Value.int n0_ran])), (h1, Sum.inl (cint, 50, Sum.inl f1)), (h2, Sum.inl (cint, 24, Sum.inl f2))]) hP hD [0, 1, 2] (by decide) rfl
          have hK9 := hK.sub (tys' := []) [] rfl
          exact W.iret (v := 0) hx hb hr (fun t ht hW => ⟨⟨0, (), rfl, trivial, n0_ran, f2, (by show 0 ≤ (n0_ran : Int32).toInt ∧ (n0_ran : Int32).toInt ≤ 1000; first | decide | (constructor <;> (have := kk_rng p4; omega))), (by show (n0_ran : Int32).toInt ≤ (n0_ran : Int32).toInt + 11; first | decide | (have := kk_rng p4; omega)), by rw [ht]; exact hP9, va_K.moved hW.alike hK9, hD9⟩, hS.F ht⟩) hS.2.2 dX5_call_64
    · skip
      have t_31_0 : (0 : Int) ≤ 1 := t_31_0
      have t_31_1 : (1 : Int) < 8 := t_31_1
      refine lv_if_eq (tgt := 48) hx hb dX5_call_18 (by decide) (fun c => absurd c (by decide)) (fun _ => ?_)
      refine va_gets hx hb hZOWN_BODIES hS hown (hts (.fieldLink RX5 43 "KinkStreet$Lines" "OWN_BODIES" "[I") (List.mem_of_getElem? (i := 1) rfl)) (fun _ h9 => h9) dX5_call_21 ?_
      refine lv_iload hx hb dX5_call_24 (lv_at hl 1 rfl) ?_
      refine lv_iconst (v := 4) hx hb dX5_call_26 (by decide) ?_
      refine lv_imul hx hb dX5_call_27 ?_
      refine lv_topi (fun y_44 e_44 => ?_)
      obtain rfl : y_44 = 4 := e_44.trans (by decide)
      refine lv_iload_n hx hb dX5_call_28 rfl (lv_at hl 5 rfl) ?_
      refine lv_iadd hx hb dX5_call_29 ?_
      refine lv_topi (fun y_45 e_45 => ?_)
      obtain rfl : y_45 = 5 := e_45.trans (by decide)
      refine va_ti (v := .int 0) hx hb hTOWN_BODIES hS (by unfold vp_in; decide) rfl dX5_call_30 ?_
      refine lv_if_ne (tgt := 48) hx hb dX5_call_31 (by decide) (fun c => absurd c (by decide)) (fun _ => ?_)
      refine va_gets hx hb hZABOVE hS hown (hts (.fieldLink RX5 22 "KinkStreet$Lines" "ABOVE" "[I") (List.mem_of_getElem? (i := 2) rfl)) (fun _ h9 => h9) dX5_call_34 ?_
      refine lv_iload hx hb dX5_call_37 (lv_at hl 1 rfl) ?_
      refine va_ti (v := .int 0) hx hb hTABOVE hS (by unfold vp_in; decide) rfl dX5_call_39 ?_
      refine lv_istore (lv' := [(6, .int 0), (7, .int 0), (0, .ref h0), (1, .int p0), (2, .int 1), (3, .int 1), (4, .int p3), (5, .int p4)]) hx hb dX5_call_40 hl (by decide) rfl (fun ls hl => ?_)
      refine lv_iinc (v := 1) (lv' := [(7, .int 1), (6, .int 0), (0, .ref h0), (1, .int p0), (2, .int 1), (3, .int 1), (4, .int p3), (5, .int p4)]) hx hb dX5_call_42 hl (k := 1) rfl (by first | rfl | decide) (by decide) rfl (fun ls hl => ?_)
      refine lv_goto (tgt := 6) hx hb dX5_call_45 (by decide) ?_
      refine lv_iload hx hb dX5_call_6 (lv_at hl 0 rfl) ?_
      refine lv_bipush (v := 8) hx hb dX5_call_8 (by decide) ?_
      refine lv_icmp_ge (tgt := 48) hx hb dX5_call_10 (by decide) (fun c => absurd c (by decide)) (fun _ => ?_)
      refine lv_iload hx hb dX5_call_13 (lv_at hl 1 rfl) ?_
      obtain ⟨hPc, hDc, hFc⟩ := kk_cutout (wc := []) hP hD hS hA [] (by decide) rfl
      have hKc := hK.sub (tys' := []) [] rfl
      refine va_calli (va_runS (As := [.int 0]) (rest := []) ⟨hx, hb, hml, hown, hts⟩ (g_X5_isKind_0 l dC dI H.size 0) (va_cwS 1 hts gX5_call_X5_isKind rfl rfl rfl (by decide +kernel) ⟨Nat.le_of_ble_eq_true rfl, Nat.le_of_ble_eq_true rfl⟩) ⟨fun a U g mk q => by obtain ⟨q0, q1, qP, qK, qD⟩ := q; exact ⟨q0, q1, qP, va_K.moved (u := U) (U := U.calling g mk a) (Vm.Alike.refl U.vm) qK, qD⟩, fun U hU hW => ⟨rfl, by rw [hU], by rw [hU]; exact hPc, va_K.moved hW.alike hKc, hDc.weaken (fun _ _ _ _ => trivial)⟩⟩ rfl rfl hl.1 rfl (lv_room (Nat.le_of_ble_eq_true rfl)) dX5_call_15 ⟨Nat.le_of_ble_eq_true rfl, Nat.le_of_ble_eq_true rfl⟩) hS (fun q _ h => hFc q h) hFc (fun r_46 u t H1 locs ht hvm hw hB hz1 hk1 hS => ?_)
      obtain ⟨hP1, hK1, hD1⟩ := hB
      rw [ht] at hP1
      have hK1 := va_K.moved hvm.symm hK1
      obtain ⟨hP, hD⟩ := va_join (wr := [(h0, Sum.inr (5, [Value.ref h1, Value.int n0_size, Value.ref h2, Value.int n0_ran])), (h1, Sum.inl (cint, 50, Sum.inl f1)), (h2, Sum.inl (cint, 24, Sum.inl f2))]) (w1 := []) hP hD [] [0, 1, 2] rfl rfl (by decide) (by decide) hk1 hFc hP1 hD1
      generalize H1 = H at hP hS ⊢
      have hP : va_P (dC, dI) vwCl [(h0, Sum.inr (5, [Value.ref h1, Value.int n0_size, Value.ref h2, Value.int n0_ran])), (h1, Sum.inl (cint, 50, Sum.inl f1)), (h2, Sum.inl (cint, 24, Sum.inl f2))] H := hP
      have hD : va_D A [(h0, Sum.inr (5, [Value.ref h1, Value.int n0_size, Value.ref h2, Value.int n0_ran])), (h1, Sum.inl (cint, 50, Sum.inl f1)), (h2, Sum.inl (cint, 24, Sum.inl f2))] := hD
      rcases hw with ⟨rfl⟩ | ⟨t_46_0, t_46_1, rfl⟩
      · skip
        refine lv_if_eq (tgt := 48) hx hb dX5_call_18 (by decide) (fun _ => ?_) (fun c => absurd c (by decide))
        refine lv_iload hx hb dX5_call_48 (lv_at hl 1 rfl) ?_
        obtain ⟨hPc, hDc, hFc⟩ := kk_cutout (wc := []) hP hD hS hA [] (by decide) rfl
        have hKc := hK.sub (tys' := []) [] rfl
        refine va_calli (va_runS (As := [.int 0]) (rest := []) ⟨hx, hb, hml, hown, hts⟩ (g_X5_isKind_0 l dC dI H.size 0) (va_cwS 1 hts gX5_call_X5_isKind rfl rfl rfl (by decide +kernel) ⟨Nat.le_of_ble_eq_true rfl, Nat.le_of_ble_eq_true rfl⟩) ⟨fun a U g mk q => by obtain ⟨q0, q1, qP, qK, qD⟩ := q; exact ⟨q0, q1, qP, va_K.moved (u := U) (U := U.calling g mk a) (Vm.Alike.refl U.vm) qK, qD⟩, fun U hU hW => ⟨rfl, by rw [hU], by rw [hU]; exact hPc, va_K.moved hW.alike hKc, hDc.weaken (fun _ _ _ _ => trivial)⟩⟩ rfl rfl hl.1 rfl (lv_room (Nat.le_of_ble_eq_true rfl)) dX5_call_50 ⟨Nat.le_of_ble_eq_true rfl, Nat.le_of_ble_eq_true rfl⟩) hS (fun q _ h => hFc q h) hFc (fun r_47 u t H1 locs ht hvm hw hB hz1 hk1 hS => ?_)
        obtain ⟨hP1, hK1, hD1⟩ := hB
        rw [ht] at hP1
        have hK1 := va_K.moved hvm.symm hK1
        obtain ⟨hP, hD⟩ := va_join (wr := [(h0, Sum.inr (5, [Value.ref h1, Value.int n0_size, Value.ref h2, Value.int n0_ran])), (h1, Sum.inl (cint, 50, Sum.inl f1)), (h2, Sum.inl (cint, 24, Sum.inl f2))]) (w1 := []) hP hD [] [0, 1, 2] rfl rfl (by decide) (by decide) hk1 hFc hP1 hD1
        generalize H1 = H at hP hS ⊢
        have hP : va_P (dC, dI) vwCl [(h0, Sum.inr (5, [Value.ref h1, Value.int n0_size, Value.ref h2, Value.int n0_ran])), (h1, Sum.inl (cint, 50, Sum.inl f1)), (h2, Sum.inl (cint, 24, Sum.inl f2))] H := hP
        have hD : va_D A [(h0, Sum.inr (5, [Value.ref h1, Value.int n0_size, Value.ref h2, Value.int n0_ran])), (h1, Sum.inl (cint, 50, Sum.inl f1)), (h2, Sum.inl (cint, 24, Sum.inl f2))] := hD
        rcases hw with ⟨rfl⟩ | ⟨t_47_0, t_47_1, rfl⟩
        · skip
          refine lv_if_eq (tgt := 63) hx hb dX5_call_53 (by decide) (fun _ => ?_) (fun c => absurd c (by decide))
          refine lv_iconst (v := 0) hx hb dX5_call_63 (by decide) ?_
          obtain ⟨hP9, hD9⟩ := kk_leafout (wc := [(h0, Sum.inr (5, [Value.ref h1, Value.int n0_size, Value.ref h2, Value.int n0_ran])), (h1, Sum.inl (cint, 50, Sum.inl f1)), (h2, Sum.inl (cint, 24, Sum.inl f2))]) hP hD [0, 1, 2] (by decide) rfl
          have hK9 := hK.sub (tys' := []) [] rfl
          exact W.iret (v := 0) hx hb hr (fun t ht hW => ⟨⟨0, (), rfl, trivial, n0_ran, f2, (by show 0 ≤ (n0_ran : Int32).toInt ∧ (n0_ran : Int32).toInt ≤ 1000; first | decide | (constructor <;> (omega))), (by show (n0_ran : Int32).toInt ≤ (n0_ran : Int32).toInt + 11; first | decide | (omega)), by rw [ht]; exact hP9, va_K.moved hW.alike hK9, hD9⟩, hS.F ht⟩) hS.2.2 dX5_call_64
        · skip
          have t_47_0 : (0 : Int) ≤ 0 := t_47_0
          have t_47_1 : (0 : Int) < 8 := t_47_1
          refine lv_if_eq (tgt := 63) hx hb dX5_call_53 (by decide) (fun c => absurd c (by decide)) (fun _ => ?_)
          refine lv_iload hx hb dX5_call_56 (lv_at hl 7 rfl) ?_
          refine lv_bipush (v := 40) hx hb dX5_call_58 (by decide) ?_
          refine lv_icmp_le (tgt := 65) hx hb dX5_call_60 (by decide) (fun c_48 => ?_) (fun c_48 => ?_)
          · have t_48 : p4.toInt ≤ 40 := kk_le c_48
            refine va_gets hx hb hZOWN_BODIES hS hown (hts (.fieldLink RX5 43 "KinkStreet$Lines" "OWN_BODIES" "[I") (List.mem_of_getElem? (i := 1) rfl)) (fun _ h9 => h9) dX5_call_65 ?_
            refine lv_iload hx hb dX5_call_68 (lv_at hl 1 rfl) ?_
            refine lv_iconst (v := 4) hx hb dX5_call_70 (by decide) ?_
            refine lv_imul hx hb dX5_call_71 ?_
            refine lv_topi (fun y_49 e_49 => ?_)
            obtain rfl : y_49 = 0 := e_49.trans (by decide)
            refine lv_iload_n hx hb dX5_call_72 rfl (lv_at hl 5 rfl) ?_
            refine lv_iadd hx hb dX5_call_73 ?_
            refine lv_topi (fun y_50 e_50 => ?_)
            obtain rfl : y_50 = 1 := e_50.trans (by decide)
            refine va_ti (v := .int 10) hx hb hTOWN_BODIES hS (by unfold vp_in; decide) rfl dX5_call_74 ?_
            refine lv_istore (lv' := [(7, .int 10), (6, .int 0), (0, .ref h0), (1, .int p0), (2, .int 1), (3, .int 1), (4, .int p3), (5, .int p4)]) hx hb dX5_call_75 hl (by decide) rfl (fun ls hl => ?_)
            refine lv_aload_n hx hb dX5_call_77 rfl (lv_at hl 2 rfl) ?_
            refine va_get (D := (dC, dI)) (ci := 5) (v := .int n0_ran) (C := RX5) (T := TX5) (N := 4) hx hb hts (fun _ h => List.mem_cons_of_mem _ (List.mem_append_right _ h)) hown hK hP 0 rfl rfl 3 (by decide) (hts (.fieldLink RX5 36 "KinkStreet$Lines" "ran" "I") (List.mem_of_getElem? (i := 3) rfl)) (fun _ h9 => h9) rfl dX5_call_78 ?_
            refine lv_bipush (v := 24) hx hb dX5_call_81 (by decide) ?_
            refine kk_cut (σ := (Nat → Int32)) (pc' := 97) (fun x H locs ls => va_P (dC, dI) vwCl [(h0, Sum.inr (5, [Value.ref h1, Value.int n0_size, Value.ref h2, Value.int n0_ran])), (h1, Sum.inl (cint, 50, Sum.inl f1)), (h2, Sum.inl (cint, 24, Sum.inl x))] H ∧ va_D A [(h0, Sum.inr (5, [Value.ref h1, Value.int n0_size, Value.ref h2, Value.int n0_ran])), (h1, Sum.inl (cint, 50, Sum.inl f1)), (h2, Sum.inl (cint, 24, Sum.inl x))] ∧ va_S A s.heap H locs ∧ lv_has ls 8 [(7, .int 10), (6, .int 0), (0, .ref h0), (1, .int p0), (2, .int 1), (3, .int 1), (4, .int p3), (5, .int p4)]) ?_ (fun hcut_53 => ?_)
            · rintro f_53_0 H locs ls ⟨hP, hD, hS, hl⟩
              have hl : lv_has ls 8 [(7, .int 10), (6, .int 0), (0, .ref h0), (1, .int p0), (2, .int 1), (3, .int 1), (4, .int p3), (5, .int p4)] := hl
              have hP : va_P (dC, dI) vwCl [(h0, Sum.inr (5, [Value.ref h1, Value.int n0_size, Value.ref h2, Value.int n0_ran])), (h1, Sum.inl (cint, 50, Sum.inl f1)), (h2, Sum.inl (cint, 24, Sum.inl f_53_0))] H := hP
              have hD : va_D A [(h0, Sum.inr (5, [Value.ref h1, Value.int n0_size, Value.ref h2, Value.int n0_ran])), (h1, Sum.inl (cint, 50, Sum.inl f1)), (h2, Sum.inl (cint, 24, Sum.inl f_53_0))] := hD
              refine lv_aload_n hx hb dX5_call_97 rfl (lv_at hl 2 rfl) ?_
              refine lv_dup hx hb dX5_call_98 rfl ?_
              refine va_get (D := (dC, dI)) (ci := 5) (v := .int n0_ran) (C := RX5) (T := TX5) (N := 4) hx hb hts (fun _ h => List.mem_cons_of_mem _ (List.mem_append_right _ h)) hown hK hP 0 rfl rfl 3 (by decide) (hts (.fieldLink RX5 36 "KinkStreet$Lines" "ran" "I") (List.mem_of_getElem? (i := 3) rfl)) (fun _ h9 => h9) rfl dX5_call_99 ?_
              refine lv_iconst (v := 1) hx hb dX5_call_102 (by decide) ?_
              refine lv_iadd hx hb dX5_call_103 ?_
              refine va_put (D := (dC, dI)) (ci := 5) (v := .int (n0_ran + 1)) (ty := .int) (C := RX5) (T := TX5) (N := 4) hx hb hts (fun _ h => List.mem_cons_of_mem _ (List.mem_append_right _ h)) tyX5 tyX5_ok nmX5 hown hK hP hD hS 0 rfl rfl 3 (by decide) (hts (.fieldLink RX5 36 "KinkStreet$Lines" "ran" "I") (List.mem_of_getElem? (i := 3) rfl)) (fun _ h9 => h9) rfl (by decide +kernel) rfl rfl (Nat.le_of_ble_eq_true rfl) dX5_call_104 (fun H locs hP hD hS => ?_)
              have hP : va_P (dC, dI) vwCl [(h0, Sum.inr (5, [Value.ref h1, Value.int n0_size, Value.ref h2, Value.int (n0_ran + 1)])), (h1, Sum.inl (cint, 50, Sum.inl f1)), (h2, Sum.inl (cint, 24, Sum.inl f_53_0))] H := hP
              have hD : va_D A [(h0, Sum.inr (5, [Value.ref h1, Value.int n0_size, Value.ref h2, Value.int (n0_ran + 1)])), (h1, Sum.inl (cint, 50, Sum.inl f1)), (h2, Sum.inl (cint, 24, Sum.inl f_53_0))] := hD
              refine lv_iload hx hb dX5_call_107 (lv_at hl 1 rfl) ?_
              refine lv_if_ne (tgt := 128) hx hb dX5_call_109 (by decide) (fun c => absurd c (by decide)) (fun _ => ?_)
              refine lv_aload_n hx hb dX5_call_112 rfl (lv_at hl 2 rfl) ?_
              refine lv_iload_n hx hb dX5_call_113 rfl (lv_at hl 3 rfl) ?_
              refine lv_iload hx hb dX5_call_114 (lv_at hl 0 rfl) ?_
              refine lv_iload hx hb dX5_call_116 (lv_at hl 6 rfl) ?_
              refine lv_iload hx hb dX5_call_118 (lv_at hl 7 rfl) ?_
              refine lv_iconst (v := 1) hx hb dX5_call_120 (by decide) ?_
              refine lv_iadd hx hb dX5_call_121 ?_
              obtain ⟨hPc, hDc, hFc⟩ := kk_cutout (wc := [(h0, Sum.inr (5, [Value.ref h1, Value.int n0_size, Value.ref h2, Value.int (n0_ran + 1)])), (h1, Sum.inl (cint, 50, Sum.inl f1)), (h2, Sum.inl (cint, 24, Sum.inl f_53_0))]) hP hD hS hA [0, 1, 2] (by decide) rfl
              have hKc := hK.sub (tys' := [(cint, .int)]) [0] rfl
              refine va_calli (va_runV (As := [.int p0, .int 10, .int p3, .int (p4 + 1)]) (rest := []) ⟨hx, hb, hml, hown, hts⟩ (g_X5_runLine_2 l dC dI h0 h1 h2 cint H.size p0 p3 (p4 + 1) n0_size (n0_ran + 1) f1 f_53_0 tn0_size (by show 0 ≤ ((n0_ran + 1) : Int32).toInt ∧ ((n0_ran + 1) : Int32).toInt ≤ 997; first | decide | (constructor <;> (have := kk_rng p4; have := kk_add2 (x := n0_ran) (y := 1) (a := n0_ran.toInt) (b := 1) rfl rfl (by omega) (by omega); have := kk_rng p4; have := kk_add2 (x := p4) (y := 1) (a := p4.toInt) (b := 1) rfl rfl (by omega) (by omega); omega))) bf1 aOWN_BODIES aABOVE) (cwV 4 hts gX5_call_X5_runLine rfl rfl rfl (by decide +kernel) ⟨Nat.le_of_ble_eq_true rfl, Nat.le_of_ble_eq_true rfl⟩) ⟨fun a U g mk q => by obtain ⟨q0, q1, qP, qK, qD, qx0, qx1, qx2, qx3⟩ := q; exact ⟨q0, q1, qP, va_K.moved (u := U) (U := U.calling g mk a) (Vm.Alike.refl U.vm) qK, qD, va_Z.moved (u := U) (U := U.calling g mk a) (Vm.Alike.refl U.vm) qx0, va_T.moved (u := U) (U := U.calling g mk a) (Vm.Alike.refl U.vm) qx1, va_Z.moved (u := U) (U := U.calling g mk a) (Vm.Alike.refl U.vm) qx2, va_T.moved (u := U) (U := U.calling g mk a) (Vm.Alike.refl U.vm) qx3⟩, va_recv hKc hPc (ci := 5) (q0 := 0) rfl rfl, fun U hU hW => ⟨rfl, by rw [hU], by rw [hU]; exact hPc, va_K.moved hW.alike hKc, hDc.weaken (fun _ _ _ _ => trivial), by rw [hU]; exact ((hZOWN_BODIES.kept (fun a h1 h2 => hS.2.1 a h1 h2)).narrow hFc).moved hW.alike, by rw [hU]; exact ((hTOWN_BODIES.kept (fun a h1 h2 => hS.2.1 a h1 h2)).narrow hFc).moved hW.alike, by rw [hU]; exact ((hZABOVE.kept (fun a h1 h2 => hS.2.1 a h1 h2)).narrow hFc).moved hW.alike, by rw [hU]; exact ((hTABOVE.kept (fun a h1 h2 => hS.2.1 a h1 h2)).narrow hFc).moved hW.alike⟩⟩ rfl rfl hl.1 rfl (lv_room (Nat.le_of_ble_eq_true rfl)) dX5_call_122 ⟨Nat.le_of_ble_eq_true rfl, Nat.le_of_ble_eq_true rfl⟩) hS (fun q _ h => hFc q h) hFc (fun r_54 u t H1 locs ht hvm hw hB hz1 hk1 hS => ?_)
              obtain ⟨y_55, f_56, by_55, v_56_0, hP1, hK1, hD1⟩ := hB
              have v_56_0 : y_55.toInt ≤ (n0_ran + 1).toInt + 3 := v_56_0
              rw [ht] at hP1
              have hK1 := va_K.moved hvm.symm hK1
              obtain ⟨hP, hD⟩ := va_join (wr := []) (w1 := [(h0, Sum.inr (5, [Value.ref h1, Value.int n0_size, Value.ref h2, Value.int y_55])), (h1, Sum.inl (cint, 50, Sum.inl f1)), (h2, Sum.inl (cint, 24, Sum.inl f_56))]) hP hD [0, 1, 2] [] rfl rfl (by decide) (by decide) hk1 hFc hP1 hD1
              generalize H1 = H at hP hS ⊢
              have hP : va_P (dC, dI) vwCl [(h0, Sum.inr (5, [Value.ref h1, Value.int n0_size, Value.ref h2, Value.int y_55])), (h1, Sum.inl (cint, 50, Sum.inl f1)), (h2, Sum.inl (cint, 24, Sum.inl f_56))] H := hP
              have hD : va_D A [(h0, Sum.inr (5, [Value.ref h1, Value.int n0_size, Value.ref h2, Value.int y_55])), (h1, Sum.inl (cint, 50, Sum.inl f1)), (h2, Sum.inl (cint, 24, Sum.inl f_56))] := hD
              refine lv_goto (tgt := 143) hx hb dX5_call_125 (by decide) ?_
              obtain ⟨hP9, hD9⟩ := kk_leafout (wc := [(h0, Sum.inr (5, [Value.ref h1, Value.int n0_size, Value.ref h2, Value.int y_55])), (h1, Sum.inl (cint, 50, Sum.inl f1)), (h2, Sum.inl (cint, 24, Sum.inl f_56))]) hP hD [0, 1, 2] (by decide) rfl
              have hK9 := hK.sub (tys' := []) [] rfl
              exact W.iret (v := r_54) hx hb hr (fun t ht hW => ⟨⟨r_54, (), rfl, trivial, y_55, f_56, (by show 0 ≤ (y_55 : Int32).toInt ∧ (y_55 : Int32).toInt ≤ 1000; first | decide | (constructor <;> (have := kk_rng p4; have := kk_add2 (x := n0_ran) (y := 1) (a := n0_ran.toInt) (b := 1) rfl rfl (by omega) (by omega); have := kk_rng p4; have := kk_add2 (x := p4) (y := 1) (a := p4.toInt) (b := 1) rfl rfl (by omega) (by omega); omega))), (by show (y_55 : Int32).toInt ≤ (n0_ran : Int32).toInt + 11; first | decide | (have := kk_rng p4; have := kk_add2 (x := n0_ran) (y := 1) (a := n0_ran.toInt) (b := 1) rfl rfl (by omega) (by omega); have := kk_rng p4; have := kk_add2 (x := p4) (y := 1) (a := p4.toInt) (b := 1) rfl rfl (by omega) (by omega); omega)), by rw [ht]; exact hP9, va_K.moved hW.alike hK9, hD9⟩, hS.F ht⟩) hS.2.2 dX5_call_143
            · skip
              refine lv_icmp_ge (tgt := 97) hx hb dX5_call_83 (by decide) (fun c_57 => ?_) (fun c_57 => ?_)
              · have t_57 : 24 ≤ n0_ran.toInt := kk_le c_57
                exact hcut_53 (f2) _ _ _ ⟨hP, hD, hS, lv_sub hl [0, 1, 2, 3, 4, 5, 6, 7] rfl⟩
              · have t_57 : n0_ran.toInt < 24 := kk_nle c_57
                refine lv_aload_n hx hb dX5_call_86 rfl (lv_at hl 2 rfl) ?_
                refine va_get (D := (dC, dI)) (ci := 5) (v := .ref h2) (C := RX5) (T := TX5) (N := 4) hx hb hts (fun _ h => List.mem_cons_of_mem _ (List.mem_append_right _ h)) hown hK hP 0 rfl rfl 2 (by decide) (hts (.fieldLink RX5 15 "KinkStreet$Lines" "trace" "[I") (List.mem_of_getElem? (i := 4) rfl)) (fun _ h9 => h9) rfl dX5_call_87 ?_
                refine lv_aload_n hx hb dX5_call_90 rfl (lv_at hl 2 rfl) ?_
                refine va_get (D := (dC, dI)) (ci := 5) (v := .int n0_ran) (C := RX5) (T := TX5) (N := 4) hx hb hts (fun _ h => List.mem_cons_of_mem _ (List.mem_append_right _ h)) hown hK hP 0 rfl rfl 3 (by decide) (hts (.fieldLink RX5 36 "KinkStreet$Lines" "ran" "I") (List.mem_of_getElem? (i := 3) rfl)) (fun _ h9 => h9) rfl dX5_call_91 ?_
                refine lv_iload hx hb dX5_call_94 (lv_at hl 0 rfl) ?_
                refine va_iast hx hb hK hP hD hS 2 0 rfl rfl (vp_in_iff.mpr ⟨by have := kk_rng p4; omega, by have := kk_rng p4; omega⟩) dX5_call_96 (fun H locs hP hD hS => ?_)
                generalize upd f2 (n0_ran : Int32).toNatClampNeg 10 = f_58 at hP hD
                have hP : va_P (dC, dI) vwCl [(h0, Sum.inr (5, [Value.ref h1, Value.int n0_size, Value.ref h2, Value.int n0_ran])), (h1, Sum.inl (cint, 50, Sum.inl f1)), (h2, Sum.inl (cint, 24, Sum.inl f_58))] H := hP
                have hD : va_D A [(h0, Sum.inr (5, [Value.ref h1, Value.int n0_size, Value.ref h2, Value.int n0_ran])), (h1, Sum.inl (cint, 50, Sum.inl f1)), (h2, Sum.inl (cint, 24, Sum.inl f_58))] := hD
                exact hcut_53 (f_58) _ _ _ ⟨hP, hD, hS, lv_sub hl [0, 1, 2, 3, 4, 5, 6, 7] rfl⟩
          · have t_48 : 40 < p4.toInt := kk_nle c_48
            refine lv_iconst (v := 0) hx hb dX5_call_63 (by decide) ?_
            obtain ⟨hP9, hD9⟩ := kk_leafout (wc := [(h0, Sum.inr (5, [Value.ref h1, Value.int n0_size, Value.ref h2, Value.int n0_ran])), (h1, Sum.inl (cint, 50, Sum.inl f1)), (h2, Sum.inl (cint, 24, Sum.inl f2))]) hP hD [0, 1, 2] (by decide) rfl
            have hK9 := hK.sub (tys' := []) [] rfl
            exact W.iret (v := 0) hx hb hr (fun t ht hW => ⟨⟨0, (), rfl, trivial, n0_ran, f2, (by show 0 ≤ (n0_ran : Int32).toInt ∧ (n0_ran : Int32).toInt ≤ 1000; first | decide | (constructor <;> (have := kk_rng p4; omega))), (by show (n0_ran : Int32).toInt ≤ (n0_ran : Int32).toInt + 11; first | decide | (have := kk_rng p4; omega)), by rw [ht]; exact hP9, va_K.moved hW.alike hK9, hD9⟩, hS.F ht⟩) hS.2.2 dX5_call_64
      · skip
        have t_46_0 : (0 : Int) ≤ 0 := t_46_0
        have t_46_1 : (0 : Int) < 8 := t_46_1
        refine lv_if_eq (tgt := 48) hx hb dX5_call_18 (by decide) (fun c => absurd c (by decide)) (fun _ => ?_)
        refine va_gets hx hb hZOWN_BODIES hS hown (hts (.fieldLink RX5 43 "KinkStreet$Lines" "OWN_BODIES" "[I") (List.mem_of_getElem? (i := 1) rfl)) (fun _ h9 => h9) dX5_call_21 ?_
        refine lv_iload hx hb dX5_call_24 (lv_at hl 1 rfl) ?_
        refine lv_iconst (v := 4) hx hb dX5_call_26 (by decide) ?_
        refine lv_imul hx hb dX5_call_27 ?_
        refine lv_topi (fun y_59 e_59 => ?_)
        obtain rfl : y_59 = 0 := e_59.trans (by decide)
        refine lv_iload_n hx hb dX5_call_28 rfl (lv_at hl 5 rfl) ?_
        refine lv_iadd hx hb dX5_call_29 ?_
        refine lv_topi (fun y_60 e_60 => ?_)
        obtain rfl : y_60 = 1 := e_60.trans (by decide)
        refine va_ti (v := .int 10) hx hb hTOWN_BODIES hS (by unfold vp_in; decide) rfl dX5_call_30 ?_
        refine lv_if_ne (tgt := 48) hx hb dX5_call_31 (by decide) (fun _ => ?_) (fun c => absurd c (by decide))
        refine lv_iload hx hb dX5_call_48 (lv_at hl 1 rfl) ?_
        obtain ⟨hPc, hDc, hFc⟩ := kk_cutout (wc := []) hP hD hS hA [] (by decide) rfl
        have hKc := hK.sub (tys' := []) [] rfl
        refine va_calli (va_runS (As := [.int 0]) (rest := []) ⟨hx, hb, hml, hown, hts⟩ (g_X5_isKind_0 l dC dI H.size 0) (va_cwS 1 hts gX5_call_X5_isKind rfl rfl rfl (by decide +kernel) ⟨Nat.le_of_ble_eq_true rfl, Nat.le_of_ble_eq_true rfl⟩) ⟨fun a U g mk q => by obtain ⟨q0, q1, qP, qK, qD⟩ := q; exact ⟨q0, q1, qP, va_K.moved (u := U) (U := U.calling g mk a) (Vm.Alike.refl U.vm) qK, qD⟩, fun U hU hW => ⟨rfl, by rw [hU], by rw [hU]; exact hPc, va_K.moved hW.alike hKc, hDc.weaken (fun _ _ _ _ => trivial)⟩⟩ rfl rfl hl.1 rfl (lv_room (Nat.le_of_ble_eq_true rfl)) dX5_call_50 ⟨Nat.le_of_ble_eq_true rfl, Nat.le_of_ble_eq_true rfl⟩) hS (fun q _ h => hFc q h) hFc (fun r_61 u t H1 locs ht hvm hw hB hz1 hk1 hS => ?_)
        obtain ⟨hP1, hK1, hD1⟩ := hB
        rw [ht] at hP1
        have hK1 := va_K.moved hvm.symm hK1
        obtain ⟨hP, hD⟩ := va_join (wr := [(h0, Sum.inr (5, [Value.ref h1, Value.int n0_size, Value.ref h2, Value.int n0_ran])), (h1, Sum.inl (cint, 50, Sum.inl f1)), (h2, Sum.inl (cint, 24, Sum.inl f2))]) (w1 := []) hP hD [] [0, 1, 2] rfl rfl (by decide) (by decide) hk1 hFc hP1 hD1
        generalize H1 = H at hP hS ⊢
        have hP : va_P (dC, dI) vwCl [(h0, Sum.inr (5, [Value.ref h1, Value.int n0_size, Value.ref h2, Value.int n0_ran])), (h1, Sum.inl (cint, 50, Sum.inl f1)), (h2, Sum.inl (cint, 24, Sum.inl f2))] H := hP
        have hD : va_D A [(h0, Sum.inr (5, [Value.ref h1, Value.int n0_size, Value.ref h2, Value.int n0_ran])), (h1, Sum.inl (cint, 50, Sum.inl f1)), (h2, Sum.inl (cint, 24, Sum.inl f2))] := hD
        rcases hw with ⟨rfl⟩ | ⟨t_61_0, t_61_1, rfl⟩
        · skip
          refine lv_if_eq (tgt := 63) hx hb dX5_call_53 (by decide) (fun _ => ?_) (fun c => absurd c (by decide))
          refine lv_iconst (v := 0) hx hb dX5_call_63 (by decide) ?_
          obtain ⟨hP9, hD9⟩ := kk_leafout (wc := [(h0, Sum.inr (5, [Value.ref h1, Value.int n0_size, Value.ref h2, Value.int n0_ran])), (h1, Sum.inl (cint, 50, Sum.inl f1)), (h2, Sum.inl (cint, 24, Sum.inl f2))]) hP hD [0, 1, 2] (by decide) rfl
          have hK9 := hK.sub (tys' := []) [] rfl
          exact W.iret (v := 0) hx hb hr (fun t ht hW => ⟨⟨0, (), rfl, trivial, n0_ran, f2, (by show 0 ≤ (n0_ran : Int32).toInt ∧ (n0_ran : Int32).toInt ≤ 1000; first | decide | (constructor <;> (omega))), (by show (n0_ran : Int32).toInt ≤ (n0_ran : Int32).toInt + 11; first | decide | (omega)), by rw [ht]; exact hP9, va_K.moved hW.alike hK9, hD9⟩, hS.F ht⟩) hS.2.2 dX5_call_64
        · skip
          have t_61_0 : (0 : Int) ≤ 0 := t_61_0
          have t_61_1 : (0 : Int) < 8 := t_61_1
          refine lv_if_eq (tgt := 63) hx hb dX5_call_53 (by decide) (fun c => absurd c (by decide)) (fun _ => ?_)
          refine lv_iload hx hb dX5_call_56 (lv_at hl 7 rfl) ?_
          refine lv_bipush (v := 40) hx hb dX5_call_58 (by decide) ?_
          refine lv_icmp_le (tgt := 65) hx hb dX5_call_60 (by decide) (fun c_62 => ?_) (fun c_62 => ?_)
          · have t_62 : p4.toInt ≤ 40 := kk_le c_62
            refine va_gets hx hb hZOWN_BODIES hS hown (hts (.fieldLink RX5 43 "KinkStreet$Lines" "OWN_BODIES" "[I") (List.mem_of_getElem? (i := 1) rfl)) (fun _ h9 => h9) dX5_call_65 ?_
            refine lv_iload hx hb dX5_call_68 (lv_at hl 1 rfl) ?_
            refine lv_iconst (v := 4) hx hb dX5_call_70 (by decide) ?_
            refine lv_imul hx hb dX5_call_71 ?_
            refine lv_topi (fun y_63 e_63 => ?_)
            obtain rfl : y_63 = 0 := e_63.trans (by decide)
            refine lv_iload_n hx hb dX5_call_72 rfl (lv_at hl 5 rfl) ?_
            refine lv_iadd hx hb dX5_call_73 ?_
            refine lv_topi (fun y_64 e_64 => ?_)
            obtain rfl : y_64 = 1 := e_64.trans (by decide)
            refine va_ti (v := .int 10) hx hb hTOWN_BODIES hS (by unfold vp_in; decide) rfl dX5_call_74 ?_
            refine lv_istore (lv' := [(7, .int 10), (6, .int 0), (0, .ref h0), (1, .int p0), (2, .int 1), (3, .int 1), (4, .int p3), (5, .int p4)]) hx hb dX5_call_75 hl (by decide) rfl (fun ls hl => ?_)
            refine lv_aload_n hx hb dX5_call_77 rfl (lv_at hl 2 rfl) ?_
            refine va_get (D := (dC, dI)) (ci := 5) (v := .int n0_ran) (C := RX5) (T := TX5) (N := 4) hx hb hts (fun _ h => List.mem_cons_of_mem _ (List.mem_append_right _ h)) hown hK hP 0 rfl rfl 3 (by decide) (hts (.fieldLink RX5 36 "KinkStreet$Lines" "ran" "I") (List.mem_of_getElem? (i := 3) rfl)) (fun _ h9 => h9) rfl dX5_call_78 ?_
            refine lv_bipush (v := 24) hx hb dX5_call_81 (by decide) ?_
            refine kk_cut (σ := (Nat → Int32)) (pc' := 97) (fun x H locs ls => va_P (dC, dI) vwCl [(h0, Sum.inr (5, [Value.ref h1, Value.int n0_size, Value.ref h2, Value.int n0_ran])), (h1, Sum.inl (cint, 50, Sum.inl f1)), (h2, Sum.inl (cint, 24, Sum.inl x))] H ∧ va_D A [(h0, Sum.inr (5, [Value.ref h1, Value.int n0_size, Value.ref h2, Value.int n0_ran])), (h1, Sum.inl (cint, 50, Sum.inl f1)), (h2, Sum.inl (cint, 24, Sum.inl x))] ∧ va_S A s.heap H locs ∧ lv_has ls 8 [(7, .int 10), (6, .int 0), (0, .ref h0), (1, .int p0), (2, .int 1), (3, .int 1), (4, .int p3), (5, .int p4)]) ?_ (fun hcut_67 => ?_)
            · rintro f_67_0 H locs ls ⟨hP, hD, hS, hl⟩
              have hl : lv_has ls 8 [(7, .int 10), (6, .int 0), (0, .ref h0), (1, .int p0), (2, .int 1), (3, .int 1), (4, .int p3), (5, .int p4)] := hl
              have hP : va_P (dC, dI) vwCl [(h0, Sum.inr (5, [Value.ref h1, Value.int n0_size, Value.ref h2, Value.int n0_ran])), (h1, Sum.inl (cint, 50, Sum.inl f1)), (h2, Sum.inl (cint, 24, Sum.inl f_67_0))] H := hP
              have hD : va_D A [(h0, Sum.inr (5, [Value.ref h1, Value.int n0_size, Value.ref h2, Value.int n0_ran])), (h1, Sum.inl (cint, 50, Sum.inl f1)), (h2, Sum.inl (cint, 24, Sum.inl f_67_0))] := hD
              refine lv_aload_n hx hb dX5_call_97 rfl (lv_at hl 2 rfl) ?_
              refine lv_dup hx hb dX5_call_98 rfl ?_
              refine va_get (D := (dC, dI)) (ci := 5) (v := .int n0_ran) (C := RX5) (T := TX5) (N := 4) hx hb hts (fun _ h => List.mem_cons_of_mem _ (List.mem_append_right _ h)) hown hK hP 0 rfl rfl 3 (by decide) (hts (.fieldLink RX5 36 "KinkStreet$Lines" "ran" "I") (List.mem_of_getElem? (i := 3) rfl)) (fun _ h9 => h9) rfl dX5_call_99 ?_
              refine lv_iconst (v := 1) hx hb dX5_call_102 (by decide) ?_
              refine lv_iadd hx hb dX5_call_103 ?_
              refine va_put (D := (dC, dI)) (ci := 5) (v := .int (n0_ran + 1)) (ty := .int) (C := RX5) (T := TX5) (N := 4) hx hb hts (fun _ h => List.mem_cons_of_mem _ (List.mem_append_right _ h)) tyX5 tyX5_ok nmX5 hown hK hP hD hS 0 rfl rfl 3 (by decide) (hts (.fieldLink RX5 36 "KinkStreet$Lines" "ran" "I") (List.mem_of_getElem? (i := 3) rfl)) (fun _ h9 => h9) rfl (by decide +kernel) rfl rfl (Nat.le_of_ble_eq_true rfl) dX5_call_104 (fun H locs hP hD hS => ?_)
              have hP : va_P (dC, dI) vwCl [(h0, Sum.inr (5, [Value.ref h1, Value.int n0_size, Value.ref h2, Value.int (n0_ran + 1)])), (h1, Sum.inl (cint, 50, Sum.inl f1)), (h2, Sum.inl (cint, 24, Sum.inl f_67_0))] H := hP
              have hD : va_D A [(h0, Sum.inr (5, [Value.ref h1, Value.int n0_size, Value.ref h2, Value.int (n0_ran + 1)])), (h1, Sum.inl (cint, 50, Sum.inl f1)), (h2, Sum.inl (cint, 24, Sum.inl f_67_0))] := hD
              refine lv_iload hx hb dX5_call_107 (lv_at hl 1 rfl) ?_
              refine lv_if_ne (tgt := 128) hx hb dX5_call_109 (by decide) (fun c => absurd c (by decide)) (fun _ => ?_)
              refine lv_aload_n hx hb dX5_call_112 rfl (lv_at hl 2 rfl) ?_
              refine lv_iload_n hx hb dX5_call_113 rfl (lv_at hl 3 rfl) ?_
              refine lv_iload hx hb dX5_call_114 (lv_at hl 0 rfl) ?_
              refine lv_iload hx hb dX5_call_116 (lv_at hl 6 rfl) ?_
              refine lv_iload hx hb dX5_call_118 (lv_at hl 7 rfl) ?_
              refine lv_iconst (v := 1) hx hb dX5_call_120 (by decide) ?_
              refine lv_iadd hx hb dX5_call_121 ?_
              obtain ⟨hPc, hDc, hFc⟩ := kk_cutout (wc := [(h0, Sum.inr (5, [Value.ref h1, Value.int n0_size, Value.ref h2, Value.int (n0_ran + 1)])), (h1, Sum.inl (cint, 50, Sum.inl f1)), (h2, Sum.inl (cint, 24, Sum.inl f_67_0))]) hP hD hS hA [0, 1, 2] (by decide) rfl
              have hKc := hK.sub (tys' := [(cint, .int)]) [0] rfl
              refine va_calli (va_runV (As := [.int p0, .int 10, .int p3, .int (p4 + 1)]) (rest := []) ⟨hx, hb, hml, hown, hts⟩ (g_X5_runLine_2 l dC dI h0 h1 h2 cint H.size p0 p3 (p4 + 1) n0_size (n0_ran + 1) f1 f_67_0 tn0_size (by show 0 ≤ ((n0_ran + 1) : Int32).toInt ∧ ((n0_ran + 1) : Int32).toInt ≤ 997; first | decide | (constructor <;> (have := kk_rng p4; have := kk_add2 (x := n0_ran) (y := 1) (a := n0_ran.toInt) (b := 1) rfl rfl (by omega) (by omega); have := kk_rng p4; have := kk_add2 (x := p4) (y := 1) (a := p4.toInt) (b := 1) rfl rfl (by omega) (by omega); omega))) bf1 aOWN_BODIES aABOVE) (cwV 4 hts gX5_call_X5_runLine rfl rfl rfl (by decide +kernel) ⟨Nat.le_of_ble_eq_true rfl, Nat.le_of_ble_eq_true rfl⟩) ⟨fun a U g mk q => by obtain ⟨q0, q1, qP, qK, qD, qx0, qx1, qx2, qx3⟩ := q; exact ⟨q0, q1, qP, va_K.moved (u := U) (U := U.calling g mk a) (Vm.Alike.refl U.vm) qK, qD, va_Z.moved (u := U) (U := U.calling g mk a) (Vm.Alike.refl U.vm) qx0, va_T.moved (u := U) (U := U.calling g mk a) (Vm.Alike.refl U.vm) qx1, va_Z.moved (u := U) (U := U.calling g mk a) (Vm.Alike.refl U.vm) qx2, va_T.moved (u := U) (U := U.calling g mk a) (Vm.Alike.refl U.vm) qx3⟩, va_recv hKc hPc (ci := 5) (q0 := 0) rfl rfl, fun U hU hW => ⟨rfl, by rw [hU], by rw [hU]; exact hPc, va_K.moved hW.alike hKc, hDc.weaken (fun _ _ _ _ => trivial), by rw [hU]; exact ((hZOWN_BODIES.kept (fun a h1 h2 => hS.2.1 a h1 h2)).narrow hFc).moved hW.alike, by rw [hU]; exact ((hTOWN_BODIES.kept (fun a h1 h2 => hS.2.1 a h1 h2)).narrow hFc).moved hW.alike, by rw [hU]; exact ((hZABOVE.kept (fun a h1 h2 => hS.2.1 a h1 h2)).narrow hFc).moved hW.alike, by rw [hU]; exact ((hTABOVE.kept (fun a h1 h2 => hS.2.1 a h1 h2)).narrow hFc).moved hW.alike⟩⟩ rfl rfl hl.1 rfl (lv_room (Nat.le_of_ble_eq_true rfl)) dX5_call_122 ⟨Nat.le_of_ble_eq_true rfl, Nat.le_of_ble_eq_true rfl⟩) hS (fun q _ h => hFc q h) hFc (fun r_68 u t H1 locs ht hvm hw hB hz1 hk1 hS => ?_)
              obtain ⟨y_69, f_70, by_69, v_70_0, hP1, hK1, hD1⟩ := hB
              have v_70_0 : y_69.toInt ≤ (n0_ran + 1).toInt + 3 := v_70_0
              rw [ht] at hP1
              have hK1 := va_K.moved hvm.symm hK1
              obtain ⟨hP, hD⟩ := va_join (wr := []) (w1 := [(h0, Sum.inr (5, [Value.ref h1, Value.int n0_size, Value.ref h2, Value.int y_69])), (h1, Sum.inl (cint, 50, Sum.inl f1)), (h2, Sum.inl (cint, 24, Sum.inl f_70))]) hP hD [0, 1, 2] [] rfl rfl (by decide) (by decide) hk1 hFc hP1 hD1
              generalize H1 = H at hP hS ⊢
              have hP : va_P (dC, dI) vwCl [(h0, Sum.inr (5, [Value.ref h1, Value.int n0_size, Value.ref h2, Value.int y_69])), (h1, Sum.inl (cint, 50, Sum.inl f1)), (h2, Sum.inl (cint, 24, Sum.inl f_70))] H := hP
              have hD : va_D A [(h0, Sum.inr (5, [Value.ref h1, Value.int n0_size, Value.ref h2, Value.int y_69])), (h1, Sum.inl (cint, 50, Sum.inl f1)), (h2, Sum.inl (cint, 24, Sum.inl f_70))] := hD
              refine lv_goto (tgt := 143) hx hb dX5_call_125 (by decide) ?_
              obtain ⟨hP9, hD9⟩ := kk_leafout (wc := [(h0, Sum.inr (5, [Value.ref h1, Value.int n0_size, Value.ref h2, Value.int y_69])), (h1, Sum.inl (cint, 50, Sum.inl f1)), (h2, Sum.inl (cint, 24, Sum.inl f_70))]) hP hD [0, 1, 2] (by decide) rfl
              have hK9 := hK.sub (tys' := []) [] rfl
              exact W.iret (v := r_68) hx hb hr (fun t ht hW => ⟨⟨r_68, (), rfl, trivial, y_69, f_70, (by show 0 ≤ (y_69 : Int32).toInt ∧ (y_69 : Int32).toInt ≤ 1000; first | decide | (constructor <;> (have := kk_rng p4; have := kk_add2 (x := n0_ran) (y := 1) (a := n0_ran.toInt) (b := 1) rfl rfl (by omega) (by omega); have := kk_rng p4; have := kk_add2 (x := p4) (y := 1) (a := p4.toInt) (b := 1) rfl rfl (by omega) (by omega); omega))), (by show (y_69 : Int32).toInt ≤ (n0_ran : Int32).toInt + 11; first | decide | (have := kk_rng p4; have := kk_add2 (x := n0_ran) (y := 1) (a := n0_ran.toInt) (b := 1) rfl rfl (by omega) (by omega); have := kk_rng p4; have := kk_add2 (x := p4) (y := 1) (a := p4.toInt) (b := 1) rfl rfl (by omega) (by omega); omega)), by rw [ht]; exact hP9, va_K.moved hW.alike hK9, hD9⟩, hS.F ht⟩) hS.2.2 dX5_call_143
            · skip
              refine lv_icmp_ge (tgt := 97) hx hb dX5_call_83 (by decide) (fun c_71 => ?_) (fun c_71 => ?_)
              · have t_71 : 24 ≤ n0_ran.toInt := kk_le c_71
                exact hcut_67 (f2) _ _ _ ⟨hP, hD, hS, lv_sub hl [0, 1, 2, 3, 4, 5, 6, 7] rfl⟩
              · have t_71 : n0_ran.toInt < 24 := kk_nle c_71
                refine lv_aload_n hx hb dX5_call_86 rfl (lv_at hl 2 rfl) ?_
                refine va_get (D := (dC, dI)) (ci := 5) (v := .ref h2) (C := RX5) (T := TX5) (N := 4) hx hb hts (fun _ h => List.mem_cons_of_mem _ (List.mem_append_right _ h)) hown hK hP 0 rfl rfl 2 (by decide) (hts (.fieldLink RX5 15 "KinkStreet$Lines" "trace" "[I") (List.mem_of_getElem? (i := 4) rfl)) (fun _ h9 => h9) rfl dX5_call_87 ?_
                refine lv_aload_n hx hb dX5_call_90 rfl (lv_at hl 2 rfl) ?_
                refine va_get (D := (dC, dI)) (ci := 5) (v := .int n0_ran) (C := RX5) (T := TX5) (N := 4) hx hb hts (fun _ h => List.mem_cons_of_mem _ (List.mem_append_right _ h)) hown hK hP 0 rfl rfl 3 (by decide) (hts (.fieldLink RX5 36 "KinkStreet$Lines" "ran" "I") (List.mem_of_getElem? (i := 3) rfl)) (fun _ h9 => h9) rfl dX5_call_91 ?_
                refine lv_iload hx hb dX5_call_94 (lv_at hl 0 rfl) ?_
                refine va_iast hx hb hK hP hD hS 2 0 rfl rfl (vp_in_iff.mpr ⟨by have := kk_rng p4; omega, by have := kk_rng p4; omega⟩) dX5_call_96 (fun H locs hP hD hS => ?_)
                generalize upd f2 (n0_ran : Int32).toNatClampNeg 10 = f_72 at hP hD
                have hP : va_P (dC, dI) vwCl [(h0, Sum.inr (5, [Value.ref h1, Value.int n0_size, Value.ref h2, Value.int n0_ran])), (h1, Sum.inl (cint, 50, Sum.inl f1)), (h2, Sum.inl (cint, 24, Sum.inl f_72))] H := hP
                have hD : va_D A [(h0, Sum.inr (5, [Value.ref h1, Value.int n0_size, Value.ref h2, Value.int n0_ran])), (h1, Sum.inl (cint, 50, Sum.inl f1)), (h2, Sum.inl (cint, 24, Sum.inl f_72))] := hD
                exact hcut_67 (f_72) _ _ _ ⟨hP, hD, hS, lv_sub hl [0, 1, 2, 3, 4, 5, 6, 7] rfl⟩
          · have t_62 : 40 < p4.toInt := kk_nle c_62
            refine lv_iconst (v := 0) hx hb dX5_call_63 (by decide) ?_
            obtain ⟨hP9, hD9⟩ := kk_leafout (wc := [(h0, Sum.inr (5, [Value.ref h1, Value.int n0_size, Value.ref h2, Value.int n0_ran])), (h1, Sum.inl (cint, 50, Sum.inl f1)), (h2, Sum.inl (cint, 24, Sum.inl f2))]) hP hD [0, 1, 2] (by decide) rfl
            have hK9 := hK.sub (tys' := []) [] rfl
            exact W.iret (v := 0) hx hb hr (fun t ht hW => ⟨⟨0, (), rfl, trivial, n0_ran, f2, (by show 0 ≤ (n0_ran : Int32).toInt ∧ (n0_ran : Int32).toInt ≤ 1000; first | decide | (constructor <;> (have := kk_rng p4; omega))), (by show (n0_ran : Int32).toInt ≤ (n0_ran : Int32).toInt + 11; first | decide | (have := kk_rng p4; omega)), by rw [ht]; exact hP9, va_K.moved hW.alike hK9, hD9⟩, hS.F ht⟩) hS.2.2 dX5_call_64
  · have t_1 : p1.toInt = 2 := by rw [e_1]; rfl
    subst e_1
    refine lv_iload_n hx hb dX5_call_0 rfl (lv_at hl 2 rfl) ?_
    refine lv_istore (lv' := [(6, .int 2), (0, .ref h0), (1, .int p0), (2, .int 2), (3, .int 1), (4, .int p3), (5, .int p4)]) hx hb dX5_call_1 hl (by decide) rfl (fun ls hl => ?_)
    refine lv_iconst (v := 0) hx hb dX5_call_3 (by decide) ?_
    refine lv_istore (lv' := [(7, .int 0), (6, .int 2), (0, .ref h0), (1, .int p0), (2, .int 2), (3, .int 1), (4, .int p3), (5, .int p4)]) hx hb dX5_call_4 hl (by decide) rfl (fun ls hl => ?_)
    refine lv_iload hx hb dX5_call_6 (lv_at hl 0 rfl) ?_
    refine lv_bipush (v := 8) hx hb dX5_call_8 (by decide) ?_
    refine lv_icmp_ge (tgt := 48) hx hb dX5_call_10 (by decide) (fun c => absurd c (by decide)) (fun _ => ?_)
    refine lv_iload hx hb dX5_call_13 (lv_at hl 1 rfl) ?_
    obtain ⟨hPc, hDc, hFc⟩ := kk_cutout (wc := []) hP hD hS hA [] (by decide) rfl
    have hKc := hK.sub (tys' := []) [] rfl
    refine va_calli (va_runS (As := [.int 2]) (rest := []) ⟨hx, hb, hml, hown, hts⟩ (g_X5_isKind_0 l dC dI s.heap.size 2) (va_cwS 1 hts gX5_call_X5_isKind rfl rfl rfl (by decide +kernel) ⟨Nat.le_of_ble_eq_true rfl, Nat.le_of_ble_eq_true rfl⟩) ⟨fun a U g mk q => by obtain ⟨q0, q1, qP, qK, qD⟩ := q; exact ⟨q0, q1, qP, va_K.moved (u := U) (U := U.calling g mk a) (Vm.Alike.refl U.vm) qK, qD⟩, fun U hU hW => ⟨rfl, by rw [hU], by rw [hU]; exact hPc, va_K.moved hW.alike hKc, hDc.weaken (fun _ _ _ _ => trivial)⟩⟩ rfl rfl hl.1 rfl (lv_room (Nat.le_of_ble_eq_true rfl)) dX5_call_15 ⟨Nat.le_of_ble_eq_true rfl, Nat.le_of_ble_eq_true rfl⟩) hS (fun q _ h => hFc q h) hFc (fun r_73 u t H1 locs ht hvm hw hB hz1 hk1 hS => ?_)
    obtain ⟨hP1, hK1, hD1⟩ := hB
    rw [ht] at hP1
    have hK1 := va_K.moved hvm.symm hK1
    obtain ⟨hP, hD⟩ := va_join (wr := [(h0, Sum.inr (5, [Value.ref h1, Value.int n0_size, Value.ref h2, Value.int n0_ran])), (h1, Sum.inl (cint, 50, Sum.inl f1)), (h2, Sum.inl (cint, 24, Sum.inl f2))]) (w1 := []) hP hD [] [0, 1, 2] rfl rfl (by decide) (by decide) hk1 hFc hP1 hD1
    generalize H1 = H at hP hS ⊢
    have hP : va_P (dC, dI) vwCl [(h0, Sum.inr (5, [Value.ref h1, Value.int n0_size, Value.ref h2, Value.int n0_ran])), (h1, Sum.inl (cint, 50, Sum.inl f1)), (h2, Sum.inl (cint, 24, Sum.inl f2))] H := hP
    have hD : va_D A [(h0, Sum.inr (5, [Value.ref h1, Value.int n0_size, Value.ref h2, Value.int n0_ran])), (h1, Sum.inl (cint, 50, Sum.inl f1)), (h2, Sum.inl (cint, 24, Sum.inl f2))] := hD
    rcases hw with ⟨rfl⟩ | ⟨t_73_0, t_73_1, rfl⟩
    · skip
      refine lv_if_eq (tgt := 48) hx hb dX5_call_18 (by decide) (fun _ => ?_) (fun c => absurd c (by decide))
      refine lv_iload hx hb dX5_call_48 (lv_at hl 1 rfl) ?_
      obtain ⟨hPc, hDc, hFc⟩ := kk_cutout (wc := []) hP hD hS hA [] (by decide) rfl
      have hKc := hK.sub (tys' := []) [] rfl
      refine va_calli (va_runS (As := [.int 2]) (rest := []) ⟨hx, hb, hml, hown, hts⟩ (g_X5_isKind_0 l dC dI H.size 2) (va_cwS 1 hts gX5_call_X5_isKind rfl rfl rfl (by decide +kernel) ⟨Nat.le_of_ble_eq_true rfl, Nat.le_of_ble_eq_true rfl⟩) ⟨fun a U g mk q => by obtain ⟨q0, q1, qP, qK, qD⟩ := q; exact ⟨q0, q1, qP, va_K.moved (u := U) (U := U.calling g mk a) (Vm.Alike.refl U.vm) qK, qD⟩, fun U hU hW => ⟨rfl, by rw [hU], by rw [hU]; exact hPc, va_K.moved hW.alike hKc, hDc.weaken (fun _ _ _ _ => trivial)⟩⟩ rfl rfl hl.1 rfl (lv_room (Nat.le_of_ble_eq_true rfl)) dX5_call_50 ⟨Nat.le_of_ble_eq_true rfl, Nat.le_of_ble_eq_true rfl⟩) hS (fun q _ h => hFc q h) hFc (fun r_74 u t H1 locs ht hvm hw hB hz1 hk1 hS => ?_)
      obtain ⟨hP1, hK1, hD1⟩ := hB
      rw [ht] at hP1
      have hK1 := va_K.moved hvm.symm hK1
      obtain ⟨hP, hD⟩ := va_join (wr := [(h0, Sum.inr (5, [Value.ref h1, Value.int n0_size, Value.ref h2, Value.int n0_ran])), (h1, Sum.inl (cint, 50, Sum.inl f1)), (h2, Sum.inl (cint, 24, Sum.inl f2))]) (w1 := []) hP hD [] [0, 1, 2] rfl rfl (by decide) (by decide) hk1 hFc hP1 hD1
      generalize H1 = H at hP hS ⊢
      have hP : va_P (dC, dI) vwCl [(h0, Sum.inr (5, [Value.ref h1, Value.int n0_size, Value.ref h2, Value.int n0_ran])), (h1, Sum.inl (cint, 50, Sum.inl f1)), (h2, Sum.inl (cint, 24, Sum.inl f2))] H := hP
      have hD : va_D A [(h0, Sum.inr (5, [Value.ref h1, Value.int n0_size, Value.ref h2, Value.int n0_ran])), (h1, Sum.inl (cint, 50, Sum.inl f1)), (h2, Sum.inl (cint, 24, Sum.inl f2))] := hD
      rcases hw with ⟨rfl⟩ | ⟨t_74_0, t_74_1, rfl⟩
      · skip
        refine lv_if_eq (tgt := 63) hx hb dX5_call_53 (by decide) (fun _ => ?_) (fun c => absurd c (by decide))
        refine lv_iconst (v := 0) hx hb dX5_call_63 (by decide) ?_
        obtain ⟨hP9, hD9⟩ := kk_leafout (wc := [(h0, Sum.inr (5, [Value.ref h1, Value.int n0_size, Value.ref h2, Value.int n0_ran])), (h1, Sum.inl (cint, 50, Sum.inl f1)), (h2, Sum.inl (cint, 24, Sum.inl f2))]) hP hD [0, 1, 2] (by decide) rfl
        have hK9 := hK.sub (tys' := []) [] rfl
        exact W.iret (v := 0) hx hb hr (fun t ht hW => ⟨⟨0, (), rfl, trivial, n0_ran, f2, (by show 0 ≤ (n0_ran : Int32).toInt ∧ (n0_ran : Int32).toInt ≤ 1000; first | decide | (constructor <;> (omega))), (by show (n0_ran : Int32).toInt ≤ (n0_ran : Int32).toInt + 11; first | decide | (omega)), by rw [ht]; exact hP9, va_K.moved hW.alike hK9, hD9⟩, hS.F ht⟩) hS.2.2 dX5_call_64
      · skip
        have t_74_0 : (0 : Int) ≤ 2 := t_74_0
        have t_74_1 : (2 : Int) < 8 := t_74_1
        refine lv_if_eq (tgt := 63) hx hb dX5_call_53 (by decide) (fun c => absurd c (by decide)) (fun _ => ?_)
        refine lv_iload hx hb dX5_call_56 (lv_at hl 7 rfl) ?_
        refine lv_bipush (v := 40) hx hb dX5_call_58 (by decide) ?_
        refine lv_icmp_le (tgt := 65) hx hb dX5_call_60 (by decide) (fun c_75 => ?_) (fun c_75 => ?_)
        · have t_75 : p4.toInt ≤ 40 := kk_le c_75
          refine va_gets hx hb hZOWN_BODIES hS hown (hts (.fieldLink RX5 43 "KinkStreet$Lines" "OWN_BODIES" "[I") (List.mem_of_getElem? (i := 1) rfl)) (fun _ h9 => h9) dX5_call_65 ?_
          refine lv_iload hx hb dX5_call_68 (lv_at hl 1 rfl) ?_
          refine lv_iconst (v := 4) hx hb dX5_call_70 (by decide) ?_
          refine lv_imul hx hb dX5_call_71 ?_
          refine lv_topi (fun y_76 e_76 => ?_)
          obtain rfl : y_76 = 8 := e_76.trans (by decide)
          refine lv_iload_n hx hb dX5_call_72 rfl (lv_at hl 5 rfl) ?_
          refine lv_iadd hx hb dX5_call_73 ?_
          refine lv_topi (fun y_77 e_77 => ?_)
          obtain rfl : y_77 = 9 := e_77.trans (by decide)
          refine va_ti (v := .int 30) hx hb hTOWN_BODIES hS (by unfold vp_in; decide) rfl dX5_call_74 ?_
          refine lv_istore (lv' := [(7, .int 30), (6, .int 2), (0, .ref h0), (1, .int p0), (2, .int 2), (3, .int 1), (4, .int p3), (5, .int p4)]) hx hb dX5_call_75 hl (by decide) rfl (fun ls hl => ?_)
          refine lv_aload_n hx hb dX5_call_77 rfl (lv_at hl 2 rfl) ?_
          refine va_get (D := (dC, dI)) (ci := 5) (v := .int n0_ran) (C := RX5) (T := TX5) (N := 4) hx hb hts (fun _ h => List.mem_cons_of_mem _ (List.mem_append_right _ h)) hown hK hP 0 rfl rfl 3 (by decide) (hts (.fieldLink RX5 36 "KinkStreet$Lines" "ran" "I") (List.mem_of_getElem? (i := 3) rfl)) (fun _ h9 => h9) rfl dX5_call_78 ?_
          refine lv_bipush (v := 24) hx hb dX5_call_81 (by decide) ?_
          refine kk_cut (σ := (Nat → Int32)) (pc' := 97) (fun x H locs ls => va_P (dC, dI) vwCl [(h0, Sum.inr (5, [Value.ref h1, Value.int n0_size, Value.ref h2, Value.int n0_ran])), (h1, Sum.inl (cint, 50, Sum.inl f1)), (h2, Sum.inl (cint, 24, Sum.inl x))] H ∧ va_D A [(h0, Sum.inr (5, [Value.ref h1, Value.int n0_size, Value.ref h2, Value.int n0_ran])), (h1, Sum.inl (cint, 50, Sum.inl f1)), (h2, Sum.inl (cint, 24, Sum.inl x))] ∧ va_S A s.heap H locs ∧ lv_has ls 8 [(7, .int 30), (6, .int 2), (0, .ref h0), (1, .int p0), (2, .int 2), (3, .int 1), (4, .int p3), (5, .int p4)]) ?_ (fun hcut_80 => ?_)
          · rintro f_80_0 H locs ls ⟨hP, hD, hS, hl⟩
            have hl : lv_has ls 8 [(7, .int 30), (6, .int 2), (0, .ref h0), (1, .int p0), (2, .int 2), (3, .int 1), (4, .int p3), (5, .int p4)] := hl
            have hP : va_P (dC, dI) vwCl [(h0, Sum.inr (5, [Value.ref h1, Value.int n0_size, Value.ref h2, Value.int n0_ran])), (h1, Sum.inl (cint, 50, Sum.inl f1)), (h2, Sum.inl (cint, 24, Sum.inl f_80_0))] H := hP
            have hD : va_D A [(h0, Sum.inr (5, [Value.ref h1, Value.int n0_size, Value.ref h2, Value.int n0_ran])), (h1, Sum.inl (cint, 50, Sum.inl f1)), (h2, Sum.inl (cint, 24, Sum.inl f_80_0))] := hD
            refine lv_aload_n hx hb dX5_call_97 rfl (lv_at hl 2 rfl) ?_
            refine lv_dup hx hb dX5_call_98 rfl ?_
            refine va_get (D := (dC, dI)) (ci := 5) (v := .int n0_ran) (C := RX5) (T := TX5) (N := 4) hx hb hts (fun _ h => List.mem_cons_of_mem _ (List.mem_append_right _ h)) hown hK hP 0 rfl rfl 3 (by decide) (hts (.fieldLink RX5 36 "KinkStreet$Lines" "ran" "I") (List.mem_of_getElem? (i := 3) rfl)) (fun _ h9 => h9) rfl dX5_call_99 ?_
            refine lv_iconst (v := 1) hx hb dX5_call_102 (by decide) ?_
            refine lv_iadd hx hb dX5_call_103 ?_
            refine va_put (D := (dC, dI)) (ci := 5) (v := .int (n0_ran + 1)) (ty := .int) (C := RX5) (T := TX5) (N := 4) hx hb hts (fun _ h => List.mem_cons_of_mem _ (List.mem_append_right _ h)) tyX5 tyX5_ok nmX5 hown hK hP hD hS 0 rfl rfl 3 (by decide) (hts (.fieldLink RX5 36 "KinkStreet$Lines" "ran" "I") (List.mem_of_getElem? (i := 3) rfl)) (fun _ h9 => h9) rfl (by decide +kernel) rfl rfl (Nat.le_of_ble_eq_true rfl) dX5_call_104 (fun H locs hP hD hS => ?_)
            have hP : va_P (dC, dI) vwCl [(h0, Sum.inr (5, [Value.ref h1, Value.int n0_size, Value.ref h2, Value.int (n0_ran + 1)])), (h1, Sum.inl (cint, 50, Sum.inl f1)), (h2, Sum.inl (cint, 24, Sum.inl f_80_0))] H := hP
            have hD : va_D A [(h0, Sum.inr (5, [Value.ref h1, Value.int n0_size, Value.ref h2, Value.int (n0_ran + 1)])), (h1, Sum.inl (cint, 50, Sum.inl f1)), (h2, Sum.inl (cint, 24, Sum.inl f_80_0))] := hD
            refine lv_iload hx hb dX5_call_107 (lv_at hl 1 rfl) ?_
            refine lv_if_ne (tgt := 128) hx hb dX5_call_109 (by decide) (fun _ => ?_) (fun c => absurd c (by decide))
            refine lv_aload_n hx hb dX5_call_128 rfl (lv_at hl 2 rfl) ?_
            refine lv_iload_n hx hb dX5_call_129 rfl (lv_at hl 3 rfl) ?_
            refine lv_iload hx hb dX5_call_130 (lv_at hl 1 rfl) ?_
            refine lv_iload hx hb dX5_call_132 (lv_at hl 0 rfl) ?_
            refine lv_iload hx hb dX5_call_134 (lv_at hl 6 rfl) ?_
            refine lv_iload hx hb dX5_call_136 (lv_at hl 7 rfl) ?_
            refine lv_iconst (v := 1) hx hb dX5_call_138 (by decide) ?_
            refine lv_iadd hx hb dX5_call_139 ?_
            obtain ⟨hPc, hDc, hFc⟩ := kk_cutout (wc := [(h0, Sum.inr (5, [Value.ref h1, Value.int n0_size, Value.ref h2, Value.int (n0_ran + 1)])), (h1, Sum.inl (cint, 50, Sum.inl f1)), (h2, Sum.inl (cint, 24, Sum.inl f_80_0))]) hP hD hS hA [0, 1, 2] (by decide) rfl
            have hKc := hK.sub (tys' := [(cint, .int)]) [0] rfl
            refine va_calli (va_runV (As := [.int p0, .int 2, .int 30, .int p3, .int (p4 + 1)]) (rest := []) ⟨hx, hb, hml, hown, hts⟩ (g_X5_runUnder_9 l dC dI h0 h1 h2 cint H.size p0 p3 (p4 + 1) n0_size (n0_ran + 1) f1 f_80_0 tn0_size (by show 0 ≤ ((n0_ran + 1) : Int32).toInt ∧ ((n0_ran + 1) : Int32).toInt ≤ 996; first | decide | (constructor <;> (have := kk_rng p4; have := kk_add2 (x := n0_ran) (y := 1) (a := n0_ran.toInt) (b := 1) rfl rfl (by omega) (by omega); have := kk_rng p4; have := kk_add2 (x := p4) (y := 1) (a := p4.toInt) (b := 1) rfl rfl (by omega) (by omega); omega))) bf1 aOWN_BODIES aABOVE) (cwV 5 hts gX5_call_X5_runUnder rfl rfl rfl (by decide +kernel) ⟨Nat.le_of_ble_eq_true rfl, Nat.le_of_ble_eq_true rfl⟩) ⟨fun a U g mk q => by obtain ⟨q0, q1, qP, qK, qD, qx0, qx1, qx2, qx3⟩ := q; exact ⟨q0, q1, qP, va_K.moved (u := U) (U := U.calling g mk a) (Vm.Alike.refl U.vm) qK, qD, va_Z.moved (u := U) (U := U.calling g mk a) (Vm.Alike.refl U.vm) qx0, va_T.moved (u := U) (U := U.calling g mk a) (Vm.Alike.refl U.vm) qx1, va_Z.moved (u := U) (U := U.calling g mk a) (Vm.Alike.refl U.vm) qx2, va_T.moved (u := U) (U := U.calling g mk a) (Vm.Alike.refl U.vm) qx3⟩, va_recv hKc hPc (ci := 5) (q0 := 0) rfl rfl, fun U hU hW => ⟨rfl, by rw [hU], by rw [hU]; exact hPc, va_K.moved hW.alike hKc, hDc.weaken (fun _ _ _ _ => trivial), by rw [hU]; exact ((hZOWN_BODIES.kept (fun a h1 h2 => hS.2.1 a h1 h2)).narrow hFc).moved hW.alike, by rw [hU]; exact ((hTOWN_BODIES.kept (fun a h1 h2 => hS.2.1 a h1 h2)).narrow hFc).moved hW.alike, by rw [hU]; exact ((hZABOVE.kept (fun a h1 h2 => hS.2.1 a h1 h2)).narrow hFc).moved hW.alike, by rw [hU]; exact ((hTABOVE.kept (fun a h1 h2 => hS.2.1 a h1 h2)).narrow hFc).moved hW.alike⟩⟩ rfl rfl hl.1 rfl (lv_room (Nat.le_of_ble_eq_true rfl)) dX5_call_140 ⟨Nat.le_of_ble_eq_true rfl, Nat.le_of_ble_eq_true rfl⟩) hS (fun q _ h => hFc q h) hFc (fun r_81 u t H1 locs ht hvm hw hB hz1 hk1 hS => ?_)
            obtain ⟨y_82, f_83, by_82, v_83_0, hP1, hK1, hD1⟩ := hB
            have v_83_0 : y_82.toInt ≤ (n0_ran + 1).toInt + 4 := v_83_0
            rw [ht] at hP1
            have hK1 := va_K.moved hvm.symm hK1
            obtain ⟨hP, hD⟩ := va_join (wr := []) (w1 := [(h0, Sum.inr (5, [Value.ref h1, Value.int n0_size, Value.ref h2, Value.int y_82])), (h1, Sum.inl (cint, 50, Sum.inl f1)), (h2, Sum.inl (cint, 24, Sum.inl f_83))]) hP hD [0, 1, 2] [] rfl rfl (by decide) (by decide) hk1 hFc hP1 hD1
            generalize H1 = H at hP hS ⊢
            have hP : va_P (dC, dI) vwCl [(h0, Sum.inr (5, [Value.ref h1, Value.int n0_size, Value.ref h2, Value.int y_82])), (h1, Sum.inl (cint, 50, Sum.inl f1)), (h2, Sum.inl (cint, 24, Sum.inl f_83))] H := hP
            have hD : va_D A [(h0, Sum.inr (5, [Value.ref h1, Value.int n0_size, Value.ref h2, Value.int y_82])), (h1, Sum.inl (cint, 50, Sum.inl f1)), (h2, Sum.inl (cint, 24, Sum.inl f_83))] := hD
            obtain ⟨hP9, hD9⟩ := kk_leafout (wc := [(h0, Sum.inr (5, [Value.ref h1, Value.int n0_size, Value.ref h2, Value.int y_82])), (h1, Sum.inl (cint, 50, Sum.inl f1)), (h2, Sum.inl (cint, 24, Sum.inl f_83))]) hP hD [0, 1, 2] (by decide) rfl
            have hK9 := hK.sub (tys' := []) [] rfl
            exact W.iret (v := r_81) hx hb hr (fun t ht hW => ⟨⟨r_81, (), rfl, trivial, y_82, f_83, (by show 0 ≤ (y_82 : Int32).toInt ∧ (y_82 : Int32).toInt ≤ 1000; first | decide | (constructor <;> (have := kk_rng p4; have := kk_add2 (x := n0_ran) (y := 1) (a := n0_ran.toInt) (b := 1) rfl rfl (by omega) (by omega); have := kk_rng p4; have := kk_add2 (x := p4) (y := 1) (a := p4.toInt) (b := 1) rfl rfl (by omega) (by omega); omega))), (by show (y_82 : Int32).toInt ≤ (n0_ran : Int32).toInt + 11; first | decide | (have := kk_rng p4; have := kk_add2 (x := n0_ran) (y := 1) (a := n0_ran.toInt) (b := 1) rfl rfl (by omega) (by omega); have := kk_rng p4; have := kk_add2 (x := p4) (y := 1) (a := p4.toInt) (b := 1) rfl rfl (by omega) (by omega); omega)), by rw [ht]; exact hP9, va_K.moved hW.alike hK9, hD9⟩, hS.F ht⟩) hS.2.2 dX5_call_143
          · skip
            refine lv_icmp_ge (tgt := 97) hx hb dX5_call_83 (by decide) (fun c_84 => ?_) (fun c_84 => ?_)
            · have t_84 : 24 ≤ n0_ran.toInt := kk_le c_84
              exact hcut_80 (f2) _ _ _ ⟨hP, hD, hS, lv_sub hl [0, 1, 2, 3, 4, 5, 6, 7] rfl⟩
            · have t_84 : n0_ran.toInt < 24 := kk_nle c_84
              refine lv_aload_n hx hb dX5_call_86 rfl (lv_at hl 2 rfl) ?_
              refine va_get (D := (dC, dI)) (ci := 5) (v := .ref h2) (C := RX5) (T := TX5) (N := 4) hx hb hts (fun _ h => List.mem_cons_of_mem _ (List.mem_append_right _ h)) hown hK hP 0 rfl rfl 2 (by decide) (hts (.fieldLink RX5 15 "KinkStreet$Lines" "trace" "[I") (List.mem_of_getElem? (i := 4) rfl)) (fun _ h9 => h9) rfl dX5_call_87 ?_
              refine lv_aload_n hx hb dX5_call_90 rfl (lv_at hl 2 rfl) ?_
              refine va_get (D := (dC, dI)) (ci := 5) (v := .int n0_ran) (C := RX5) (T := TX5) (N := 4) hx hb hts (fun _ h => List.mem_cons_of_mem _ (List.mem_append_right _ h)) hown hK hP 0 rfl rfl 3 (by decide) (hts (.fieldLink RX5 36 "KinkStreet$Lines" "ran" "I") (List.mem_of_getElem? (i := 3) rfl)) (fun _ h9 => h9) rfl dX5_call_91 ?_
              refine lv_iload hx hb dX5_call_94 (lv_at hl 0 rfl) ?_
              refine va_iast hx hb hK hP hD hS 2 0 rfl rfl (vp_in_iff.mpr ⟨by have := kk_rng p4; omega, by have := kk_rng p4; omega⟩) dX5_call_96 (fun H locs hP hD hS => ?_)
              generalize upd f2 (n0_ran : Int32).toNatClampNeg 30 = f_85 at hP hD
              have hP : va_P (dC, dI) vwCl [(h0, Sum.inr (5, [Value.ref h1, Value.int n0_size, Value.ref h2, Value.int n0_ran])), (h1, Sum.inl (cint, 50, Sum.inl f1)), (h2, Sum.inl (cint, 24, Sum.inl f_85))] H := hP
              have hD : va_D A [(h0, Sum.inr (5, [Value.ref h1, Value.int n0_size, Value.ref h2, Value.int n0_ran])), (h1, Sum.inl (cint, 50, Sum.inl f1)), (h2, Sum.inl (cint, 24, Sum.inl f_85))] := hD
              exact hcut_80 (f_85) _ _ _ ⟨hP, hD, hS, lv_sub hl [0, 1, 2, 3, 4, 5, 6, 7] rfl⟩
        · have t_75 : 40 < p4.toInt := kk_nle c_75
          refine lv_iconst (v := 0) hx hb dX5_call_63 (by decide) ?_
          obtain ⟨hP9, hD9⟩ := kk_leafout (wc := [(h0, Sum.inr (5, [Value.ref h1, Value.int n0_size, Value.ref h2, Value.int n0_ran])), (h1, Sum.inl (cint, 50, Sum.inl f1)), (h2, Sum.inl (cint, 24, Sum.inl f2))]) hP hD [0, 1, 2] (by decide) rfl
          have hK9 := hK.sub (tys' := []) [] rfl
          exact W.iret (v := 0) hx hb hr (fun t ht hW => ⟨⟨0, (), rfl, trivial, n0_ran, f2, (by show 0 ≤ (n0_ran : Int32).toInt ∧ (n0_ran : Int32).toInt ≤ 1000; first | decide | (constructor <;> (have := kk_rng p4; omega))), (by show (n0_ran : Int32).toInt ≤ (n0_ran : Int32).toInt + 11; first | decide | (have := kk_rng p4; omega)), by rw [ht]; exact hP9, va_K.moved hW.alike hK9, hD9⟩, hS.F ht⟩) hS.2.2 dX5_call_64
    · skip
      have t_73_0 : (0 : Int) ≤ 2 := t_73_0
      have t_73_1 : (2 : Int) < 8 := t_73_1
      refine lv_if_eq (tgt := 48) hx hb dX5_call_18 (by decide) (fun c => absurd c (by decide)) (fun _ => ?_)
      refine va_gets hx hb hZOWN_BODIES hS hown (hts (.fieldLink RX5 43 "KinkStreet$Lines" "OWN_BODIES" "[I") (List.mem_of_getElem? (i := 1) rfl)) (fun _ h9 => h9) dX5_call_21 ?_
      refine lv_iload hx hb dX5_call_24 (lv_at hl 1 rfl) ?_
      refine lv_iconst (v := 4) hx hb dX5_call_26 (by decide) ?_
      refine lv_imul hx hb dX5_call_27 ?_
      refine lv_topi (fun y_86 e_86 => ?_)
      obtain rfl : y_86 = 8 := e_86.trans (by decide)
      refine lv_iload_n hx hb dX5_call_28 rfl (lv_at hl 5 rfl) ?_
      refine lv_iadd hx hb dX5_call_29 ?_
      refine lv_topi (fun y_87 e_87 => ?_)
      obtain rfl : y_87 = 9 := e_87.trans (by decide)
      refine va_ti (v := .int 30) hx hb hTOWN_BODIES hS (by unfold vp_in; decide) rfl dX5_call_30 ?_
      refine lv_if_ne (tgt := 48) hx hb dX5_call_31 (by decide) (fun _ => ?_) (fun c => absurd c (by decide))
      refine lv_iload hx hb dX5_call_48 (lv_at hl 1 rfl) ?_
      obtain ⟨hPc, hDc, hFc⟩ := kk_cutout (wc := []) hP hD hS hA [] (by decide) rfl
      have hKc := hK.sub (tys' := []) [] rfl
      refine va_calli (va_runS (As := [.int 2]) (rest := []) ⟨hx, hb, hml, hown, hts⟩ (g_X5_isKind_0 l dC dI H.size 2) (va_cwS 1 hts gX5_call_X5_isKind rfl rfl rfl (by decide +kernel) ⟨Nat.le_of_ble_eq_true rfl, Nat.le_of_ble_eq_true rfl⟩) ⟨fun a U g mk q => by obtain ⟨q0, q1, qP, qK, qD⟩ := q; exact ⟨q0, q1, qP, va_K.moved (u := U) (U := U.calling g mk a) (Vm.Alike.refl U.vm) qK, qD⟩, fun U hU hW => ⟨rfl, by rw [hU], by rw [hU]; exact hPc, va_K.moved hW.alike hKc, hDc.weaken (fun _ _ _ _ => trivial)⟩⟩ rfl rfl hl.1 rfl (lv_room (Nat.le_of_ble_eq_true rfl)) dX5_call_50 ⟨Nat.le_of_ble_eq_true rfl, Nat.le_of_ble_eq_true rfl⟩) hS (fun q _ h => hFc q h) hFc (fun r_88 u t H1 locs ht hvm hw hB hz1 hk1 hS => ?_)
      obtain ⟨hP1, hK1, hD1⟩ := hB
      rw [ht] at hP1
      have hK1 := va_K.moved hvm.symm hK1
      obtain ⟨hP, hD⟩ := va_join (wr := [(h0, Sum.inr (5, [Value.ref h1, Value.int n0_size, Value.ref h2, Value.int n0_ran])), (h1, Sum.inl (cint, 50, Sum.inl f1)), (h2, Sum.inl (cint, 24, Sum.inl f2))]) (w1 := []) hP hD [] [0, 1, 2] rfl rfl (by decide) (by decide) hk1 hFc hP1 hD1
      generalize H1 = H at hP hS ⊢
      have hP : va_P (dC, dI) vwCl [(h0, Sum.inr (5, [Value.ref h1, Value.int n0_size, Value.ref h2, Value.int n0_ran])), (h1, Sum.inl (cint, 50, Sum.inl f1)), (h2, Sum.inl (cint, 24, Sum.inl f2))] H := hP
      have hD : va_D A [(h0, Sum.inr (5, [Value.ref h1, Value.int n0_size, Value.ref h2, Value.int n0_ran])), (h1, Sum.inl (cint, 50, Sum.inl f1)), (h2, Sum.inl (cint, 24, Sum.inl f2))] := hD
      rcases hw with ⟨rfl⟩ | ⟨t_88_0, t_88_1, rfl⟩
      · skip
        refine lv_if_eq (tgt := 63) hx hb dX5_call_53 (by decide) (fun _ => ?_) (fun c => absurd c (by decide))
        refine lv_iconst (v := 0) hx hb dX5_call_63 (by decide) ?_
        obtain ⟨hP9, hD9⟩ := kk_leafout (wc := [(h0, Sum.inr (5, [Value.ref h1, Value.int n0_size, Value.ref h2, Value.int n0_ran])), (h1, Sum.inl (cint, 50, Sum.inl f1)), (h2, Sum.inl (cint, 24, Sum.inl f2))]) hP hD [0, 1, 2] (by decide) rfl
        have hK9 := hK.sub (tys' := []) [] rfl
        exact W.iret (v := 0) hx hb hr (fun t ht hW => ⟨⟨0, (), rfl, trivial, n0_ran, f2, (by show 0 ≤ (n0_ran : Int32).toInt ∧ (n0_ran : Int32).toInt ≤ 1000; first | decide | (constructor <;> (omega))), (by show (n0_ran : Int32).toInt ≤ (n0_ran : Int32).toInt + 11; first | decide | (omega)), by rw [ht]; exact hP9, va_K.moved hW.alike hK9, hD9⟩, hS.F ht⟩) hS.2.2 dX5_call_64
      · skip
        have t_88_0 : (0 : Int) ≤ 2 := t_88_0
        have t_88_1 : (2 : Int) < 8 := t_88_1
        refine lv_if_eq (tgt := 63) hx hb dX5_call_53 (by decide) (fun c => absurd c (by decide)) (fun _ => ?_)
        refine lv_iload hx hb dX5_call_56 (lv_at hl 7 rfl) ?_
        refine lv_bipush (v := 40) hx hb dX5_call_58 (by decide) ?_
        refine lv_icmp_le (tgt := 65) hx hb dX5_call_60 (by decide) (fun c_89 => ?_) (fun c_89 => ?_)
        · have t_89 : p4.toInt ≤ 40 := kk_le c_89
          refine va_gets hx hb hZOWN_BODIES hS hown (hts (.fieldLink RX5 43 "KinkStreet$Lines" "OWN_BODIES" "[I") (List.mem_of_getElem? (i := 1) rfl)) (fun _ h9 => h9) dX5_call_65 ?_
          refine lv_iload hx hb dX5_call_68 (lv_at hl 1 rfl) ?_
          refine lv_iconst (v := 4) hx hb dX5_call_70 (by decide) ?_
          refine lv_imul hx hb dX5_call_71 ?_
          refine lv_topi (fun y_90 e_90 => ?_)
          obtain rfl : y_90 = 8 := e_90.trans (by decide)
          refine lv_iload_n hx hb dX5_call_72 rfl (lv_at hl 5 rfl) ?_
          refine lv_iadd hx hb dX5_call_73 ?_
          refine lv_topi (fun y_91 e_91 => ?_)
          obtain rfl : y_91 = 9 := e_91.trans (by decide)
          refine va_ti (v := .int 30) hx hb hTOWN_BODIES hS (by unfold vp_in; decide) rfl dX5_call_74 ?_
          refine lv_istore (lv' := [(7, .int 30), (6, .int 2), (0, .ref h0), (1, .int p0), (2, .int 2), (3, .int 1), (4, .int p3), (5, .int p4)]) hx hb dX5_call_75 hl (by decide) rfl (fun ls hl => ?_)
          refine lv_aload_n hx hb dX5_call_77 rfl (lv_at hl 2 rfl) ?_
          refine va_get (D := (dC, dI)) (ci := 5) (v := .int n0_ran) (C := RX5) (T := TX5) (N := 4) hx hb hts (fun _ h => List.mem_cons_of_mem _ (List.mem_append_right _ h)) hown hK hP 0 rfl rfl 3 (by decide) (hts (.fieldLink RX5 36 "KinkStreet$Lines" "ran" "I") (List.mem_of_getElem? (i := 3) rfl)) (fun _ h9 => h9) rfl dX5_call_78 ?_
          refine lv_bipush (v := 24) hx hb dX5_call_81 (by decide) ?_
          refine kk_cut (σ := (Nat → Int32)) (pc' := 97) (fun x H locs ls => va_P (dC, dI) vwCl [(h0, Sum.inr (5, [Value.ref h1, Value.int n0_size, Value.ref h2, Value.int n0_ran])), (h1, Sum.inl (cint, 50, Sum.inl f1)), (h2, Sum.inl (cint, 24, Sum.inl x))] H ∧ va_D A [(h0, Sum.inr (5, [Value.ref h1, Value.int n0_size, Value.ref h2, Value.int n0_ran])), (h1, Sum.inl (cint, 50, Sum.inl f1)), (h2, Sum.inl (cint, 24, Sum.inl x))] ∧ va_S A s.heap H locs ∧ lv_has ls 8 [(7, .int 30), (6, .int 2), (0, .ref h0), (1, .int p0), (2, .int 2), (3, .int 1), (4, .int p3), (5, .int p4)]) ?_ (fun hcut_94 => ?_)
          · rintro f_94_0 H locs ls ⟨hP, hD, hS, hl⟩
            have hl : lv_has ls 8 [(7, .int 30), (6, .int 2), (0, .ref h0), (1, .int p0), (2, .int 2), (3, .int 1), (4, .int p3), (5, .int p4)] := hl
            have hP : va_P (dC, dI) vwCl [(h0, Sum.inr (5, [Value.ref h1, Value.int n0_size, Value.ref h2, Value.int n0_ran])), (h1, Sum.inl (cint, 50, Sum.inl f1)), (h2, Sum.inl (cint, 24, Sum.inl f_94_0))] H := hP
            have hD : va_D A [(h0, Sum.inr (5, [Value.ref h1, Value.int n0_size, Value.ref h2, Value.int n0_ran])), (h1, Sum.inl (cint, 50, Sum.inl f1)), (h2, Sum.inl (cint, 24, Sum.inl f_94_0))] := hD
            refine lv_aload_n hx hb dX5_call_97 rfl (lv_at hl 2 rfl) ?_
            refine lv_dup hx hb dX5_call_98 rfl ?_
            refine va_get (D := (dC, dI)) (ci := 5) (v := .int n0_ran) (C := RX5) (T := TX5) (N := 4) hx hb hts (fun _ h => List.mem_cons_of_mem _ (List.mem_append_right _ h)) hown hK hP 0 rfl rfl 3 (by decide) (hts (.fieldLink RX5 36 "KinkStreet$Lines" "ran" "I") (List.mem_of_getElem? (i := 3) rfl)) (fun _ h9 => h9) rfl dX5_call_99 ?_
            refine lv_iconst (v := 1) hx hb dX5_call_102 (by decide) ?_
            refine lv_iadd hx hb dX5_call_103 ?_
            refine va_put (D := (dC, dI)) (ci := 5) (v := .int (n0_ran + 1)) (ty := .int) (C := RX5) (T := TX5) (N := 4) hx hb hts (fun _ h => List.mem_cons_of_mem _ (List.mem_append_right _ h)) tyX5 tyX5_ok nmX5 hown hK hP hD hS 0 rfl rfl 3 (by decide) (hts (.fieldLink RX5 36 "KinkStreet$Lines" "ran" "I") (List.mem_of_getElem? (i := 3) rfl)) (fun _ h9 => h9) rfl (by decide +kernel) rfl rfl (Nat.le_of_ble_eq_true rfl) dX5_call_104 (fun H locs hP hD hS => ?_)
            have hP : va_P (dC, dI) vwCl [(h0, Sum.inr (5, [Value.ref h1, Value.int n0_size, Value.ref h2, Value.int (n0_ran + 1)])), (h1, Sum.inl (cint, 50, Sum.inl f1)), (h2, Sum.inl (cint, 24, Sum.inl f_94_0))] H := hP
            have hD : va_D A [(h0, Sum.inr (5, [Value.ref h1, Value.int n0_size, Value.ref h2, Value.int (n0_ran + 1)])), (h1, Sum.inl (cint, 50, Sum.inl f1)), (h2, Sum.inl (cint, 24, Sum.inl f_94_0))] := hD
            refine lv_iload hx hb dX5_call_107 (lv_at hl 1 rfl) ?_
            refine lv_if_ne (tgt := 128) hx hb dX5_call_109 (by decide) (fun _ => ?_) (fun c => absurd c (by decide))
            refine lv_aload_n hx hb dX5_call_128 rfl (lv_at hl 2 rfl) ?_
            refine lv_iload_n hx hb dX5_call_129 rfl (lv_at hl 3 rfl) ?_
            refine lv_iload hx hb dX5_call_130 (lv_at hl 1 rfl) ?_
            refine lv_iload hx hb dX5_call_132 (lv_at hl 0 rfl) ?_
            refine lv_iload hx hb dX5_call_134 (lv_at hl 6 rfl) ?_
            refine lv_iload hx hb dX5_call_136 (lv_at hl 7 rfl) ?_
            refine lv_iconst (v := 1) hx hb dX5_call_138 (by decide) ?_
            refine lv_iadd hx hb dX5_call_139 ?_
            obtain ⟨hPc, hDc, hFc⟩ := kk_cutout (wc := [(h0, Sum.inr (5, [Value.ref h1, Value.int n0_size, Value.ref h2, Value.int (n0_ran + 1)])), (h1, Sum.inl (cint, 50, Sum.inl f1)), (h2, Sum.inl (cint, 24, Sum.inl f_94_0))]) hP hD hS hA [0, 1, 2] (by decide) rfl
            have hKc := hK.sub (tys' := [(cint, .int)]) [0] rfl
            refine va_calli (va_runV (As := [.int p0, .int 2, .int 30, .int p3, .int (p4 + 1)]) (rest := []) ⟨hx, hb, hml, hown, hts⟩ (g_X5_runUnder_9 l dC dI h0 h1 h2 cint H.size p0 p3 (p4 + 1) n0_size (n0_ran + 1) f1 f_94_0 tn0_size (by show 0 ≤ ((n0_ran + 1) : Int32).toInt ∧ ((n0_ran + 1) : Int32).toInt ≤ 996; first | decide | (constructor <;> (have := kk_rng p4; have := kk_add2 (x := n0_ran) (y := 1) (a := n0_ran.toInt) (b := 1) rfl rfl (by omega) (by omega); have := kk_rng p4; have := kk_add2 (x := p4) (y := 1) (a := p4.toInt) (b := 1) rfl rfl (by omega) (by omega); omega))) bf1 aOWN_BODIES aABOVE) (cwV 5 hts gX5_call_X5_runUnder rfl rfl rfl (by decide +kernel) ⟨Nat.le_of_ble_eq_true rfl, Nat.le_of_ble_eq_true rfl⟩) ⟨fun a U g mk q => by obtain ⟨q0, q1, qP, qK, qD, qx0, qx1, qx2, qx3⟩ := q; exact ⟨q0, q1, qP, va_K.moved (u := U) (U := U.calling g mk a) (Vm.Alike.refl U.vm) qK, qD, va_Z.moved (u := U) (U := U.calling g mk a) (Vm.Alike.refl U.vm) qx0, va_T.moved (u := U) (U := U.calling g mk a) (Vm.Alike.refl U.vm) qx1, va_Z.moved (u := U) (U := U.calling g mk a) (Vm.Alike.refl U.vm) qx2, va_T.moved (u := U) (U := U.calling g mk a) (Vm.Alike.refl U.vm) qx3⟩, va_recv hKc hPc (ci := 5) (q0 := 0) rfl rfl, fun U hU hW => ⟨rfl, by rw [hU], by rw [hU]; exact hPc, va_K.moved hW.alike hKc, hDc.weaken (fun _ _ _ _ => trivial), by rw [hU]; exact ((hZOWN_BODIES.kept (fun a h1 h2 => hS.2.1 a h1 h2)).narrow hFc).moved hW.alike, by rw [hU]; exact ((hTOWN_BODIES.kept (fun a h1 h2 => hS.2.1 a h1 h2)).narrow hFc).moved hW.alike, by rw [hU]; exact ((hZABOVE.kept (fun a h1 h2 => hS.2.1 a h1 h2)).narrow hFc).moved hW.alike, by rw [hU]; exact ((hTABOVE.kept (fun a h1 h2 => hS.2.1 a h1 h2)).narrow hFc).moved hW.alike⟩⟩ rfl rfl hl.1 rfl (lv_room (Nat.le_of_ble_eq_true rfl)) dX5_call_140 ⟨Nat.le_of_ble_eq_true rfl, Nat.le_of_ble_eq_true rfl⟩) hS (fun q _ h => hFc q h) hFc (fun r_95 u t H1 locs ht hvm hw hB hz1 hk1 hS => ?_)
            obtain ⟨y_96, f_97, by_96, v_97_0, hP1, hK1, hD1⟩ := hB
            have v_97_0 : y_96.toInt ≤ (n0_ran + 1).toInt + 4 := v_97_0
            rw [ht] at hP1
            have hK1 := va_K.moved hvm.symm hK1
            obtain ⟨hP, hD⟩ := va_join (wr := []) (w1 := [(h0, Sum.inr (5, [Value.ref h1, Value.int n0_size, Value.ref h2, Value.int y_96])), (h1, Sum.inl (cint, 50, Sum.inl f1)), (h2, Sum.inl (cint, 24, Sum.inl f_97))]) hP hD [0, 1, 2] [] rfl rfl (by decide) (by decide) hk1 hFc hP1 hD1
            generalize H1 = H at hP hS ⊢
            have hP : va_P (dC, dI) vwCl [(h0, Sum.inr (5, [Value.ref h1, Value.int n0_size, Value.ref h2, Value.int y_96])), (h1, Sum.inl (cint, 50, Sum.inl f1)), (h2, Sum.inl (cint, 24, Sum.inl f_97))] H := hP
            have hD : va_D A [(h0, Sum.inr (5, [Value.ref h1, Value.int n0_size, Value.ref h2, Value.int y_96])), (h1, Sum.inl (cint, 50, Sum.inl f1)), (h2, Sum.inl (cint, 24, Sum.inl f_97))] := hD
            obtain ⟨hP9, hD9⟩ := kk_leafout (wc := [(h0, Sum.inr (5, [Value.ref h1, Value.int n0_size, Value.ref h2, Value.int y_96])), (h1, Sum.inl (cint, 50, Sum.inl f1)), (h2, Sum.inl (cint, 24, Sum.inl f_97))]) hP hD [0, 1, 2] (by decide) rfl
            have hK9 := hK.sub (tys' := []) [] rfl
            exact W.iret (v := r_95) hx hb hr (fun t ht hW => ⟨⟨r_95, (), rfl, trivial, y_96, f_97, (by show 0 ≤ (y_96 : Int32).toInt ∧ (y_96 : Int32).toInt ≤ 1000; first | decide | (constructor <;> (have := kk_rng p4; have := kk_add2 (x := n0_ran) (y := 1) (a := n0_ran.toInt) (b := 1) rfl rfl (by omega) (by omega); have := kk_rng p4; have := kk_add2 (x := p4) (y := 1) (a := p4.toInt) (b := 1) rfl rfl (by omega) (by omega); omega))), (by show (y_96 : Int32).toInt ≤ (n0_ran : Int32).toInt + 11; first | decide | (have := kk_rng p4; have := kk_add2 (x := n0_ran) (y := 1) (a := n0_ran.toInt) (b := 1) rfl rfl (by omega) (by omega); have := kk_rng p4; have := kk_add2 (x := p4) (y := 1) (a := p4.toInt) (b := 1) rfl rfl (by omega) (by omega); omega)), by rw [ht]; exact hP9, va_K.moved hW.alike hK9, hD9⟩, hS.F ht⟩) hS.2.2 dX5_call_143
          · skip
            refine lv_icmp_ge (tgt := 97) hx hb dX5_call_83 (by decide) (fun c_98 => ?_) (fun c_98 => ?_)
            · have t_98 : 24 ≤ n0_ran.toInt := kk_le c_98
              exact hcut_94 (f2) _ _ _ ⟨hP, hD, hS, lv_sub hl [0, 1, 2, 3, 4, 5, 6, 7] rfl⟩
            · have t_98 : n0_ran.toInt < 24 := kk_nle c_98
              refine lv_aload_n hx hb dX5_call_86 rfl (lv_at hl 2 rfl) ?_
              refine va_get (D := (dC, dI)) (ci := 5) (v := .ref h2) (C := RX5) (T := TX5) (N := 4) hx hb hts (fun _ h => List.mem_cons_of_mem _ (List.mem_append_right _ h)) hown hK hP 0 rfl rfl 2 (by decide) (hts (.fieldLink RX5 15 "KinkStreet$Lines" "trace" "[I") (List.mem_of_getElem? (i := 4) rfl)) (fun _ h9 => h9) rfl dX5_call_87 ?_
              refine lv_aload_n hx hb dX5_call_90 rfl (lv_at hl 2 rfl) ?_
              refine va_get (D := (dC, dI)) (ci := 5) (v := .int n0_ran) (C := RX5) (T := TX5) (N := 4) hx hb hts (fun _ h => List.mem_cons_of_mem _ (List.mem_append_right _ h)) hown hK hP 0 rfl rfl 3 (by decide) (hts (.fieldLink RX5 36 "KinkStreet$Lines" "ran" "I") (List.mem_of_getElem? (i := 3) rfl)) (fun _ h9 => h9) rfl dX5_call_91 ?_
              refine lv_iload hx hb dX5_call_94 (lv_at hl 0 rfl) ?_
              refine va_iast hx hb hK hP hD hS 2 0 rfl rfl (vp_in_iff.mpr ⟨by have := kk_rng p4; omega, by have := kk_rng p4; omega⟩) dX5_call_96 (fun H locs hP hD hS => ?_)
              generalize upd f2 (n0_ran : Int32).toNatClampNeg 30 = f_99 at hP hD
              have hP : va_P (dC, dI) vwCl [(h0, Sum.inr (5, [Value.ref h1, Value.int n0_size, Value.ref h2, Value.int n0_ran])), (h1, Sum.inl (cint, 50, Sum.inl f1)), (h2, Sum.inl (cint, 24, Sum.inl f_99))] H := hP
              have hD : va_D A [(h0, Sum.inr (5, [Value.ref h1, Value.int n0_size, Value.ref h2, Value.int n0_ran])), (h1, Sum.inl (cint, 50, Sum.inl f1)), (h2, Sum.inl (cint, 24, Sum.inl f_99))] := hD
              exact hcut_94 (f_99) _ _ _ ⟨hP, hD, hS, lv_sub hl [0, 1, 2, 3, 4, 5, 6, 7] rfl⟩
        · have t_89 : 40 < p4.toInt := kk_nle c_89
          refine lv_iconst (v := 0) hx hb dX5_call_63 (by decide) ?_
          obtain ⟨hP9, hD9⟩ := kk_leafout (wc := [(h0, Sum.inr (5, [Value.ref h1, Value.int n0_size, Value.ref h2, Value.int n0_ran])), (h1, Sum.inl (cint, 50, Sum.inl f1)), (h2, Sum.inl (cint, 24, Sum.inl f2))]) hP hD [0, 1, 2] (by decide) rfl
          have hK9 := hK.sub (tys' := []) [] rfl
          exact W.iret (v := 0) hx hb hr (fun t ht hW => ⟨⟨0, (), rfl, trivial, n0_ran, f2, (by show 0 ≤ (n0_ran : Int32).toInt ∧ (n0_ran : Int32).toInt ≤ 1000; first | decide | (constructor <;> (have := kk_rng p4; omega))), (by show (n0_ran : Int32).toInt ≤ (n0_ran : Int32).toInt + 11; first | decide | (have := kk_rng p4; omega)), by rw [ht]; exact hP9, va_K.moved hW.alike hK9, hD9⟩, hS.F ht⟩) hS.2.2 dX5_call_64
  · have t_1 : p1.toInt = 3 := by rw [e_1]; rfl
    subst e_1
    refine lv_iload_n hx hb dX5_call_0 rfl (lv_at hl 2 rfl) ?_
    refine lv_istore (lv' := [(6, .int 3), (0, .ref h0), (1, .int p0), (2, .int 3), (3, .int 1), (4, .int p3), (5, .int p4)]) hx hb dX5_call_1 hl (by decide) rfl (fun ls hl => ?_)
    refine lv_iconst (v := 0) hx hb dX5_call_3 (by decide) ?_
    refine lv_istore (lv' := [(7, .int 0), (6, .int 3), (0, .ref h0), (1, .int p0), (2, .int 3), (3, .int 1), (4, .int p3), (5, .int p4)]) hx hb dX5_call_4 hl (by decide) rfl (fun ls hl => ?_)
    refine lv_iload hx hb dX5_call_6 (lv_at hl 0 rfl) ?_
    refine lv_bipush (v := 8) hx hb dX5_call_8 (by decide) ?_
    refine lv_icmp_ge (tgt := 48) hx hb dX5_call_10 (by decide) (fun c => absurd c (by decide)) (fun _ => ?_)
    refine lv_iload hx hb dX5_call_13 (lv_at hl 1 rfl) ?_
    obtain ⟨hPc, hDc, hFc⟩ := kk_cutout (wc := []) hP hD hS hA [] (by decide) rfl
    have hKc := hK.sub (tys' := []) [] rfl
    refine va_calli (va_runS (As := [.int 3]) (rest := []) ⟨hx, hb, hml, hown, hts⟩ (g_X5_isKind_0 l dC dI s.heap.size 3) (va_cwS 1 hts gX5_call_X5_isKind rfl rfl rfl (by decide +kernel) ⟨Nat.le_of_ble_eq_true rfl, Nat.le_of_ble_eq_true rfl⟩) ⟨fun a U g mk q => by obtain ⟨q0, q1, qP, qK, qD⟩ := q; exact ⟨q0, q1, qP, va_K.moved (u := U) (U := U.calling g mk a) (Vm.Alike.refl U.vm) qK, qD⟩, fun U hU hW => ⟨rfl, by rw [hU], by rw [hU]; exact hPc, va_K.moved hW.alike hKc, hDc.weaken (fun _ _ _ _ => trivial)⟩⟩ rfl rfl hl.1 rfl (lv_room (Nat.le_of_ble_eq_true rfl)) dX5_call_15 ⟨Nat.le_of_ble_eq_true rfl, Nat.le_of_ble_eq_true rfl⟩) hS (fun q _ h => hFc q h) hFc (fun r_100 u t H1 locs ht hvm hw hB hz1 hk1 hS => ?_)
    obtain ⟨hP1, hK1, hD1⟩ := hB
    rw [ht] at hP1
    have hK1 := va_K.moved hvm.symm hK1
    obtain ⟨hP, hD⟩ := va_join (wr := [(h0, Sum.inr (5, [Value.ref h1, Value.int n0_size, Value.ref h2, Value.int n0_ran])), (h1, Sum.inl (cint, 50, Sum.inl f1)), (h2, Sum.inl (cint, 24, Sum.inl f2))]) (w1 := []) hP hD [] [0, 1, 2] rfl rfl (by decide) (by decide) hk1 hFc hP1 hD1
    generalize H1 = H at hP hS ⊢
    have hP : va_P (dC, dI) vwCl [(h0, Sum.inr (5, [Value.ref h1, Value.int n0_size, Value.ref h2, Value.int n0_ran])), (h1, Sum.inl (cint, 50, Sum.inl f1)), (h2, Sum.inl (cint, 24, Sum.inl f2))] H := hP
    have hD : va_D A [(h0, Sum.inr (5, [Value.ref h1, Value.int n0_size, Value.ref h2, Value.int n0_ran])), (h1, Sum.inl (cint, 50, Sum.inl f1)), (h2, Sum.inl (cint, 24, Sum.inl f2))] := hD
    rcases hw with ⟨rfl⟩ | ⟨t_100_0, t_100_1, rfl⟩
    · skip
      refine lv_if_eq (tgt := 48) hx hb dX5_call_18 (by decide) (fun _ => ?_) (fun c => absurd c (by decide))
      refine lv_iload hx hb dX5_call_48 (lv_at hl 1 rfl) ?_
      obtain ⟨hPc, hDc, hFc⟩ := kk_cutout (wc := []) hP hD hS hA [] (by decide) rfl
      have hKc := hK.sub (tys' := []) [] rfl
      refine va_calli (va_runS (As := [.int 3]) (rest := []) ⟨hx, hb, hml, hown, hts⟩ (g_X5_isKind_0 l dC dI H.size 3) (va_cwS 1 hts gX5_call_X5_isKind rfl rfl rfl (by decide +kernel) ⟨Nat.le_of_ble_eq_true rfl, Nat.le_of_ble_eq_true rfl⟩) ⟨fun a U g mk q => by obtain ⟨q0, q1, qP, qK, qD⟩ := q; exact ⟨q0, q1, qP, va_K.moved (u := U) (U := U.calling g mk a) (Vm.Alike.refl U.vm) qK, qD⟩, fun U hU hW => ⟨rfl, by rw [hU], by rw [hU]; exact hPc, va_K.moved hW.alike hKc, hDc.weaken (fun _ _ _ _ => trivial)⟩⟩ rfl rfl hl.1 rfl (lv_room (Nat.le_of_ble_eq_true rfl)) dX5_call_50 ⟨Nat.le_of_ble_eq_true rfl, Nat.le_of_ble_eq_true rfl⟩) hS (fun q _ h => hFc q h) hFc (fun r_101 u t H1 locs ht hvm hw hB hz1 hk1 hS => ?_)
      obtain ⟨hP1, hK1, hD1⟩ := hB
      rw [ht] at hP1
      have hK1 := va_K.moved hvm.symm hK1
      obtain ⟨hP, hD⟩ := va_join (wr := [(h0, Sum.inr (5, [Value.ref h1, Value.int n0_size, Value.ref h2, Value.int n0_ran])), (h1, Sum.inl (cint, 50, Sum.inl f1)), (h2, Sum.inl (cint, 24, Sum.inl f2))]) (w1 := []) hP hD [] [0, 1, 2] rfl rfl (by decide) (by decide) hk1 hFc hP1 hD1
      generalize H1 = H at hP hS ⊢
      have hP : va_P (dC, dI) vwCl [(h0, Sum.inr (5, [Value.ref h1, Value.int n0_size, Value.ref h2, Value.int n0_ran])), (h1, Sum.inl (cint, 50, Sum.inl f1)), (h2, Sum.inl (cint, 24, Sum.inl f2))] H := hP
      have hD : va_D A [(h0, Sum.inr (5, [Value.ref h1, Value.int n0_size, Value.ref h2, Value.int n0_ran])), (h1, Sum.inl (cint, 50, Sum.inl f1)), (h2, Sum.inl (cint, 24, Sum.inl f2))] := hD
      rcases hw with ⟨rfl⟩ | ⟨t_101_0, t_101_1, rfl⟩
      · skip
        refine lv_if_eq (tgt := 63) hx hb dX5_call_53 (by decide) (fun _ => ?_) (fun c => absurd c (by decide))
        refine lv_iconst (v := 0) hx hb dX5_call_63 (by decide) ?_
        obtain ⟨hP9, hD9⟩ := kk_leafout (wc := [(h0, Sum.inr (5, [Value.ref h1, Value.int n0_size, Value.ref h2, Value.int n0_ran])), (h1, Sum.inl (cint, 50, Sum.inl f1)), (h2, Sum.inl (cint, 24, Sum.inl f2))]) hP hD [0, 1, 2] (by decide) rfl
        have hK9 := hK.sub (tys' := []) [] rfl
        exact W.iret (v := 0) hx hb hr (fun t ht hW => ⟨⟨0, (), rfl, trivial, n0_ran, f2, (by show 0 ≤ (n0_ran : Int32).toInt ∧ (n0_ran : Int32).toInt ≤ 1000; first | decide | (constructor <;> (omega))), (by show (n0_ran : Int32).toInt ≤ (n0_ran : Int32).toInt + 11; first | decide | (omega)), by rw [ht]; exact hP9, va_K.moved hW.alike hK9, hD9⟩, hS.F ht⟩) hS.2.2 dX5_call_64
      · skip
        have t_101_0 : (0 : Int) ≤ 3 := t_101_0
        have t_101_1 : (3 : Int) < 8 := t_101_1
        refine lv_if_eq (tgt := 63) hx hb dX5_call_53 (by decide) (fun c => absurd c (by decide)) (fun _ => ?_)
        refine lv_iload hx hb dX5_call_56 (lv_at hl 7 rfl) ?_
        refine lv_bipush (v := 40) hx hb dX5_call_58 (by decide) ?_
        refine lv_icmp_le (tgt := 65) hx hb dX5_call_60 (by decide) (fun c_102 => ?_) (fun c_102 => ?_)
        · have t_102 : p4.toInt ≤ 40 := kk_le c_102
          refine va_gets hx hb hZOWN_BODIES hS hown (hts (.fieldLink RX5 43 "KinkStreet$Lines" "OWN_BODIES" "[I") (List.mem_of_getElem? (i := 1) rfl)) (fun _ h9 => h9) dX5_call_65 ?_
          refine lv_iload hx hb dX5_call_68 (lv_at hl 1 rfl) ?_
          refine lv_iconst (v := 4) hx hb dX5_call_70 (by decide) ?_
          refine lv_imul hx hb dX5_call_71 ?_
          refine lv_topi (fun y_103 e_103 => ?_)
          obtain rfl : y_103 = 12 := e_103.trans (by decide)
          refine lv_iload_n hx hb dX5_call_72 rfl (lv_at hl 5 rfl) ?_
          refine lv_iadd hx hb dX5_call_73 ?_
          refine lv_topi (fun y_104 e_104 => ?_)
          obtain rfl : y_104 = 13 := e_104.trans (by decide)
          refine va_ti (v := .int 0) hx hb hTOWN_BODIES hS (by unfold vp_in; decide) rfl dX5_call_74 ?_
          refine lv_istore (lv' := [(7, .int 0), (6, .int 3), (0, .ref h0), (1, .int p0), (2, .int 3), (3, .int 1), (4, .int p3), (5, .int p4)]) hx hb dX5_call_75 hl (by decide) rfl (fun ls hl => ?_)
          refine lv_aload_n hx hb dX5_call_77 rfl (lv_at hl 2 rfl) ?_
          refine va_get (D := (dC, dI)) (ci := 5) (v := .int n0_ran) (C := RX5) (T := TX5) (N := 4) hx hb hts (fun _ h => List.mem_cons_of_mem _ (List.mem_append_right _ h)) hown hK hP 0 rfl rfl 3 (by decide) (hts (.fieldLink RX5 36 "KinkStreet$Lines" "ran" "I") (List.mem_of_getElem? (i := 3) rfl)) (fun _ h9 => h9) rfl dX5_call_78 ?_
          refine lv_bipush (v := 24) hx hb dX5_call_81 (by decide) ?_
          refine kk_cut (σ := (Nat → Int32)) (pc' := 97) (fun x H locs ls => va_P (dC, dI) vwCl [(h0, Sum.inr (5, [Value.ref h1, Value.int n0_size, Value.ref h2, Value.int n0_ran])), (h1, Sum.inl (cint, 50, Sum.inl f1)), (h2, Sum.inl (cint, 24, Sum.inl x))] H ∧ va_D A [(h0, Sum.inr (5, [Value.ref h1, Value.int n0_size, Value.ref h2, Value.int n0_ran])), (h1, Sum.inl (cint, 50, Sum.inl f1)), (h2, Sum.inl (cint, 24, Sum.inl x))] ∧ va_S A s.heap H locs ∧ lv_has ls 8 [(7, .int 0), (6, .int 3), (0, .ref h0), (1, .int p0), (2, .int 3), (3, .int 1), (4, .int p3), (5, .int p4)]) ?_ (fun hcut_107 => ?_)
          · rintro f_107_0 H locs ls ⟨hP, hD, hS, hl⟩
            have hl : lv_has ls 8 [(7, .int 0), (6, .int 3), (0, .ref h0), (1, .int p0), (2, .int 3), (3, .int 1), (4, .int p3), (5, .int p4)] := hl
            have hP : va_P (dC, dI) vwCl [(h0, Sum.inr (5, [Value.ref h1, Value.int n0_size, Value.ref h2, Value.int n0_ran])), (h1, Sum.inl (cint, 50, Sum.inl f1)), (h2, Sum.inl (cint, 24, Sum.inl f_107_0))] H := hP
            have hD : va_D A [(h0, Sum.inr (5, [Value.ref h1, Value.int n0_size, Value.ref h2, Value.int n0_ran])), (h1, Sum.inl (cint, 50, Sum.inl f1)), (h2, Sum.inl (cint, 24, Sum.inl f_107_0))] := hD
            refine lv_aload_n hx hb dX5_call_97 rfl (lv_at hl 2 rfl) ?_
            refine lv_dup hx hb dX5_call_98 rfl ?_
            refine va_get (D := (dC, dI)) (ci := 5) (v := .int n0_ran) (C := RX5) (T := TX5) (N := 4) hx hb hts (fun _ h => List.mem_cons_of_mem _ (List.mem_append_right _ h)) hown hK hP 0 rfl rfl 3 (by decide) (hts (.fieldLink RX5 36 "KinkStreet$Lines" "ran" "I") (List.mem_of_getElem? (i := 3) rfl)) (fun _ h9 => h9) rfl dX5_call_99 ?_
            refine lv_iconst (v := 1) hx hb dX5_call_102 (by decide) ?_
            refine lv_iadd hx hb dX5_call_103 ?_
            refine va_put (D := (dC, dI)) (ci := 5) (v := .int (n0_ran + 1)) (ty := .int) (C := RX5) (T := TX5) (N := 4) hx hb hts (fun _ h => List.mem_cons_of_mem _ (List.mem_append_right _ h)) tyX5 tyX5_ok nmX5 hown hK hP hD hS 0 rfl rfl 3 (by decide) (hts (.fieldLink RX5 36 "KinkStreet$Lines" "ran" "I") (List.mem_of_getElem? (i := 3) rfl)) (fun _ h9 => h9) rfl (by decide +kernel) rfl rfl (Nat.le_of_ble_eq_true rfl) dX5_call_104 (fun H locs hP hD hS => ?_)
            have hP : va_P (dC, dI) vwCl [(h0, Sum.inr (5, [Value.ref h1, Value.int n0_size, Value.ref h2, Value.int (n0_ran + 1)])), (h1, Sum.inl (cint, 50, Sum.inl f1)), (h2, Sum.inl (cint, 24, Sum.inl f_107_0))] H := hP
            have hD : va_D A [(h0, Sum.inr (5, [Value.ref h1, Value.int n0_size, Value.ref h2, Value.int (n0_ran + 1)])), (h1, Sum.inl (cint, 50, Sum.inl f1)), (h2, Sum.inl (cint, 24, Sum.inl f_107_0))] := hD
            refine lv_iload hx hb dX5_call_107 (lv_at hl 1 rfl) ?_
            refine lv_if_ne (tgt := 128) hx hb dX5_call_109 (by decide) (fun _ => ?_) (fun c => absurd c (by decide))
            refine lv_aload_n hx hb dX5_call_128 rfl (lv_at hl 2 rfl) ?_
            refine lv_iload_n hx hb dX5_call_129 rfl (lv_at hl 3 rfl) ?_
            refine lv_iload hx hb dX5_call_130 (lv_at hl 1 rfl) ?_
            refine lv_iload hx hb dX5_call_132 (lv_at hl 0 rfl) ?_
            refine lv_iload hx hb dX5_call_134 (lv_at hl 6 rfl) ?_
            refine lv_iload hx hb dX5_call_136 (lv_at hl 7 rfl) ?_
            refine lv_iconst (v := 1) hx hb dX5_call_138 (by decide) ?_
            refine lv_iadd hx hb dX5_call_139 ?_
            obtain ⟨hPc, hDc, hFc⟩ := kk_cutout (wc := [(h0, Sum.inr (5, [Value.ref h1, Value.int n0_size, Value.ref h2, Value.int (n0_ran + 1)])), (h1, Sum.inl (cint, 50, Sum.inl f1)), (h2, Sum.inl (cint, 24, Sum.inl f_107_0))]) hP hD hS hA [0, 1, 2] (by decide) rfl
            have hKc := hK.sub (tys' := [(cint, .int)]) [0] rfl
            refine va_calli (va_runV (As := [.int p0, .int 3, .int 0, .int p3, .int (p4 + 1)]) (rest := []) ⟨hx, hb, hml, hown, hts⟩ (g_X5_runUnder_2 l dC dI h0 h1 h2 cint H.size p0 p3 (p4 + 1) n0_size (n0_ran + 1) f1 f_107_0 tn0_size (by show 0 ≤ ((n0_ran + 1) : Int32).toInt ∧ ((n0_ran + 1) : Int32).toInt ≤ 999; first | decide | (constructor <;> (have := kk_rng p4; have := kk_add2 (x := n0_ran) (y := 1) (a := n0_ran.toInt) (b := 1) rfl rfl (by omega) (by omega); have := kk_rng p4; have := kk_add2 (x := p4) (y := 1) (a := p4.toInt) (b := 1) rfl rfl (by omega) (by omega); omega))) bf1 aOWN_BODIES aABOVE) (cwV 5 hts gX5_call_X5_runUnder rfl rfl rfl (by decide +kernel) ⟨Nat.le_of_ble_eq_true rfl, Nat.le_of_ble_eq_true rfl⟩) ⟨fun a U g mk q => by obtain ⟨q0, q1, qP, qK, qD, qx0, qx1, qx2, qx3⟩ := q; exact ⟨q0, q1, qP, va_K.moved (u := U) (U := U.calling g mk a) (Vm.Alike.refl U.vm) qK, qD, va_Z.moved (u := U) (U := U.calling g mk a) (Vm.Alike.refl U.vm) qx0, va_T.moved (u := U) (U := U.calling g mk a) (Vm.Alike.refl U.vm) qx1, va_Z.moved (u := U) (U := U.calling g mk a) (Vm.Alike.refl U.vm) qx2, va_T.moved (u := U) (U := U.calling g mk a) (Vm.Alike.refl U.vm) qx3⟩, va_recv hKc hPc (ci := 5) (q0 := 0) rfl rfl, fun U hU hW => ⟨rfl, by rw [hU], by rw [hU]; exact hPc, va_K.moved hW.alike hKc, hDc.weaken (fun _ _ _ _ => trivial), by rw [hU]; exact ((hZOWN_BODIES.kept (fun a h1 h2 => hS.2.1 a h1 h2)).narrow hFc).moved hW.alike, by rw [hU]; exact ((hTOWN_BODIES.kept (fun a h1 h2 => hS.2.1 a h1 h2)).narrow hFc).moved hW.alike, by rw [hU]; exact ((hZABOVE.kept (fun a h1 h2 => hS.2.1 a h1 h2)).narrow hFc).moved hW.alike, by rw [hU]; exact ((hTABOVE.kept (fun a h1 h2 => hS.2.1 a h1 h2)).narrow hFc).moved hW.alike⟩⟩ rfl rfl hl.1 rfl (lv_room (Nat.le_of_ble_eq_true rfl)) dX5_call_140 ⟨Nat.le_of_ble_eq_true rfl, Nat.le_of_ble_eq_true rfl⟩) hS (fun q _ h => hFc q h) hFc (fun r_108 u t H1 locs ht hvm hw hB hz1 hk1 hS => ?_)
            obtain ⟨y_109, f_110, by_109, v_110_0, hP1, hK1, hD1⟩ := hB
            have v_110_0 : y_109.toInt ≤ (n0_ran + 1).toInt + 1 := v_110_0
            rw [ht] at hP1
            have hK1 := va_K.moved hvm.symm hK1
            obtain ⟨hP, hD⟩ := va_join (wr := []) (w1 := [(h0, Sum.inr (5, [Value.ref h1, Value.int n0_size, Value.ref h2, Value.int y_109])), (h1, Sum.inl (cint, 50, Sum.inl f1)), (h2, Sum.inl (cint, 24, Sum.inl f_110))]) hP hD [0, 1, 2] [] rfl rfl (by decide) (by decide) hk1 hFc hP1 hD1
            generalize H1 = H at hP hS ⊢
            have hP : va_P (dC, dI) vwCl [(h0, Sum.inr (5, [Value.ref h1, Value.int n0_size, Value.ref h2, Value.int y_109])), (h1, Sum.inl (cint, 50, Sum.inl f1)), (h2, Sum.inl (cint, 24, Sum.inl f_110))] H := hP
            have hD : va_D A [(h0, Sum.inr (5, [Value.ref h1, Value.int n0_size, Value.ref h2, Value.int y_109])), (h1, Sum.inl (cint, 50, Sum.inl f1)), (h2, Sum.inl (cint, 24, Sum.inl f_110))] := hD
            obtain ⟨hP9, hD9⟩ := kk_leafout (wc := [(h0, Sum.inr (5, [Value.ref h1, Value.int n0_size, Value.ref h2, Value.int y_109])), (h1, Sum.inl (cint, 50, Sum.inl f1)), (h2, Sum.inl (cint, 24, Sum.inl f_110))]) hP hD [0, 1, 2] (by decide) rfl
            have hK9 := hK.sub (tys' := []) [] rfl
            exact W.iret (v := r_108) hx hb hr (fun t ht hW => ⟨⟨r_108, (), rfl, trivial, y_109, f_110, (by show 0 ≤ (y_109 : Int32).toInt ∧ (y_109 : Int32).toInt ≤ 1000; first | decide | (constructor <;> (have := kk_rng p4; have := kk_add2 (x := n0_ran) (y := 1) (a := n0_ran.toInt) (b := 1) rfl rfl (by omega) (by omega); have := kk_rng p4; have := kk_add2 (x := p4) (y := 1) (a := p4.toInt) (b := 1) rfl rfl (by omega) (by omega); omega))), (by show (y_109 : Int32).toInt ≤ (n0_ran : Int32).toInt + 11; first | decide | (have := kk_rng p4; have := kk_add2 (x := n0_ran) (y := 1) (a := n0_ran.toInt) (b := 1) rfl rfl (by omega) (by omega); have := kk_rng p4; have := kk_add2 (x := p4) (y := 1) (a := p4.toInt) (b := 1) rfl rfl (by omega) (by omega); omega)), by rw [ht]; exact hP9, va_K.moved hW.alike hK9, hD9⟩, hS.F ht⟩) hS.2.2 dX5_call_143
          · skip
            refine lv_icmp_ge (tgt := 97) hx hb dX5_call_83 (by decide) (fun c_111 => ?_) (fun c_111 => ?_)
            · have t_111 : 24 ≤ n0_ran.toInt := kk_le c_111
              exact hcut_107 (f2) _ _ _ ⟨hP, hD, hS, lv_sub hl [0, 1, 2, 3, 4, 5, 6, 7] rfl⟩
            · have t_111 : n0_ran.toInt < 24 := kk_nle c_111
              refine lv_aload_n hx hb dX5_call_86 rfl (lv_at hl 2 rfl) ?_
              refine va_get (D := (dC, dI)) (ci := 5) (v := .ref h2) (C := RX5) (T := TX5) (N := 4) hx hb hts (fun _ h => List.mem_cons_of_mem _ (List.mem_append_right _ h)) hown hK hP 0 rfl rfl 2 (by decide) (hts (.fieldLink RX5 15 "KinkStreet$Lines" "trace" "[I") (List.mem_of_getElem? (i := 4) rfl)) (fun _ h9 => h9) rfl dX5_call_87 ?_
              refine lv_aload_n hx hb dX5_call_90 rfl (lv_at hl 2 rfl) ?_
              refine va_get (D := (dC, dI)) (ci := 5) (v := .int n0_ran) (C := RX5) (T := TX5) (N := 4) hx hb hts (fun _ h => List.mem_cons_of_mem _ (List.mem_append_right _ h)) hown hK hP 0 rfl rfl 3 (by decide) (hts (.fieldLink RX5 36 "KinkStreet$Lines" "ran" "I") (List.mem_of_getElem? (i := 3) rfl)) (fun _ h9 => h9) rfl dX5_call_91 ?_
              refine lv_iload hx hb dX5_call_94 (lv_at hl 0 rfl) ?_
              refine va_iast hx hb hK hP hD hS 2 0 rfl rfl (vp_in_iff.mpr ⟨by have := kk_rng p4; omega, by have := kk_rng p4; omega⟩) dX5_call_96 (fun H locs hP hD hS => ?_)
              generalize upd f2 (n0_ran : Int32).toNatClampNeg 0 = f_112 at hP hD
              have hP : va_P (dC, dI) vwCl [(h0, Sum.inr (5, [Value.ref h1, Value.int n0_size, Value.ref h2, Value.int n0_ran])), (h1, Sum.inl (cint, 50, Sum.inl f1)), (h2, Sum.inl (cint, 24, Sum.inl f_112))] H := hP
              have hD : va_D A [(h0, Sum.inr (5, [Value.ref h1, Value.int n0_size, Value.ref h2, Value.int n0_ran])), (h1, Sum.inl (cint, 50, Sum.inl f1)), (h2, Sum.inl (cint, 24, Sum.inl f_112))] := hD
              exact hcut_107 (f_112) _ _ _ ⟨hP, hD, hS, lv_sub hl [0, 1, 2, 3, 4, 5, 6, 7] rfl⟩
        · have t_102 : 40 < p4.toInt := kk_nle c_102
          refine lv_iconst (v := 0) hx hb dX5_call_63 (by decide) ?_
          obtain ⟨hP9, hD9⟩ := kk_leafout (wc := [(h0, Sum.inr (5, [Value.ref h1, Value.int n0_size, Value.ref h2, Value.int n0_ran])), (h1, Sum.inl (cint, 50, Sum.inl f1)), (h2, Sum.inl (cint, 24, Sum.inl f2))]) hP hD [0, 1, 2] (by decide) rfl
          have hK9 := hK.sub (tys' := []) [] rfl
          exact W.iret (v := 0) hx hb hr (fun t ht hW => ⟨⟨0, (), rfl, trivial, n0_ran, f2, (by show 0 ≤ (n0_ran : Int32).toInt ∧ (n0_ran : Int32).toInt ≤ 1000; first | decide | (constructor <;> (have := kk_rng p4; omega))), (by show (n0_ran : Int32).toInt ≤ (n0_ran : Int32).toInt + 11; first | decide | (have := kk_rng p4; omega)), by rw [ht]; exact hP9, va_K.moved hW.alike hK9, hD9⟩, hS.F ht⟩) hS.2.2 dX5_call_64
    · skip
      have t_100_0 : (0 : Int) ≤ 3 := t_100_0
      have t_100_1 : (3 : Int) < 8 := t_100_1
      refine lv_if_eq (tgt := 48) hx hb dX5_call_18 (by decide) (fun c => absurd c (by decide)) (fun _ => ?_)
      refine va_gets hx hb hZOWN_BODIES hS hown (hts (.fieldLink RX5 43 "KinkStreet$Lines" "OWN_BODIES" "[I") (List.mem_of_getElem? (i := 1) rfl)) (fun _ h9 => h9) dX5_call_21 ?_
      refine lv_iload hx hb dX5_call_24 (lv_at hl 1 rfl) ?_
      refine lv_iconst (v := 4) hx hb dX5_call_26 (by decide) ?_
      refine lv_imul hx hb dX5_call_27 ?_
      refine lv_topi (fun y_113 e_113 => ?_)
      obtain rfl : y_113 = 12 := e_113.trans (by decide)
      refine lv_iload_n hx hb dX5_call_28 rfl (lv_at hl 5 rfl) ?_
      refine lv_iadd hx hb dX5_call_29 ?_
      refine lv_topi (fun y_114 e_114 => ?_)
      obtain rfl : y_114 = 13 := e_114.trans (by decide)
      refine va_ti (v := .int 0) hx hb hTOWN_BODIES hS (by unfold vp_in; decide) rfl dX5_call_30 ?_
      refine lv_if_ne (tgt := 48) hx hb dX5_call_31 (by decide) (fun c => absurd c (by decide)) (fun _ => ?_)
      refine va_gets hx hb hZABOVE hS hown (hts (.fieldLink RX5 22 "KinkStreet$Lines" "ABOVE" "[I") (List.mem_of_getElem? (i := 2) rfl)) (fun _ h9 => h9) dX5_call_34 ?_
      refine lv_iload hx hb dX5_call_37 (lv_at hl 1 rfl) ?_
      refine va_ti (v := .int 0) hx hb hTABOVE hS (by unfold vp_in; decide) rfl dX5_call_39 ?_
      refine lv_istore (lv' := [(6, .int 0), (7, .int 0), (0, .ref h0), (1, .int p0), (2, .int 3), (3, .int 1), (4, .int p3), (5, .int p4)]) hx hb dX5_call_40 hl (by decide) rfl (fun ls hl => ?_)
      refine lv_iinc (v := 1) (lv' := [(7, .int 1), (6, .int 0), (0, .ref h0), (1, .int p0), (2, .int 3), (3, .int 1), (4, .int p3), (5, .int p4)]) hx hb dX5_call_42 hl (k := 1) rfl (by first | rfl | decide) (by decide) rfl (fun ls hl => ?_)
      refine lv_goto (tgt := 6) hx hb dX5_call_45 (by decide) ?_
      refine lv_iload hx hb dX5_call_6 (lv_at hl 0 rfl) ?_
      refine lv_bipush (v := 8) hx hb dX5_call_8 (by decide) ?_
      refine lv_icmp_ge (tgt := 48) hx hb dX5_call_10 (by decide) (fun c => absurd c (by decide)) (fun _ => ?_)
      refine lv_iload hx hb dX5_call_13 (lv_at hl 1 rfl) ?_
      obtain ⟨hPc, hDc, hFc⟩ := kk_cutout (wc := []) hP hD hS hA [] (by decide) rfl
      have hKc := hK.sub (tys' := []) [] rfl
      refine va_calli (va_runS (As := [.int 0]) (rest := []) ⟨hx, hb, hml, hown, hts⟩ (g_X5_isKind_0 l dC dI H.size 0) (va_cwS 1 hts gX5_call_X5_isKind rfl rfl rfl (by decide +kernel) ⟨Nat.le_of_ble_eq_true rfl, Nat.le_of_ble_eq_true rfl⟩) ⟨fun a U g mk q => by obtain ⟨q0, q1, qP, qK, qD⟩ := q; exact ⟨q0, q1, qP, va_K.moved (u := U) (U := U.calling g mk a) (Vm.Alike.refl U.vm) qK, qD⟩, fun U hU hW => ⟨rfl, by rw [hU], by rw [hU]; exact hPc, va_K.moved hW.alike hKc, hDc.weaken (fun _ _ _ _ => trivial)⟩⟩ rfl rfl hl.1 rfl (lv_room (Nat.le_of_ble_eq_true rfl)) dX5_call_15 ⟨Nat.le_of_ble_eq_true rfl, Nat.le_of_ble_eq_true rfl⟩) hS (fun q _ h => hFc q h) hFc (fun r_115 u t H1 locs ht hvm hw hB hz1 hk1 hS => ?_)
      obtain ⟨hP1, hK1, hD1⟩ := hB
      rw [ht] at hP1
      have hK1 := va_K.moved hvm.symm hK1
      obtain ⟨hP, hD⟩ := va_join (wr := [(h0, Sum.inr (5, [Value.ref h1, Value.int n0_size, Value.ref h2, Value.int n0_ran])), (h1, Sum.inl (cint, 50, Sum.inl f1)), (h2, Sum.inl (cint, 24, Sum.inl f2))]) (w1 := []) hP hD [] [0, 1, 2] rfl rfl (by decide) (by decide) hk1 hFc hP1 hD1
      generalize H1 = H at hP hS ⊢
      have hP : va_P (dC, dI) vwCl [(h0, Sum.inr (5, [Value.ref h1, Value.int n0_size, Value.ref h2, Value.int n0_ran])), (h1, Sum.inl (cint, 50, Sum.inl f1)), (h2, Sum.inl (cint, 24, Sum.inl f2))] H := hP
      have hD : va_D A [(h0, Sum.inr (5, [Value.ref h1, Value.int n0_size, Value.ref h2, Value.int n0_ran])), (h1, Sum.inl (cint, 50, Sum.inl f1)), (h2, Sum.inl (cint, 24, Sum.inl f2))] := hD
      rcases hw with ⟨rfl⟩ | ⟨t_115_0, t_115_1, rfl⟩
      · skip
        refine lv_if_eq (tgt := 48) hx hb dX5_call_18 (by decide) (fun _ => ?_) (fun c => absurd c (by decide))
        refine lv_iload hx hb dX5_call_48 (lv_at hl 1 rfl) ?_
        obtain ⟨hPc, hDc, hFc⟩ := kk_cutout (wc := []) hP hD hS hA [] (by decide) rfl
        have hKc := hK.sub (tys' := []) [] rfl
        refine va_calli (va_runS (As := [.int 0]) (rest := []) ⟨hx, hb, hml, hown, hts⟩ (g_X5_isKind_0 l dC dI H.size 0) (va_cwS 1 hts gX5_call_X5_isKind rfl rfl rfl (by decide +kernel) ⟨Nat.le_of_ble_eq_true rfl, Nat.le_of_ble_eq_true rfl⟩) ⟨fun a U g mk q => by obtain ⟨q0, q1, qP, qK, qD⟩ := q; exact ⟨q0, q1, qP, va_K.moved (u := U) (U := U.calling g mk a) (Vm.Alike.refl U.vm) qK, qD⟩, fun U hU hW => ⟨rfl, by rw [hU], by rw [hU]; exact hPc, va_K.moved hW.alike hKc, hDc.weaken (fun _ _ _ _ => trivial)⟩⟩ rfl rfl hl.1 rfl (lv_room (Nat.le_of_ble_eq_true rfl)) dX5_call_50 ⟨Nat.le_of_ble_eq_true rfl, Nat.le_of_ble_eq_true rfl⟩) hS (fun q _ h => hFc q h) hFc (fun r_116 u t H1 locs ht hvm hw hB hz1 hk1 hS => ?_)
        obtain ⟨hP1, hK1, hD1⟩ := hB
        rw [ht] at hP1
        have hK1 := va_K.moved hvm.symm hK1
        obtain ⟨hP, hD⟩ := va_join (wr := [(h0, Sum.inr (5, [Value.ref h1, Value.int n0_size, Value.ref h2, Value.int n0_ran])), (h1, Sum.inl (cint, 50, Sum.inl f1)), (h2, Sum.inl (cint, 24, Sum.inl f2))]) (w1 := []) hP hD [] [0, 1, 2] rfl rfl (by decide) (by decide) hk1 hFc hP1 hD1
        generalize H1 = H at hP hS ⊢
        have hP : va_P (dC, dI) vwCl [(h0, Sum.inr (5, [Value.ref h1, Value.int n0_size, Value.ref h2, Value.int n0_ran])), (h1, Sum.inl (cint, 50, Sum.inl f1)), (h2, Sum.inl (cint, 24, Sum.inl f2))] H := hP
        have hD : va_D A [(h0, Sum.inr (5, [Value.ref h1, Value.int n0_size, Value.ref h2, Value.int n0_ran])), (h1, Sum.inl (cint, 50, Sum.inl f1)), (h2, Sum.inl (cint, 24, Sum.inl f2))] := hD
        rcases hw with ⟨rfl⟩ | ⟨t_116_0, t_116_1, rfl⟩
        · skip
          refine lv_if_eq (tgt := 63) hx hb dX5_call_53 (by decide) (fun _ => ?_) (fun c => absurd c (by decide))
          refine lv_iconst (v := 0) hx hb dX5_call_63 (by decide) ?_
          obtain ⟨hP9, hD9⟩ := kk_leafout (wc := [(h0, Sum.inr (5, [Value.ref h1, Value.int n0_size, Value.ref h2, Value.int n0_ran])), (h1, Sum.inl (cint, 50, Sum.inl f1)), (h2, Sum.inl (cint, 24, Sum.inl f2))]) hP hD [0, 1, 2] (by decide) rfl
          have hK9 := hK.sub (tys' := []) [] rfl
          exact W.iret (v := 0) hx hb hr (fun t ht hW => ⟨⟨0, (), rfl, trivial, n0_ran, f2, (by show 0 ≤ (n0_ran : Int32).toInt ∧ (n0_ran : Int32).toInt ≤ 1000; first | decide | (constructor <;> (omega))), (by show (n0_ran : Int32).toInt ≤ (n0_ran : Int32).toInt + 11; first | decide | (omega)), by rw [ht]; exact hP9, va_K.moved hW.alike hK9, hD9⟩, hS.F ht⟩) hS.2.2 dX5_call_64
        · skip
          have t_116_0 : (0 : Int) ≤ 0 := t_116_0
          have t_116_1 : (0 : Int) < 8 := t_116_1
          refine lv_if_eq (tgt := 63) hx hb dX5_call_53 (by decide) (fun c => absurd c (by decide)) (fun _ => ?_)
          refine lv_iload hx hb dX5_call_56 (lv_at hl 7 rfl) ?_
          refine lv_bipush (v := 40) hx hb dX5_call_58 (by decide) ?_
          refine lv_icmp_le (tgt := 65) hx hb dX5_call_60 (by decide) (fun c_117 => ?_) (fun c_117 => ?_)
          · have t_117 : p4.toInt ≤ 40 := kk_le c_117
            refine va_gets hx hb hZOWN_BODIES hS hown (hts (.fieldLink RX5 43 "KinkStreet$Lines" "OWN_BODIES" "[I") (List.mem_of_getElem? (i := 1) rfl)) (fun _ h9 => h9) dX5_call_65 ?_
            refine lv_iload hx hb dX5_call_68 (lv_at hl 1 rfl) ?_
            refine lv_iconst (v := 4) hx hb dX5_call_70 (by decide) ?_
            refine lv_imul hx hb dX5_call_71 ?_
            refine lv_topi (fun y_118 e_118 => ?_)
            obtain rfl : y_118 = 0 := e_118.trans (by decide)
            refine lv_iload_n hx hb dX5_call_72 rfl (lv_at hl 5 rfl) ?_
            refine lv_iadd hx hb dX5_call_73 ?_
            refine lv_topi (fun y_119 e_119 => ?_)
            obtain rfl : y_119 = 1 := e_119.trans (by decide)
            refine va_ti (v := .int 10) hx hb hTOWN_BODIES hS (by unfold vp_in; decide) rfl dX5_call_74 ?_
            refine lv_istore (lv' := [(7, .int 10), (6, .int 0), (0, .ref h0), (1, .int p0), (2, .int 3), (3, .int 1), (4, .int p3), (5, .int p4)]) hx hb dX5_call_75 hl (by decide) rfl (fun ls hl => ?_)
            refine lv_aload_n hx hb dX5_call_77 rfl (lv_at hl 2 rfl) ?_
            refine va_get (D := (dC, dI)) (ci := 5) (v := .int n0_ran) (C := RX5) (T := TX5) (N := 4) hx hb hts (fun _ h => List.mem_cons_of_mem _ (List.mem_append_right _ h)) hown hK hP 0 rfl rfl 3 (by decide) (hts (.fieldLink RX5 36 "KinkStreet$Lines" "ran" "I") (List.mem_of_getElem? (i := 3) rfl)) (fun _ h9 => h9) rfl dX5_call_78 ?_
            refine lv_bipush (v := 24) hx hb dX5_call_81 (by decide) ?_
            refine kk_cut (σ := (Nat → Int32)) (pc' := 97) (fun x H locs ls => va_P (dC, dI) vwCl [(h0, Sum.inr (5, [Value.ref h1, Value.int n0_size, Value.ref h2, Value.int n0_ran])), (h1, Sum.inl (cint, 50, Sum.inl f1)), (h2, Sum.inl (cint, 24, Sum.inl x))] H ∧ va_D A [(h0, Sum.inr (5, [Value.ref h1, Value.int n0_size, Value.ref h2, Value.int n0_ran])), (h1, Sum.inl (cint, 50, Sum.inl f1)), (h2, Sum.inl (cint, 24, Sum.inl x))] ∧ va_S A s.heap H locs ∧ lv_has ls 8 [(7, .int 10), (6, .int 0), (0, .ref h0), (1, .int p0), (2, .int 3), (3, .int 1), (4, .int p3), (5, .int p4)]) ?_ (fun hcut_122 => ?_)
            · rintro f_122_0 H locs ls ⟨hP, hD, hS, hl⟩
              have hl : lv_has ls 8 [(7, .int 10), (6, .int 0), (0, .ref h0), (1, .int p0), (2, .int 3), (3, .int 1), (4, .int p3), (5, .int p4)] := hl
              have hP : va_P (dC, dI) vwCl [(h0, Sum.inr (5, [Value.ref h1, Value.int n0_size, Value.ref h2, Value.int n0_ran])), (h1, Sum.inl (cint, 50, Sum.inl f1)), (h2, Sum.inl (cint, 24, Sum.inl f_122_0))] H := hP
              have hD : va_D A [(h0, Sum.inr (5, [Value.ref h1, Value.int n0_size, Value.ref h2, Value.int n0_ran])), (h1, Sum.inl (cint, 50, Sum.inl f1)), (h2, Sum.inl (cint, 24, Sum.inl f_122_0))] := hD
              refine lv_aload_n hx hb dX5_call_97 rfl (lv_at hl 2 rfl) ?_
              refine lv_dup hx hb dX5_call_98 rfl ?_
              refine va_get (D := (dC, dI)) (ci := 5) (v := .int n0_ran) (C := RX5) (T := TX5) (N := 4) hx hb hts (fun _ h => List.mem_cons_of_mem _ (List.mem_append_right _ h)) hown hK hP 0 rfl rfl 3 (by decide) (hts (.fieldLink RX5 36 "KinkStreet$Lines" "ran" "I") (List.mem_of_getElem? (i := 3) rfl)) (fun _ h9 => h9) rfl dX5_call_99 ?_
              refine lv_iconst (v := 1) hx hb dX5_call_102 (by decide) ?_
              refine lv_iadd hx hb dX5_call_103 ?_
              refine va_put (D := (dC, dI)) (ci := 5) (v := .int (n0_ran + 1)) (ty := .int) (C := RX5) (T := TX5) (N := 4) hx hb hts (fun _ h => List.mem_cons_of_mem _ (List.mem_append_right _ h)) tyX5 tyX5_ok nmX5 hown hK hP hD hS 0 rfl rfl 3 (by decide) (hts (.fieldLink RX5 36 "KinkStreet$Lines" "ran" "I") (List.mem_of_getElem? (i := 3) rfl)) (fun _ h9 => h9) rfl (by decide +kernel) rfl rfl (Nat.le_of_ble_eq_true rfl) dX5_call_104 (fun H locs hP hD hS => ?_)
              have hP : va_P (dC, dI) vwCl [(h0, Sum.inr (5, [Value.ref h1, Value.int n0_size, Value.ref h2, Value.int (n0_ran + 1)])), (h1, Sum.inl (cint, 50, Sum.inl f1)), (h2, Sum.inl (cint, 24, Sum.inl f_122_0))] H := hP
              have hD : va_D A [(h0, Sum.inr (5, [Value.ref h1, Value.int n0_size, Value.ref h2, Value.int (n0_ran + 1)])), (h1, Sum.inl (cint, 50, Sum.inl f1)), (h2, Sum.inl (cint, 24, Sum.inl f_122_0))] := hD
              refine lv_iload hx hb dX5_call_107 (lv_at hl 1 rfl) ?_
              refine lv_if_ne (tgt := 128) hx hb dX5_call_109 (by decide) (fun c => absurd c (by decide)) (fun _ => ?_)
              refine lv_aload_n hx hb dX5_call_112 rfl (lv_at hl 2 rfl) ?_
              refine lv_iload_n hx hb dX5_call_113 rfl (lv_at hl 3 rfl) ?_
              refine lv_iload hx hb dX5_call_114 (lv_at hl 0 rfl) ?_
              refine lv_iload hx hb dX5_call_116 (lv_at hl 6 rfl) ?_
              refine lv_iload hx hb dX5_call_118 (lv_at hl 7 rfl) ?_
              refine lv_iconst (v := 1) hx hb dX5_call_120 (by decide) ?_
              refine lv_iadd hx hb dX5_call_121 ?_
              obtain ⟨hPc, hDc, hFc⟩ := kk_cutout (wc := [(h0, Sum.inr (5, [Value.ref h1, Value.int n0_size, Value.ref h2, Value.int (n0_ran + 1)])), (h1, Sum.inl (cint, 50, Sum.inl f1)), (h2, Sum.inl (cint, 24, Sum.inl f_122_0))]) hP hD hS hA [0, 1, 2] (by decide) rfl
              have hKc := hK.sub (tys' := [(cint, .int)]) [0] rfl
              refine va_calli (va_runV (As := [.int p0, .int 10, .int p3, .int (p4 + 1)]) (rest := []) ⟨hx, hb, hml, hown, hts⟩ (g_X5_runLine_2 l dC dI h0 h1 h2 cint H.size p0 p3 (p4 + 1) n0_size (n0_ran + 1) f1 f_122_0 tn0_size (by show 0 ≤ ((n0_ran + 1) : Int32).toInt ∧ ((n0_ran + 1) : Int32).toInt ≤ 997; first | decide | (constructor <;> (have := kk_rng p4; have := kk_add2 (x := n0_ran) (y := 1) (a := n0_ran.toInt) (b := 1) rfl rfl (by omega) (by omega); have := kk_rng p4; have := kk_add2 (x := p4) (y := 1) (a := p4.toInt) (b := 1) rfl rfl (by omega) (by omega); omega))) bf1 aOWN_BODIES aABOVE) (cwV 4 hts gX5_call_X5_runLine rfl rfl rfl (by decide +kernel) ⟨Nat.le_of_ble_eq_true rfl, Nat.le_of_ble_eq_true rfl⟩) ⟨fun a U g mk q => by obtain ⟨q0, q1, qP, qK, qD, qx0, qx1, qx2, qx3⟩ := q; exact ⟨q0, q1, qP, va_K.moved (u := U) (U := U.calling g mk a) (Vm.Alike.refl U.vm) qK, qD, va_Z.moved (u := U) (U := U.calling g mk a) (Vm.Alike.refl U.vm) qx0, va_T.moved (u := U) (U := U.calling g mk a) (Vm.Alike.refl U.vm) qx1, va_Z.moved (u := U) (U := U.calling g mk a) (Vm.Alike.refl U.vm) qx2, va_T.moved (u := U) (U := U.calling g mk a) (Vm.Alike.refl U.vm) qx3⟩, va_recv hKc hPc (ci := 5) (q0 := 0) rfl rfl, fun U hU hW => ⟨rfl, by rw [hU], by rw [hU]; exact hPc, va_K.moved hW.alike hKc, hDc.weaken (fun _ _ _ _ => trivial), by rw [hU]; exact ((hZOWN_BODIES.kept (fun a h1 h2 => hS.2.1 a h1 h2)).narrow hFc).moved hW.alike, by rw [hU]; exact ((hTOWN_BODIES.kept (fun a h1 h2 => hS.2.1 a h1 h2)).narrow hFc).moved hW.alike, by rw [hU]; exact ((hZABOVE.kept (fun a h1 h2 => hS.2.1 a h1 h2)).narrow hFc).moved hW.alike, by rw [hU]; exact ((hTABOVE.kept (fun a h1 h2 => hS.2.1 a h1 h2)).narrow hFc).moved hW.alike⟩⟩ rfl rfl hl.1 rfl (lv_room (Nat.le_of_ble_eq_true rfl)) dX5_call_122 ⟨Nat.le_of_ble_eq_true rfl, Nat.le_of_ble_eq_true rfl⟩) hS (fun q _ h => hFc q h) hFc (fun r_123 u t H1 locs ht hvm hw hB hz1 hk1 hS => ?_)
              obtain ⟨y_124, f_125, by_124, v_125_0, hP1, hK1, hD1⟩ := hB
              have v_125_0 : y_124.toInt ≤ (n0_ran + 1).toInt + 3 := v_125_0
              rw [ht] at hP1
              have hK1 := va_K.moved hvm.symm hK1
              obtain ⟨hP, hD⟩ := va_join (wr := []) (w1 := [(h0, Sum.inr (5, [Value.ref h1, Value.int n0_size, Value.ref h2, Value.int y_124])), (h1, Sum.inl (cint, 50, Sum.inl f1)), (h2, Sum.inl (cint, 24, Sum.inl f_125))]) hP hD [0, 1, 2] [] rfl rfl (by decide) (by decide) hk1 hFc hP1 hD1
              generalize H1 = H at hP hS ⊢
              have hP : va_P (dC, dI) vwCl [(h0, Sum.inr (5, [Value.ref h1, Value.int n0_size, Value.ref h2, Value.int y_124])), (h1, Sum.inl (cint, 50, Sum.inl f1)), (h2, Sum.inl (cint, 24, Sum.inl f_125))] H := hP
              have hD : va_D A [(h0, Sum.inr (5, [Value.ref h1, Value.int n0_size, Value.ref h2, Value.int y_124])), (h1, Sum.inl (cint, 50, Sum.inl f1)), (h2, Sum.inl (cint, 24, Sum.inl f_125))] := hD
              refine lv_goto (tgt := 143) hx hb dX5_call_125 (by decide) ?_
              obtain ⟨hP9, hD9⟩ := kk_leafout (wc := [(h0, Sum.inr (5, [Value.ref h1, Value.int n0_size, Value.ref h2, Value.int y_124])), (h1, Sum.inl (cint, 50, Sum.inl f1)), (h2, Sum.inl (cint, 24, Sum.inl f_125))]) hP hD [0, 1, 2] (by decide) rfl
              have hK9 := hK.sub (tys' := []) [] rfl
              exact W.iret (v := r_123) hx hb hr (fun t ht hW => ⟨⟨r_123, (), rfl, trivial, y_124, f_125, (by show 0 ≤ (y_124 : Int32).toInt ∧ (y_124 : Int32).toInt ≤ 1000; first | decide | (constructor <;> (have := kk_rng p4; have := kk_add2 (x := n0_ran) (y := 1) (a := n0_ran.toInt) (b := 1) rfl rfl (by omega) (by omega); have := kk_rng p4; have := kk_add2 (x := p4) (y := 1) (a := p4.toInt) (b := 1) rfl rfl (by omega) (by omega); omega))), (by show (y_124 : Int32).toInt ≤ (n0_ran : Int32).toInt + 11; first | decide | (have := kk_rng p4; have := kk_add2 (x := n0_ran) (y := 1) (a := n0_ran.toInt) (b := 1) rfl rfl (by omega) (by omega); have := kk_rng p4; have := kk_add2 (x := p4) (y := 1) (a := p4.toInt) (b := 1) rfl rfl (by omega) (by omega); omega)), by rw [ht]; exact hP9, va_K.moved hW.alike hK9, hD9⟩, hS.F ht⟩) hS.2.2 dX5_call_143
            · skip
              refine lv_icmp_ge (tgt := 97) hx hb dX5_call_83 (by decide) (fun c_126 => ?_) (fun c_126 => ?_)
              · have t_126 : 24 ≤ n0_ran.toInt := kk_le c_126
                exact hcut_122 (f2) _ _ _ ⟨hP, hD, hS, lv_sub hl [0, 1, 2, 3, 4, 5, 6, 7] rfl⟩
              · have t_126 : n0_ran.toInt < 24 := kk_nle c_126
                refine lv_aload_n hx hb dX5_call_86 rfl (lv_at hl 2 rfl) ?_
                refine va_get (D := (dC, dI)) (ci := 5) (v := .ref h2) (C := RX5) (T := TX5) (N := 4) hx hb hts (fun _ h => List.mem_cons_of_mem _ (List.mem_append_right _ h)) hown hK hP 0 rfl rfl 2 (by decide) (hts (.fieldLink RX5 15 "KinkStreet$Lines" "trace" "[I") (List.mem_of_getElem? (i := 4) rfl)) (fun _ h9 => h9) rfl dX5_call_87 ?_
                refine lv_aload_n hx hb dX5_call_90 rfl (lv_at hl 2 rfl) ?_
                refine va_get (D := (dC, dI)) (ci := 5) (v := .int n0_ran) (C := RX5) (T := TX5) (N := 4) hx hb hts (fun _ h => List.mem_cons_of_mem _ (List.mem_append_right _ h)) hown hK hP 0 rfl rfl 3 (by decide) (hts (.fieldLink RX5 36 "KinkStreet$Lines" "ran" "I") (List.mem_of_getElem? (i := 3) rfl)) (fun _ h9 => h9) rfl dX5_call_91 ?_
                refine lv_iload hx hb dX5_call_94 (lv_at hl 0 rfl) ?_
                refine va_iast hx hb hK hP hD hS 2 0 rfl rfl (vp_in_iff.mpr ⟨by have := kk_rng p4; omega, by have := kk_rng p4; omega⟩) dX5_call_96 (fun H locs hP hD hS => ?_)
                generalize upd f2 (n0_ran : Int32).toNatClampNeg 10 = f_127 at hP hD
                have hP : va_P (dC, dI) vwCl [(h0, Sum.inr (5, [Value.ref h1, Value.int n0_size, Value.ref h2, Value.int n0_ran])), (h1, Sum.inl (cint, 50, Sum.inl f1)), (h2, Sum.inl (cint, 24, Sum.inl f_127))] H := hP
                have hD : va_D A [(h0, Sum.inr (5, [Value.ref h1, Value.int n0_size, Value.ref h2, Value.int n0_ran])), (h1, Sum.inl (cint, 50, Sum.inl f1)), (h2, Sum.inl (cint, 24, Sum.inl f_127))] := hD
                exact hcut_122 (f_127) _ _ _ ⟨hP, hD, hS, lv_sub hl [0, 1, 2, 3, 4, 5, 6, 7] rfl⟩
          · have t_117 : 40 < p4.toInt := kk_nle c_117
            refine lv_iconst (v := 0) hx hb dX5_call_63 (by decide) ?_
            obtain ⟨hP9, hD9⟩ := kk_leafout (wc := [(h0, Sum.inr (5, [Value.ref h1, Value.int n0_size, Value.ref h2, Value.int n0_ran])), (h1, Sum.inl (cint, 50, Sum.inl f1)), (h2, Sum.inl (cint, 24, Sum.inl f2))]) hP hD [0, 1, 2] (by decide) rfl
            have hK9 := hK.sub (tys' := []) [] rfl
            exact W.iret (v := 0) hx hb hr (fun t ht hW => ⟨⟨0, (), rfl, trivial, n0_ran, f2, (by show 0 ≤ (n0_ran : Int32).toInt ∧ (n0_ran : Int32).toInt ≤ 1000; first | decide | (constructor <;> (have := kk_rng p4; omega))), (by show (n0_ran : Int32).toInt ≤ (n0_ran : Int32).toInt + 11; first | decide | (have := kk_rng p4; omega)), by rw [ht]; exact hP9, va_K.moved hW.alike hK9, hD9⟩, hS.F ht⟩) hS.2.2 dX5_call_64
      · skip
        have t_115_0 : (0 : Int) ≤ 0 := t_115_0
        have t_115_1 : (0 : Int) < 8 := t_115_1
        refine lv_if_eq (tgt := 48) hx hb dX5_call_18 (by decide) (fun c => absurd c (by decide)) (fun _ => ?_)
        refine va_gets hx hb hZOWN_BODIES hS hown (hts (.fieldLink RX5 43 "KinkStreet$Lines" "OWN_BODIES" "[I") (List.mem_of_getElem? (i := 1) rfl)) (fun _ h9 => h9) dX5_call_21 ?_
        refine lv_iload hx hb dX5_call_24 (lv_at hl 1 rfl) ?_
        refine lv_iconst (v := 4) hx hb dX5_call_26 (by decide) ?_
        refine lv_imul hx hb dX5_call_27 ?_
        refine lv_topi (fun y_128 e_128 => ?_)
        obtain rfl : y_128 = 0 := e_128.trans (by decide)
        refine lv_iload_n hx hb dX5_call_28 rfl (lv_at hl 5 rfl) ?_
        refine lv_iadd hx hb dX5_call_29 ?_
        refine lv_topi (fun y_129 e_129 => ?_)
        obtain rfl : y_129 = 1 := e_129.trans (by decide)
        refine va_ti (v := .int 10) hx hb hTOWN_BODIES hS (by unfold vp_in; decide) rfl dX5_call_30 ?_
        refine lv_if_ne (tgt := 48) hx hb dX5_call_31 (by decide) (fun _ => ?_) (fun c => absurd c (by decide))
        refine lv_iload hx hb dX5_call_48 (lv_at hl 1 rfl) ?_
        obtain ⟨hPc, hDc, hFc⟩ := kk_cutout (wc := []) hP hD hS hA [] (by decide) rfl
        have hKc := hK.sub (tys' := []) [] rfl
        refine va_calli (va_runS (As := [.int 0]) (rest := []) ⟨hx, hb, hml, hown, hts⟩ (g_X5_isKind_0 l dC dI H.size 0) (va_cwS 1 hts gX5_call_X5_isKind rfl rfl rfl (by decide +kernel) ⟨Nat.le_of_ble_eq_true rfl, Nat.le_of_ble_eq_true rfl⟩) ⟨fun a U g mk q => by obtain ⟨q0, q1, qP, qK, qD⟩ := q; exact ⟨q0, q1, qP, va_K.moved (u := U) (U := U.calling g mk a) (Vm.Alike.refl U.vm) qK, qD⟩, fun U hU hW => ⟨rfl, by rw [hU], by rw [hU]; exact hPc, va_K.moved hW.alike hKc, hDc.weaken (fun _ _ _ _ => trivial)⟩⟩ rfl rfl hl.1 rfl (lv_room (Nat.le_of_ble_eq_true rfl)) dX5_call_50 ⟨Nat.le_of_ble_eq_true rfl, Nat.le_of_ble_eq_true rfl⟩) hS (fun q _ h => hFc q h) hFc (fun r_130 u t H1 locs ht hvm hw hB hz1 hk1 hS => ?_)
        obtain ⟨hP1, hK1, hD1⟩ := hB
        rw [ht] at hP1
        have hK1 := va_K.moved hvm.symm hK1
        obtain ⟨hP, hD⟩ := va_join (wr := [(h0, Sum.inr (5, [Value.ref h1, Value.int n0_size, Value.ref h2, Value.int n0_ran])), (h1, Sum.inl (cint, 50, Sum.inl f1)), (h2, Sum.inl (cint, 24, Sum.inl f2))]) (w1 := []) hP hD [] [0, 1, 2] rfl rfl (by decide) (by decide) hk1 hFc hP1 hD1
        generalize H1 = H at hP hS ⊢
        have hP : va_P (dC, dI) vwCl [(h0, Sum.inr (5, [Value.ref h1, Value.int n0_size, Value.ref h2, Value.int n0_ran])), (h1, Sum.inl (cint, 50, Sum.inl f1)), (h2, Sum.inl (cint, 24, Sum.inl f2))] H := hP
        have hD : va_D A [(h0, Sum.inr (5, [Value.ref h1, Value.int n0_size, Value.ref h2, Value.int n0_ran])), (h1, Sum.inl (cint, 50, Sum.inl f1)), (h2, Sum.inl (cint, 24, Sum.inl f2))] := hD
        rcases hw with ⟨rfl⟩ | ⟨t_130_0, t_130_1, rfl⟩
        · skip
          refine lv_if_eq (tgt := 63) hx hb dX5_call_53 (by decide) (fun _ => ?_) (fun c => absurd c (by decide))
          refine lv_iconst (v := 0) hx hb dX5_call_63 (by decide) ?_
          obtain ⟨hP9, hD9⟩ := kk_leafout (wc := [(h0, Sum.inr (5, [Value.ref h1, Value.int n0_size, Value.ref h2, Value.int n0_ran])), (h1, Sum.inl (cint, 50, Sum.inl f1)), (h2, Sum.inl (cint, 24, Sum.inl f2))]) hP hD [0, 1, 2] (by decide) rfl
          have hK9 := hK.sub (tys' := []) [] rfl
          exact W.iret (v := 0) hx hb hr (fun t ht hW => ⟨⟨0, (), rfl, trivial, n0_ran, f2, (by show 0 ≤ (n0_ran : Int32).toInt ∧ (n0_ran : Int32).toInt ≤ 1000; first | decide | (constructor <;> (omega))), (by show (n0_ran : Int32).toInt ≤ (n0_ran : Int32).toInt + 11; first | decide | (omega)), by rw [ht]; exact hP9, va_K.moved hW.alike hK9, hD9⟩, hS.F ht⟩) hS.2.2 dX5_call_64
        · skip
          have t_130_0 : (0 : Int) ≤ 0 := t_130_0
          have t_130_1 : (0 : Int) < 8 := t_130_1
          refine lv_if_eq (tgt := 63) hx hb dX5_call_53 (by decide) (fun c => absurd c (by decide)) (fun _ => ?_)
          refine lv_iload hx hb dX5_call_56 (lv_at hl 7 rfl) ?_
          refine lv_bipush (v := 40) hx hb dX5_call_58 (by decide) ?_
          refine lv_icmp_le (tgt := 65) hx hb dX5_call_60 (by decide) (fun c_131 => ?_) (fun c_131 => ?_)
          · have t_131 : p4.toInt ≤ 40 := kk_le c_131
            refine va_gets hx hb hZOWN_BODIES hS hown (hts (.fieldLink RX5 43 "KinkStreet$Lines" "OWN_BODIES" "[I") (List.mem_of_getElem? (i := 1) rfl)) (fun _ h9 => h9) dX5_call_65 ?_
            refine lv_iload hx hb dX5_call_68 (lv_at hl 1 rfl) ?_
            refine lv_iconst (v := 4) hx hb dX5_call_70 (by decide) ?_
            refine lv_imul hx hb dX5_call_71 ?_
            refine lv_topi (fun y_132 e_132 => ?_)
            obtain rfl : y_132 = 0 := e_132.trans (by decide)
            refine lv_iload_n hx hb dX5_call_72 rfl (lv_at hl 5 rfl) ?_
            refine lv_iadd hx hb dX5_call_73 ?_
            refine lv_topi (fun y_133 e_133 => ?_)
            obtain rfl : y_133 = 1 := e_133.trans (by decide)
            refine va_ti (v := .int 10) hx hb hTOWN_BODIES hS (by unfold vp_in; decide) rfl dX5_call_74 ?_
            refine lv_istore (lv' := [(7, .int 10), (6, .int 0), (0, .ref h0), (1, .int p0), (2, .int 3), (3, .int 1), (4, .int p3), (5, .int p4)]) hx hb dX5_call_75 hl (by decide) rfl (fun ls hl => ?_)
            refine lv_aload_n hx hb dX5_call_77 rfl (lv_at hl 2 rfl) ?_
            refine va_get (D := (dC, dI)) (ci := 5) (v := .int n0_ran) (C := RX5) (T := TX5) (N := 4) hx hb hts (fun _ h => List.mem_cons_of_mem _ (List.mem_append_right _ h)) hown hK hP 0 rfl rfl 3 (by decide) (hts (.fieldLink RX5 36 "KinkStreet$Lines" "ran" "I") (List.mem_of_getElem? (i := 3) rfl)) (fun _ h9 => h9) rfl dX5_call_78 ?_
            refine lv_bipush (v := 24) hx hb dX5_call_81 (by decide) ?_
            refine kk_cut (σ := (Nat → Int32)) (pc' := 97) (fun x H locs ls => va_P (dC, dI) vwCl [(h0, Sum.inr (5, [Value.ref h1, Value.int n0_size, Value.ref h2, Value.int n0_ran])), (h1, Sum.inl (cint, 50, Sum.inl f1)), (h2, Sum.inl (cint, 24, Sum.inl x))] H ∧ va_D A [(h0, Sum.inr (5, [Value.ref h1, Value.int n0_size, Value.ref h2, Value.int n0_ran])), (h1, Sum.inl (cint, 50, Sum.inl f1)), (h2, Sum.inl (cint, 24, Sum.inl x))] ∧ va_S A s.heap H locs ∧ lv_has ls 8 [(7, .int 10), (6, .int 0), (0, .ref h0), (1, .int p0), (2, .int 3), (3, .int 1), (4, .int p3), (5, .int p4)]) ?_ (fun hcut_136 => ?_)
            · rintro f_136_0 H locs ls ⟨hP, hD, hS, hl⟩
              have hl : lv_has ls 8 [(7, .int 10), (6, .int 0), (0, .ref h0), (1, .int p0), (2, .int 3), (3, .int 1), (4, .int p3), (5, .int p4)] := hl
              have hP : va_P (dC, dI) vwCl [(h0, Sum.inr (5, [Value.ref h1, Value.int n0_size, Value.ref h2, Value.int n0_ran])), (h1, Sum.inl (cint, 50, Sum.inl f1)), (h2, Sum.inl (cint, 24, Sum.inl f_136_0))] H := hP
              have hD : va_D A [(h0, Sum.inr (5, [Value.ref h1, Value.int n0_size, Value.ref h2, Value.int n0_ran])), (h1, Sum.inl (cint, 50, Sum.inl f1)), (h2, Sum.inl (cint, 24, Sum.inl f_136_0))] := hD
              refine lv_aload_n hx hb dX5_call_97 rfl (lv_at hl 2 rfl) ?_
              refine lv_dup hx hb dX5_call_98 rfl ?_
              refine va_get (D := (dC, dI)) (ci := 5) (v := .int n0_ran) (C := RX5) (T := TX5) (N := 4) hx hb hts (fun _ h => List.mem_cons_of_mem _ (List.mem_append_right _ h)) hown hK hP 0 rfl rfl 3 (by decide) (hts (.fieldLink RX5 36 "KinkStreet$Lines" "ran" "I") (List.mem_of_getElem? (i := 3) rfl)) (fun _ h9 => h9) rfl dX5_call_99 ?_
              refine lv_iconst (v := 1) hx hb dX5_call_102 (by decide) ?_
              refine lv_iadd hx hb dX5_call_103 ?_
              refine va_put (D := (dC, dI)) (ci := 5) (v := .int (n0_ran + 1)) (ty := .int) (C := RX5) (T := TX5) (N := 4) hx hb hts (fun _ h => List.mem_cons_of_mem _ (List.mem_append_right _ h)) tyX5 tyX5_ok nmX5 hown hK hP hD hS 0 rfl rfl 3 (by decide) (hts (.fieldLink RX5 36 "KinkStreet$Lines" "ran" "I") (List.mem_of_getElem? (i := 3) rfl)) (fun _ h9 => h9) rfl (by decide +kernel) rfl rfl (Nat.le_of_ble_eq_true rfl) dX5_call_104 (fun H locs hP hD hS => ?_)
              have hP : va_P (dC, dI) vwCl [(h0, Sum.inr (5, [Value.ref h1, Value.int n0_size, Value.ref h2, Value.int (n0_ran + 1)])), (h1, Sum.inl (cint, 50, Sum.inl f1)), (h2, Sum.inl (cint, 24, Sum.inl f_136_0))] H := hP
              have hD : va_D A [(h0, Sum.inr (5, [Value.ref h1, Value.int n0_size, Value.ref h2, Value.int (n0_ran + 1)])), (h1, Sum.inl (cint, 50, Sum.inl f1)), (h2, Sum.inl (cint, 24, Sum.inl f_136_0))] := hD
              refine lv_iload hx hb dX5_call_107 (lv_at hl 1 rfl) ?_
              refine lv_if_ne (tgt := 128) hx hb dX5_call_109 (by decide) (fun c => absurd c (by decide)) (fun _ => ?_)
              refine lv_aload_n hx hb dX5_call_112 rfl (lv_at hl 2 rfl) ?_
              refine lv_iload_n hx hb dX5_call_113 rfl (lv_at hl 3 rfl) ?_
              refine lv_iload hx hb dX5_call_114 (lv_at hl 0 rfl) ?_
              refine lv_iload hx hb dX5_call_116 (lv_at hl 6 rfl) ?_
              refine lv_iload hx hb dX5_call_118 (lv_at hl 7 rfl) ?_
              refine lv_iconst (v := 1) hx hb dX5_call_120 (by decide) ?_
              refine lv_iadd hx hb dX5_call_121 ?_
              obtain ⟨hPc, hDc, hFc⟩ := kk_cutout (wc := [(h0, Sum.inr (5, [Value.ref h1, Value.int n0_size, Value.ref h2, Value.int (n0_ran + 1)])), (h1, Sum.inl (cint, 50, Sum.inl f1)), (h2, Sum.inl (cint, 24, Sum.inl f_136_0))]) hP hD hS hA [0, 1, 2] (by decide) rfl
              have hKc := hK.sub (tys' := [(cint, .int)]) [0] rfl
              refine va_calli (va_runV (As := [.int p0, .int 10, .int p3, .int (p4 + 1)]) (rest := []) ⟨hx, hb, hml, hown, hts⟩ (g_X5_runLine_2 l dC dI h0 h1 h2 cint H.size p0 p3 (p4 + 1) n0_size (n0_ran + 1) f1 f_136_0 tn0_size (by show 0 ≤ ((n0_ran + 1) : Int32).toInt ∧ ((n0_ran + 1) : Int32).toInt ≤ 997; first | decide | (constructor <;> (have := kk_rng p4; have := kk_add2 (x := n0_ran) (y := 1) (a := n0_ran.toInt) (b := 1) rfl rfl (by omega) (by omega); have := kk_rng p4; have := kk_add2 (x := p4) (y := 1) (a := p4.toInt) (b := 1) rfl rfl (by omega) (by omega); omega))) bf1 aOWN_BODIES aABOVE) (cwV 4 hts gX5_call_X5_runLine rfl rfl rfl (by decide +kernel) ⟨Nat.le_of_ble_eq_true rfl, Nat.le_of_ble_eq_true rfl⟩) ⟨fun a U g mk q => by obtain ⟨q0, q1, qP, qK, qD, qx0, qx1, qx2, qx3⟩ := q; exact ⟨q0, q1, qP, va_K.moved (u := U) (U := U.calling g mk a) (Vm.Alike.refl U.vm) qK, qD, va_Z.moved (u := U) (U := U.calling g mk a) (Vm.Alike.refl U.vm) qx0, va_T.moved (u := U) (U := U.calling g mk a) (Vm.Alike.refl U.vm) qx1, va_Z.moved (u := U) (U := U.calling g mk a) (Vm.Alike.refl U.vm) qx2, va_T.moved (u := U) (U := U.calling g mk a) (Vm.Alike.refl U.vm) qx3⟩, va_recv hKc hPc (ci := 5) (q0 := 0) rfl rfl, fun U hU hW => ⟨rfl, by rw [hU], by rw [hU]; exact hPc, va_K.moved hW.alike hKc, hDc.weaken (fun _ _ _ _ => trivial), by rw [hU]; exact ((hZOWN_BODIES.kept (fun a h1 h2 => hS.2.1 a h1 h2)).narrow hFc).moved hW.alike, by rw [hU]; exact ((hTOWN_BODIES.kept (fun a h1 h2 => hS.2.1 a h1 h2)).narrow hFc).moved hW.alike, by rw [hU]; exact ((hZABOVE.kept (fun a h1 h2 => hS.2.1 a h1 h2)).narrow hFc).moved hW.alike, by rw [hU]; exact ((hTABOVE.kept (fun a h1 h2 => hS.2.1 a h1 h2)).narrow hFc).moved hW.alike⟩⟩ rfl rfl hl.1 rfl (lv_room (Nat.le_of_ble_eq_true rfl)) dX5_call_122 ⟨Nat.le_of_ble_eq_true rfl, Nat.le_of_ble_eq_true rfl⟩) hS (fun q _ h => hFc q h) hFc (fun r_137 u t H1 locs ht hvm hw hB hz1 hk1 hS => ?_)
              obtain ⟨y_138, f_139, by_138, v_139_0, hP1, hK1, hD1⟩ := hB
              have v_139_0 : y_138.toInt ≤ (n0_ran + 1).toInt + 3 := v_139_0
              rw [ht] at hP1
              have hK1 := va_K.moved hvm.symm hK1
              obtain ⟨hP, hD⟩ := va_join (wr := []) (w1 := [(h0, Sum.inr (5, [Value.ref h1, Value.int n0_size, Value.ref h2, Value.int y_138])), (h1, Sum.inl (cint, 50, Sum.inl f1)), (h2, Sum.inl (cint, 24, Sum.inl f_139))]) hP hD [0, 1, 2] [] rfl rfl (by decide) (by decide) hk1 hFc hP1 hD1
              generalize H1 = H at hP hS ⊢
              have hP : va_P (dC, dI) vwCl [(h0, Sum.inr (5, [Value.ref h1, Value.int n0_size, Value.ref h2, Value.int y_138])), (h1, Sum.inl (cint, 50, Sum.inl f1)), (h2, Sum.inl (cint, 24, Sum.inl f_139))] H := hP
              have hD : va_D A [(h0, Sum.inr (5, [Value.ref h1, Value.int n0_size, Value.ref h2, Value.int y_138])), (h1, Sum.inl (cint, 50, Sum.inl f1)), (h2, Sum.inl (cint, 24, Sum.inl f_139))] := hD
              refine lv_goto (tgt := 143) hx hb dX5_call_125 (by decide) ?_
              obtain ⟨hP9, hD9⟩ := kk_leafout (wc := [(h0, Sum.inr (5, [Value.ref h1, Value.int n0_size, Value.ref h2, Value.int y_138])), (h1, Sum.inl (cint, 50, Sum.inl f1)), (h2, Sum.inl (cint, 24, Sum.inl f_139))]) hP hD [0, 1, 2] (by decide) rfl
              have hK9 := hK.sub (tys' := []) [] rfl
              exact W.iret (v := r_137) hx hb hr (fun t ht hW => ⟨⟨r_137, (), rfl, trivial, y_138, f_139, (by show 0 ≤ (y_138 : Int32).toInt ∧ (y_138 : Int32).toInt ≤ 1000; first | decide | (constructor <;> (have := kk_rng p4; have := kk_add2 (x := n0_ran) (y := 1) (a := n0_ran.toInt) (b := 1) rfl rfl (by omega) (by omega); have := kk_rng p4; have := kk_add2 (x := p4) (y := 1) (a := p4.toInt) (b := 1) rfl rfl (by omega) (by omega); omega))), (by show (y_138 : Int32).toInt ≤ (n0_ran : Int32).toInt + 11; first | decide | (have := kk_rng p4; have := kk_add2 (x := n0_ran) (y := 1) (a := n0_ran.toInt) (b := 1) rfl rfl (by omega) (by omega); have := kk_rng p4; have := kk_add2 (x := p4) (y := 1) (a := p4.toInt) (b := 1) rfl rfl (by omega) (by omega); omega)), by rw [ht]; exact hP9, va_K.moved hW.alike hK9, hD9⟩, hS.F ht⟩) hS.2.2 dX5_call_143
            · skip
              refine lv_icmp_ge (tgt := 97) hx hb dX5_call_83 (by decide) (fun c_140 => ?_) (fun c_140 => ?_)
              · have t_140 : 24 ≤ n0_ran.toInt := kk_le c_140
                exact hcut_136 (f2) _ _ _ ⟨hP, hD, hS, lv_sub hl [0, 1, 2, 3, 4, 5, 6, 7] rfl⟩
              · have t_140 : n0_ran.toInt < 24 := kk_nle c_140
                refine lv_aload_n hx hb dX5_call_86 rfl (lv_at hl 2 rfl) ?_
                refine va_get (D := (dC, dI)) (ci := 5) (v := .ref h2) (C := RX5) (T := TX5) (N := 4) hx hb hts (fun _ h => List.mem_cons_of_mem _ (List.mem_append_right _ h)) hown hK hP 0 rfl rfl 2 (by decide) (hts (.fieldLink RX5 15 "KinkStreet$Lines" "trace" "[I") (List.mem_of_getElem? (i := 4) rfl)) (fun _ h9 => h9) rfl dX5_call_87 ?_
                refine lv_aload_n hx hb dX5_call_90 rfl (lv_at hl 2 rfl) ?_
                refine va_get (D := (dC, dI)) (ci := 5) (v := .int n0_ran) (C := RX5) (T := TX5) (N := 4) hx hb hts (fun _ h => List.mem_cons_of_mem _ (List.mem_append_right _ h)) hown hK hP 0 rfl rfl 3 (by decide) (hts (.fieldLink RX5 36 "KinkStreet$Lines" "ran" "I") (List.mem_of_getElem? (i := 3) rfl)) (fun _ h9 => h9) rfl dX5_call_91 ?_
                refine lv_iload hx hb dX5_call_94 (lv_at hl 0 rfl) ?_
                refine va_iast hx hb hK hP hD hS 2 0 rfl rfl (vp_in_iff.mpr ⟨by have := kk_rng p4; omega, by have := kk_rng p4; omega⟩) dX5_call_96 (fun H locs hP hD hS => ?_)
                generalize upd f2 (n0_ran : Int32).toNatClampNeg 10 = f_141 at hP hD
                have hP : va_P (dC, dI) vwCl [(h0, Sum.inr (5, [Value.ref h1, Value.int n0_size, Value.ref h2, Value.int n0_ran])), (h1, Sum.inl (cint, 50, Sum.inl f1)), (h2, Sum.inl (cint, 24, Sum.inl f_141))] H := hP
                have hD : va_D A [(h0, Sum.inr (5, [Value.ref h1, Value.int n0_size, Value.ref h2, Value.int n0_ran])), (h1, Sum.inl (cint, 50, Sum.inl f1)), (h2, Sum.inl (cint, 24, Sum.inl f_141))] := hD
                exact hcut_136 (f_141) _ _ _ ⟨hP, hD, hS, lv_sub hl [0, 1, 2, 3, 4, 5, 6, 7] rfl⟩
          · have t_131 : 40 < p4.toInt := kk_nle c_131
            refine lv_iconst (v := 0) hx hb dX5_call_63 (by decide) ?_
            obtain ⟨hP9, hD9⟩ := kk_leafout (wc := [(h0, Sum.inr (5, [Value.ref h1, Value.int n0_size, Value.ref h2, Value.int n0_ran])), (h1, Sum.inl (cint, 50, Sum.inl f1)), (h2, Sum.inl (cint, 24, Sum.inl f2))]) hP hD [0, 1, 2] (by decide) rfl
            have hK9 := hK.sub (tys' := []) [] rfl
            exact W.iret (v := 0) hx hb hr (fun t ht hW => ⟨⟨0, (), rfl, trivial, n0_ran, f2, (by show 0 ≤ (n0_ran : Int32).toInt ∧ (n0_ran : Int32).toInt ≤ 1000; first | decide | (constructor <;> (have := kk_rng p4; omega))), (by show (n0_ran : Int32).toInt ≤ (n0_ran : Int32).toInt + 11; first | decide | (have := kk_rng p4; omega)), by rw [ht]; exact hP9, va_K.moved hW.alike hK9, hD9⟩, hS.F ht⟩) hS.2.2 dX5_call_64
  · have t_1 : p1.toInt = 4 := by rw [e_1]; rfl
    subst e_1
    refine lv_iload_n hx hb dX5_call_0 rfl (lv_at hl 2 rfl) ?_
    refine lv_istore (lv' := [(6, .int 4), (0, .ref h0), (1, .int p0), (2, .int 4), (3, .int 1), (4, .int p3), (5, .int p4)]) hx hb dX5_call_1 hl (by decide) rfl (fun ls hl => ?_)
    refine lv_iconst (v := 0) hx hb dX5_call_3 (by decide) ?_
    refine lv_istore (lv' := [(7, .int 0), (6, .int 4), (0, .ref h0), (1, .int p0), (2, .int 4), (3, .int 1), (4, .int p3), (5, .int p4)]) hx hb dX5_call_4 hl (by decide) rfl (fun ls hl => ?_)
    refine lv_iload hx hb dX5_call_6 (lv_at hl 0 rfl) ?_
    refine lv_bipush (v := 8) hx hb dX5_call_8 (by decide) ?_
    refine lv_icmp_ge (tgt := 48) hx hb dX5_call_10 (by decide) (fun c => absurd c (by decide)) (fun _ => ?_)
    refine lv_iload hx hb dX5_call_13 (lv_at hl 1 rfl) ?_
    obtain ⟨hPc, hDc, hFc⟩ := kk_cutout (wc := []) hP hD hS hA [] (by decide) rfl
    have hKc := hK.sub (tys' := []) [] rfl
    refine va_calli (va_runS (As := [.int 4]) (rest := []) ⟨hx, hb, hml, hown, hts⟩ (g_X5_isKind_0 l dC dI s.heap.size 4) (va_cwS 1 hts gX5_call_X5_isKind rfl rfl rfl (by decide +kernel) ⟨Nat.le_of_ble_eq_true rfl, Nat.le_of_ble_eq_true rfl⟩) ⟨fun a U g mk q => by obtain ⟨q0, q1, qP, qK, qD⟩ := q; exact ⟨q0, q1, qP, va_K.moved (u := U) (U := U.calling g mk a) (Vm.Alike.refl U.vm) qK, qD⟩, fun U hU hW => ⟨rfl, by rw [hU], by rw [hU]; exact hPc, va_K.moved hW.alike hKc, hDc.weaken (fun _ _ _ _ => trivial)⟩⟩ rfl rfl hl.1 rfl (lv_room (Nat.le_of_ble_eq_true rfl)) dX5_call_15 ⟨Nat.le_of_ble_eq_true rfl, Nat.le_of_ble_eq_true rfl⟩) hS (fun q _ h => hFc q h) hFc (fun r_142 u t H1 locs ht hvm hw hB hz1 hk1 hS => ?_)
    obtain ⟨hP1, hK1, hD1⟩ := hB
    rw [ht] at hP1
    have hK1 := va_K.moved hvm.symm hK1
    obtain ⟨hP, hD⟩ := va_join (wr := [(h0, Sum.inr (5, [Value.ref h1, Value.int n0_size, Value.ref h2, Value.int n0_ran])), (h1, Sum.inl (cint, 50, Sum.inl f1)), (h2, Sum.inl (cint, 24, Sum.inl f2))]) (w1 := []) hP hD [] [0, 1, 2] rfl rfl (by decide) (by decide) hk1 hFc hP1 hD1
    generalize H1 = H at hP hS ⊢
    have hP : va_P (dC, dI) vwCl [(h0, Sum.inr (5, [Value.ref h1, Value.int n0_size, Value.ref h2, Value.int n0_ran])), (h1, Sum.inl (cint, 50, Sum.inl f1)), (h2, Sum.inl (cint, 24, Sum.inl f2))] H := hP
    have hD : va_D A [(h0, Sum.inr (5, [Value.ref h1, Value.int n0_size, Value.ref h2, Value.int n0_ran])), (h1, Sum.inl (cint, 50, Sum.inl f1)), (h2, Sum.inl (cint, 24, Sum.inl f2))] := hD
    rcases hw with ⟨rfl⟩ | ⟨t_142_0, t_142_1, rfl⟩
    · skip
      refine lv_if_eq (tgt := 48) hx hb dX5_call_18 (by decide) (fun _ => ?_) (fun c => absurd c (by decide))
      refine lv_iload hx hb dX5_call_48 (lv_at hl 1 rfl) ?_
      obtain ⟨hPc, hDc, hFc⟩ := kk_cutout (wc := []) hP hD hS hA [] (by decide) rfl
      have hKc := hK.sub (tys' := []) [] rfl
      refine va_calli (va_runS (As := [.int 4]) (rest := []) ⟨hx, hb, hml, hown, hts⟩ (g_X5_isKind_0 l dC dI H.size 4) (va_cwS 1 hts gX5_call_X5_isKind rfl rfl rfl (by decide +kernel) ⟨Nat.le_of_ble_eq_true rfl, Nat.le_of_ble_eq_true rfl⟩) ⟨fun a U g mk q => by obtain ⟨q0, q1, qP, qK, qD⟩ := q; exact ⟨q0, q1, qP, va_K.moved (u := U) (U := U.calling g mk a) (Vm.Alike.refl U.vm) qK, qD⟩, fun U hU hW => ⟨rfl, by rw [hU], by rw [hU]; exact hPc, va_K.moved hW.alike hKc, hDc.weaken (fun _ _ _ _ => trivial)⟩⟩ rfl rfl hl.1 rfl (lv_room (Nat.le_of_ble_eq_true rfl)) dX5_call_50 ⟨Nat.le_of_ble_eq_true rfl, Nat.le_of_ble_eq_true rfl⟩) hS (fun q _ h => hFc q h) hFc (fun r_143 u t H1 locs ht hvm hw hB hz1 hk1 hS => ?_)
      obtain ⟨hP1, hK1, hD1⟩ := hB
      rw [ht] at hP1
      have hK1 := va_K.moved hvm.symm hK1
      obtain ⟨hP, hD⟩ := va_join (wr := [(h0, Sum.inr (5, [Value.ref h1, Value.int n0_size, Value.ref h2, Value.int n0_ran])), (h1, Sum.inl (cint, 50, Sum.inl f1)), (h2, Sum.inl (cint, 24, Sum.inl f2))]) (w1 := []) hP hD [] [0, 1, 2] rfl rfl (by decide) (by decide) hk1 hFc hP1 hD1
      generalize H1 = H at hP hS ⊢
      have hP : va_P (dC, dI) vwCl [(h0, Sum.inr (5, [Value.ref h1, Value.int n0_size, Value.ref h2, Value.int n0_ran])), (h1, Sum.inl (cint, 50, Sum.inl f1)), (h2, Sum.inl (cint, 24, Sum.inl f2))] H := hP
      have hD : va_D A [(h0, Sum.inr (5, [Value.ref h1, Value.int n0_size, Value.ref h2, Value.int n0_ran])), (h1, Sum.inl (cint, 50, Sum.inl f1)), (h2, Sum.inl (cint, 24, Sum.inl f2))] := hD
      rcases hw with ⟨rfl⟩ | ⟨t_143_0, t_143_1, rfl⟩
      · skip
        refine lv_if_eq (tgt := 63) hx hb dX5_call_53 (by decide) (fun _ => ?_) (fun c => absurd c (by decide))
        refine lv_iconst (v := 0) hx hb dX5_call_63 (by decide) ?_
        obtain ⟨hP9, hD9⟩ := kk_leafout (wc := [(h0, Sum.inr (5, [Value.ref h1, Value.int n0_size, Value.ref h2, Value.int n0_ran])), (h1, Sum.inl (cint, 50, Sum.inl f1)), (h2, Sum.inl (cint, 24, Sum.inl f2))]) hP hD [0, 1, 2] (by decide) rfl
        have hK9 := hK.sub (tys' := []) [] rfl
        exact W.iret (v := 0) hx hb hr (fun t ht hW => ⟨⟨0, (), rfl, trivial, n0_ran, f2, (by show 0 ≤ (n0_ran : Int32).toInt ∧ (n0_ran : Int32).toInt ≤ 1000; first | decide | (constructor <;> (omega))), (by show (n0_ran : Int32).toInt ≤ (n0_ran : Int32).toInt + 11; first | decide | (omega)), by rw [ht]; exact hP9, va_K.moved hW.alike hK9, hD9⟩, hS.F ht⟩) hS.2.2 dX5_call_64
      · skip
        have t_143_0 : (0 : Int) ≤ 4 := t_143_0
        have t_143_1 : (4 : Int) < 8 := t_143_1
        refine lv_if_eq (tgt := 63) hx hb dX5_call_53 (by decide) (fun c => absurd c (by decide)) (fun _ => ?_)
        refine lv_iload hx hb dX5_call_56 (lv_at hl 7 rfl) ?_
        refine lv_bipush (v := 40) hx hb dX5_call_58 (by decide) ?_
        refine lv_icmp_le (tgt := 65) hx hb dX5_call_60 (by decide) (fun c_144 => ?_) (fun c_144 => ?_)
        · have t_144 : p4.toInt ≤ 40 := kk_le c_144
          refine va_gets hx hb hZOWN_BODIES hS hown (hts (.fieldLink RX5 43 "KinkStreet$Lines" "OWN_BODIES" "[I") (List.mem_of_getElem? (i := 1) rfl)) (fun _ h9 => h9) dX5_call_65 ?_
          refine lv_iload hx hb dX5_call_68 (lv_at hl 1 rfl) ?_
          refine lv_iconst (v := 4) hx hb dX5_call_70 (by decide) ?_
          refine lv_imul hx hb dX5_call_71 ?_
          refine lv_topi (fun y_145 e_145 => ?_)
          obtain rfl : y_145 = 16 := e_145.trans (by decide)
          refine lv_iload_n hx hb dX5_call_72 rfl (lv_at hl 5 rfl) ?_
          refine lv_iadd hx hb dX5_call_73 ?_
          refine lv_topi (fun y_146 e_146 => ?_)
          obtain rfl : y_146 = 17 := e_146.trans (by decide)
          refine va_ti (v := .int 0) hx hb hTOWN_BODIES hS (by unfold vp_in; decide) rfl dX5_call_74 ?_
          refine lv_istore (lv' := [(7, .int 0), (6, .int 4), (0, .ref h0), (1, .int p0), (2, .int 4), (3, .int 1), (4, .int p3), (5, .int p4)]) hx hb dX5_call_75 hl (by decide) rfl (fun ls hl => ?_)
          refine lv_aload_n hx hb dX5_call_77 rfl (lv_at hl 2 rfl) ?_
          refine va_get (D := (dC, dI)) (ci := 5) (v := .int n0_ran) (C := RX5) (T := TX5) (N := 4) hx hb hts (fun _ h => List.mem_cons_of_mem _ (List.mem_append_right _ h)) hown hK hP 0 rfl rfl 3 (by decide) (hts (.fieldLink RX5 36 "KinkStreet$Lines" "ran" "I") (List.mem_of_getElem? (i := 3) rfl)) (fun _ h9 => h9) rfl dX5_call_78 ?_
          refine lv_bipush (v := 24) hx hb dX5_call_81 (by decide) ?_
          refine kk_cut (σ := (Nat → Int32)) (pc' := 97) (fun x H locs ls => va_P (dC, dI) vwCl [(h0, Sum.inr (5, [Value.ref h1, Value.int n0_size, Value.ref h2, Value.int n0_ran])), (h1, Sum.inl (cint, 50, Sum.inl f1)), (h2, Sum.inl (cint, 24, Sum.inl x))] H ∧ va_D A [(h0, Sum.inr (5, [Value.ref h1, Value.int n0_size, Value.ref h2, Value.int n0_ran])), (h1, Sum.inl (cint, 50, Sum.inl f1)), (h2, Sum.inl (cint, 24, Sum.inl x))] ∧ va_S A s.heap H locs ∧ lv_has ls 8 [(7, .int 0), (6, .int 4), (0, .ref h0), (1, .int p0), (2, .int 4), (3, .int 1), (4, .int p3), (5, .int p4)]) ?_ (fun hcut_149 => ?_)
          · rintro f_149_0 H locs ls ⟨hP, hD, hS, hl⟩
            have hl : lv_has ls 8 [(7, .int 0), (6, .int 4), (0, .ref h0), (1, .int p0), (2, .int 4), (3, .int 1), (4, .int p3), (5, .int p4)] := hl
            have hP : va_P (dC, dI) vwCl [(h0, Sum.inr (5, [Value.ref h1, Value.int n0_size, Value.ref h2, Value.int n0_ran])), (h1, Sum.inl (cint, 50, Sum.inl f1)), (h2, Sum.inl (cint, 24, Sum.inl f_149_0))] H := hP
            have hD : va_D A [(h0, Sum.inr (5, [Value.ref h1, Value.int n0_size, Value.ref h2, Value.int n0_ran])), (h1, Sum.inl (cint, 50, Sum.inl f1)), (h2, Sum.inl (cint, 24, Sum.inl f_149_0))] := hD
            refine lv_aload_n hx hb dX5_call_97 rfl (lv_at hl 2 rfl) ?_
            refine lv_dup hx hb dX5_call_98 rfl ?_
            refine va_get (D := (dC, dI)) (ci := 5) (v := .int n0_ran) (C := RX5) (T := TX5) (N := 4) hx hb hts (fun _ h => List.mem_cons_of_mem _ (List.mem_append_right _ h)) hown hK hP 0 rfl rfl 3 (by decide) (hts (.fieldLink RX5 36 "KinkStreet$Lines" "ran" "I") (List.mem_of_getElem? (i := 3) rfl)) (fun _ h9 => h9) rfl dX5_call_99 ?_
            refine lv_iconst (v := 1) hx hb dX5_call_102 (by decide) ?_
            refine lv_iadd hx hb dX5_call_103 ?_
            refine va_put (D := (dC, dI)) (ci := 5) (v := .int (n0_ran + 1)) (ty := .int) (C := RX5) (T := TX5) (N := 4) hx hb hts (fun _ h => List.mem_cons_of_mem _ (List.mem_append_right _ h)) tyX5 tyX5_ok nmX5 hown hK hP hD hS 0 rfl rfl 3 (by decide) (hts (.fieldLink RX5 36 "KinkStreet$Lines" "ran" "I") (List.mem_of_getElem? (i := 3) rfl)) (fun _ h9 => h9) rfl (by decide +kernel) rfl rfl (Nat.le_of_ble_eq_true rfl) dX5_call_104 (fun H locs hP hD hS => ?_)
            have hP : va_P (dC, dI) vwCl [(h0, Sum.inr (5, [Value.ref h1, Value.int n0_size, Value.ref h2, Value.int (n0_ran + 1)])), (h1, Sum.inl (cint, 50, Sum.inl f1)), (h2, Sum.inl (cint, 24, Sum.inl f_149_0))] H := hP
            have hD : va_D A [(h0, Sum.inr (5, [Value.ref h1, Value.int n0_size, Value.ref h2, Value.int (n0_ran + 1)])), (h1, Sum.inl (cint, 50, Sum.inl f1)), (h2, Sum.inl (cint, 24, Sum.inl f_149_0))] := hD
            refine lv_iload hx hb dX5_call_107 (lv_at hl 1 rfl) ?_
            refine lv_if_ne (tgt := 128) hx hb dX5_call_109 (by decide) (fun _ => ?_) (fun c => absurd c (by decide))
            refine lv_aload_n hx hb dX5_call_128 rfl (lv_at hl 2 rfl) ?_
            refine lv_iload_n hx hb dX5_call_129 rfl (lv_at hl 3 rfl) ?_
            refine lv_iload hx hb dX5_call_130 (lv_at hl 1 rfl) ?_
            refine lv_iload hx hb dX5_call_132 (lv_at hl 0 rfl) ?_
            refine lv_iload hx hb dX5_call_134 (lv_at hl 6 rfl) ?_
            refine lv_iload hx hb dX5_call_136 (lv_at hl 7 rfl) ?_
            refine lv_iconst (v := 1) hx hb dX5_call_138 (by decide) ?_
            refine lv_iadd hx hb dX5_call_139 ?_
            obtain ⟨hPc, hDc, hFc⟩ := kk_cutout (wc := [(h0, Sum.inr (5, [Value.ref h1, Value.int n0_size, Value.ref h2, Value.int (n0_ran + 1)])), (h1, Sum.inl (cint, 50, Sum.inl f1)), (h2, Sum.inl (cint, 24, Sum.inl f_149_0))]) hP hD hS hA [0, 1, 2] (by decide) rfl
            have hKc := hK.sub (tys' := [(cint, .int)]) [0] rfl
            refine va_calli (va_runV (As := [.int p0, .int 4, .int 0, .int p3, .int (p4 + 1)]) (rest := []) ⟨hx, hb, hml, hown, hts⟩ (g_X5_runUnder_4 l dC dI h0 h1 h2 cint H.size p0 p3 (p4 + 1) n0_size (n0_ran + 1) f1 f_149_0 tn0_size (by show 0 ≤ ((n0_ran + 1) : Int32).toInt ∧ ((n0_ran + 1) : Int32).toInt ≤ 998; first | decide | (constructor <;> (have := kk_rng p4; have := kk_add2 (x := n0_ran) (y := 1) (a := n0_ran.toInt) (b := 1) rfl rfl (by omega) (by omega); have := kk_rng p4; have := kk_add2 (x := p4) (y := 1) (a := p4.toInt) (b := 1) rfl rfl (by omega) (by omega); omega))) bf1 aOWN_BODIES aABOVE) (cwV 5 hts gX5_call_X5_runUnder rfl rfl rfl (by decide +kernel) ⟨Nat.le_of_ble_eq_true rfl, Nat.le_of_ble_eq_true rfl⟩) ⟨fun a U g mk q => by obtain ⟨q0, q1, qP, qK, qD, qx0, qx1, qx2, qx3⟩ := q; exact ⟨q0, q1, qP, va_K.moved (u := U) (U := U.calling g mk a) (Vm.Alike.refl U.vm) qK, qD, va_Z.moved (u := U) (U := U.calling g mk a) (Vm.Alike.refl U.vm) qx0, va_T.moved (u := U) (U := U.calling g mk a) (Vm.Alike.refl U.vm) qx1, va_Z.moved (u := U) (U := U.calling g mk a) (Vm.Alike.refl U.vm) qx2, va_T.moved (u := U) (U := U.calling g mk a) (Vm.Alike.refl U.vm) qx3⟩, va_recv hKc hPc (ci := 5) (q0 := 0) rfl rfl, fun U hU hW => ⟨rfl, by rw [hU], by rw [hU]; exact hPc, va_K.moved hW.alike hKc, hDc.weaken (fun _ _ _ _ => trivial), by rw [hU]; exact ((hZOWN_BODIES.kept (fun a h1 h2 => hS.2.1 a h1 h2)).narrow hFc).moved hW.alike, by rw [hU]; exact ((hTOWN_BODIES.kept (fun a h1 h2 => hS.2.1 a h1 h2)).narrow hFc).moved hW.alike, by rw [hU]; exact ((hZABOVE.kept (fun a h1 h2 => hS.2.1 a h1 h2)).narrow hFc).moved hW.alike, by rw [hU]; exact ((hTABOVE.kept (fun a h1 h2 => hS.2.1 a h1 h2)).narrow hFc).moved hW.alike⟩⟩ rfl rfl hl.1 rfl (lv_room (Nat.le_of_ble_eq_true rfl)) dX5_call_140 ⟨Nat.le_of_ble_eq_true rfl, Nat.le_of_ble_eq_true rfl⟩) hS (fun q _ h => hFc q h) hFc (fun r_150 u t H1 locs ht hvm hw hB hz1 hk1 hS => ?_)
            obtain ⟨y_151, f_152, by_151, v_152_0, hP1, hK1, hD1⟩ := hB
            have v_152_0 : y_151.toInt ≤ (n0_ran + 1).toInt + 2 := v_152_0
            rw [ht] at hP1
            have hK1 := va_K.moved hvm.symm hK1
            obtain ⟨hP, hD⟩ := va_join (wr := []) (w1 := [(h0, Sum.inr (5, [Value.ref h1, Value.int n0_size, Value.ref h2, Value.int y_151])), (h1, Sum.inl (cint, 50, Sum.inl f1)), (h2, Sum.inl (cint, 24, Sum.inl f_152))]) hP hD [0, 1, 2] [] rfl rfl (by decide) (by decide) hk1 hFc hP1 hD1
            generalize H1 = H at hP hS ⊢
            have hP : va_P (dC, dI) vwCl [(h0, Sum.inr (5, [Value.ref h1, Value.int n0_size, Value.ref h2, Value.int y_151])), (h1, Sum.inl (cint, 50, Sum.inl f1)), (h2, Sum.inl (cint, 24, Sum.inl f_152))] H := hP
            have hD : va_D A [(h0, Sum.inr (5, [Value.ref h1, Value.int n0_size, Value.ref h2, Value.int y_151])), (h1, Sum.inl (cint, 50, Sum.inl f1)), (h2, Sum.inl (cint, 24, Sum.inl f_152))] := hD
            obtain ⟨hP9, hD9⟩ := kk_leafout (wc := [(h0, Sum.inr (5, [Value.ref h1, Value.int n0_size, Value.ref h2, Value.int y_151])), (h1, Sum.inl (cint, 50, Sum.inl f1)), (h2, Sum.inl (cint, 24, Sum.inl f_152))]) hP hD [0, 1, 2] (by decide) rfl
            have hK9 := hK.sub (tys' := []) [] rfl
            exact W.iret (v := r_150) hx hb hr (fun t ht hW => ⟨⟨r_150, (), rfl, trivial, y_151, f_152, (by show 0 ≤ (y_151 : Int32).toInt ∧ (y_151 : Int32).toInt ≤ 1000; first | decide | (constructor <;> (have := kk_rng p4; have := kk_add2 (x := n0_ran) (y := 1) (a := n0_ran.toInt) (b := 1) rfl rfl (by omega) (by omega); have := kk_rng p4; have := kk_add2 (x := p4) (y := 1) (a := p4.toInt) (b := 1) rfl rfl (by omega) (by omega); omega))), (by show (y_151 : Int32).toInt ≤ (n0_ran : Int32).toInt + 11; first | decide | (have := kk_rng p4; have := kk_add2 (x := n0_ran) (y := 1) (a := n0_ran.toInt) (b := 1) rfl rfl (by omega) (by omega); have := kk_rng p4; have := kk_add2 (x := p4) (y := 1) (a := p4.toInt) (b := 1) rfl rfl (by omega) (by omega); omega)), by rw [ht]; exact hP9, va_K.moved hW.alike hK9, hD9⟩, hS.F ht⟩) hS.2.2 dX5_call_143
          · skip
            refine lv_icmp_ge (tgt := 97) hx hb dX5_call_83 (by decide) (fun c_153 => ?_) (fun c_153 => ?_)
            · have t_153 : 24 ≤ n0_ran.toInt := kk_le c_153
              exact hcut_149 (f2) _ _ _ ⟨hP, hD, hS, lv_sub hl [0, 1, 2, 3, 4, 5, 6, 7] rfl⟩
            · have t_153 : n0_ran.toInt < 24 := kk_nle c_153
              refine lv_aload_n hx hb dX5_call_86 rfl (lv_at hl 2 rfl) ?_
              refine va_get (D := (dC, dI)) (ci := 5) (v := .ref h2) (C := RX5) (T := TX5) (N := 4) hx hb hts (fun _ h => List.mem_cons_of_mem _ (List.mem_append_right _ h)) hown hK hP 0 rfl rfl 2 (by decide) (hts (.fieldLink RX5 15 "KinkStreet$Lines" "trace" "[I") (List.mem_of_getElem? (i := 4) rfl)) (fun _ h9 => h9) rfl dX5_call_87 ?_
              refine lv_aload_n hx hb dX5_call_90 rfl (lv_at hl 2 rfl) ?_
              refine va_get (D := (dC, dI)) (ci := 5) (v := .int n0_ran) (C := RX5) (T := TX5) (N := 4) hx hb hts (fun _ h => List.mem_cons_of_mem _ (List.mem_append_right _ h)) hown hK hP 0 rfl rfl 3 (by decide) (hts (.fieldLink RX5 36 "KinkStreet$Lines" "ran" "I") (List.mem_of_getElem? (i := 3) rfl)) (fun _ h9 => h9) rfl dX5_call_91 ?_
              refine lv_iload hx hb dX5_call_94 (lv_at hl 0 rfl) ?_
              refine va_iast hx hb hK hP hD hS 2 0 rfl rfl (vp_in_iff.mpr ⟨by have := kk_rng p4; omega, by have := kk_rng p4; omega⟩) dX5_call_96 (fun H locs hP hD hS => ?_)
              generalize upd f2 (n0_ran : Int32).toNatClampNeg 0 = f_154 at hP hD
              have hP : va_P (dC, dI) vwCl [(h0, Sum.inr (5, [Value.ref h1, Value.int n0_size, Value.ref h2, Value.int n0_ran])), (h1, Sum.inl (cint, 50, Sum.inl f1)), (h2, Sum.inl (cint, 24, Sum.inl f_154))] H := hP
              have hD : va_D A [(h0, Sum.inr (5, [Value.ref h1, Value.int n0_size, Value.ref h2, Value.int n0_ran])), (h1, Sum.inl (cint, 50, Sum.inl f1)), (h2, Sum.inl (cint, 24, Sum.inl f_154))] := hD
              exact hcut_149 (f_154) _ _ _ ⟨hP, hD, hS, lv_sub hl [0, 1, 2, 3, 4, 5, 6, 7] rfl⟩
        · have t_144 : 40 < p4.toInt := kk_nle c_144
          refine lv_iconst (v := 0) hx hb dX5_call_63 (by decide) ?_
          obtain ⟨hP9, hD9⟩ := kk_leafout (wc := [(h0, Sum.inr (5, [Value.ref h1, Value.int n0_size, Value.ref h2, Value.int n0_ran])), (h1, Sum.inl (cint, 50, Sum.inl f1)), (h2, Sum.inl (cint, 24, Sum.inl f2))]) hP hD [0, 1, 2] (by decide) rfl
          have hK9 := hK.sub (tys' := []) [] rfl
          exact W.iret (v := 0) hx hb hr (fun t ht hW => ⟨⟨0, (), rfl, trivial, n0_ran, f2, (by show 0 ≤ (n0_ran : Int32).toInt ∧ (n0_ran : Int32).toInt ≤ 1000; first | decide | (constructor <;> (have := kk_rng p4; omega))), (by show (n0_ran : Int32).toInt ≤ (n0_ran : Int32).toInt + 11; first | decide | (have := kk_rng p4; omega)), by rw [ht]; exact hP9, va_K.moved hW.alike hK9, hD9⟩, hS.F ht⟩) hS.2.2 dX5_call_64
    · skip
      have t_142_0 : (0 : Int) ≤ 4 := t_142_0
      have t_142_1 : (4 : Int) < 8 := t_142_1
      refine lv_if_eq (tgt := 48) hx hb dX5_call_18 (by decide) (fun c => absurd c (by decide)) (fun _ => ?_)
      refine va_gets hx hb hZOWN_BODIES hS hown (hts (.fieldLink RX5 43 "KinkStreet$Lines" "OWN_BODIES" "[I") (List.mem_of_getElem? (i := 1) rfl)) (fun _ h9 => h9) dX5_call_21 ?_
      refine lv_iload hx hb dX5_call_24 (lv_at hl 1 rfl) ?_
      refine lv_iconst (v := 4) hx hb dX5_call_26 (by decide) ?_
      refine lv_imul hx hb dX5_call_27 ?_
      refine lv_topi (fun y_155 e_155 => ?_)
      obtain rfl : y_155 = 16 := e_155.trans (by decide)
      refine lv_iload_n hx hb dX5_call_28 rfl (lv_at hl 5 rfl) ?_
      refine lv_iadd hx hb dX5_call_29 ?_
      refine lv_topi (fun y_156 e_156 => ?_)
      obtain rfl : y_156 = 17 := e_156.trans (by decide)
      refine va_ti (v := .int 0) hx hb hTOWN_BODIES hS (by unfold vp_in; decide) rfl dX5_call_30 ?_
      refine lv_if_ne (tgt := 48) hx hb dX5_call_31 (by decide) (fun c => absurd c (by decide)) (fun _ => ?_)
      refine va_gets hx hb hZABOVE hS hown (hts (.fieldLink RX5 22 "KinkStreet$Lines" "ABOVE" "[I") (List.mem_of_getElem? (i := 2) rfl)) (fun _ h9 => h9) dX5_call_34 ?_
      refine lv_iload hx hb dX5_call_37 (lv_at hl 1 rfl) ?_
      refine va_ti (v := .int 3) hx hb hTABOVE hS (by unfold vp_in; decide) rfl dX5_call_39 ?_
      refine lv_istore (lv' := [(6, .int 3), (7, .int 0), (0, .ref h0), (1, .int p0), (2, .int 4), (3, .int 1), (4, .int p3), (5, .int p4)]) hx hb dX5_call_40 hl (by decide) rfl (fun ls hl => ?_)
      refine lv_iinc (v := 1) (lv' := [(7, .int 1), (6, .int 3), (0, .ref h0), (1, .int p0), (2, .int 4), (3, .int 1), (4, .int p3), (5, .int p4)]) hx hb dX5_call_42 hl (k := 1) rfl (by first | rfl | decide) (by decide) rfl (fun ls hl => ?_)
      refine lv_goto (tgt := 6) hx hb dX5_call_45 (by decide) ?_
      refine lv_iload hx hb dX5_call_6 (lv_at hl 0 rfl) ?_
      refine lv_bipush (v := 8) hx hb dX5_call_8 (by decide) ?_
      refine lv_icmp_ge (tgt := 48) hx hb dX5_call_10 (by decide) (fun c => absurd c (by decide)) (fun _ => ?_)
      refine lv_iload hx hb dX5_call_13 (lv_at hl 1 rfl) ?_
      obtain ⟨hPc, hDc, hFc⟩ := kk_cutout (wc := []) hP hD hS hA [] (by decide) rfl
      have hKc := hK.sub (tys' := []) [] rfl
      refine va_calli (va_runS (As := [.int 3]) (rest := []) ⟨hx, hb, hml, hown, hts⟩ (g_X5_isKind_0 l dC dI H.size 3) (va_cwS 1 hts gX5_call_X5_isKind rfl rfl rfl (by decide +kernel) ⟨Nat.le_of_ble_eq_true rfl, Nat.le_of_ble_eq_true rfl⟩) ⟨fun a U g mk q => by obtain ⟨q0, q1, qP, qK, qD⟩ := q; exact ⟨q0, q1, qP, va_K.moved (u := U) (U := U.calling g mk a) (Vm.Alike.refl U.vm) qK, qD⟩, fun U hU hW => ⟨rfl, by rw [hU], by rw [hU]; exact hPc, va_K.moved hW.alike hKc, hDc.weaken (fun _ _ _ _ => trivial)⟩⟩ rfl rfl hl.1 rfl (lv_room (Nat.le_of_ble_eq_true rfl)) dX5_call_15 ⟨Nat.le_of_ble_eq_true rfl, Nat.le_of_ble_eq_true rfl⟩) hS (fun q _ h => hFc q h) hFc (fun r_157 u t H1 locs ht hvm hw hB hz1 hk1 hS => ?_)
      obtain ⟨hP1, hK1, hD1⟩ := hB
      rw [ht] at hP1
      have hK1 := va_K.moved hvm.symm hK1
      obtain ⟨hP, hD⟩ := va_join (wr := [(h0, Sum.inr (5, [Value.ref h1, Value.int n0_size, Value.ref h2, Value.int n0_ran])), (h1, Sum.inl (cint, 50, Sum.inl f1)), (h2, Sum.inl (cint, 24, Sum.inl f2))]) (w1 := []) hP hD [] [0, 1, 2] rfl rfl (by decide) (by decide) hk1 hFc hP1 hD1
      generalize H1 = H at hP hS ⊢
      have hP : va_P (dC, dI) vwCl [(h0, Sum.inr (5, [Value.ref h1, Value.int n0_size, Value.ref h2, Value.int n0_ran])), (h1, Sum.inl (cint, 50, Sum.inl f1)), (h2, Sum.inl (cint, 24, Sum.inl f2))] H := hP
      have hD : va_D A [(h0, Sum.inr (5, [Value.ref h1, Value.int n0_size, Value.ref h2, Value.int n0_ran])), (h1, Sum.inl (cint, 50, Sum.inl f1)), (h2, Sum.inl (cint, 24, Sum.inl f2))] := hD
      rcases hw with ⟨rfl⟩ | ⟨t_157_0, t_157_1, rfl⟩
      · skip
        refine lv_if_eq (tgt := 48) hx hb dX5_call_18 (by decide) (fun _ => ?_) (fun c => absurd c (by decide))
        refine lv_iload hx hb dX5_call_48 (lv_at hl 1 rfl) ?_
        obtain ⟨hPc, hDc, hFc⟩ := kk_cutout (wc := []) hP hD hS hA [] (by decide) rfl
        have hKc := hK.sub (tys' := []) [] rfl
        refine va_calli (va_runS (As := [.int 3]) (rest := []) ⟨hx, hb, hml, hown, hts⟩ (g_X5_isKind_0 l dC dI H.size 3) (va_cwS 1 hts gX5_call_X5_isKind rfl rfl rfl (by decide +kernel) ⟨Nat.le_of_ble_eq_true rfl, Nat.le_of_ble_eq_true rfl⟩) ⟨fun a U g mk q => by obtain ⟨q0, q1, qP, qK, qD⟩ := q; exact ⟨q0, q1, qP, va_K.moved (u := U) (U := U.calling g mk a) (Vm.Alike.refl U.vm) qK, qD⟩, fun U hU hW => ⟨rfl, by rw [hU], by rw [hU]; exact hPc, va_K.moved hW.alike hKc, hDc.weaken (fun _ _ _ _ => trivial)⟩⟩ rfl rfl hl.1 rfl (lv_room (Nat.le_of_ble_eq_true rfl)) dX5_call_50 ⟨Nat.le_of_ble_eq_true rfl, Nat.le_of_ble_eq_true rfl⟩) hS (fun q _ h => hFc q h) hFc (fun r_158 u t H1 locs ht hvm hw hB hz1 hk1 hS => ?_)
        obtain ⟨hP1, hK1, hD1⟩ := hB
        rw [ht] at hP1
        have hK1 := va_K.moved hvm.symm hK1
        obtain ⟨hP, hD⟩ := va_join (wr := [(h0, Sum.inr (5, [Value.ref h1, Value.int n0_size, Value.ref h2, Value.int n0_ran])), (h1, Sum.inl (cint, 50, Sum.inl f1)), (h2, Sum.inl (cint, 24, Sum.inl f2))]) (w1 := []) hP hD [] [0, 1, 2] rfl rfl (by decide) (by decide) hk1 hFc hP1 hD1
        generalize H1 = H at hP hS ⊢
        have hP : va_P (dC, dI) vwCl [(h0, Sum.inr (5, [Value.ref h1, Value.int n0_size, Value.ref h2, Value.int n0_ran])), (h1, Sum.inl (cint, 50, Sum.inl f1)), (h2, Sum.inl (cint, 24, Sum.inl f2))] H := hP
        have hD : va_D A [(h0, Sum.inr (5, [Value.ref h1, Value.int n0_size, Value.ref h2, Value.int n0_ran])), (h1, Sum.inl (cint, 50, Sum.inl f1)), (h2, Sum.inl (cint, 24, Sum.inl f2))] := hD
        rcases hw with ⟨rfl⟩ | ⟨t_158_0, t_158_1, rfl⟩
        · skip
          refine lv_if_eq (tgt := 63) hx hb dX5_call_53 (by decide) (fun _ => ?_) (fun c => absurd c (by decide))
          refine lv_iconst (v := 0) hx hb dX5_call_63 (by decide) ?_
          obtain ⟨hP9, hD9⟩ := kk_leafout (wc := [(h0, Sum.inr (5, [Value.ref h1, Value.int n0_size, Value.ref h2, Value.int n0_ran])), (h1, Sum.inl (cint, 50, Sum.inl f1)), (h2, Sum.inl (cint, 24, Sum.inl f2))]) hP hD [0, 1, 2] (by decide) rfl
          have hK9 := hK.sub (tys' := []) [] rfl
          exact W.iret (v := 0) hx hb hr (fun t ht hW => ⟨⟨0, (), rfl, trivial, n0_ran, f2, (by show 0 ≤ (n0_ran : Int32).toInt ∧ (n0_ran : Int32).toInt ≤ 1000; first | decide | (constructor <;> (omega))), (by show (n0_ran : Int32).toInt ≤ (n0_ran : Int32).toInt + 11; first | decide | (omega)), by rw [ht]; exact hP9, va_K.moved hW.alike hK9, hD9⟩, hS.F ht⟩) hS.2.2 dX5_call_64
        · skip
          have t_158_0 : (0 : Int) ≤ 3 := t_158_0
          have t_158_1 : (3 : Int) < 8 := t_158_1
          refine lv_if_eq (tgt := 63) hx hb dX5_call_53 (by decide) (fun c => absurd c (by decide)) (fun _ => ?_)
          refine lv_iload hx hb dX5_call_56 (lv_at hl 7 rfl) ?_
          refine lv_bipush (v := 40) hx hb dX5_call_58 (by decide) ?_
          refine lv_icmp_le (tgt := 65) hx hb dX5_call_60 (by decide) (fun c_159 => ?_) (fun c_159 => ?_)
          · have t_159 : p4.toInt ≤ 40 := kk_le c_159
            refine va_gets hx hb hZOWN_BODIES hS hown (hts (.fieldLink RX5 43 "KinkStreet$Lines" "OWN_BODIES" "[I") (List.mem_of_getElem? (i := 1) rfl)) (fun _ h9 => h9) dX5_call_65 ?_
            refine lv_iload hx hb dX5_call_68 (lv_at hl 1 rfl) ?_
            refine lv_iconst (v := 4) hx hb dX5_call_70 (by decide) ?_
            refine lv_imul hx hb dX5_call_71 ?_
            refine lv_topi (fun y_160 e_160 => ?_)
            obtain rfl : y_160 = 12 := e_160.trans (by decide)
            refine lv_iload_n hx hb dX5_call_72 rfl (lv_at hl 5 rfl) ?_
            refine lv_iadd hx hb dX5_call_73 ?_
            refine lv_topi (fun y_161 e_161 => ?_)
            obtain rfl : y_161 = 13 := e_161.trans (by decide)
            refine va_ti (v := .int 0) hx hb hTOWN_BODIES hS (by unfold vp_in; decide) rfl dX5_call_74 ?_
            refine lv_istore (lv' := [(7, .int 0), (6, .int 3), (0, .ref h0), (1, .int p0), (2, .int 4), (3, .int 1), (4, .int p3), (5, .int p4)]) hx hb dX5_call_75 hl (by decide) rfl (fun ls hl => ?_)
            refine lv_aload_n hx hb dX5_call_77 rfl (lv_at hl 2 rfl) ?_
            refine va_get (D := (dC, dI)) (ci := 5) (v := .int n0_ran) (C := RX5) (T := TX5) (N := 4) hx hb hts (fun _ h => List.mem_cons_of_mem _ (List.mem_append_right _ h)) hown hK hP 0 rfl rfl 3 (by decide) (hts (.fieldLink RX5 36 "KinkStreet$Lines" "ran" "I") (List.mem_of_getElem? (i := 3) rfl)) (fun _ h9 => h9) rfl dX5_call_78 ?_
            refine lv_bipush (v := 24) hx hb dX5_call_81 (by decide) ?_
            refine kk_cut (σ := (Nat → Int32)) (pc' := 97) (fun x H locs ls => va_P (dC, dI) vwCl [(h0, Sum.inr (5, [Value.ref h1, Value.int n0_size, Value.ref h2, Value.int n0_ran])), (h1, Sum.inl (cint, 50, Sum.inl f1)), (h2, Sum.inl (cint, 24, Sum.inl x))] H ∧ va_D A [(h0, Sum.inr (5, [Value.ref h1, Value.int n0_size, Value.ref h2, Value.int n0_ran])), (h1, Sum.inl (cint, 50, Sum.inl f1)), (h2, Sum.inl (cint, 24, Sum.inl x))] ∧ va_S A s.heap H locs ∧ lv_has ls 8 [(7, .int 0), (6, .int 3), (0, .ref h0), (1, .int p0), (2, .int 4), (3, .int 1), (4, .int p3), (5, .int p4)]) ?_ (fun hcut_164 => ?_)
            · rintro f_164_0 H locs ls ⟨hP, hD, hS, hl⟩
              have hl : lv_has ls 8 [(7, .int 0), (6, .int 3), (0, .ref h0), (1, .int p0), (2, .int 4), (3, .int 1), (4, .int p3), (5, .int p4)] := hl
              have hP : va_P (dC, dI) vwCl [(h0, Sum.inr (5, [Value.ref h1, Value.int n0_size, Value.ref h2, Value.int n0_ran])), (h1, Sum.inl (cint, 50, Sum.inl f1)), (h2, Sum.inl (cint, 24, Sum.inl f_164_0))] H := hP
              have hD : va_D A [(h0, Sum.inr (5, [Value.ref h1, Value.int n0_size, Value.ref h2, Value.int n0_ran])), (h1, Sum.inl (cint, 50, Sum.inl f1)), (h2, Sum.inl (cint, 24, Sum.inl f_164_0))] := hD
              refine lv_aload_n hx hb dX5_call_97 rfl (lv_at hl 2 rfl) ?_
              refine lv_dup hx hb dX5_call_98 rfl ?_
              refine va_get (D := (dC, dI)) (ci := 5) (v := .int n0_ran) (C := RX5) (T := TX5) (N := 4) hx hb hts (fun _ h => List.mem_cons_of_mem _ (List.mem_append_right _ h)) hown hK hP 0 rfl rfl 3 (by decide) (hts (.fieldLink RX5 36 "KinkStreet$Lines" "ran" "I") (List.mem_of_getElem? (i := 3) rfl)) (fun _ h9 => h9) rfl dX5_call_99 ?_
              refine lv_iconst (v := 1) hx hb dX5_call_102 (by decide) ?_
              refine lv_iadd hx hb dX5_call_103 ?_
              refine va_put (D := (dC, dI)) (ci := 5) (v := .int (n0_ran + 1)) (ty := .int) (C := RX5) (T := TX5) (N := 4) hx hb hts (fun _ h => List.mem_cons_of_mem _ (List.mem_append_right _ h)) tyX5 tyX5_ok nmX5 hown hK hP hD hS 0 rfl rfl 3 (by decide) (hts (.fieldLink RX5 36 "KinkStreet$Lines" "ran" "I") (List.mem_of_getElem? (i := 3) rfl)) (fun _ h9 => h9) rfl (by decide +kernel) rfl rfl (Nat.le_of_ble_eq_true rfl) dX5_call_104 (fun H locs hP hD hS => ?_)
              have hP : va_P (dC, dI) vwCl [(h0, Sum.inr (5, [Value.ref h1, Value.int n0_size, Value.ref h2, Value.int (n0_ran + 1)])), (h1, Sum.inl (cint, 50, Sum.inl f1)), (h2, Sum.inl (cint, 24, Sum.inl f_164_0))] H := hP
              have hD : va_D A [(h0, Sum.inr (5, [Value.ref h1, Value.int n0_size, Value.ref h2, Value.int (n0_ran + 1)])), (h1, Sum.inl (cint, 50, Sum.inl f1)), (h2, Sum.inl (cint, 24, Sum.inl f_164_0))] := hD
              refine lv_iload hx hb dX5_call_107 (lv_at hl 1 rfl) ?_
              refine lv_if_ne (tgt := 128) hx hb dX5_call_109 (by decide) (fun _ => ?_) (fun c => absurd c (by decide))
              refine lv_aload_n hx hb dX5_call_128 rfl (lv_at hl 2 rfl) ?_
              refine lv_iload_n hx hb dX5_call_129 rfl (lv_at hl 3 rfl) ?_
              refine lv_iload hx hb dX5_call_130 (lv_at hl 1 rfl) ?_
              refine lv_iload hx hb dX5_call_132 (lv_at hl 0 rfl) ?_
              refine lv_iload hx hb dX5_call_134 (lv_at hl 6 rfl) ?_
              refine lv_iload hx hb dX5_call_136 (lv_at hl 7 rfl) ?_
              refine lv_iconst (v := 1) hx hb dX5_call_138 (by decide) ?_
              refine lv_iadd hx hb dX5_call_139 ?_
              obtain ⟨hPc, hDc, hFc⟩ := kk_cutout (wc := [(h0, Sum.inr (5, [Value.ref h1, Value.int n0_size, Value.ref h2, Value.int (n0_ran + 1)])), (h1, Sum.inl (cint, 50, Sum.inl f1)), (h2, Sum.inl (cint, 24, Sum.inl f_164_0))]) hP hD hS hA [0, 1, 2] (by decide) rfl
              have hKc := hK.sub (tys' := [(cint, .int)]) [0] rfl
              refine va_calli (va_runV (As := [.int p0, .int 3, .int 0, .int p3, .int (p4 + 1)]) (rest := []) ⟨hx, hb, hml, hown, hts⟩ (g_X5_runUnder_2 l dC dI h0 h1 h2 cint H.size p0 p3 (p4 + 1) n0_size (n0_ran + 1) f1 f_164_0 tn0_size (by show 0 ≤ ((n0_ran + 1) : Int32).toInt ∧ ((n0_ran + 1) : Int32).toInt ≤ 999; first | decide | (constructor <;> (have := kk_rng p4; have := kk_add2 (x := n0_ran) (y := 1) (a := n0_ran.toInt) (b := 1) rfl rfl (by omega) (by omega); have := kk_rng p4; have := kk_add2 (x := p4) (y := 1) (a := p4.toInt) (b := 1) rfl rfl (by omega) (by omega); omega))) bf1 aOWN_BODIES aABOVE) (cwV 5 hts gX5_call_X5_runUnder rfl rfl rfl (by decide +kernel) ⟨Nat.le_of_ble_eq_true rfl, Nat.le_of_ble_eq_true rfl⟩) ⟨fun a U g mk q => by obtain ⟨q0, q1, qP, qK, qD, qx0, qx1, qx2, qx3⟩ := q; exact ⟨q0, q1, qP, va_K.moved (u := U) (U := U.calling g mk a) (Vm.Alike.refl U.vm) qK, qD, va_Z.moved (u := U) (U := U.calling g mk a) (Vm.Alike.refl U.vm) qx0, va_T.moved (u := U) (U := U.calling g mk a) (Vm.Alike.refl U.vm) qx1, va_Z.moved (u := U) (U := U.calling g mk a) (Vm.Alike.refl U.vm) qx2, va_T.moved (u := U) (U := U.calling g mk a) (Vm.Alike.refl U.vm) qx3⟩, va_recv hKc hPc (ci := 5) (q0 := 0) rfl rfl, fun U hU hW => ⟨rfl, by rw [hU], by rw [hU]; exact hPc, va_K.moved hW.alike hKc, hDc.weaken (fun _ _ _ _ => trivial), by rw [hU]; exact ((hZOWN_BODIES.kept (fun a h1 h2 => hS.2.1 a h1 h2)).narrow hFc).moved hW.alike, by rw [hU]; exact ((hTOWN_BODIES.kept (fun a h1 h2 => hS.2.1 a h1 h2)).narrow hFc).moved hW.alike, by rw [hU]; exact ((hZABOVE.kept (fun a h1 h2 => hS.2.1 a h1 h2)).narrow hFc).moved hW.alike, by rw [hU]; exact ((hTABOVE.kept (fun a h1 h2 => hS.2.1 a h1 h2)).narrow hFc).moved hW.alike⟩⟩ rfl rfl hl.1 rfl (lv_room (Nat.le_of_ble_eq_true rfl)) dX5_call_140 ⟨Nat.le_of_ble_eq_true rfl, Nat.le_of_ble_eq_true rfl⟩) hS (fun q _ h => hFc q h) hFc (fun r_165 u t H1 locs ht hvm hw hB hz1 hk1 hS => ?_)
              obtain ⟨y_166, f_167, by_166, v_167_0, hP1, hK1, hD1⟩ := hB
              have v_167_0 : y_166.toInt ≤ (n0_ran + 1).toInt + 1 := v_167_0
              rw [ht] at hP1
              have hK1 := va_K.moved hvm.symm hK1
              obtain ⟨hP, hD⟩ := va_join (wr := []) (w1 := [(h0, Sum.inr (5, [Value.ref h1, Value.int n0_size, Value.ref h2, Value.int y_166])), (h1, Sum.inl (cint, 50, Sum.inl f1)), (h2, Sum.inl (cint, 24, Sum.inl f_167))]) hP hD [0, 1, 2] [] rfl rfl (by decide) (by decide) hk1 hFc hP1 hD1
              generalize H1 = H at hP hS ⊢
              have hP : va_P (dC, dI) vwCl [(h0, Sum.inr (5, [Value.ref h1, Value.int n0_size, Value.ref h2, Value.int y_166])), (h1, Sum.inl (cint, 50, Sum.inl f1)), (h2, Sum.inl (cint, 24, Sum.inl f_167))] H := hP
              have hD : va_D A [(h0, Sum.inr (5, [Value.ref h1, Value.int n0_size, Value.ref h2, Value.int y_166])), (h1, Sum.inl (cint, 50, Sum.inl f1)), (h2, Sum.inl (cint, 24, Sum.inl f_167))] := hD
              obtain ⟨hP9, hD9⟩ := kk_leafout (wc := [(h0, Sum.inr (5, [Value.ref h1, Value.int n0_size, Value.ref h2, Value.int y_166])), (h1, Sum.inl (cint, 50, Sum.inl f1)), (h2, Sum.inl (cint, 24, Sum.inl f_167))]) hP hD [0, 1, 2] (by decide) rfl
              have hK9 := hK.sub (tys' := []) [] rfl
              exact W.iret (v := r_165) hx hb hr (fun t ht hW => ⟨⟨r_165, (), rfl, trivial, y_166, f_167, (by show 0 ≤ (y_166 : Int32).toInt ∧ (y_166 : Int32).toInt ≤ 1000; first | decide | (constructor <;> (have := kk_rng p4; have := kk_add2 (x := n0_ran) (y := 1) (a := n0_ran.toInt) (b := 1) rfl rfl (by omega) (by omega); have := kk_rng p4; have := kk_add2 (x := p4) (y := 1) (a := p4.toInt) (b := 1) rfl rfl (by omega) (by omega); omega))), (by show (y_166 : Int32).toInt ≤ (n0_ran : Int32).toInt + 11; first | decide | (have := kk_rng p4; have := kk_add2 (x := n0_ran) (y := 1) (a := n0_ran.toInt) (b := 1) rfl rfl (by omega) (by omega); have := kk_rng p4; have := kk_add2 (x := p4) (y := 1) (a := p4.toInt) (b := 1) rfl rfl (by omega) (by omega); omega)), by rw [ht]; exact hP9, va_K.moved hW.alike hK9, hD9⟩, hS.F ht⟩) hS.2.2 dX5_call_143
            · skip
              refine lv_icmp_ge (tgt := 97) hx hb dX5_call_83 (by decide) (fun c_168 => ?_) (fun c_168 => ?_)
              · have t_168 : 24 ≤ n0_ran.toInt := kk_le c_168
                exact hcut_164 (f2) _ _ _ ⟨hP, hD, hS, lv_sub hl [0, 1, 2, 3, 4, 5, 6, 7] rfl⟩
              · have t_168 : n0_ran.toInt < 24 := kk_nle c_168
                refine lv_aload_n hx hb dX5_call_86 rfl (lv_at hl 2 rfl) ?_
                refine va_get (D := (dC, dI)) (ci := 5) (v := .ref h2) (C := RX5) (T := TX5) (N := 4) hx hb hts (fun _ h => List.mem_cons_of_mem _ (List.mem_append_right _ h)) hown hK hP 0 rfl rfl 2 (by decide) (hts (.fieldLink RX5 15 "KinkStreet$Lines" "trace" "[I") (List.mem_of_getElem? (i := 4) rfl)) (fun _ h9 => h9) rfl dX5_call_87 ?_
                refine lv_aload_n hx hb dX5_call_90 rfl (lv_at hl 2 rfl) ?_
                refine va_get (D := (dC, dI)) (ci := 5) (v := .int n0_ran) (C := RX5) (T := TX5) (N := 4) hx hb hts (fun _ h => List.mem_cons_of_mem _ (List.mem_append_right _ h)) hown hK hP 0 rfl rfl 3 (by decide) (hts (.fieldLink RX5 36 "KinkStreet$Lines" "ran" "I") (List.mem_of_getElem? (i := 3) rfl)) (fun _ h9 => h9) rfl dX5_call_91 ?_
                refine lv_iload hx hb dX5_call_94 (lv_at hl 0 rfl) ?_
                refine va_iast hx hb hK hP hD hS 2 0 rfl rfl (vp_in_iff.mpr ⟨by have := kk_rng p4; omega, by have := kk_rng p4; omega⟩) dX5_call_96 (fun H locs hP hD hS => ?_)
                generalize upd f2 (n0_ran : Int32).toNatClampNeg 0 = f_169 at hP hD
                have hP : va_P (dC, dI) vwCl [(h0, Sum.inr (5, [Value.ref h1, Value.int n0_size, Value.ref h2, Value.int n0_ran])), (h1, Sum.inl (cint, 50, Sum.inl f1)), (h2, Sum.inl (cint, 24, Sum.inl f_169))] H := hP
                have hD : va_D A [(h0, Sum.inr (5, [Value.ref h1, Value.int n0_size, Value.ref h2, Value.int n0_ran])), (h1, Sum.inl (cint, 50, Sum.inl f1)), (h2, Sum.inl (cint, 24, Sum.inl f_169))] := hD
                exact hcut_164 (f_169) _ _ _ ⟨hP, hD, hS, lv_sub hl [0, 1, 2, 3, 4, 5, 6, 7] rfl⟩
          · have t_159 : 40 < p4.toInt := kk_nle c_159
            refine lv_iconst (v := 0) hx hb dX5_call_63 (by decide) ?_
            obtain ⟨hP9, hD9⟩ := kk_leafout (wc := [(h0, Sum.inr (5, [Value.ref h1, Value.int n0_size, Value.ref h2, Value.int n0_ran])), (h1, Sum.inl (cint, 50, Sum.inl f1)), (h2, Sum.inl (cint, 24, Sum.inl f2))]) hP hD [0, 1, 2] (by decide) rfl
            have hK9 := hK.sub (tys' := []) [] rfl
            exact W.iret (v := 0) hx hb hr (fun t ht hW => ⟨⟨0, (), rfl, trivial, n0_ran, f2, (by show 0 ≤ (n0_ran : Int32).toInt ∧ (n0_ran : Int32).toInt ≤ 1000; first | decide | (constructor <;> (have := kk_rng p4; omega))), (by show (n0_ran : Int32).toInt ≤ (n0_ran : Int32).toInt + 11; first | decide | (have := kk_rng p4; omega)), by rw [ht]; exact hP9, va_K.moved hW.alike hK9, hD9⟩, hS.F ht⟩) hS.2.2 dX5_call_64
      · skip
        have t_157_0 : (0 : Int) ≤ 3 := t_157_0
        have t_157_1 : (3 : Int) < 8 := t_157_1
        refine lv_if_eq (tgt := 48) hx hb dX5_call_18 (by decide) (fun c => absurd c (by decide)) (fun _ => ?_)
        refine va_gets hx hb hZOWN_BODIES hS hown (hts (.fieldLink RX5 43 "KinkStreet$Lines" "OWN_BODIES" "[I") (List.mem_of_getElem? (i := 1) rfl)) (fun _ h9 => h9) dX5_call_21 ?_
        refine lv_iload hx hb dX5_call_24 (lv_at hl 1 rfl) ?_
        refine lv_iconst (v := 4) hx hb dX5_call_26 (by decide) ?_
        refine lv_imul hx hb dX5_call_27 ?_
        refine lv_topi (fun y_170 e_170 => ?_)
        obtain rfl : y_170 = 12 := e_170.trans (by decide)
        refine lv_iload_n hx hb dX5_call_28 rfl (lv_at hl 5 rfl) ?_
        refine lv_iadd hx hb dX5_call_29 ?_
        refine lv_topi (fun y_171 e_171 => ?_)
        obtain rfl : y_171 = 13 := e_171.trans (by decide)
        refine va_ti (v := .int 0) hx hb hTOWN_BODIES hS (by unfold vp_in; decide) rfl dX5_call_30 ?_
        refine lv_if_ne (tgt := 48) hx hb dX5_call_31 (by decide) (fun c => absurd c (by decide)) (fun _ => ?_)
        refine va_gets hx hb hZABOVE hS hown (hts (.fieldLink RX5 22 "KinkStreet$Lines" "ABOVE" "[I") (List.mem_of_getElem? (i := 2) rfl)) (fun _ h9 => h9) dX5_call_34 ?_
        refine lv_iload hx hb dX5_call_37 (lv_at hl 1 rfl) ?_
        refine va_ti (v := .int 0) hx hb hTABOVE hS (by unfold vp_in; decide) rfl dX5_call_39 ?_
        refine lv_istore (lv' := [(6, .int 0), (7, .int 1), (0, .ref h0), (1, .int p0), (2, .int 4), (3, .int 1), (4, .int p3), (5, .int p4)]) hx hb dX5_call_40 hl (by decide) rfl (fun ls hl => ?_)
        refine lv_iinc (v := 2) (lv' := [(7, .int 2), (6, .int 0), (0, .ref h0), (1, .int p0), (2, .int 4), (3, .int 1), (4, .int p3), (5, .int p4)]) hx hb dX5_call_42 hl (k := 1) rfl (by first | rfl | decide) (by decide) rfl (fun ls hl => ?_)
        refine lv_goto (tgt := 6) hx hb dX5_call_45 (by decide) ?_
        refine lv_iload hx hb dX5_call_6 (lv_at hl 0 rfl) ?_
        refine lv_bipush (v := 8) hx hb dX5_call_8 (by decide) ?_
        refine lv_icmp_ge (tgt := 48) hx hb dX5_call_10 (by decide) (fun c => absurd c (by decide)) (fun _ => ?_)
        refine lv_iload hx hb dX5_call_13 (lv_at hl 1 rfl) ?_
        obtain ⟨hPc, hDc, hFc⟩ := kk_cutout (wc := []) hP hD hS hA [] (by decide) rfl
        have hKc := hK.sub (tys' := []) [] rfl
        refine va_calli (va_runS (As := [.int 0]) (rest := []) ⟨hx, hb, hml, hown, hts⟩ (g_X5_isKind_0 l dC dI H.size 0) (va_cwS 1 hts gX5_call_X5_isKind rfl rfl rfl (by decide +kernel) ⟨Nat.le_of_ble_eq_true rfl, Nat.le_of_ble_eq_true rfl⟩) ⟨fun a U g mk q => by obtain ⟨q0, q1, qP, qK, qD⟩ := q; exact ⟨q0, q1, qP, va_K.moved (u := U) (U := U.calling g mk a) (Vm.Alike.refl U.vm) qK, qD⟩, fun U hU hW => ⟨rfl, by rw [hU], by rw [hU]; exact hPc, va_K.moved hW.alike hKc, hDc.weaken (fun _ _ _ _ => trivial)⟩⟩ rfl rfl hl.1 rfl (lv_room (Nat.le_of_ble_eq_true rfl)) dX5_call_15 ⟨Nat.le_of_ble_eq_true rfl, Nat.le_of_ble_eq_true rfl⟩) hS (fun q _ h => hFc q h) hFc (fun r_172 u t H1 locs ht hvm hw hB hz1 hk1 hS => ?_)
        obtain ⟨hP1, hK1, hD1⟩ := hB
        rw [ht] at hP1
        have hK1 := va_K.moved hvm.symm hK1
        obtain ⟨hP, hD⟩ := va_join (wr := [(h0, Sum.inr (5, [Value.ref h1, Value.int n0_size, Value.ref h2, Value.int n0_ran])), (h1, Sum.inl (cint, 50, Sum.inl f1)), (h2, Sum.inl (cint, 24, Sum.inl f2))]) (w1 := []) hP hD [] [0, 1, 2] rfl rfl (by decide) (by decide) hk1 hFc hP1 hD1
        generalize H1 = H at hP hS ⊢
        have hP : va_P (dC, dI) vwCl [(h0, Sum.inr (5, [Value.ref h1, Value.int n0_size, Value.ref h2, Value.int n0_ran])), (h1, Sum.inl (cint, 50, Sum.inl f1)), (h2, Sum.inl (cint, 24, Sum.inl f2))] H := hP
        have hD : va_D A [(h0, Sum.inr (5, [Value.ref h1, Value.int n0_size, Value.ref h2, Value.int n0_ran])), (h1, Sum.inl (cint, 50, Sum.inl f1)), (h2, Sum.inl (cint, 24, Sum.inl f2))] := hD
        rcases hw with ⟨rfl⟩ | ⟨t_172_0, t_172_1, rfl⟩
        · skip
          refine lv_if_eq (tgt := 48) hx hb dX5_call_18 (by decide) (fun _ => ?_) (fun c => absurd c (by decide))
          refine lv_iload hx hb dX5_call_48 (lv_at hl 1 rfl) ?_
          obtain ⟨hPc, hDc, hFc⟩ := kk_cutout (wc := []) hP hD hS hA [] (by decide) rfl
          have hKc := hK.sub (tys' := []) [] rfl
          refine va_calli (va_runS (As := [.int 0]) (rest := []) ⟨hx, hb, hml, hown, hts⟩ (g_X5_isKind_0 l dC dI H.size 0) (va_cwS 1 hts gX5_call_X5_isKind rfl rfl rfl (by decide +kernel) ⟨Nat.le_of_ble_eq_true rfl, Nat.le_of_ble_eq_true rfl⟩) ⟨fun a U g mk q => by obtain ⟨q0, q1, qP, qK, qD⟩ := q; exact ⟨q0, q1, qP, va_K.moved (u := U) (U := U.calling g mk a) (Vm.Alike.refl U.vm) qK, qD⟩, fun U hU hW => ⟨rfl, by rw [hU], by rw [hU]; exact hPc, va_K.moved hW.alike hKc, hDc.weaken (fun _ _ _ _ => trivial)⟩⟩ rfl rfl hl.1 rfl (lv_room (Nat.le_of_ble_eq_true rfl)) dX5_call_50 ⟨Nat.le_of_ble_eq_true rfl, Nat.le_of_ble_eq_true rfl⟩) hS (fun q _ h => hFc q h) hFc (fun r_173 u t H1 locs ht hvm hw hB hz1 hk1 hS => ?_)
          obtain ⟨hP1, hK1, hD1⟩ := hB
          rw [ht] at hP1
          have hK1 := va_K.moved hvm.symm hK1
          obtain ⟨hP, hD⟩ := va_join (wr := [(h0, Sum.inr (5, [Value.ref h1, Value.int n0_size, Value.ref h2, Value.int n0_ran])), (h1, Sum.inl (cint, 50, Sum.inl f1)), (h2, Sum.inl (cint, 24, Sum.inl f2))]) (w1 := []) hP hD [] [0, 1, 2] rfl rfl (by decide) (by decide) hk1 hFc hP1 hD1
          generalize H1 = H at hP hS ⊢
          have hP : va_P (dC, dI) vwCl [(h0, Sum.inr (5, [Value.ref h1, Value.int n0_size, Value.ref h2, Value.int n0_ran])), (h1, Sum.inl (cint, 50, Sum.inl f1)), (h2, Sum.inl (cint, 24, Sum.inl f2))] H := hP
          have hD : va_D A [(h0, Sum.inr (5, [Value.ref h1, Value.int n0_size, Value.ref h2, Value.int n0_ran])), (h1, Sum.inl (cint, 50, Sum.inl f1)), (h2, Sum.inl (cint, 24, Sum.inl f2))] := hD
          rcases hw with ⟨rfl⟩ | ⟨t_173_0, t_173_1, rfl⟩
          · skip
            refine lv_if_eq (tgt := 63) hx hb dX5_call_53 (by decide) (fun _ => ?_) (fun c => absurd c (by decide))
            refine lv_iconst (v := 0) hx hb dX5_call_63 (by decide) ?_
            obtain ⟨hP9, hD9⟩ := kk_leafout (wc := [(h0, Sum.inr (5, [Value.ref h1, Value.int n0_size, Value.ref h2, Value.int n0_ran])), (h1, Sum.inl (cint, 50, Sum.inl f1)), (h2, Sum.inl (cint, 24, Sum.inl f2))]) hP hD [0, 1, 2] (by decide) rfl
            have hK9 := hK.sub (tys' := []) [] rfl
            exact W.iret (v := 0) hx hb hr (fun t ht hW => ⟨⟨0, (), rfl, trivial, n0_ran, f2, (by show 0 ≤ (n0_ran : Int32).toInt ∧ (n0_ran : Int32).toInt ≤ 1000; first | decide | (constructor <;> (omega))), (by show (n0_ran : Int32).toInt ≤ (n0_ran : Int32).toInt + 11; first | decide | (omega)), by rw [ht]; exact hP9, va_K.moved hW.alike hK9, hD9⟩, hS.F ht⟩) hS.2.2 dX5_call_64
          · skip
            have t_173_0 : (0 : Int) ≤ 0 := t_173_0
            have t_173_1 : (0 : Int) < 8 := t_173_1
            refine lv_if_eq (tgt := 63) hx hb dX5_call_53 (by decide) (fun c => absurd c (by decide)) (fun _ => ?_)
            refine lv_iload hx hb dX5_call_56 (lv_at hl 7 rfl) ?_
            refine lv_bipush (v := 40) hx hb dX5_call_58 (by decide) ?_
            refine lv_icmp_le (tgt := 65) hx hb dX5_call_60 (by decide) (fun c_174 => ?_) (fun c_174 => ?_)
            · have t_174 : p4.toInt ≤ 40 := kk_le c_174
              refine va_gets hx hb hZOWN_BODIES hS hown (hts (.fieldLink RX5 43 "KinkStreet$Lines" "OWN_BODIES" "[I") (List.mem_of_getElem? (i := 1) rfl)) (fun _ h9 => h9) dX5_call_65 ?_
              refine lv_iload hx hb dX5_call_68 (lv_at hl 1 rfl) ?_
              refine lv_iconst (v := 4) hx hb dX5_call_70 (by decide) ?_
              refine lv_imul hx hb dX5_call_71 ?_
              refine lv_topi (fun y_175 e_175 => ?_)
              obtain rfl : y_175 = 0 := e_175.trans (by decide)
              refine lv_iload_n hx hb dX5_call_72 rfl (lv_at hl 5 rfl) ?_
              refine lv_iadd hx hb dX5_call_73 ?_
              refine lv_topi (fun y_176 e_176 => ?_)
              obtain rfl : y_176 = 1 := e_176.trans (by decide)
              refine va_ti (v := .int 10) hx hb hTOWN_BODIES hS (by unfold vp_in; decide) rfl dX5_call_74 ?_
              refine lv_istore (lv' := [(7, .int 10), (6, .int 0), (0, .ref h0), (1, .int p0), (2, .int 4), (3, .int 1), (4, .int p3), (5, .int p4)]) hx hb dX5_call_75 hl (by decide) rfl (fun ls hl => ?_)
              refine lv_aload_n hx hb dX5_call_77 rfl (lv_at hl 2 rfl) ?_
              refine va_get (D := (dC, dI)) (ci := 5) (v := .int n0_ran) (C := RX5) (T := TX5) (N := 4) hx hb hts (fun _ h => List.mem_cons_of_mem _ (List.mem_append_right _ h)) hown hK hP 0 rfl rfl 3 (by decide) (hts (.fieldLink RX5 36 "KinkStreet$Lines" "ran" "I") (List.mem_of_getElem? (i := 3) rfl)) (fun _ h9 => h9) rfl dX5_call_78 ?_
              refine lv_bipush (v := 24) hx hb dX5_call_81 (by decide) ?_
              refine kk_cut (σ := (Nat → Int32)) (pc' := 97) (fun x H locs ls => va_P (dC, dI) vwCl [(h0, Sum.inr (5, [Value.ref h1, Value.int n0_size, Value.ref h2, Value.int n0_ran])), (h1, Sum.inl (cint, 50, Sum.inl f1)), (h2, Sum.inl (cint, 24, Sum.inl x))] H ∧ va_D A [(h0, Sum.inr (5, [Value.ref h1, Value.int n0_size, Value.ref h2, Value.int n0_ran])), (h1, Sum.inl (cint, 50, Sum.inl f1)), (h2, Sum.inl (cint, 24, Sum.inl x))] ∧ va_S A s.heap H locs ∧ lv_has ls 8 [(7, .int 10), (6, .int 0), (0, .ref h0), (1, .int p0), (2, .int 4), (3, .int 1), (4, .int p3), (5, .int p4)]) ?_ (fun hcut_179 => ?_)
              · rintro f_179_0 H locs ls ⟨hP, hD, hS, hl⟩
                have hl : lv_has ls 8 [(7, .int 10), (6, .int 0), (0, .ref h0), (1, .int p0), (2, .int 4), (3, .int 1), (4, .int p3), (5, .int p4)] := hl
                have hP : va_P (dC, dI) vwCl [(h0, Sum.inr (5, [Value.ref h1, Value.int n0_size, Value.ref h2, Value.int n0_ran])), (h1, Sum.inl (cint, 50, Sum.inl f1)), (h2, Sum.inl (cint, 24, Sum.inl f_179_0))] H := hP
                have hD : va_D A [(h0, Sum.inr (5, [Value.ref h1, Value.int n0_size, Value.ref h2, Value.int n0_ran])), (h1, Sum.inl (cint, 50, Sum.inl f1)), (h2, Sum.inl (cint, 24, Sum.inl f_179_0))] := hD
                refine lv_aload_n hx hb dX5_call_97 rfl (lv_at hl 2 rfl) ?_
                refine lv_dup hx hb dX5_call_98 rfl ?_
                refine va_get (D := (dC, dI)) (ci := 5) (v := .int n0_ran) (C := RX5) (T := TX5) (N := 4) hx hb hts (fun _ h => List.mem_cons_of_mem _ (List.mem_append_right _ h)) hown hK hP 0 rfl rfl 3 (by decide) (hts (.fieldLink RX5 36 "KinkStreet$Lines" "ran" "I") (List.mem_of_getElem? (i := 3) rfl)) (fun _ h9 => h9) rfl dX5_call_99 ?_
                refine lv_iconst (v := 1) hx hb dX5_call_102 (by decide) ?_
                refine lv_iadd hx hb dX5_call_103 ?_
                refine va_put (D := (dC, dI)) (ci := 5) (v := .int (n0_ran + 1)) (ty := .int) (C := RX5) (T := TX5) (N := 4) hx hb hts (fun _ h => List.mem_cons_of_mem _ (List.mem_append_right _ h)) tyX5 tyX5_ok nmX5 hown hK hP hD hS 0 rfl rfl 3 (by decide) (hts (.fieldLink RX5 36 "KinkStreet$Lines" "ran" "I") (List.mem_of_getElem? (i := 3) rfl)) (fun _ h9 => h9) rfl (by decide +kernel) rfl rfl (Nat.le_of_ble_eq_true rfl) dX5_call_104 (fun H locs hP hD hS => ?_)
                have hP : va_P (dC, dI) vwCl [(h0, Sum.inr (5, [Value.ref h1, Value.int n0_size, Value.ref h2, Value.int (n0_ran + 1)])), (h1, Sum.inl (cint, 50, Sum.inl f1)), (h2, Sum.inl (cint, 24, Sum.inl f_179_0))] H := hP
                have hD : va_D A [(h0, Sum.inr (5, [Value.ref h1, Value.int n0_size, Value.ref h2, Value.int (n0_ran + 1)])), (h1, Sum.inl (cint, 50, Sum.inl f1)), (h2, Sum.inl (cint, 24, Sum.inl f_179_0))] := hD
                refine lv_iload hx hb dX5_call_107 (lv_at hl 1 rfl) ?_
                refine lv_if_ne (tgt := 128) hx hb dX5_call_109 (by decide) (fun c => absurd c (by decide)) (fun _ => ?_)
                refine lv_aload_n hx hb dX5_call_112 rfl (lv_at hl 2 rfl) ?_
                refine lv_iload_n hx hb dX5_call_113 rfl (lv_at hl 3 rfl) ?_
                refine lv_iload hx hb dX5_call_114 (lv_at hl 0 rfl) ?_
                refine lv_iload hx hb dX5_call_116 (lv_at hl 6 rfl) ?_
                refine lv_iload hx hb dX5_call_118 (lv_at hl 7 rfl) ?_
                refine lv_iconst (v := 1) hx hb dX5_call_120 (by decide) ?_
                refine lv_iadd hx hb dX5_call_121 ?_
                obtain ⟨hPc, hDc, hFc⟩ := kk_cutout (wc := [(h0, Sum.inr (5, [Value.ref h1, Value.int n0_size, Value.ref h2, Value.int (n0_ran + 1)])), (h1, Sum.inl (cint, 50, Sum.inl f1)), (h2, Sum.inl (cint, 24, Sum.inl f_179_0))]) hP hD hS hA [0, 1, 2] (by decide) rfl
                have hKc := hK.sub (tys' := [(cint, .int)]) [0] rfl
                refine va_calli (va_runV (As := [.int p0, .int 10, .int p3, .int (p4 + 1)]) (rest := []) ⟨hx, hb, hml, hown, hts⟩ (g_X5_runLine_2 l dC dI h0 h1 h2 cint H.size p0 p3 (p4 + 1) n0_size (n0_ran + 1) f1 f_179_0 tn0_size (by show 0 ≤ ((n0_ran + 1) : Int32).toInt ∧ ((n0_ran + 1) : Int32).toInt ≤ 997; first | decide | (constructor <;> (have := kk_rng p4; have := kk_add2 (x := n0_ran) (y := 1) (a := n0_ran.toInt) (b := 1) rfl rfl (by omega) (by omega); have := kk_rng p4; have := kk_add2 (x := p4) (y := 1) (a := p4.toInt) (b := 1) rfl rfl (by omega) (by omega); omega))) bf1 aOWN_BODIES aABOVE) (cwV 4 hts gX5_call_X5_runLine rfl rfl rfl (by decide +kernel) ⟨Nat.le_of_ble_eq_true rfl, Nat.le_of_ble_eq_true rfl⟩) ⟨fun a U g mk q => by obtain ⟨q0, q1, qP, qK, qD, qx0, qx1, qx2, qx3⟩ := q; exact ⟨q0, q1, qP, va_K.moved (u := U) (U := U.calling g mk a) (Vm.Alike.refl U.vm) qK, qD, va_Z.moved (u := U) (U := U.calling g mk a) (Vm.Alike.refl U.vm) qx0, va_T.moved (u := U) (U := U.calling g mk a) (Vm.Alike.refl U.vm) qx1, va_Z.moved (u := U) (U := U.calling g mk a) (Vm.Alike.refl U.vm) qx2, va_T.moved (u := U) (U := U.calling g mk a) (Vm.Alike.refl U.vm) qx3⟩, va_recv hKc hPc (ci := 5) (q0 := 0) rfl rfl, fun U hU hW => ⟨rfl, by rw [hU], by rw [hU]; exact hPc, va_K.moved hW.alike hKc, hDc.weaken (fun _ _ _ _ => trivial), by rw [hU]; exact ((hZOWN_BODIES.kept (fun a h1 h2 => hS.2.1 a h1 h2)).narrow hFc).moved hW.alike, by rw [hU]; exact ((hTOWN_BODIES.kept (fun a h1 h2 => hS.2.1 a h1 h2)).narrow hFc).moved hW.alike, by rw [hU]; exact ((hZABOVE.kept (fun a h1 h2 => hS.2.1 a h1 h2)).narrow hFc).moved hW.alike, by rw [hU]; exact ((hTABOVE.kept (fun a h1 h2 => hS.2.1 a h1 h2)).narrow hFc).moved hW.alike⟩⟩ rfl rfl hl.1 rfl (lv_room (Nat.le_of_ble_eq_true rfl)) dX5_call_122 ⟨Nat.le_of_ble_eq_true rfl, Nat.le_of_ble_eq_true rfl⟩) hS (fun q _ h => hFc q h) hFc (fun r_180 u t H1 locs ht hvm hw hB hz1 hk1 hS => ?_)
                obtain ⟨y_181, f_182, by_181, v_182_0, hP1, hK1, hD1⟩ := hB
                have v_182_0 : y_181.toInt ≤ (n0_ran + 1).toInt + 3 := v_182_0
                rw [ht] at hP1
                have hK1 := va_K.moved hvm.symm hK1
                obtain ⟨hP, hD⟩ := va_join (wr := []) (w1 := [(h0, Sum.inr (5, [Value.ref h1, Value.int n0_size, Value.ref h2, Value.int y_181])), (h1, Sum.inl (cint, 50, Sum.inl f1)), (h2, Sum.inl (cint, 24, Sum.inl f_182))]) hP hD [0, 1, 2] [] rfl rfl (by decide) (by decide) hk1 hFc hP1 hD1
                generalize H1 = H at hP hS ⊢
                have hP : va_P (dC, dI) vwCl [(h0, Sum.inr (5, [Value.ref h1, Value.int n0_size, Value.ref h2, Value.int y_181])), (h1, Sum.inl (cint, 50, Sum.inl f1)), (h2, Sum.inl (cint, 24, Sum.inl f_182))] H := hP
                have hD : va_D A [(h0, Sum.inr (5, [Value.ref h1, Value.int n0_size, Value.ref h2, Value.int y_181])), (h1, Sum.inl (cint, 50, Sum.inl f1)), (h2, Sum.inl (cint, 24, Sum.inl f_182))] := hD
                refine lv_goto (tgt := 143) hx hb dX5_call_125 (by decide) ?_
                obtain ⟨hP9, hD9⟩ := kk_leafout (wc := [(h0, Sum.inr (5, [Value.ref h1, Value.int n0_size, Value.ref h2, Value.int y_181])), (h1, Sum.inl (cint, 50, Sum.inl f1)), (h2, Sum.inl (cint, 24, Sum.inl f_182))]) hP hD [0, 1, 2] (by decide) rfl
                have hK9 := hK.sub (tys' := []) [] rfl
                exact W.iret (v := r_180) hx hb hr (fun t ht hW => ⟨⟨r_180, (), rfl, trivial, y_181, f_182, (by show 0 ≤ (y_181 : Int32).toInt ∧ (y_181 : Int32).toInt ≤ 1000; first | decide | (constructor <;> (have := kk_rng p4; have := kk_add2 (x := n0_ran) (y := 1) (a := n0_ran.toInt) (b := 1) rfl rfl (by omega) (by omega); have := kk_rng p4; have := kk_add2 (x := p4) (y := 1) (a := p4.toInt) (b := 1) rfl rfl (by omega) (by omega); omega))), (by show (y_181 : Int32).toInt ≤ (n0_ran : Int32).toInt + 11; first | decide | (have := kk_rng p4; have := kk_add2 (x := n0_ran) (y := 1) (a := n0_ran.toInt) (b := 1) rfl rfl (by omega) (by omega); have := kk_rng p4; have := kk_add2 (x := p4) (y := 1) (a := p4.toInt) (b := 1) rfl rfl (by omega) (by omega); omega)), by rw [ht]; exact hP9, va_K.moved hW.alike hK9, hD9⟩, hS.F ht⟩) hS.2.2 dX5_call_143
              · skip
                refine lv_icmp_ge (tgt := 97) hx hb dX5_call_83 (by decide) (fun c_183 => ?_) (fun c_183 => ?_)
                · have t_183 : 24 ≤ n0_ran.toInt := kk_le c_183
                  exact hcut_179 (f2) _ _ _ ⟨hP, hD, hS, lv_sub hl [0, 1, 2, 3, 4, 5, 6, 7] rfl⟩
                · have t_183 : n0_ran.toInt < 24 := kk_nle c_183
                  refine lv_aload_n hx hb dX5_call_86 rfl (lv_at hl 2 rfl) ?_
                  refine va_get (D := (dC, dI)) (ci := 5) (v := .ref h2) (C := RX5) (T := TX5) (N := 4) hx hb hts (fun _ h => List.mem_cons_of_mem _ (List.mem_append_right _ h)) hown hK hP 0 rfl rfl 2 (by decide) (hts (.fieldLink RX5 15 "KinkStreet$Lines" "trace" "[I") (List.mem_of_getElem? (i := 4) rfl)) (fun _ h9 => h9) rfl dX5_call_87 ?_
                  refine lv_aload_n hx hb dX5_call_90 rfl (lv_at hl 2 rfl) ?_
                  refine va_get (D := (dC, dI)) (ci := 5) (v := .int n0_ran) (C := RX5) (T := TX5) (N := 4) hx hb hts (fun _ h => List.mem_cons_of_mem _ (List.mem_append_right _ h)) hown hK hP 0 rfl rfl 3 (by decide) (hts (.fieldLink RX5 36 "KinkStreet$Lines" "ran" "I") (List.mem_of_getElem? (i := 3) rfl)) (fun _ h9 => h9) rfl dX5_call_91 ?_
                  refine lv_iload hx hb dX5_call_94 (lv_at hl 0 rfl) ?_
                  refine va_iast hx hb hK hP hD hS 2 0 rfl rfl (vp_in_iff.mpr ⟨by have := kk_rng p4; omega, by have := kk_rng p4; omega⟩) dX5_call_96 (fun H locs hP hD hS => ?_)
                  generalize upd f2 (n0_ran : Int32).toNatClampNeg 10 = f_184 at hP hD
                  have hP : va_P (dC, dI) vwCl [(h0, Sum.inr (5, [Value.ref h1, Value.int n0_size, Value.ref h2, Value.int n0_ran])), (h1, Sum.inl (cint, 50, Sum.inl f1)), (h2, Sum.inl (cint, 24, Sum.inl f_184))] H := hP
                  have hD : va_D A [(h0, Sum.inr (5, [Value.ref h1, Value.int n0_size, Value.ref h2, Value.int n0_ran])), (h1, Sum.inl (cint, 50, Sum.inl f1)), (h2, Sum.inl (cint, 24, Sum.inl f_184))] := hD
                  exact hcut_179 (f_184) _ _ _ ⟨hP, hD, hS, lv_sub hl [0, 1, 2, 3, 4, 5, 6, 7] rfl⟩
            · have t_174 : 40 < p4.toInt := kk_nle c_174
              refine lv_iconst (v := 0) hx hb dX5_call_63 (by decide) ?_
              obtain ⟨hP9, hD9⟩ := kk_leafout (wc := [(h0, Sum.inr (5, [Value.ref h1, Value.int n0_size, Value.ref h2, Value.int n0_ran])), (h1, Sum.inl (cint, 50, Sum.inl f1)), (h2, Sum.inl (cint, 24, Sum.inl f2))]) hP hD [0, 1, 2] (by decide) rfl
              have hK9 := hK.sub (tys' := []) [] rfl
              exact W.iret (v := 0) hx hb hr (fun t ht hW => ⟨⟨0, (), rfl, trivial, n0_ran, f2, (by show 0 ≤ (n0_ran : Int32).toInt ∧ (n0_ran : Int32).toInt ≤ 1000; first | decide | (constructor <;> (have := kk_rng p4; omega))), (by show (n0_ran : Int32).toInt ≤ (n0_ran : Int32).toInt + 11; first | decide | (have := kk_rng p4; omega)), by rw [ht]; exact hP9, va_K.moved hW.alike hK9, hD9⟩, hS.F ht⟩) hS.2.2 dX5_call_64
        · skip
          have t_172_0 : (0 : Int) ≤ 0 := t_172_0
          have t_172_1 : (0 : Int) < 8 := t_172_1
          refine lv_if_eq (tgt := 48) hx hb dX5_call_18 (by decide) (fun c => absurd c (by decide)) (fun _ => ?_)
          refine va_gets hx hb hZOWN_BODIES hS hown (hts (.fieldLink RX5 43 "KinkStreet$Lines" "OWN_BODIES" "[I") (List.mem_of_getElem? (i := 1) rfl)) (fun _ h9 => h9) dX5_call_21 ?_
          refine lv_iload hx hb dX5_call_24 (lv_at hl 1 rfl) ?_
          refine lv_iconst (v := 4) hx hb dX5_call_26 (by decide) ?_
          refine lv_imul hx hb dX5_call_27 ?_
          refine lv_topi (fun y_185 e_185 => ?_)
          obtain rfl : y_185 = 0 := e_185.trans (by decide)
          refine lv_iload_n hx hb dX5_call_28 rfl (lv_at hl 5 rfl) ?_
          refine lv_iadd hx hb dX5_call_29 ?_
          refine lv_topi (fun y_186 e_186 => ?_)
          obtain rfl : y_186 = 1 := e_186.trans (by decide)
          refine va_ti (v := .int 10) hx hb hTOWN_BODIES hS (by unfold vp_in; decide) rfl dX5_call_30 ?_
          refine lv_if_ne (tgt := 48) hx hb dX5_call_31 (by decide) (fun _ => ?_) (fun c => absurd c (by decide))
          refine lv_iload hx hb dX5_call_48 (lv_at hl 1 rfl) ?_
          obtain ⟨hPc, hDc, hFc⟩ := kk_cutout (wc := []) hP hD hS hA [] (by decide) rfl
          have hKc := hK.sub (tys' := []) [] rfl
          refine va_calli (va_runS (As := [.int 0]) (rest := []) ⟨hx, hb, hml, hown, hts⟩ (g_X5_isKind_0 l dC dI H.size 0) (va_cwS 1 hts gX5_call_X5_isKind rfl rfl rfl (by decide +kernel) ⟨Nat.le_of_ble_eq_true rfl, Nat.le_of_ble_eq_true rfl⟩) ⟨fun a U g mk q => by obtain ⟨q0, q1, qP, qK, qD⟩ := q; exact ⟨q0, q1, qP, va_K.moved (u := U) (U := U.calling g mk a) (Vm.Alike.refl U.vm) qK, qD⟩, fun U hU hW => ⟨rfl, by rw [hU], by rw [hU]; exact hPc, va_K.moved hW.alike hKc, hDc.weaken (fun _ _ _ _ => trivial)⟩⟩ rfl rfl hl.1 rfl (lv_room (Nat.le_of_ble_eq_true rfl)) dX5_call_50 ⟨Nat.le_of_ble_eq_true rfl, Nat.le_of_ble_eq_true rfl⟩) hS (fun q _ h => hFc q h) hFc (fun r_187 u t H1 locs ht hvm hw hB hz1 hk1 hS => ?_)
          obtain ⟨hP1, hK1, hD1⟩ := hB
          rw [ht] at hP1
          have hK1 := va_K.moved hvm.symm hK1
          obtain ⟨hP, hD⟩ := va_join (wr := [(h0, Sum.inr (5, [Value.ref h1, Value.int n0_size, Value.ref h2, Value.int n0_ran])), (h1, Sum.inl (cint, 50, Sum.inl f1)), (h2, Sum.inl (cint, 24, Sum.inl f2))]) (w1 := []) hP hD [] [0, 1, 2] rfl rfl (by decide) (by decide) hk1 hFc hP1 hD1
          generalize H1 = H at hP hS ⊢
          have hP : va_P (dC, dI) vwCl [(h0, Sum.inr (5, [Value.ref h1, Value.int n0_size, Value.ref h2, Value.int n0_ran])), (h1, Sum.inl (cint, 50, Sum.inl f1)), (h2, Sum.inl (cint, 24, Sum.inl f2))] H := hP
          have hD : va_D A [(h0, Sum.inr (5, [Value.ref h1, Value.int n0_size, Value.ref h2, Value.int n0_ran])), (h1, Sum.inl (cint, 50, Sum.inl f1)), (h2, Sum.inl (cint, 24, Sum.inl f2))] := hD
          rcases hw with ⟨rfl⟩ | ⟨t_187_0, t_187_1, rfl⟩
          · skip
            refine lv_if_eq (tgt := 63) hx hb dX5_call_53 (by decide) (fun _ => ?_) (fun c => absurd c (by decide))
            refine lv_iconst (v := 0) hx hb dX5_call_63 (by decide) ?_
            obtain ⟨hP9, hD9⟩ := kk_leafout (wc := [(h0, Sum.inr (5, [Value.ref h1, Value.int n0_size, Value.ref h2, Value.int n0_ran])), (h1, Sum.inl (cint, 50, Sum.inl f1)), (h2, Sum.inl (cint, 24, Sum.inl f2))]) hP hD [0, 1, 2] (by decide) rfl
            have hK9 := hK.sub (tys' := []) [] rfl
            exact W.iret (v := 0) hx hb hr (fun t ht hW => ⟨⟨0, (), rfl, trivial, n0_ran, f2, (by show 0 ≤ (n0_ran : Int32).toInt ∧ (n0_ran : Int32).toInt ≤ 1000; first | decide | (constructor <;> (omega))), (by show (n0_ran : Int32).toInt ≤ (n0_ran : Int32).toInt + 11; first | decide | (omega)), by rw [ht]; exact hP9, va_K.moved hW.alike hK9, hD9⟩, hS.F ht⟩) hS.2.2 dX5_call_64
          · skip
            have t_187_0 : (0 : Int) ≤ 0 := t_187_0
            have t_187_1 : (0 : Int) < 8 := t_187_1
            refine lv_if_eq (tgt := 63) hx hb dX5_call_53 (by decide) (fun c => absurd c (by decide)) (fun _ => ?_)
            refine lv_iload hx hb dX5_call_56 (lv_at hl 7 rfl) ?_
            refine lv_bipush (v := 40) hx hb dX5_call_58 (by decide) ?_
            refine lv_icmp_le (tgt := 65) hx hb dX5_call_60 (by decide) (fun c_188 => ?_) (fun c_188 => ?_)
            · have t_188 : p4.toInt ≤ 40 := kk_le c_188
              refine va_gets hx hb hZOWN_BODIES hS hown (hts (.fieldLink RX5 43 "KinkStreet$Lines" "OWN_BODIES" "[I") (List.mem_of_getElem? (i := 1) rfl)) (fun _ h9 => h9) dX5_call_65 ?_
              refine lv_iload hx hb dX5_call_68 (lv_at hl 1 rfl) ?_
              refine lv_iconst (v := 4) hx hb dX5_call_70 (by decide) ?_
              refine lv_imul hx hb dX5_call_71 ?_
              refine lv_topi (fun y_189 e_189 => ?_)
              obtain rfl : y_189 = 0 := e_189.trans (by decide)
              refine lv_iload_n hx hb dX5_call_72 rfl (lv_at hl 5 rfl) ?_
              refine lv_iadd hx hb dX5_call_73 ?_
              refine lv_topi (fun y_190 e_190 => ?_)
              obtain rfl : y_190 = 1 := e_190.trans (by decide)
              refine va_ti (v := .int 10) hx hb hTOWN_BODIES hS (by unfold vp_in; decide) rfl dX5_call_74 ?_
              refine lv_istore (lv' := [(7, .int 10), (6, .int 0), (0, .ref h0), (1, .int p0), (2, .int 4), (3, .int 1), (4, .int p3), (5, .int p4)]) hx hb dX5_call_75 hl (by decide) rfl (fun ls hl => ?_)
              refine lv_aload_n hx hb dX5_call_77 rfl (lv_at hl 2 rfl) ?_
              refine va_get (D := (dC, dI)) (ci := 5) (v := .int n0_ran) (C := RX5) (T := TX5) (N := 4) hx hb hts (fun _ h => List.mem_cons_of_mem _ (List.mem_append_right _ h)) hown hK hP 0 rfl rfl 3 (by decide) (hts (.fieldLink RX5 36 "KinkStreet$Lines" "ran" "I") (List.mem_of_getElem? (i := 3) rfl)) (fun _ h9 => h9) rfl dX5_call_78 ?_
              refine lv_bipush (v := 24) hx hb dX5_call_81 (by decide) ?_
              refine kk_cut (σ := (Nat → Int32)) (pc' := 97) (fun x H locs ls => va_P (dC, dI) vwCl [(h0, Sum.inr (5, [Value.ref h1, Value.int n0_size, Value.ref h2, Value.int n0_ran])), (h1, Sum.inl (cint, 50, Sum.inl f1)), (h2, Sum.inl (cint, 24, Sum.inl x))] H ∧ va_D A [(h0, Sum.inr (5, [Value.ref h1, Value.int n0_size, Value.ref h2, Value.int n0_ran])), (h1, Sum.inl (cint, 50, Sum.inl f1)), (h2, Sum.inl (cint, 24, Sum.inl x))] ∧ va_S A s.heap H locs ∧ lv_has ls 8 [(7, .int 10), (6, .int 0), (0, .ref h0), (1, .int p0), (2, .int 4), (3, .int 1), (4, .int p3), (5, .int p4)]) ?_ (fun hcut_193 => ?_)
              · rintro f_193_0 H locs ls ⟨hP, hD, hS, hl⟩
                have hl : lv_has ls 8 [(7, .int 10), (6, .int 0), (0, .ref h0), (1, .int p0), (2, .int 4), (3, .int 1), (4, .int p3), (5, .int p4)] := hl
                have hP : va_P (dC, dI) vwCl [(h0, Sum.inr (5, [Value.ref h1, Value.int n0_size, Value.ref h2, Value.int n0_ran])), (h1, Sum.inl (cint, 50, Sum.inl f1)), (h2, Sum.inl (cint, 24, Sum.inl f_193_0))] H := hP
                have hD : va_D A [(h0, Sum.inr (5, [Value.ref h1, Value.int n0_size, Value.ref h2, Value.int n0_ran])), (h1, Sum.inl (cint, 50, Sum.inl f1)), (h2, Sum.inl (cint, 24, Sum.inl f_193_0))] := hD
                refine lv_aload_n hx hb dX5_call_97 rfl (lv_at hl 2 rfl) ?_
                refine lv_dup hx hb dX5_call_98 rfl ?_
                refine va_get (D := (dC, dI)) (ci := 5) (v := .int n0_ran) (C := RX5) (T := TX5) (N := 4) hx hb hts (fun _ h => List.mem_cons_of_mem _ (List.mem_append_right _ h)) hown hK hP 0 rfl rfl 3 (by decide) (hts (.fieldLink RX5 36 "KinkStreet$Lines" "ran" "I") (List.mem_of_getElem? (i := 3) rfl)) (fun _ h9 => h9) rfl dX5_call_99 ?_
                refine lv_iconst (v := 1) hx hb dX5_call_102 (by decide) ?_
                refine lv_iadd hx hb dX5_call_103 ?_
                refine va_put (D := (dC, dI)) (ci := 5) (v := .int (n0_ran + 1)) (ty := .int) (C := RX5) (T := TX5) (N := 4) hx hb hts (fun _ h => List.mem_cons_of_mem _ (List.mem_append_right _ h)) tyX5 tyX5_ok nmX5 hown hK hP hD hS 0 rfl rfl 3 (by decide) (hts (.fieldLink RX5 36 "KinkStreet$Lines" "ran" "I") (List.mem_of_getElem? (i := 3) rfl)) (fun _ h9 => h9) rfl (by decide +kernel) rfl rfl (Nat.le_of_ble_eq_true rfl) dX5_call_104 (fun H locs hP hD hS => ?_)
                have hP : va_P (dC, dI) vwCl [(h0, Sum.inr (5, [Value.ref h1, Value.int n0_size, Value.ref h2, Value.int (n0_ran + 1)])), (h1, Sum.inl (cint, 50, Sum.inl f1)), (h2, Sum.inl (cint, 24, Sum.inl f_193_0))] H := hP
                have hD : va_D A [(h0, Sum.inr (5, [Value.ref h1, Value.int n0_size, Value.ref h2, Value.int (n0_ran + 1)])), (h1, Sum.inl (cint, 50, Sum.inl f1)), (h2, Sum.inl (cint, 24, Sum.inl f_193_0))] := hD
                refine lv_iload hx hb dX5_call_107 (lv_at hl 1 rfl) ?_
                refine lv_if_ne (tgt := 128) hx hb dX5_call_109 (by decide) (fun c => absurd c (by decide)) (fun _ => ?_)
                refine lv_aload_n hx hb dX5_call_112 rfl (lv_at hl 2 rfl) ?_
                refine lv_iload_n hx hb dX5_call_113 rfl (lv_at hl 3 rfl) ?_
                refine lv_iload hx hb dX5_call_114 (lv_at hl 0 rfl) ?_
                refine lv_iload hx hb dX5_call_116 (lv_at hl 6 rfl) ?_
                refine lv_iload hx hb dX5_call_118 (lv_at hl 7 rfl) ?_
                refine lv_iconst (v := 1) hx hb dX5_call_120 (by decide) ?_
                refine lv_iadd hx hb dX5_call_121 ?_
                obtain ⟨hPc, hDc, hFc⟩ := kk_cutout (wc := [(h0, Sum.inr (5, [Value.ref h1, Value.int n0_size, Value.ref h2, Value.int (n0_ran + 1)])), (h1, Sum.inl (cint, 50, Sum.inl f1)), (h2, Sum.inl (cint, 24, Sum.inl f_193_0))]) hP hD hS hA [0, 1, 2] (by decide) rfl
                have hKc := hK.sub (tys' := [(cint, .int)]) [0] rfl
                refine va_calli (va_runV (As := [.int p0, .int 10, .int p3, .int (p4 + 1)]) (rest := []) ⟨hx, hb, hml, hown, hts⟩ (g_X5_runLine_2 l dC dI h0 h1 h2 cint H.size p0 p3 (p4 + 1) n0_size (n0_ran + 1) f1 f_193_0 tn0_size (by show 0 ≤ ((n0_ran + 1) : Int32).toInt ∧ ((n0_ran + 1) : Int32).toInt ≤ 997; first | decide | (constructor <;> (have := kk_rng p4; have := kk_add2 (x := n0_ran) (y := 1) (a := n0_ran.toInt) (b := 1) rfl rfl (by omega) (by omega); have := kk_rng p4; have := kk_add2 (x := p4) (y := 1) (a := p4.toInt) (b := 1) rfl rfl (by omega) (by omega); omega))) bf1 aOWN_BODIES aABOVE) (cwV 4 hts gX5_call_X5_runLine rfl rfl rfl (by decide +kernel) ⟨Nat.le_of_ble_eq_true rfl, Nat.le_of_ble_eq_true rfl⟩) ⟨fun a U g mk q => by obtain ⟨q0, q1, qP, qK, qD, qx0, qx1, qx2, qx3⟩ := q; exact ⟨q0, q1, qP, va_K.moved (u := U) (U := U.calling g mk a) (Vm.Alike.refl U.vm) qK, qD, va_Z.moved (u := U) (U := U.calling g mk a) (Vm.Alike.refl U.vm) qx0, va_T.moved (u := U) (U := U.calling g mk a) (Vm.Alike.refl U.vm) qx1, va_Z.moved (u := U) (U := U.calling g mk a) (Vm.Alike.refl U.vm) qx2, va_T.moved (u := U) (U := U.calling g mk a) (Vm.Alike.refl U.vm) qx3⟩, va_recv hKc hPc (ci := 5) (q0 := 0) rfl rfl, fun U hU hW => ⟨rfl, by rw [hU], by rw [hU]; exact hPc, va_K.moved hW.alike hKc, hDc.weaken (fun _ _ _ _ => trivial), by rw [hU]; exact ((hZOWN_BODIES.kept (fun a h1 h2 => hS.2.1 a h1 h2)).narrow hFc).moved hW.alike, by rw [hU]; exact ((hTOWN_BODIES.kept (fun a h1 h2 => hS.2.1 a h1 h2)).narrow hFc).moved hW.alike, by rw [hU]; exact ((hZABOVE.kept (fun a h1 h2 => hS.2.1 a h1 h2)).narrow hFc).moved hW.alike, by rw [hU]; exact ((hTABOVE.kept (fun a h1 h2 => hS.2.1 a h1 h2)).narrow hFc).moved hW.alike⟩⟩ rfl rfl hl.1 rfl (lv_room (Nat.le_of_ble_eq_true rfl)) dX5_call_122 ⟨Nat.le_of_ble_eq_true rfl, Nat.le_of_ble_eq_true rfl⟩) hS (fun q _ h => hFc q h) hFc (fun r_194 u t H1 locs ht hvm hw hB hz1 hk1 hS => ?_)
                obtain ⟨y_195, f_196, by_195, v_196_0, hP1, hK1, hD1⟩ := hB
                have v_196_0 : y_195.toInt ≤ (n0_ran + 1).toInt + 3 := v_196_0
                rw [ht] at hP1
                have hK1 := va_K.moved hvm.symm hK1
                obtain ⟨hP, hD⟩ := va_join (wr := []) (w1 := [(h0, Sum.inr (5, [Value.ref h1, Value.int n0_size, Value.ref h2, Value.int y_195])), (h1, Sum.inl (cint, 50, Sum.inl f1)), (h2, Sum.inl (cint, 24, Sum.inl f_196))]) hP hD [0, 1, 2] [] rfl rfl (by decide) (by decide) hk1 hFc hP1 hD1
                generalize H1 = H at hP hS ⊢
                have hP : va_P (dC, dI) vwCl [(h0, Sum.inr (5, [Value.ref h1, Value.int n0_size, Value.ref h2, Value.int y_195])), (h1, Sum.inl (cint, 50, Sum.inl f1)), (h2, Sum.inl (cint, 24, Sum.inl f_196))] H := hP
                have hD : va_D A [(h0, Sum.inr (5, [Value.ref h1, Value.int n0_size, Value.ref h2, Value.int y_195])), (h1, Sum.inl (cint, 50, Sum.inl f1)), (h2, Sum.inl (cint, 24, Sum.inl f_196))] := hD
                refine lv_goto (tgt := 143) hx hb dX5_call_125 (by decide) ?_
                obtain ⟨hP9, hD9⟩ := kk_leafout (wc := [(h0, Sum.inr (5, [Value.ref h1, Value.int n0_size, Value.ref h2, Value.int y_195])), (h1, Sum.inl (cint, 50, Sum.inl f1)), (h2, Sum.inl (cint, 24, Sum.inl f_196))]) hP hD [0, 1, 2] (by decide) rfl
                have hK9 := hK.sub (tys' := []) [] rfl
                exact W.iret (v := r_194) hx hb hr (fun t ht hW => ⟨⟨r_194, (), rfl, trivial, y_195, f_196, (by show 0 ≤ (y_195 : Int32).toInt ∧ (y_195 : Int32).toInt ≤ 1000; first | decide | (constructor <;> (have := kk_rng p4; have := kk_add2 (x := n0_ran) (y := 1) (a := n0_ran.toInt) (b := 1) rfl rfl (by omega) (by omega); have := kk_rng p4; have := kk_add2 (x := p4) (y := 1) (a := p4.toInt) (b := 1) rfl rfl (by omega) (by omega); omega))), (by show (y_195 : Int32).toInt ≤ (n0_ran : Int32).toInt + 11; first | decide | (have := kk_rng p4; have := kk_add2 (x := n0_ran) (y := 1) (a := n0_ran.toInt) (b := 1) rfl rfl (by omega) (by omega); have := kk_rng p4; have := kk_add2 (x := p4) (y := 1) (a := p4.toInt) (b := 1) rfl rfl (by omega) (by omega); omega)), by rw [ht]; exact hP9, va_K.moved hW.alike hK9, hD9⟩, hS.F ht⟩) hS.2.2 dX5_call_143
              · skip
                refine lv_icmp_ge (tgt := 97) hx hb dX5_call_83 (by decide) (fun c_197 => ?_) (fun c_197 => ?_)
                · have t_197 : 24 ≤ n0_ran.toInt := kk_le c_197
                  exact hcut_193 (f2) _ _ _ ⟨hP, hD, hS, lv_sub hl [0, 1, 2, 3, 4, 5, 6, 7] rfl⟩
                · have t_197 : n0_ran.toInt < 24 := kk_nle c_197
                  refine lv_aload_n hx hb dX5_call_86 rfl (lv_at hl 2 rfl) ?_
                  refine va_get (D := (dC, dI)) (ci := 5) (v := .ref h2) (C := RX5) (T := TX5) (N := 4) hx hb hts (fun _ h => List.mem_cons_of_mem _ (List.mem_append_right _ h)) hown hK hP 0 rfl rfl 2 (by decide) (hts (.fieldLink RX5 15 "KinkStreet$Lines" "trace" "[I") (List.mem_of_getElem? (i := 4) rfl)) (fun _ h9 => h9) rfl dX5_call_87 ?_
                  refine lv_aload_n hx hb dX5_call_90 rfl (lv_at hl 2 rfl) ?_
                  refine va_get (D := (dC, dI)) (ci := 5) (v := .int n0_ran) (C := RX5) (T := TX5) (N := 4) hx hb hts (fun _ h => List.mem_cons_of_mem _ (List.mem_append_right _ h)) hown hK hP 0 rfl rfl 3 (by decide) (hts (.fieldLink RX5 36 "KinkStreet$Lines" "ran" "I") (List.mem_of_getElem? (i := 3) rfl)) (fun _ h9 => h9) rfl dX5_call_91 ?_
                  refine lv_iload hx hb dX5_call_94 (lv_at hl 0 rfl) ?_
                  refine va_iast hx hb hK hP hD hS 2 0 rfl rfl (vp_in_iff.mpr ⟨by have := kk_rng p4; omega, by have := kk_rng p4; omega⟩) dX5_call_96 (fun H locs hP hD hS => ?_)
                  generalize upd f2 (n0_ran : Int32).toNatClampNeg 10 = f_198 at hP hD
                  have hP : va_P (dC, dI) vwCl [(h0, Sum.inr (5, [Value.ref h1, Value.int n0_size, Value.ref h2, Value.int n0_ran])), (h1, Sum.inl (cint, 50, Sum.inl f1)), (h2, Sum.inl (cint, 24, Sum.inl f_198))] H := hP
                  have hD : va_D A [(h0, Sum.inr (5, [Value.ref h1, Value.int n0_size, Value.ref h2, Value.int n0_ran])), (h1, Sum.inl (cint, 50, Sum.inl f1)), (h2, Sum.inl (cint, 24, Sum.inl f_198))] := hD
                  exact hcut_193 (f_198) _ _ _ ⟨hP, hD, hS, lv_sub hl [0, 1, 2, 3, 4, 5, 6, 7] rfl⟩
            · have t_188 : 40 < p4.toInt := kk_nle c_188
              refine lv_iconst (v := 0) hx hb dX5_call_63 (by decide) ?_
              obtain ⟨hP9, hD9⟩ := kk_leafout (wc := [(h0, Sum.inr (5, [Value.ref h1, Value.int n0_size, Value.ref h2, Value.int n0_ran])), (h1, Sum.inl (cint, 50, Sum.inl f1)), (h2, Sum.inl (cint, 24, Sum.inl f2))]) hP hD [0, 1, 2] (by decide) rfl
              have hK9 := hK.sub (tys' := []) [] rfl
              exact W.iret (v := 0) hx hb hr (fun t ht hW => ⟨⟨0, (), rfl, trivial, n0_ran, f2, (by show 0 ≤ (n0_ran : Int32).toInt ∧ (n0_ran : Int32).toInt ≤ 1000; first | decide | (constructor <;> (have := kk_rng p4; omega))), (by show (n0_ran : Int32).toInt ≤ (n0_ran : Int32).toInt + 11; first | decide | (have := kk_rng p4; omega)), by rw [ht]; exact hP9, va_K.moved hW.alike hK9, hD9⟩, hS.F ht⟩) hS.2.2 dX5_call_64
  · have t_1 : p1.toInt = 5 := by rw [e_1]; rfl
    subst e_1
    refine lv_iload_n hx hb dX5_call_0 rfl (lv_at hl 2 rfl) ?_
    refine lv_istore (lv' := [(6, .int 5), (0, .ref h0), (1, .int p0), (2, .int 5), (3, .int 1), (4, .int p3), (5, .int p4)]) hx hb dX5_call_1 hl (by decide) rfl (fun ls hl => ?_)
    refine lv_iconst (v := 0) hx hb dX5_call_3 (by decide) ?_
    refine lv_istore (lv' := [(7, .int 0), (6, .int 5), (0, .ref h0), (1, .int p0), (2, .int 5), (3, .int 1), (4, .int p3), (5, .int p4)]) hx hb dX5_call_4 hl (by decide) rfl (fun ls hl => ?_)
    refine lv_iload hx hb dX5_call_6 (lv_at hl 0 rfl) ?_
    refine lv_bipush (v := 8) hx hb dX5_call_8 (by decide) ?_
    refine lv_icmp_ge (tgt := 48) hx hb dX5_call_10 (by decide) (fun c => absurd c (by decide)) (fun _ => ?_)
    refine lv_iload hx hb dX5_call_13 (lv_at hl 1 rfl) ?_
    obtain ⟨hPc, hDc, hFc⟩ := kk_cutout (wc := []) hP hD hS hA [] (by decide) rfl
    have hKc := hK.sub (tys' := []) [] rfl
    refine va_calli (va_runS (As := [.int 5]) (rest := []) ⟨hx, hb, hml, hown, hts⟩ (g_X5_isKind_0 l dC dI s.heap.size 5) (va_cwS 1 hts gX5_call_X5_isKind rfl rfl rfl (by decide +kernel) ⟨Nat.le_of_ble_eq_true rfl, Nat.le_of_ble_eq_true rfl⟩) ⟨fun a U g mk q => by obtain ⟨q0, q1, qP, qK, qD⟩ := q; exact ⟨q0, q1, qP, va_K.moved (u := U) (U := U.calling g mk a) (Vm.Alike.refl U.vm) qK, qD⟩, fun U hU hW => ⟨rfl, by rw [hU], by rw [hU]; exact hPc, va_K.moved hW.alike hKc, hDc.weaken (fun _ _ _ _ => trivial)⟩⟩ rfl rfl hl.1 rfl (lv_room (Nat.le_of_ble_eq_true rfl)) dX5_call_15 ⟨Nat.le_of_ble_eq_true rfl, Nat.le_of_ble_eq_true rfl⟩) hS (fun q _ h => hFc q h) hFc (fun r_199 u t H1 locs ht hvm hw hB hz1 hk1 hS => ?_)
    obtain ⟨hP1, hK1, hD1⟩ := hB
    rw [ht] at hP1
    have hK1 := va_K.moved hvm.symm hK1
    obtain ⟨hP, hD⟩ := va_join (wr := [(h0, Sum.inr (5, [Value.ref h1, Value.int n0_size, Value.ref h2, Value.int n0_ran])), (h1, Sum.inl (cint, 50, Sum.inl f1)), (h2, Sum.inl (cint, 24, Sum.inl f2))]) (w1 := []) hP hD [] [0, 1, 2] rfl rfl (by decide) (by decide) hk1 hFc hP1 hD1
    generalize H1 = H at hP hS ⊢
    have hP : va_P (dC, dI) vwCl [(h0, Sum.inr (5, [Value.ref h1, Value.int n0_size, Value.ref h2, Value.int n0_ran])), (h1, Sum.inl (cint, 50, Sum.inl f1)), (h2, Sum.inl (cint, 24, Sum.inl f2))] H := hP
    have hD : va_D A [(h0, Sum.inr (5, [Value.ref h1, Value.int n0_size, Value.ref h2, Value.int n0_ran])), (h1, Sum.inl (cint, 50, Sum.inl f1)), (h2, Sum.inl (cint, 24, Sum.inl f2))] := hD
    rcases hw with ⟨rfl⟩ | ⟨t_199_0, t_199_1, rfl⟩
    · skip
      refine lv_if_eq (tgt := 48) hx hb dX5_call_18 (by decide) (fun _ => ?_) (fun c => absurd c (by decide))
      refine lv_iload hx hb dX5_call_48 (lv_at hl 1 rfl) ?_
      obtain ⟨hPc, hDc, hFc⟩ := kk_cutout (wc := []) hP hD hS hA [] (by decide) rfl
      have hKc := hK.sub (tys' := []) [] rfl
      refine va_calli (va_runS (As := [.int 5]) (rest := []) ⟨hx, hb, hml, hown, hts⟩ (g_X5_isKind_0 l dC dI H.size 5) (va_cwS 1 hts gX5_call_X5_isKind rfl rfl rfl (by decide +kernel) ⟨Nat.le_of_ble_eq_true rfl, Nat.le_of_ble_eq_true rfl⟩) ⟨fun a U g mk q => by obtain ⟨q0, q1, qP, qK, qD⟩ := q; exact ⟨q0, q1, qP, va_K.moved (u := U) (U := U.calling g mk a) (Vm.Alike.refl U.vm) qK, qD⟩, fun U hU hW => ⟨rfl, by rw [hU], by rw [hU]; exact hPc, va_K.moved hW.alike hKc, hDc.weaken (fun _ _ _ _ => trivial)⟩⟩ rfl rfl hl.1 rfl (lv_room (Nat.le_of_ble_eq_true rfl)) dX5_call_50 ⟨Nat.le_of_ble_eq_true rfl, Nat.le_of_ble_eq_true rfl⟩) hS (fun q _ h => hFc q h) hFc (fun r_200 u t H1 locs ht hvm hw hB hz1 hk1 hS => ?_)
      obtain ⟨hP1, hK1, hD1⟩ := hB
      rw [ht] at hP1
      have hK1 := va_K.moved hvm.symm hK1
      obtain ⟨hP, hD⟩ := va_join (wr := [(h0, Sum.inr (5, [Value.ref h1, Value.int n0_size, Value.ref h2, Value.int n0_ran])), (h1, Sum.inl (cint, 50, Sum.inl f1)), (h2, Sum.inl (cint, 24, Sum.inl f2))]) (w1 := []) hP hD [] [0, 1, 2] rfl rfl (by decide) (by decide) hk1 hFc hP1 hD1
      generalize H1 = H at hP hS ⊢
      have hP : va_P (dC, dI) vwCl [(h0, Sum.inr (5, [Value.ref h1, Value.int n0_size, Value.ref h2, Value.int n0_ran])), (h1, Sum.inl (cint, 50, Sum.inl f1)), (h2, Sum.inl (cint, 24, Sum.inl f2))] H := hP
      have hD : va_D A [(h0, Sum.inr (5, [Value.ref h1, Value.int n0_size, Value.ref h2, Value.int n0_ran])), (h1, Sum.inl (cint, 50, Sum.inl f1)), (h2, Sum.inl (cint, 24, Sum.inl f2))] := hD
      rcases hw with ⟨rfl⟩ | ⟨t_200_0, t_200_1, rfl⟩
      · skip
        refine lv_if_eq (tgt := 63) hx hb dX5_call_53 (by decide) (fun _ => ?_) (fun c => absurd c (by decide))
        refine lv_iconst (v := 0) hx hb dX5_call_63 (by decide) ?_
        obtain ⟨hP9, hD9⟩ := kk_leafout (wc := [(h0, Sum.inr (5, [Value.ref h1, Value.int n0_size, Value.ref h2, Value.int n0_ran])), (h1, Sum.inl (cint, 50, Sum.inl f1)), (h2, Sum.inl (cint, 24, Sum.inl f2))]) hP hD [0, 1, 2] (by decide) rfl
        have hK9 := hK.sub (tys' := []) [] rfl
        exact W.iret (v := 0) hx hb hr (fun t ht hW => ⟨⟨0, (), rfl, trivial, n0_ran, f2, (by show 0 ≤ (n0_ran : Int32).toInt ∧ (n0_ran : Int32).toInt ≤ 1000; first | decide | (constructor <;> (omega))), (by show (n0_ran : Int32).toInt ≤ (n0_ran : Int32).toInt + 11; first | decide | (omega)), by rw [ht]; exact hP9, va_K.moved hW.alike hK9, hD9⟩, hS.F ht⟩) hS.2.2 dX5_call_64
      · skip
        have t_200_0 : (0 : Int) ≤ 5 := t_200_0
        have t_200_1 : (5 : Int) < 8 := t_200_1
        refine lv_if_eq (tgt := 63) hx hb dX5_call_53 (by decide) (fun c => absurd c (by decide)) (fun _ => ?_)
        refine lv_iload hx hb dX5_call_56 (lv_at hl 7 rfl) ?_
        refine lv_bipush (v := 40) hx hb dX5_call_58 (by decide) ?_
        refine lv_icmp_le (tgt := 65) hx hb dX5_call_60 (by decide) (fun c_201 => ?_) (fun c_201 => ?_)
        · have t_201 : p4.toInt ≤ 40 := kk_le c_201
          refine va_gets hx hb hZOWN_BODIES hS hown (hts (.fieldLink RX5 43 "KinkStreet$Lines" "OWN_BODIES" "[I") (List.mem_of_getElem? (i := 1) rfl)) (fun _ h9 => h9) dX5_call_65 ?_
          refine lv_iload hx hb dX5_call_68 (lv_at hl 1 rfl) ?_
          refine lv_iconst (v := 4) hx hb dX5_call_70 (by decide) ?_
          refine lv_imul hx hb dX5_call_71 ?_
          refine lv_topi (fun y_202 e_202 => ?_)
          obtain rfl : y_202 = 20 := e_202.trans (by decide)
          refine lv_iload_n hx hb dX5_call_72 rfl (lv_at hl 5 rfl) ?_
          refine lv_iadd hx hb dX5_call_73 ?_
          refine lv_topi (fun y_203 e_203 => ?_)
          obtain rfl : y_203 = 21 := e_203.trans (by decide)
          refine va_ti (v := .int 60) hx hb hTOWN_BODIES hS (by unfold vp_in; decide) rfl dX5_call_74 ?_
          refine lv_istore (lv' := [(7, .int 60), (6, .int 5), (0, .ref h0), (1, .int p0), (2, .int 5), (3, .int 1), (4, .int p3), (5, .int p4)]) hx hb dX5_call_75 hl (by decide) rfl (fun ls hl => ?_)
          refine lv_aload_n hx hb dX5_call_77 rfl (lv_at hl 2 rfl) ?_
          refine va_get (D := (dC, dI)) (ci := 5) (v := .int n0_ran) (C := RX5) (T := TX5) (N := 4) hx hb hts (fun _ h => List.mem_cons_of_mem _ (List.mem_append_right _ h)) hown hK hP 0 rfl rfl 3 (by decide) (hts (.fieldLink RX5 36 "KinkStreet$Lines" "ran" "I") (List.mem_of_getElem? (i := 3) rfl)) (fun _ h9 => h9) rfl dX5_call_78 ?_
          refine lv_bipush (v := 24) hx hb dX5_call_81 (by decide) ?_
          refine kk_cut (σ := (Nat → Int32)) (pc' := 97) (fun x H locs ls => va_P (dC, dI) vwCl [(h0, Sum.inr (5, [Value.ref h1, Value.int n0_size, Value.ref h2, Value.int n0_ran])), (h1, Sum.inl (cint, 50, Sum.inl f1)), (h2, Sum.inl (cint, 24, Sum.inl x))] H ∧ va_D A [(h0, Sum.inr (5, [Value.ref h1, Value.int n0_size, Value.ref h2, Value.int n0_ran])), (h1, Sum.inl (cint, 50, Sum.inl f1)), (h2, Sum.inl (cint, 24, Sum.inl x))] ∧ va_S A s.heap H locs ∧ lv_has ls 8 [(7, .int 60), (6, .int 5), (0, .ref h0), (1, .int p0), (2, .int 5), (3, .int 1), (4, .int p3), (5, .int p4)]) ?_ (fun hcut_206 => ?_)
          · rintro f_206_0 H locs ls ⟨hP, hD, hS, hl⟩
            have hl : lv_has ls 8 [(7, .int 60), (6, .int 5), (0, .ref h0), (1, .int p0), (2, .int 5), (3, .int 1), (4, .int p3), (5, .int p4)] := hl
            have hP : va_P (dC, dI) vwCl [(h0, Sum.inr (5, [Value.ref h1, Value.int n0_size, Value.ref h2, Value.int n0_ran])), (h1, Sum.inl (cint, 50, Sum.inl f1)), (h2, Sum.inl (cint, 24, Sum.inl f_206_0))] H := hP
            have hD : va_D A [(h0, Sum.inr (5, [Value.ref h1, Value.int n0_size, Value.ref h2, Value.int n0_ran])), (h1, Sum.inl (cint, 50, Sum.inl f1)), (h2, Sum.inl (cint, 24, Sum.inl f_206_0))] := hD
            refine lv_aload_n hx hb dX5_call_97 rfl (lv_at hl 2 rfl) ?_
            refine lv_dup hx hb dX5_call_98 rfl ?_
            refine va_get (D := (dC, dI)) (ci := 5) (v := .int n0_ran) (C := RX5) (T := TX5) (N := 4) hx hb hts (fun _ h => List.mem_cons_of_mem _ (List.mem_append_right _ h)) hown hK hP 0 rfl rfl 3 (by decide) (hts (.fieldLink RX5 36 "KinkStreet$Lines" "ran" "I") (List.mem_of_getElem? (i := 3) rfl)) (fun _ h9 => h9) rfl dX5_call_99 ?_
            refine lv_iconst (v := 1) hx hb dX5_call_102 (by decide) ?_
            refine lv_iadd hx hb dX5_call_103 ?_
            refine va_put (D := (dC, dI)) (ci := 5) (v := .int (n0_ran + 1)) (ty := .int) (C := RX5) (T := TX5) (N := 4) hx hb hts (fun _ h => List.mem_cons_of_mem _ (List.mem_append_right _ h)) tyX5 tyX5_ok nmX5 hown hK hP hD hS 0 rfl rfl 3 (by decide) (hts (.fieldLink RX5 36 "KinkStreet$Lines" "ran" "I") (List.mem_of_getElem? (i := 3) rfl)) (fun _ h9 => h9) rfl (by decide +kernel) rfl rfl (Nat.le_of_ble_eq_true rfl) dX5_call_104 (fun H locs hP hD hS => ?_)
            have hP : va_P (dC, dI) vwCl [(h0, Sum.inr (5, [Value.ref h1, Value.int n0_size, Value.ref h2, Value.int (n0_ran + 1)])), (h1, Sum.inl (cint, 50, Sum.inl f1)), (h2, Sum.inl (cint, 24, Sum.inl f_206_0))] H := hP
            have hD : va_D A [(h0, Sum.inr (5, [Value.ref h1, Value.int n0_size, Value.ref h2, Value.int (n0_ran + 1)])), (h1, Sum.inl (cint, 50, Sum.inl f1)), (h2, Sum.inl (cint, 24, Sum.inl f_206_0))] := hD
            refine lv_iload hx hb dX5_call_107 (lv_at hl 1 rfl) ?_
            refine lv_if_ne (tgt := 128) hx hb dX5_call_109 (by decide) (fun _ => ?_) (fun c => absurd c (by decide))
            refine lv_aload_n hx hb dX5_call_128 rfl (lv_at hl 2 rfl) ?_
            refine lv_iload_n hx hb dX5_call_129 rfl (lv_at hl 3 rfl) ?_
            refine lv_iload hx hb dX5_call_130 (lv_at hl 1 rfl) ?_
            refine lv_iload hx hb dX5_call_132 (lv_at hl 0 rfl) ?_
            refine lv_iload hx hb dX5_call_134 (lv_at hl 6 rfl) ?_
            refine lv_iload hx hb dX5_call_136 (lv_at hl 7 rfl) ?_
            refine lv_iconst (v := 1) hx hb dX5_call_138 (by decide) ?_
            refine lv_iadd hx hb dX5_call_139 ?_
            obtain ⟨hPc, hDc, hFc⟩ := kk_cutout (wc := [(h0, Sum.inr (5, [Value.ref h1, Value.int n0_size, Value.ref h2, Value.int (n0_ran + 1)])), (h1, Sum.inl (cint, 50, Sum.inl f1)), (h2, Sum.inl (cint, 24, Sum.inl f_206_0))]) hP hD hS hA [0, 1, 2] (by decide) rfl
            have hKc := hK.sub (tys' := [(cint, .int)]) [0] rfl
            refine va_calli (va_runV (As := [.int p0, .int 5, .int 60, .int p3, .int (p4 + 1)]) (rest := []) ⟨hx, hb, hml, hown, hts⟩ (g_X5_runUnder_13 l dC dI h0 h1 h2 cint H.size p0 p3 (p4 + 1) n0_size (n0_ran + 1) f1 f_206_0 tn0_size (by show 0 ≤ ((n0_ran + 1) : Int32).toInt ∧ ((n0_ran + 1) : Int32).toInt ≤ 990; first | decide | (constructor <;> (have := kk_rng p4; have := kk_add2 (x := n0_ran) (y := 1) (a := n0_ran.toInt) (b := 1) rfl rfl (by omega) (by omega); have := kk_rng p4; have := kk_add2 (x := p4) (y := 1) (a := p4.toInt) (b := 1) rfl rfl (by omega) (by omega); omega))) bf1 aOWN_BODIES aABOVE) (cwV 5 hts gX5_call_X5_runUnder rfl rfl rfl (by decide +kernel) ⟨Nat.le_of_ble_eq_true rfl, Nat.le_of_ble_eq_true rfl⟩) ⟨fun a U g mk q => by obtain ⟨q0, q1, qP, qK, qD, qx0, qx1, qx2, qx3⟩ := q; exact ⟨q0, q1, qP, va_K.moved (u := U) (U := U.calling g mk a) (Vm.Alike.refl U.vm) qK, qD, va_Z.moved (u := U) (U := U.calling g mk a) (Vm.Alike.refl U.vm) qx0, va_T.moved (u := U) (U := U.calling g mk a) (Vm.Alike.refl U.vm) qx1, va_Z.moved (u := U) (U := U.calling g mk a) (Vm.Alike.refl U.vm) qx2, va_T.moved (u := U) (U := U.calling g mk a) (Vm.Alike.refl U.vm) qx3⟩, va_recv hKc hPc (ci := 5) (q0 := 0) rfl rfl, fun U hU hW => ⟨rfl, by rw [hU], by rw [hU]; exact hPc, va_K.moved hW.alike hKc, hDc.weaken (fun _ _ _ _ => trivial), by rw [hU]; exact ((hZOWN_BODIES.kept (fun a h1 h2 => hS.2.1 a h1 h2)).narrow hFc).moved hW.alike, by rw [hU]; exact ((hTOWN_BODIES.kept (fun a h1 h2 => hS.2.1 a h1 h2)).narrow hFc).moved hW.alike, by rw [hU]; exact ((hZABOVE.kept (fun a h1 h2 => hS.2.1 a h1 h2)).narrow hFc).moved hW.alike, by rw [hU]; exact ((hTABOVE.kept (fun a h1 h2 => hS.2.1 a h1 h2)).narrow hFc).moved hW.alike⟩⟩ rfl rfl hl.1 rfl (lv_room (Nat.le_of_ble_eq_true rfl)) dX5_call_140 ⟨Nat.le_of_ble_eq_true rfl, Nat.le_of_ble_eq_true rfl⟩) hS (fun q _ h => hFc q h) hFc (fun r_207 u t H1 locs ht hvm hw hB hz1 hk1 hS => ?_)
            obtain ⟨y_208, f_209, by_208, v_209_0, hP1, hK1, hD1⟩ := hB
            have v_209_0 : y_208.toInt ≤ (n0_ran + 1).toInt + 10 := v_209_0
            rw [ht] at hP1
            have hK1 := va_K.moved hvm.symm hK1
            obtain ⟨hP, hD⟩ := va_join (wr := []) (w1 := [(h0, Sum.inr (5, [Value.ref h1, Value.int n0_size, Value.ref h2, Value.int y_208])), (h1, Sum.inl (cint, 50, Sum.inl f1)), (h2, Sum.inl (cint, 24, Sum.inl f_209))]) hP hD [0, 1, 2] [] rfl rfl (by decide) (by decide) hk1 hFc hP1 hD1
            generalize H1 = H at hP hS ⊢
            have hP : va_P (dC, dI) vwCl [(h0, Sum.inr (5, [Value.ref h1, Value.int n0_size, Value.ref h2, Value.int y_208])), (h1, Sum.inl (cint, 50, Sum.inl f1)), (h2, Sum.inl (cint, 24, Sum.inl f_209))] H := hP
            have hD : va_D A [(h0, Sum.inr (5, [Value.ref h1, Value.int n0_size, Value.ref h2, Value.int y_208])), (h1, Sum.inl (cint, 50, Sum.inl f1)), (h2, Sum.inl (cint, 24, Sum.inl f_209))] := hD
            obtain ⟨hP9, hD9⟩ := kk_leafout (wc := [(h0, Sum.inr (5, [Value.ref h1, Value.int n0_size, Value.ref h2, Value.int y_208])), (h1, Sum.inl (cint, 50, Sum.inl f1)), (h2, Sum.inl (cint, 24, Sum.inl f_209))]) hP hD [0, 1, 2] (by decide) rfl
            have hK9 := hK.sub (tys' := []) [] rfl
            exact W.iret (v := r_207) hx hb hr (fun t ht hW => ⟨⟨r_207, (), rfl, trivial, y_208, f_209, (by show 0 ≤ (y_208 : Int32).toInt ∧ (y_208 : Int32).toInt ≤ 1000; first | decide | (constructor <;> (have := kk_rng p4; have := kk_add2 (x := n0_ran) (y := 1) (a := n0_ran.toInt) (b := 1) rfl rfl (by omega) (by omega); have := kk_rng p4; have := kk_add2 (x := p4) (y := 1) (a := p4.toInt) (b := 1) rfl rfl (by omega) (by omega); omega))), (by show (y_208 : Int32).toInt ≤ (n0_ran : Int32).toInt + 11; first | decide | (have := kk_rng p4; have := kk_add2 (x := n0_ran) (y := 1) (a := n0_ran.toInt) (b := 1) rfl rfl (by omega) (by omega); have := kk_rng p4; have := kk_add2 (x := p4) (y := 1) (a := p4.toInt) (b := 1) rfl rfl (by omega) (by omega); omega)), by rw [ht]; exact hP9, va_K.moved hW.alike hK9, hD9⟩, hS.F ht⟩) hS.2.2 dX5_call_143
          · skip
            refine lv_icmp_ge (tgt := 97) hx hb dX5_call_83 (by decide) (fun c_210 => ?_) (fun c_210 => ?_)
            · have t_210 : 24 ≤ n0_ran.toInt := kk_le c_210
              exact hcut_206 (f2) _ _ _ ⟨hP, hD, hS, lv_sub hl [0, 1, 2, 3, 4, 5, 6, 7] rfl⟩
            · have t_210 : n0_ran.toInt < 24 := kk_nle c_210
              refine lv_aload_n hx hb dX5_call_86 rfl (lv_at hl 2 rfl) ?_
              refine va_get (D := (dC, dI)) (ci := 5) (v := .ref h2) (C := RX5) (T := TX5) (N := 4) hx hb hts (fun _ h => List.mem_cons_of_mem _ (List.mem_append_right _ h)) hown hK hP 0 rfl rfl 2 (by decide) (hts (.fieldLink RX5 15 "KinkStreet$Lines" "trace" "[I") (List.mem_of_getElem? (i := 4) rfl)) (fun _ h9 => h9) rfl dX5_call_87 ?_
              refine lv_aload_n hx hb dX5_call_90 rfl (lv_at hl 2 rfl) ?_
              refine va_get (D := (dC, dI)) (ci := 5) (v := .int n0_ran) (C := RX5) (T := TX5) (N := 4) hx hb hts (fun _ h => List.mem_cons_of_mem _ (List.mem_append_right _ h)) hown hK hP 0 rfl rfl 3 (by decide) (hts (.fieldLink RX5 36 "KinkStreet$Lines" "ran" "I") (List.mem_of_getElem? (i := 3) rfl)) (fun _ h9 => h9) rfl dX5_call_91 ?_
              refine lv_iload hx hb dX5_call_94 (lv_at hl 0 rfl) ?_
              refine va_iast hx hb hK hP hD hS 2 0 rfl rfl (vp_in_iff.mpr ⟨by have := kk_rng p4; omega, by have := kk_rng p4; omega⟩) dX5_call_96 (fun H locs hP hD hS => ?_)
              generalize upd f2 (n0_ran : Int32).toNatClampNeg 60 = f_211 at hP hD
              have hP : va_P (dC, dI) vwCl [(h0, Sum.inr (5, [Value.ref h1, Value.int n0_size, Value.ref h2, Value.int n0_ran])), (h1, Sum.inl (cint, 50, Sum.inl f1)), (h2, Sum.inl (cint, 24, Sum.inl f_211))] H := hP
              have hD : va_D A [(h0, Sum.inr (5, [Value.ref h1, Value.int n0_size, Value.ref h2, Value.int n0_ran])), (h1, Sum.inl (cint, 50, Sum.inl f1)), (h2, Sum.inl (cint, 24, Sum.inl f_211))] := hD
              exact hcut_206 (f_211) _ _ _ ⟨hP, hD, hS, lv_sub hl [0, 1, 2, 3, 4, 5, 6, 7] rfl⟩
        · have t_201 : 40 < p4.toInt := kk_nle c_201
          refine lv_iconst (v := 0) hx hb dX5_call_63 (by decide) ?_
          obtain ⟨hP9, hD9⟩ := kk_leafout (wc := [(h0, Sum.inr (5, [Value.ref h1, Value.int n0_size, Value.ref h2, Value.int n0_ran])), (h1, Sum.inl (cint, 50, Sum.inl f1)), (h2, Sum.inl (cint, 24, Sum.inl f2))]) hP hD [0, 1, 2] (by decide) rfl
          have hK9 := hK.sub (tys' := []) [] rfl
          exact W.iret (v := 0) hx hb hr (fun t ht hW => ⟨⟨0, (), rfl, trivial, n0_ran, f2, (by show 0 ≤ (n0_ran : Int32).toInt ∧ (n0_ran : Int32).toInt ≤ 1000; first | decide | (constructor <;> (have := kk_rng p4; omega))), (by show (n0_ran : Int32).toInt ≤ (n0_ran : Int32).toInt + 11; first | decide | (have := kk_rng p4; omega)), by rw [ht]; exact hP9, va_K.moved hW.alike hK9, hD9⟩, hS.F ht⟩) hS.2.2 dX5_call_64
    · skip
      have t_199_0 : (0 : Int) ≤ 5 := t_199_0
      have t_199_1 : (5 : Int) < 8 := t_199_1
      refine lv_if_eq (tgt := 48) hx hb dX5_call_18 (by decide) (fun c => absurd c (by decide)) (fun _ => ?_)
      refine va_gets hx hb hZOWN_BODIES hS hown (hts (.fieldLink RX5 43 "KinkStreet$Lines" "OWN_BODIES" "[I") (List.mem_of_getElem? (i := 1) rfl)) (fun _ h9 => h9) dX5_call_21 ?_
      refine lv_iload hx hb dX5_call_24 (lv_at hl 1 rfl) ?_
      refine lv_iconst (v := 4) hx hb dX5_call_26 (by decide) ?_
      refine lv_imul hx hb dX5_call_27 ?_
      refine lv_topi (fun y_212 e_212 => ?_)
      obtain rfl : y_212 = 20 := e_212.trans (by decide)
      refine lv_iload_n hx hb dX5_call_28 rfl (lv_at hl 5 rfl) ?_
      refine lv_iadd hx hb dX5_call_29 ?_
      refine lv_topi (fun y_213 e_213 => ?_)
      obtain rfl : y_213 = 21 := e_213.trans (by decide)
      refine va_ti (v := .int 60) hx hb hTOWN_BODIES hS (by unfold vp_in; decide) rfl dX5_call_30 ?_
      refine lv_if_ne (tgt := 48) hx hb dX5_call_31 (by decide) (fun _ => ?_) (fun c => absurd c (by decide))
      refine lv_iload hx hb dX5_call_48 (lv_at hl 1 rfl) ?_
      obtain ⟨hPc, hDc, hFc⟩ := kk_cutout (wc := []) hP hD hS hA [] (by decide) rfl
      have hKc := hK.sub (tys' := []) [] rfl
      refine va_calli (va_runS (As := [.int 5]) (rest := []) ⟨hx, hb, hml, hown, hts⟩ (g_X5_isKind_0 l dC dI H.size 5) (va_cwS 1 hts gX5_call_X5_isKind rfl rfl rfl (by decide +kernel) ⟨Nat.le_of_ble_eq_true rfl, Nat.le_of_ble_eq_true rfl⟩) ⟨fun a U g mk q => by obtain ⟨q0, q1, qP, qK, qD⟩ := q; exact ⟨q0, q1, qP, va_K.moved (u := U) (U := U.calling g mk a) (Vm.Alike.refl U.vm) qK, qD⟩, fun U hU hW => ⟨rfl, by rw [hU], by rw [hU]; exact hPc, va_K.moved hW.alike hKc, hDc.weaken (fun _ _ _ _ => trivial)⟩⟩ rfl rfl hl.1 rfl (lv_room (Nat.le_of_ble_eq_true rfl)) dX5_call_50 ⟨Nat.le_of_ble_eq_true rfl, Nat.le_of_ble_eq_true rfl⟩) hS (fun q _ h => hFc q h) hFc (fun r_214 u t H1 locs ht hvm hw hB hz1 hk1 hS => ?_)
      obtain ⟨hP1, hK1, hD1⟩ := hB
      rw [ht] at hP1
      have hK1 := va_K.moved hvm.symm hK1
      obtain ⟨hP, hD⟩ := va_join (wr := [(h0, Sum.inr (5, [Value.ref h1, Value.int n0_size, Value.ref h2, Value.int n0_ran])), (h1, Sum.inl (cint, 50, Sum.inl f1)), (h2, Sum.inl (cint, 24, Sum.inl f2))]) (w1 := []) hP hD [] [0, 1, 2] rfl rfl (by decide) (by decide) hk1 hFc hP1 hD1
      generalize H1 = H at hP hS ⊢
      have hP : va_P (dC, dI) vwCl [(h0, Sum.inr (5, [Value.ref h1, Value.int n0_size, Value.ref h2, Value.int n0_ran])), (h1, Sum.inl (cint, 50, Sum.inl f1)), (h2, Sum.inl (cint, 24, Sum.inl f2))] H := hP
      have hD : va_D A [(h0, Sum.inr (5, [Value.ref h1, Value.int n0_size, Value.ref h2, Value.int n0_ran])), (h1, Sum.inl (cint, 50, Sum.inl f1)), (h2, Sum.inl (cint, 24, Sum.inl f2))] := hD
      rcases hw with ⟨rfl⟩ | ⟨t_214_0, t_214_1, rfl⟩
      · skip
        refine lv_if_eq (tgt := 63) hx hb dX5_call_53 (by decide) (fun _ => ?_) (fun c => absurd c (by decide))
        refine lv_iconst (v := 0) hx hb dX5_call_63 (by decide) ?_
        obtain ⟨hP9, hD9⟩ := kk_leafout (wc := [(h0, Sum.inr (5, [Value.ref h1, Value.int n0_size, Value.ref h2, Value.int n0_ran])), (h1, Sum.inl (cint, 50, Sum.inl f1)), (h2, Sum.inl (cint, 24, Sum.inl f2))]) hP hD [0, 1, 2] (by decide) rfl
        have hK9 := hK.sub (tys' := []) [] rfl
        exact W.iret (v := 0) hx hb hr (fun t ht hW => ⟨⟨0, (), rfl, trivial, n0_ran, f2, (by show 0 ≤ (n0_ran : Int32).toInt ∧ (n0_ran : Int32).toInt ≤ 1000; first | decide | (constructor <;> (omega))), (by show (n0_ran : Int32).toInt ≤ (n0_ran : Int32).toInt + 11; first | decide | (omega)), by rw [ht]; exact hP9, va_K.moved hW.alike hK9, hD9⟩, hS.F ht⟩) hS.2.2 dX5_call_64
      · skip
        have t_214_0 : (0 : Int) ≤ 5 := t_214_0
        have t_214_1 : (5 : Int) < 8 := t_214_1
        refine lv_if_eq (tgt := 63) hx hb dX5_call_53 (by decide) (fun c => absurd c (by decide)) (fun _ => ?_)
        refine lv_iload hx hb dX5_call_56 (lv_at hl 7 rfl) ?_
        refine lv_bipush (v := 40) hx hb dX5_call_58 (by decide) ?_
        refine lv_icmp_le (tgt := 65) hx hb dX5_call_60 (by decide) (fun c_215 => ?_) (fun c_215 => ?_)
        · have t_215 : p4.toInt ≤ 40 := kk_le c_215
          refine va_gets hx hb hZOWN_BODIES hS hown (hts (.fieldLink RX5 43 "KinkStreet$Lines" "OWN_BODIES" "[I") (List.mem_of_getElem? (i := 1) rfl)) (fun _ h9 => h9) dX5_call_65 ?_
          refine lv_iload hx hb dX5_call_68 (lv_at hl 1 rfl) ?_
          refine lv_iconst (v := 4) hx hb dX5_call_70 (by decide) ?_
          refine lv_imul hx hb dX5_call_71 ?_
          refine lv_topi (fun y_216 e_216 => ?_)
          obtain rfl : y_216 = 20 := e_216.trans (by decide)
          refine lv_iload_n hx hb dX5_call_72 rfl (lv_at hl 5 rfl) ?_
          refine lv_iadd hx hb dX5_call_73 ?_
          refine lv_topi (fun y_217 e_217 => ?_)
          obtain rfl : y_217 = 21 := e_217.trans (by decide)
          refine va_ti (v := .int 60) hx hb hTOWN_BODIES hS (by unfold vp_in; decide) rfl dX5_call_74 ?_
          refine lv_istore (lv' := [(7, .int 60), (6, .int 5), (0, .ref h0), (1, .int p0), (2, .int 5), (3, .int 1), (4, .int p3), (5, .int p4)]) hx hb dX5_call_75 hl (by decide) rfl (fun ls hl => ?_)
          refine lv_aload_n hx hb dX5_call_77 rfl (lv_at hl 2 rfl) ?_
          refine va_get (D := (dC, dI)) (ci := 5) (v := .int n0_ran) (C := RX5) (T := TX5) (N := 4) hx hb hts (fun _ h => List.mem_cons_of_mem _ (List.mem_append_right _ h)) hown hK hP 0 rfl rfl 3 (by decide) (hts (.fieldLink RX5 36 "KinkStreet$Lines" "ran" "I") (List.mem_of_getElem? (i := 3) rfl)) (fun _ h9 => h9) rfl dX5_call_78 ?_
          refine lv_bipush (v := 24) hx hb dX5_call_81 (by decide) ?_
          refine kk_cut (σ := (Nat → Int32)) (pc' := 97) (fun x H locs ls => va_P (dC, dI) vwCl [(h0, Sum.inr (5, [Value.ref h1, Value.int n0_size, Value.ref h2, Value.int n0_ran])), (h1, Sum.inl (cint, 50, Sum.inl f1)), (h2, Sum.inl (cint, 24, Sum.inl x))] H ∧ va_D A [(h0, Sum.inr (5, [Value.ref h1, Value.int n0_size, Value.ref h2, Value.int n0_ran])), (h1, Sum.inl (cint, 50, Sum.inl f1)), (h2, Sum.inl (cint, 24, Sum.inl x))] ∧ va_S A s.heap H locs ∧ lv_has ls 8 [(7, .int 60), (6, .int 5), (0, .ref h0), (1, .int p0), (2, .int 5), (3, .int 1), (4, .int p3), (5, .int p4)]) ?_ (fun hcut_220 => ?_)
          · rintro f_220_0 H locs ls ⟨hP, hD, hS, hl⟩
            have hl : lv_has ls 8 [(7, .int 60), (6, .int 5), (0, .ref h0), (1, .int p0), (2, .int 5), (3, .int 1), (4, .int p3), (5, .int p4)] := hl
            have hP : va_P (dC, dI) vwCl [(h0, Sum.inr (5, [Value.ref h1, Value.int n0_size, Value.ref h2, Value.int n0_ran])), (h1, Sum.inl (cint, 50, Sum.inl f1)), (h2, Sum.inl (cint, 24, Sum.inl f_220_0))] H := hP
            have hD : va_D A [(h0, Sum.inr (5, [Value.ref h1, Value.int n0_size, Value.ref h2, Value.int n0_ran])), (h1, Sum.inl (cint, 50, Sum.inl f1)), (h2, Sum.inl (cint, 24, Sum.inl f_220_0))] := hD
            refine lv_aload_n hx hb dX5_call_97 rfl (lv_at hl 2 rfl) ?_
            refine lv_dup hx hb dX5_call_98 rfl ?_
            refine va_get (D := (dC, dI)) (ci := 5) (v := .int n0_ran) (C := RX5) (T := TX5) (N := 4) hx hb hts (fun _ h => List.mem_cons_of_mem _ (List.mem_append_right _ h)) hown hK hP 0 rfl rfl 3 (by decide) (hts (.fieldLink RX5 36 "KinkStreet$Lines" "ran" "I") (List.mem_of_getElem? (i := 3) rfl)) (fun _ h9 => h9) rfl dX5_call_99 ?_
            refine lv_iconst (v := 1) hx hb dX5_call_102 (by decide) ?_
            refine lv_iadd hx hb dX5_call_103 ?_
            refine va_put (D := (dC, dI)) (ci := 5) (v := .int (n0_ran + 1)) (ty := .int) (C := RX5) (T := TX5) (N := 4) hx hb hts (fun _ h => List.mem_cons_of_mem _ (List.mem_append_right _ h)) tyX5 tyX5_ok nmX5 hown hK hP hD hS 0 rfl rfl 3 (by decide) (hts (.fieldLink RX5 36 "KinkStreet$Lines" "ran" "I") (List.mem_of_getElem? (i := 3) rfl)) (fun _ h9 => h9) rfl (by decide +kernel) rfl rfl (Nat.le_of_ble_eq_true rfl) dX5_call_104 (fun H locs hP hD hS => ?_)
            have hP : va_P (dC, dI) vwCl [(h0, Sum.inr (5, [Value.ref h1, Value.int n0_size, Value.ref h2, Value.int (n0_ran + 1)])), (h1, Sum.inl (cint, 50, Sum.inl f1)), (h2, Sum.inl (cint, 24, Sum.inl f_220_0))] H := hP
            have hD : va_D A [(h0, Sum.inr (5, [Value.ref h1, Value.int n0_size, Value.ref h2, Value.int (n0_ran + 1)])), (h1, Sum.inl (cint, 50, Sum.inl f1)), (h2, Sum.inl (cint, 24, Sum.inl f_220_0))] := hD
            refine lv_iload hx hb dX5_call_107 (lv_at hl 1 rfl) ?_
            refine lv_if_ne (tgt := 128) hx hb dX5_call_109 (by decide) (fun _ => ?_) (fun c => absurd c (by decide))
            refine lv_aload_n hx hb dX5_call_128 rfl (lv_at hl 2 rfl) ?_
            refine lv_iload_n hx hb dX5_call_129 rfl (lv_at hl 3 rfl) ?_
            refine lv_iload hx hb dX5_call_130 (lv_at hl 1 rfl) ?_
            refine lv_iload hx hb dX5_call_132 (lv_at hl 0 rfl) ?_
            refine lv_iload hx hb dX5_call_134 (lv_at hl 6 rfl) ?_
            refine lv_iload hx hb dX5_call_136 (lv_at hl 7 rfl) ?_
            refine lv_iconst (v := 1) hx hb dX5_call_138 (by decide) ?_
            refine lv_iadd hx hb dX5_call_139 ?_
            obtain ⟨hPc, hDc, hFc⟩ := kk_cutout (wc := [(h0, Sum.inr (5, [Value.ref h1, Value.int n0_size, Value.ref h2, Value.int (n0_ran + 1)])), (h1, Sum.inl (cint, 50, Sum.inl f1)), (h2, Sum.inl (cint, 24, Sum.inl f_220_0))]) hP hD hS hA [0, 1, 2] (by decide) rfl
            have hKc := hK.sub (tys' := [(cint, .int)]) [0] rfl
            refine va_calli (va_runV (As := [.int p0, .int 5, .int 60, .int p3, .int (p4 + 1)]) (rest := []) ⟨hx, hb, hml, hown, hts⟩ (g_X5_runUnder_13 l dC dI h0 h1 h2 cint H.size p0 p3 (p4 + 1) n0_size (n0_ran + 1) f1 f_220_0 tn0_size (by show 0 ≤ ((n0_ran + 1) : Int32).toInt ∧ ((n0_ran + 1) : Int32).toInt ≤ 990; first | decide | (constructor <;> (have := kk_rng p4; have := kk_add2 (x := n0_ran) (y := 1) (a := n0_ran.toInt) (b := 1) rfl rfl (by omega) (by omega); have := kk_rng p4; have := kk_add2 (x := p4) (y := 1) (a := p4.toInt) (b := 1) rfl rfl (by omega) (by omega); omega))) bf1 aOWN_BODIES aABOVE) (cwV 5 hts gX5_call_X5_runUnder rfl rfl rfl (by decide +kernel) ⟨Nat.le_of_ble_eq_true rfl, Nat.le_of_ble_eq_true rfl⟩) ⟨fun a U g mk q => by obtain ⟨q0, q1, qP, qK, qD, qx0, qx1, qx2, qx3⟩ := q; exact ⟨q0, q1, qP, va_K.moved (u := U) (U := U.calling g mk a) (Vm.Alike.refl U.vm) qK, qD, va_Z.moved (u := U) (U := U.calling g mk a) (Vm.Alike.refl U.vm) qx0, va_T.moved (u := U) (U := U.calling g mk a) (Vm.Alike.refl U.vm) qx1, va_Z.moved (u := U) (U := U.calling g mk a) (Vm.Alike.refl U.vm) qx2, va_T.moved (u := U) (U := U.calling g mk a) (Vm.Alike.refl U.vm) qx3⟩, va_recv hKc hPc (ci := 5) (q0 := 0) rfl rfl, fun U hU hW => ⟨rfl, by rw [hU], by rw [hU]; exact hPc, va_K.moved hW.alike hKc, hDc.weaken (fun _ _ _ _ => trivial), by rw [hU]; exact ((hZOWN_BODIES.kept (fun a h1 h2 => hS.2.1 a h1 h2)).narrow hFc).moved hW.alike, by rw [hU]; exact ((hTOWN_BODIES.kept (fun a h1 h2 => hS.2.1 a h1 h2)).narrow hFc).moved hW.alike, by rw [hU]; exact ((hZABOVE.kept (fun a h1 h2 => hS.2.1 a h1 h2)).narrow hFc).moved hW.alike, by rw [hU]; exact ((hTABOVE.kept (fun a h1 h2 => hS.2.1 a h1 h2)).narrow hFc).moved hW.alike⟩⟩ rfl rfl hl.1 rfl (lv_room (Nat.le_of_ble_eq_true rfl)) dX5_call_140 ⟨Nat.le_of_ble_eq_true rfl, Nat.le_of_ble_eq_true rfl⟩) hS (fun q _ h => hFc q h) hFc (fun r_221 u t H1 locs ht hvm hw hB hz1 hk1 hS => ?_)
            obtain ⟨y_222, f_223, by_222, v_223_0, hP1, hK1, hD1⟩ := hB
            have v_223_0 : y_222.toInt ≤ (n0_ran + 1).toInt + 10 := v_223_0
            rw [ht] at hP1
            have hK1 := va_K.moved hvm.symm hK1
            obtain ⟨hP, hD⟩ := va_join (wr := []) (w1 := [(h0, Sum.inr (5, [Value.ref h1, Value.int n0_size, Value.ref h2, Value.int y_222])), (h1, Sum.inl (cint, 50, Sum.inl f1)), (h2, Sum.inl (cint, 24, Sum.inl f_223))]) hP hD [0, 1, 2] [] rfl rfl (by decide) (by decide) hk1 hFc hP1 hD1
            generalize H1 = H at hP hS ⊢
            have hP : va_P (dC, dI) vwCl [(h0, Sum.inr (5, [Value.ref h1, Value.int n0_size, Value.ref h2, Value.int y_222])), (h1, Sum.inl (cint, 50, Sum.inl f1)), (h2, Sum.inl (cint, 24, Sum.inl f_223))] H := hP
            have hD : va_D A [(h0, Sum.inr (5, [Value.ref h1, Value.int n0_size, Value.ref h2, Value.int y_222])), (h1, Sum.inl (cint, 50, Sum.inl f1)), (h2, Sum.inl (cint, 24, Sum.inl f_223))] := hD
            obtain ⟨hP9, hD9⟩ := kk_leafout (wc := [(h0, Sum.inr (5, [Value.ref h1, Value.int n0_size, Value.ref h2, Value.int y_222])), (h1, Sum.inl (cint, 50, Sum.inl f1)), (h2, Sum.inl (cint, 24, Sum.inl f_223))]) hP hD [0, 1, 2] (by decide) rfl
            have hK9 := hK.sub (tys' := []) [] rfl
            exact W.iret (v := r_221) hx hb hr (fun t ht hW => ⟨⟨r_221, (), rfl, trivial, y_222, f_223, (by show 0 ≤ (y_222 : Int32).toInt ∧ (y_222 : Int32).toInt ≤ 1000; first | decide | (constructor <;> (have := kk_rng p4; have := kk_add2 (x := n0_ran) (y := 1) (a := n0_ran.toInt) (b := 1) rfl rfl (by omega) (by omega); have := kk_rng p4; have := kk_add2 (x := p4) (y := 1) (a := p4.toInt) (b := 1) rfl rfl (by omega) (by omega); omega))), (by show (y_222 : Int32).toInt ≤ (n0_ran : Int32).toInt + 11; first | decide | (have := kk_rng p4; have := kk_add2 (x := n0_ran) (y := 1) (a := n0_ran.toInt) (b := 1) rfl rfl (by omega) (by omega); have := kk_rng p4; have := kk_add2 (x := p4) (y := 1) (a := p4.toInt) (b := 1) rfl rfl (by omega) (by omega); omega)), by rw [ht]; exact hP9, va_K.moved hW.alike hK9, hD9⟩, hS.F ht⟩) hS.2.2 dX5_call_143
          · skip
            refine lv_icmp_ge (tgt := 97) hx hb dX5_call_83 (by decide) (fun c_224 => ?_) (fun c_224 => ?_)
            · have t_224 : 24 ≤ n0_ran.toInt := kk_le c_224
              exact hcut_220 (f2) _ _ _ ⟨hP, hD, hS, lv_sub hl [0, 1, 2, 3, 4, 5, 6, 7] rfl⟩
            · have t_224 : n0_ran.toInt < 24 := kk_nle c_224
              refine lv_aload_n hx hb dX5_call_86 rfl (lv_at hl 2 rfl) ?_
              refine va_get (D := (dC, dI)) (ci := 5) (v := .ref h2) (C := RX5) (T := TX5) (N := 4) hx hb hts (fun _ h => List.mem_cons_of_mem _ (List.mem_append_right _ h)) hown hK hP 0 rfl rfl 2 (by decide) (hts (.fieldLink RX5 15 "KinkStreet$Lines" "trace" "[I") (List.mem_of_getElem? (i := 4) rfl)) (fun _ h9 => h9) rfl dX5_call_87 ?_
              refine lv_aload_n hx hb dX5_call_90 rfl (lv_at hl 2 rfl) ?_
              refine va_get (D := (dC, dI)) (ci := 5) (v := .int n0_ran) (C := RX5) (T := TX5) (N := 4) hx hb hts (fun _ h => List.mem_cons_of_mem _ (List.mem_append_right _ h)) hown hK hP 0 rfl rfl 3 (by decide) (hts (.fieldLink RX5 36 "KinkStreet$Lines" "ran" "I") (List.mem_of_getElem? (i := 3) rfl)) (fun _ h9 => h9) rfl dX5_call_91 ?_
              refine lv_iload hx hb dX5_call_94 (lv_at hl 0 rfl) ?_
              refine va_iast hx hb hK hP hD hS 2 0 rfl rfl (vp_in_iff.mpr ⟨by have := kk_rng p4; omega, by have := kk_rng p4; omega⟩) dX5_call_96 (fun H locs hP hD hS => ?_)
              generalize upd f2 (n0_ran : Int32).toNatClampNeg 60 = f_225 at hP hD
              have hP : va_P (dC, dI) vwCl [(h0, Sum.inr (5, [Value.ref h1, Value.int n0_size, Value.ref h2, Value.int n0_ran])), (h1, Sum.inl (cint, 50, Sum.inl f1)), (h2, Sum.inl (cint, 24, Sum.inl f_225))] H := hP
              have hD : va_D A [(h0, Sum.inr (5, [Value.ref h1, Value.int n0_size, Value.ref h2, Value.int n0_ran])), (h1, Sum.inl (cint, 50, Sum.inl f1)), (h2, Sum.inl (cint, 24, Sum.inl f_225))] := hD
              exact hcut_220 (f_225) _ _ _ ⟨hP, hD, hS, lv_sub hl [0, 1, 2, 3, 4, 5, 6, 7] rfl⟩
        · have t_215 : 40 < p4.toInt := kk_nle c_215
          refine lv_iconst (v := 0) hx hb dX5_call_63 (by decide) ?_
          obtain ⟨hP9, hD9⟩ := kk_leafout (wc := [(h0, Sum.inr (5, [Value.ref h1, Value.int n0_size, Value.ref h2, Value.int n0_ran])), (h1, Sum.inl (cint, 50, Sum.inl f1)), (h2, Sum.inl (cint, 24, Sum.inl f2))]) hP hD [0, 1, 2] (by decide) rfl
          have hK9 := hK.sub (tys' := []) [] rfl
          exact W.iret (v := 0) hx hb hr (fun t ht hW => ⟨⟨0, (), rfl, trivial, n0_ran, f2, (by show 0 ≤ (n0_ran : Int32).toInt ∧ (n0_ran : Int32).toInt ≤ 1000; first | decide | (constructor <;> (have := kk_rng p4; omega))), (by show (n0_ran : Int32).toInt ≤ (n0_ran : Int32).toInt + 11; first | decide | (have := kk_rng p4; omega)), by rw [ht]; exact hP9, va_K.moved hW.alike hK9, hD9⟩, hS.F ht⟩) hS.2.2 dX5_call_64
  · have t_1 : p1.toInt = 6 := by rw [e_1]; rfl
    subst e_1
    refine lv_iload_n hx hb dX5_call_0 rfl (lv_at hl 2 rfl) ?_
    refine lv_istore (lv' := [(6, .int 6), (0, .ref h0), (1, .int p0), (2, .int 6), (3, .int 1), (4, .int p3), (5, .int p4)]) hx hb dX5_call_1 hl (by decide) rfl (fun ls hl => ?_)
    refine lv_iconst (v := 0) hx hb dX5_call_3 (by decide) ?_
    refine lv_istore (lv' := [(7, .int 0), (6, .int 6), (0, .ref h0), (1, .int p0), (2, .int 6), (3, .int 1), (4, .int p3), (5, .int p4)]) hx hb dX5_call_4 hl (by decide) rfl (fun ls hl => ?_)
    refine lv_iload hx hb dX5_call_6 (lv_at hl 0 rfl) ?_
    refine lv_bipush (v := 8) hx hb dX5_call_8 (by decide) ?_
    refine lv_icmp_ge (tgt := 48) hx hb dX5_call_10 (by decide) (fun c => absurd c (by decide)) (fun _ => ?_)
    refine lv_iload hx hb dX5_call_13 (lv_at hl 1 rfl) ?_
    obtain ⟨hPc, hDc, hFc⟩ := kk_cutout (wc := []) hP hD hS hA [] (by decide) rfl
    have hKc := hK.sub (tys' := []) [] rfl
    refine va_calli (va_runS (As := [.int 6]) (rest := []) ⟨hx, hb, hml, hown, hts⟩ (g_X5_isKind_0 l dC dI s.heap.size 6) (va_cwS 1 hts gX5_call_X5_isKind rfl rfl rfl (by decide +kernel) ⟨Nat.le_of_ble_eq_true rfl, Nat.le_of_ble_eq_true rfl⟩) ⟨fun a U g mk q => by obtain ⟨q0, q1, qP, qK, qD⟩ := q; exact ⟨q0, q1, qP, va_K.moved (u := U) (U := U.calling g mk a) (Vm.Alike.refl U.vm) qK, qD⟩, fun U hU hW => ⟨rfl, by rw [hU], by rw [hU]; exact hPc, va_K.moved hW.alike hKc, hDc.weaken (fun _ _ _ _ => trivial)⟩⟩ rfl rfl hl.1 rfl (lv_room (Nat.le_of_ble_eq_true rfl)) dX5_call_15 ⟨Nat.le_of_ble_eq_true rfl, Nat.le_of_ble_eq_true rfl⟩) hS (fun q _ h => hFc q h) hFc (fun r_226 u t H1 locs ht hvm hw hB hz1 hk1 hS => ?_)
    obtain ⟨hP1, hK1, hD1⟩ := hB
    rw [ht] at hP1
    have hK1 := va_K.moved hvm.symm hK1
    obtain ⟨hP, hD⟩ := va_join (wr := [(h0, Sum.inr (5, [Value.ref h1, Value.int n0_size, Value.ref h2, Value.int n0_ran])), (h1, Sum.inl (cint, 50, Sum.inl f1)), (h2, Sum.inl (cint, 24, Sum.inl f2))]) (w1 := []) hP hD [] [0, 1, 2] rfl rfl (by decide) (by decide) hk1 hFc hP1 hD1
    generalize H1 = H at hP hS ⊢
    have hP : va_P (dC, dI) vwCl [(h0, Sum.inr (5, [Value.ref h1, Value.int n0_size, Value.ref h2, Value.int n0_ran])), (h1, Sum.inl (cint, 50, Sum.inl f1)), (h2, Sum.inl (cint, 24, Sum.inl f2))] H := hP
    have hD : va_D A [(h0, Sum.inr (5, [Value.ref h1, Value.int n0_size, Value.ref h2, Value.int n0_ran])), (h1, Sum.inl (cint, 50, Sum.inl f1)), (h2, Sum.inl (cint, 24, Sum.inl f2))] := hD
    rcases hw with ⟨rfl⟩ | ⟨t_226_0, t_226_1, rfl⟩
    · skip
      refine lv_if_eq (tgt := 48) hx hb dX5_call_18 (by decide) (fun _ => ?_) (fun c => absurd c (by decide))
      refine lv_iload hx hb dX5_call_48 (lv_at hl 1 rfl) ?_
      obtain ⟨hPc, hDc, hFc⟩ := kk_cutout (wc := []) hP hD hS hA [] (by decide) rfl
      have hKc := hK.sub (tys' := []) [] rfl
      refine va_calli (va_runS (As := [.int 6]) (rest := []) ⟨hx, hb, hml, hown, hts⟩ (g_X5_isKind_0 l dC dI H.size 6) (va_cwS 1 hts gX5_call_X5_isKind rfl rfl rfl (by decide +kernel) ⟨Nat.le_of_ble_eq_true rfl, Nat.le_of_ble_eq_true rfl⟩) ⟨fun a U g mk q => by obtain ⟨q0, q1, qP, qK, qD⟩ := q; exact ⟨q0, q1, qP, va_K.moved (u := U) (U := U.calling g mk a) (Vm.Alike.refl U.vm) qK, qD⟩, fun U hU hW => ⟨rfl, by rw [hU], by rw [hU]; exact hPc, va_K.moved hW.alike hKc, hDc.weaken (fun _ _ _ _ => trivial)⟩⟩ rfl rfl hl.1 rfl (lv_room (Nat.le_of_ble_eq_true rfl)) dX5_call_50 ⟨Nat.le_of_ble_eq_true rfl, Nat.le_of_ble_eq_true rfl⟩) hS (fun q _ h => hFc q h) hFc (fun r_227 u t H1 locs ht hvm hw hB hz1 hk1 hS => ?_)
      obtain ⟨hP1, hK1, hD1⟩ := hB
      rw [ht] at hP1
      have hK1 := va_K.moved hvm.symm hK1
      obtain ⟨hP, hD⟩ := va_join (wr := [(h0, Sum.inr (5, [Value.ref h1, Value.int n0_size, Value.ref h2, Value.int n0_ran])), (h1, Sum.inl (cint, 50, Sum.inl f1)), (h2, Sum.inl (cint, 24, Sum.inl f2))]) (w1 := []) hP hD [] [0, 1, 2] rfl rfl (by decide) (by decide) hk1 hFc hP1 hD1
      generalize H1 = H at hP hS ⊢
      have hP : va_P (dC, dI) vwCl [(h0, Sum.inr (5, [Value.ref h1, Value.int n0_size, Value.ref h2, Value.int n0_ran])), (h1, Sum.inl (cint, 50, Sum.inl f1)), (h2, Sum.inl (cint, 24, Sum.inl f2))] H := hP
      have hD : va_D A [(h0, Sum.inr (5, [Value.ref h1, Value.int n0_size, Value.ref h2, Value.int n0_ran])), (h1, Sum.inl (cint, 50, Sum.inl f1)), (h2, Sum.inl (cint, 24, Sum.inl f2))] := hD
      rcases hw with ⟨rfl⟩ | ⟨t_227_0, t_227_1, rfl⟩
      · skip
        refine lv_if_eq (tgt := 63) hx hb dX5_call_53 (by decide) (fun _ => ?_) (fun c => absurd c (by decide))
        refine lv_iconst (v := 0) hx hb dX5_call_63 (by decide) ?_
        obtain ⟨hP9, hD9⟩ := kk_leafout (wc := [(h0, Sum.inr (5, [Value.ref h1, Value.int n0_size, Value.ref h2, Value.int n0_ran])), (h1, Sum.inl (cint, 50, Sum.inl f1)), (h2, Sum.inl (cint, 24, Sum.inl f2))]) hP hD [0, 1, 2] (by decide) rfl
        have hK9 := hK.sub (tys' := []) [] rfl
        exact W.iret (v := 0) hx hb hr (fun t ht hW => ⟨⟨0, (), rfl, trivial, n0_ran, f2, (by show 0 ≤ (n0_ran : Int32).toInt ∧ (n0_ran : Int32).toInt ≤ 1000; first | decide | (constructor <;> (omega))), (by show (n0_ran : Int32).toInt ≤ (n0_ran : Int32).toInt + 11; first | decide | (omega)), by rw [ht]; exact hP9, va_K.moved hW.alike hK9, hD9⟩, hS.F ht⟩) hS.2.2 dX5_call_64
      · skip
        have t_227_0 : (0 : Int) ≤ 6 := t_227_0
        have t_227_1 : (6 : Int) < 8 := t_227_1
        refine lv_if_eq (tgt := 63) hx hb dX5_call_53 (by decide) (fun c => absurd c (by decide)) (fun _ => ?_)
        refine lv_iload hx hb dX5_call_56 (lv_at hl 7 rfl) ?_
        refine lv_bipush (v := 40) hx hb dX5_call_58 (by decide) ?_
        refine lv_icmp_le (tgt := 65) hx hb dX5_call_60 (by decide) (fun c_228 => ?_) (fun c_228 => ?_)
        · have t_228 : p4.toInt ≤ 40 := kk_le c_228
          refine va_gets hx hb hZOWN_BODIES hS hown (hts (.fieldLink RX5 43 "KinkStreet$Lines" "OWN_BODIES" "[I") (List.mem_of_getElem? (i := 1) rfl)) (fun _ h9 => h9) dX5_call_65 ?_
          refine lv_iload hx hb dX5_call_68 (lv_at hl 1 rfl) ?_
          refine lv_iconst (v := 4) hx hb dX5_call_70 (by decide) ?_
          refine lv_imul hx hb dX5_call_71 ?_
          refine lv_topi (fun y_229 e_229 => ?_)
          obtain rfl : y_229 = 24 := e_229.trans (by decide)
          refine lv_iload_n hx hb dX5_call_72 rfl (lv_at hl 5 rfl) ?_
          refine lv_iadd hx hb dX5_call_73 ?_
          refine lv_topi (fun y_230 e_230 => ?_)
          obtain rfl : y_230 = 25 := e_230.trans (by decide)
          refine va_ti (v := .int 0) hx hb hTOWN_BODIES hS (by unfold vp_in; decide) rfl dX5_call_74 ?_
          refine lv_istore (lv' := [(7, .int 0), (6, .int 6), (0, .ref h0), (1, .int p0), (2, .int 6), (3, .int 1), (4, .int p3), (5, .int p4)]) hx hb dX5_call_75 hl (by decide) rfl (fun ls hl => ?_)
          refine lv_aload_n hx hb dX5_call_77 rfl (lv_at hl 2 rfl) ?_
          refine va_get (D := (dC, dI)) (ci := 5) (v := .int n0_ran) (C := RX5) (T := TX5) (N := 4) hx hb hts (fun _ h => List.mem_cons_of_mem _ (List.mem_append_right _ h)) hown hK hP 0 rfl rfl 3 (by decide) (hts (.fieldLink RX5 36 "KinkStreet$Lines" "ran" "I") (List.mem_of_getElem? (i := 3) rfl)) (fun _ h9 => h9) rfl dX5_call_78 ?_
          refine lv_bipush (v := 24) hx hb dX5_call_81 (by decide) ?_
          refine kk_cut (σ := (Nat → Int32)) (pc' := 97) (fun x H locs ls => va_P (dC, dI) vwCl [(h0, Sum.inr (5, [Value.ref h1, Value.int n0_size, Value.ref h2, Value.int n0_ran])), (h1, Sum.inl (cint, 50, Sum.inl f1)), (h2, Sum.inl (cint, 24, Sum.inl x))] H ∧ va_D A [(h0, Sum.inr (5, [Value.ref h1, Value.int n0_size, Value.ref h2, Value.int n0_ran])), (h1, Sum.inl (cint, 50, Sum.inl f1)), (h2, Sum.inl (cint, 24, Sum.inl x))] ∧ va_S A s.heap H locs ∧ lv_has ls 8 [(7, .int 0), (6, .int 6), (0, .ref h0), (1, .int p0), (2, .int 6), (3, .int 1), (4, .int p3), (5, .int p4)]) ?_ (fun hcut_233 => ?_)
          · rintro f_233_0 H locs ls ⟨hP, hD, hS, hl⟩
            have hl : lv_has ls 8 [(7, .int 0), (6, .int 6), (0, .ref h0), (1, .int p0), (2, .int 6), (3, .int 1), (4, .int p3), (5, .int p4)] := hl
            have hP : va_P (dC, dI) vwCl [(h0, Sum.inr (5, [Value.ref h1, Value.int n0_size, Value.ref h2, Value.int n0_ran])), (h1, Sum.inl (cint, 50, Sum.inl f1)), (h2, Sum.inl (cint, 24, Sum.inl f_233_0))] H := hP
            have hD : va_D A [(h0, Sum.inr (5, [Value.ref h1, Value.int n0_size, Value.ref h2, Value.int n0_ran])), (h1, Sum.inl (cint, 50, Sum.inl f1)), (h2, Sum.inl (cint, 24, Sum.inl f_233_0))] := hD
            refine lv_aload_n hx hb dX5_call_97 rfl (lv_at hl 2 rfl) ?_
            refine lv_dup hx hb dX5_call_98 rfl ?_
            refine va_get (D := (dC, dI)) (ci := 5) (v := .int n0_ran) (C := RX5) (T := TX5) (N := 4) hx hb hts (fun _ h => List.mem_cons_of_mem _ (List.mem_append_right _ h)) hown hK hP 0 rfl rfl 3 (by decide) (hts (.fieldLink RX5 36 "KinkStreet$Lines" "ran" "I") (List.mem_of_getElem? (i := 3) rfl)) (fun _ h9 => h9) rfl dX5_call_99 ?_
            refine lv_iconst (v := 1) hx hb dX5_call_102 (by decide) ?_
            refine lv_iadd hx hb dX5_call_103 ?_
            refine va_put (D := (dC, dI)) (ci := 5) (v := .int (n0_ran + 1)) (ty := .int) (C := RX5) (T := TX5) (N := 4) hx hb hts (fun _ h => List.mem_cons_of_mem _ (List.mem_append_right _ h)) tyX5 tyX5_ok nmX5 hown hK hP hD hS 0 rfl rfl 3 (by decide) (hts (.fieldLink RX5 36 "KinkStreet$Lines" "ran" "I") (List.mem_of_getElem? (i := 3) rfl)) (fun _ h9 => h9) rfl (by decide +kernel) rfl rfl (Nat.le_of_ble_eq_true rfl) dX5_call_104 (fun H locs hP hD hS => ?_)
            have hP : va_P (dC, dI) vwCl [(h0, Sum.inr (5, [Value.ref h1, Value.int n0_size, Value.ref h2, Value.int (n0_ran + 1)])), (h1, Sum.inl (cint, 50, Sum.inl f1)), (h2, Sum.inl (cint, 24, Sum.inl f_233_0))] H := hP
            have hD : va_D A [(h0, Sum.inr (5, [Value.ref h1, Value.int n0_size, Value.ref h2, Value.int (n0_ran + 1)])), (h1, Sum.inl (cint, 50, Sum.inl f1)), (h2, Sum.inl (cint, 24, Sum.inl f_233_0))] := hD
            refine lv_iload hx hb dX5_call_107 (lv_at hl 1 rfl) ?_
            refine lv_if_ne (tgt := 128) hx hb dX5_call_109 (by decide) (fun _ => ?_) (fun c => absurd c (by decide))
            refine lv_aload_n hx hb dX5_call_128 rfl (lv_at hl 2 rfl) ?_
            refine lv_iload_n hx hb dX5_call_129 rfl (lv_at hl 3 rfl) ?_
            refine lv_iload hx hb dX5_call_130 (lv_at hl 1 rfl) ?_
            refine lv_iload hx hb dX5_call_132 (lv_at hl 0 rfl) ?_
            refine lv_iload hx hb dX5_call_134 (lv_at hl 6 rfl) ?_
            refine lv_iload hx hb dX5_call_136 (lv_at hl 7 rfl) ?_
            refine lv_iconst (v := 1) hx hb dX5_call_138 (by decide) ?_
            refine lv_iadd hx hb dX5_call_139 ?_
            obtain ⟨hPc, hDc, hFc⟩ := kk_cutout (wc := [(h0, Sum.inr (5, [Value.ref h1, Value.int n0_size, Value.ref h2, Value.int (n0_ran + 1)])), (h1, Sum.inl (cint, 50, Sum.inl f1)), (h2, Sum.inl (cint, 24, Sum.inl f_233_0))]) hP hD hS hA [0, 1, 2] (by decide) rfl
            have hKc := hK.sub (tys' := [(cint, .int)]) [0] rfl
            refine va_calli (va_runV (As := [.int p0, .int 6, .int 0, .int p3, .int (p4 + 1)]) (rest := []) ⟨hx, hb, hml, hown, hts⟩ (g_X5_runUnder_11 l dC dI h0 h1 h2 cint H.size p0 p3 (p4 + 1) n0_size (n0_ran + 1) f1 f_233_0 tn0_size (by show 0 ≤ ((n0_ran + 1) : Int32).toInt ∧ ((n0_ran + 1) : Int32).toInt ≤ 999; first | decide | (constructor <;> (have := kk_rng p4; have := kk_add2 (x := n0_ran) (y := 1) (a := n0_ran.toInt) (b := 1) rfl rfl (by omega) (by omega); have := kk_rng p4; have := kk_add2 (x := p4) (y := 1) (a := p4.toInt) (b := 1) rfl rfl (by omega) (by omega); omega))) bf1 aOWN_BODIES aABOVE) (cwV 5 hts gX5_call_X5_runUnder rfl rfl rfl (by decide +kernel) ⟨Nat.le_of_ble_eq_true rfl, Nat.le_of_ble_eq_true rfl⟩) ⟨fun a U g mk q => by obtain ⟨q0, q1, qP, qK, qD, qx0, qx1, qx2, qx3⟩ := q; exact ⟨q0, q1, qP, va_K.moved (u := U) (U := U.calling g mk a) (Vm.Alike.refl U.vm) qK, qD, va_Z.moved (u := U) (U := U.calling g mk a) (Vm.Alike.refl U.vm) qx0, va_T.moved (u := U) (U := U.calling g mk a) (Vm.Alike.refl U.vm) qx1, va_Z.moved (u := U) (U := U.calling g mk a) (Vm.Alike.refl U.vm) qx2, va_T.moved (u := U) (U := U.calling g mk a) (Vm.Alike.refl U.vm) qx3⟩, va_recv hKc hPc (ci := 5) (q0 := 0) rfl rfl, fun U hU hW => ⟨rfl, by rw [hU], by rw [hU]; exact hPc, va_K.moved hW.alike hKc, hDc.weaken (fun _ _ _ _ => trivial), by rw [hU]; exact ((hZOWN_BODIES.kept (fun a h1 h2 => hS.2.1 a h1 h2)).narrow hFc).moved hW.alike, by rw [hU]; exact ((hTOWN_BODIES.kept (fun a h1 h2 => hS.2.1 a h1 h2)).narrow hFc).moved hW.alike, by rw [hU]; exact ((hZABOVE.kept (fun a h1 h2 => hS.2.1 a h1 h2)).narrow hFc).moved hW.alike, by rw [hU]; exact ((hTABOVE.kept (fun a h1 h2 => hS.2.1 a h1 h2)).narrow hFc).moved hW.alike⟩⟩ rfl rfl hl.1 rfl (lv_room (Nat.le_of_ble_eq_true rfl)) dX5_call_140 ⟨Nat.le_of_ble_eq_true rfl, Nat.le_of_ble_eq_true rfl⟩) hS (fun q _ h => hFc q h) hFc (fun r_234 u t H1 locs ht hvm hw hB hz1 hk1 hS => ?_)
            obtain ⟨y_235, f_236, by_235, v_236_0, hP1, hK1, hD1⟩ := hB
            have v_236_0 : y_235.toInt ≤ (n0_ran + 1).toInt + 1 := v_236_0
            rw [ht] at hP1
            have hK1 := va_K.moved hvm.symm hK1
            obtain ⟨hP, hD⟩ := va_join (wr := []) (w1 := [(h0, Sum.inr (5, [Value.ref h1, Value.int n0_size, Value.ref h2, Value.int y_235])), (h1, Sum.inl (cint, 50, Sum.inl f1)), (h2, Sum.inl (cint, 24, Sum.inl f_236))]) hP hD [0, 1, 2] [] rfl rfl (by decide) (by decide) hk1 hFc hP1 hD1
            generalize H1 = H at hP hS ⊢
            have hP : va_P (dC, dI) vwCl [(h0, Sum.inr (5, [Value.ref h1, Value.int n0_size, Value.ref h2, Value.int y_235])), (h1, Sum.inl (cint, 50, Sum.inl f1)), (h2, Sum.inl (cint, 24, Sum.inl f_236))] H := hP
            have hD : va_D A [(h0, Sum.inr (5, [Value.ref h1, Value.int n0_size, Value.ref h2, Value.int y_235])), (h1, Sum.inl (cint, 50, Sum.inl f1)), (h2, Sum.inl (cint, 24, Sum.inl f_236))] := hD
            obtain ⟨hP9, hD9⟩ := kk_leafout (wc := [(h0, Sum.inr (5, [Value.ref h1, Value.int n0_size, Value.ref h2, Value.int y_235])), (h1, Sum.inl (cint, 50, Sum.inl f1)), (h2, Sum.inl (cint, 24, Sum.inl f_236))]) hP hD [0, 1, 2] (by decide) rfl
            have hK9 := hK.sub (tys' := []) [] rfl
            exact W.iret (v := r_234) hx hb hr (fun t ht hW => ⟨⟨r_234, (), rfl, trivial, y_235, f_236, (by show 0 ≤ (y_235 : Int32).toInt ∧ (y_235 : Int32).toInt ≤ 1000; first | decide | (constructor <;> (have := kk_rng p4; have := kk_add2 (x := n0_ran) (y := 1) (a := n0_ran.toInt) (b := 1) rfl rfl (by omega) (by omega); have := kk_rng p4; have := kk_add2 (x := p4) (y := 1) (a := p4.toInt) (b := 1) rfl rfl (by omega) (by omega); omega))), (by show (y_235 : Int32).toInt ≤ (n0_ran : Int32).toInt + 11; first | decide | (have := kk_rng p4; have := kk_add2 (x := n0_ran) (y := 1) (a := n0_ran.toInt) (b := 1) rfl rfl (by omega) (by omega); have := kk_rng p4; have := kk_add2 (x := p4) (y := 1) (a := p4.toInt) (b := 1) rfl rfl (by omega) (by omega); omega)), by rw [ht]; exact hP9, va_K.moved hW.alike hK9, hD9⟩, hS.F ht⟩) hS.2.2 dX5_call_143
          · skip
            refine lv_icmp_ge (tgt := 97) hx hb dX5_call_83 (by decide) (fun c_237 => ?_) (fun c_237 => ?_)
            · have t_237 : 24 ≤ n0_ran.toInt := kk_le c_237
              exact hcut_233 (f2) _ _ _ ⟨hP, hD, hS, lv_sub hl [0, 1, 2, 3, 4, 5, 6, 7] rfl⟩
            · have t_237 : n0_ran.toInt < 24 := kk_nle c_237
              refine lv_aload_n hx hb dX5_call_86 rfl (lv_at hl 2 rfl) ?_
              refine va_get (D := (dC, dI)) (ci := 5) (v := .ref h2) (C := RX5) (T := TX5) (N := 4) hx hb hts (fun _ h => List.mem_cons_of_mem _ (List.mem_append_right _ h)) hown hK hP 0 rfl rfl 2 (by decide) (hts (.fieldLink RX5 15 "KinkStreet$Lines" "trace" "[I") (List.mem_of_getElem? (i := 4) rfl)) (fun _ h9 => h9) rfl dX5_call_87 ?_
              refine lv_aload_n hx hb dX5_call_90 rfl (lv_at hl 2 rfl) ?_
              refine va_get (D := (dC, dI)) (ci := 5) (v := .int n0_ran) (C := RX5) (T := TX5) (N := 4) hx hb hts (fun _ h => List.mem_cons_of_mem _ (List.mem_append_right _ h)) hown hK hP 0 rfl rfl 3 (by decide) (hts (.fieldLink RX5 36 "KinkStreet$Lines" "ran" "I") (List.mem_of_getElem? (i := 3) rfl)) (fun _ h9 => h9) rfl dX5_call_91 ?_
              refine lv_iload hx hb dX5_call_94 (lv_at hl 0 rfl) ?_
              refine va_iast hx hb hK hP hD hS 2 0 rfl rfl (vp_in_iff.mpr ⟨by have := kk_rng p4; omega, by have := kk_rng p4; omega⟩) dX5_call_96 (fun H locs hP hD hS => ?_)
              generalize upd f2 (n0_ran : Int32).toNatClampNeg 0 = f_238 at hP hD
              have hP : va_P (dC, dI) vwCl [(h0, Sum.inr (5, [Value.ref h1, Value.int n0_size, Value.ref h2, Value.int n0_ran])), (h1, Sum.inl (cint, 50, Sum.inl f1)), (h2, Sum.inl (cint, 24, Sum.inl f_238))] H := hP
              have hD : va_D A [(h0, Sum.inr (5, [Value.ref h1, Value.int n0_size, Value.ref h2, Value.int n0_ran])), (h1, Sum.inl (cint, 50, Sum.inl f1)), (h2, Sum.inl (cint, 24, Sum.inl f_238))] := hD
              exact hcut_233 (f_238) _ _ _ ⟨hP, hD, hS, lv_sub hl [0, 1, 2, 3, 4, 5, 6, 7] rfl⟩
        · have t_228 : 40 < p4.toInt := kk_nle c_228
          refine lv_iconst (v := 0) hx hb dX5_call_63 (by decide) ?_
          obtain ⟨hP9, hD9⟩ := kk_leafout (wc := [(h0, Sum.inr (5, [Value.ref h1, Value.int n0_size, Value.ref h2, Value.int n0_ran])), (h1, Sum.inl (cint, 50, Sum.inl f1)), (h2, Sum.inl (cint, 24, Sum.inl f2))]) hP hD [0, 1, 2] (by decide) rfl
          have hK9 := hK.sub (tys' := []) [] rfl
          exact W.iret (v := 0) hx hb hr (fun t ht hW => ⟨⟨0, (), rfl, trivial, n0_ran, f2, (by show 0 ≤ (n0_ran : Int32).toInt ∧ (n0_ran : Int32).toInt ≤ 1000; first | decide | (constructor <;> (have := kk_rng p4; omega))), (by show (n0_ran : Int32).toInt ≤ (n0_ran : Int32).toInt + 11; first | decide | (have := kk_rng p4; omega)), by rw [ht]; exact hP9, va_K.moved hW.alike hK9, hD9⟩, hS.F ht⟩) hS.2.2 dX5_call_64
    · skip
      have t_226_0 : (0 : Int) ≤ 6 := t_226_0
      have t_226_1 : (6 : Int) < 8 := t_226_1
      refine lv_if_eq (tgt := 48) hx hb dX5_call_18 (by decide) (fun c => absurd c (by decide)) (fun _ => ?_)
      refine va_gets hx hb hZOWN_BODIES hS hown (hts (.fieldLink RX5 43 "KinkStreet$Lines" "OWN_BODIES" "[I") (List.mem_of_getElem? (i := 1) rfl)) (fun _ h9 => h9) dX5_call_21 ?_
      refine lv_iload hx hb dX5_call_24 (lv_at hl 1 rfl) ?_
      refine lv_iconst (v := 4) hx hb dX5_call_26 (by decide) ?_
      refine lv_imul hx hb dX5_call_27 ?_
      refine lv_topi (fun y_239 e_239 => ?_)
      obtain rfl : y_239 = 24 := e_239.trans (by decide)
      refine lv_iload_n hx hb dX5_call_28 rfl (lv_at hl 5 rfl) ?_
      refine lv_iadd hx hb dX5_call_29 ?_
      refine lv_topi (fun y_240 e_240 => ?_)
      obtain rfl : y_240 = 25 := e_240.trans (by decide)
      refine va_ti (v := .int 0) hx hb hTOWN_BODIES hS (by unfold vp_in; decide) rfl dX5_call_30 ?_
      refine lv_if_ne (tgt := 48) hx hb dX5_call_31 (by decide) (fun c => absurd c (by decide)) (fun _ => ?_)
      refine va_gets hx hb hZABOVE hS hown (hts (.fieldLink RX5 22 "KinkStreet$Lines" "ABOVE" "[I") (List.mem_of_getElem? (i := 2) rfl)) (fun _ h9 => h9) dX5_call_34 ?_
      refine lv_iload hx hb dX5_call_37 (lv_at hl 1 rfl) ?_
      refine va_ti (v := .int 0) hx hb hTABOVE hS (by unfold vp_in; decide) rfl dX5_call_39 ?_
      refine lv_istore (lv' := [(6, .int 0), (7, .int 0), (0, .ref h0), (1, .int p0), (2, .int 6), (3, .int 1), (4, .int p3), (5, .int p4)]) hx hb dX5_call_40 hl (by decide) rfl (fun ls hl => ?_)
      refine lv_iinc (v := 1) (lv' := [(7, .int 1), (6, .int 0), (0, .ref h0), (1, .int p0), (2, .int 6), (3, .int 1), (4, .int p3), (5, .int p4)]) hx hb dX5_call_42 hl (k := 1) rfl (by first | rfl | decide) (by decide) rfl (fun ls hl => ?_)
      refine lv_goto (tgt := 6) hx hb dX5_call_45 (by decide) ?_
      refine lv_iload hx hb dX5_call_6 (lv_at hl 0 rfl) ?_
      refine lv_bipush (v := 8) hx hb dX5_call_8 (by decide) ?_
      refine lv_icmp_ge (tgt := 48) hx hb dX5_call_10 (by decide) (fun c => absurd c (by decide)) (fun _ => ?_)
      refine lv_iload hx hb dX5_call_13 (lv_at hl 1 rfl) ?_
      obtain ⟨hPc, hDc, hFc⟩ := kk_cutout (wc := []) hP hD hS hA [] (by decide) rfl
      have hKc := hK.sub (tys' := []) [] rfl
      refine va_calli (va_runS (As := [.int 0]) (rest := []) ⟨hx, hb, hml, hown, hts⟩ (g_X5_isKind_0 l dC dI H.size 0) (va_cwS 1 hts gX5_call_X5_isKind rfl rfl rfl (by decide +kernel) ⟨Nat.le_of_ble_eq_true rfl, Nat.le_of_ble_eq_true rfl⟩) ⟨fun a U g mk q => by obtain ⟨q0, q1, qP, qK, qD⟩ := q; exact ⟨q0, q1, qP, va_K.moved (u := U) (U := U.calling g mk a) (Vm.Alike.refl U.vm) qK, qD⟩, fun U hU hW => ⟨rfl, by rw [hU], by rw [hU]; exact hPc, va_K.moved hW.alike hKc, hDc.weaken (fun _ _ _ _ => trivial)⟩⟩ rfl rfl hl.1 rfl (lv_room (Nat.le_of_ble_eq_true rfl)) dX5_call_15 ⟨Nat.le_of_ble_eq_true rfl, Nat.le_of_ble_eq_true rfl⟩) hS (fun q _ h => hFc q h) hFc (fun r_241 u t H1 locs ht hvm hw hB hz1 hk1 hS => ?_)
      obtain ⟨hP1, hK1, hD1⟩ := hB
      rw [ht] at hP1
      have hK1 := va_K.moved hvm.symm hK1
      obtain ⟨hP, hD⟩ := va_join (wr := [(h0, Sum.inr (5, [Value.ref h1, Value.int n0_size, Value.ref h2, Value.int n0_ran])), (h1, Sum.inl (cint, 50, Sum.inl f1)), (h2, Sum.inl (cint, 24, Sum.inl f2))]) (w1 := []) hP hD [] [0, 1, 2] rfl rfl (by decide) (by decide) hk1 hFc hP1 hD1
      generalize H1 = H at hP hS ⊢
      have hP : va_P (dC, dI) vwCl [(h0, Sum.inr (5, [Value.ref h1, Value.int n0_size, Value.ref h2, Value.int n0_ran])), (h1, Sum.inl (cint, 50, Sum.inl f1)), (h2, Sum.inl (cint, 24, Sum.inl f2))] H := hP
      have hD : va_D A [(h0, Sum.inr (5, [Value.ref h1, Value.int n0_size, Value.ref h2, Value.int n0_ran])), (h1, Sum.inl (cint, 50, Sum.inl f1)), (h2, Sum.inl (cint, 24, Sum.inl f2))] := hD
      rcases hw with ⟨rfl⟩ | ⟨t_241_0, t_241_1, rfl⟩
      · skip
        refine lv_if_eq (tgt := 48) hx hb dX5_call_18 (by decide) (fun _ => ?_) (fun c => absurd c (by decide))
        refine lv_iload hx hb dX5_call_48 (lv_at hl 1 rfl) ?_
        obtain ⟨hPc, hDc, hFc⟩ := kk_cutout (wc := []) hP hD hS hA [] (by decide) rfl
        have hKc := hK.sub (tys' := []) [] rfl
        refine va_calli (va_runS (As := [.int 0]) (rest := []) ⟨hx, hb, hml, hown, hts⟩ (g_X5_isKind_0 l dC dI H.size 0) (va_cwS 1 hts gX5_call_X5_isKind rfl rfl rfl (by decide +kernel) ⟨Nat.le_of_ble_eq_true rfl, Nat.le_of_ble_eq_true rfl⟩) ⟨fun a U g mk q => by obtain ⟨q0, q1, qP, qK, qD⟩ := q; exact ⟨q0, q1, qP, va_K.moved (u := U) (U := U.calling g mk a) (Vm.Alike.refl U.vm) qK, qD⟩, fun U hU hW => ⟨rfl, by rw [hU], by rw [hU]; exact hPc, va_K.moved hW.alike hKc, hDc.weaken (fun _ _ _ _ => trivial)⟩⟩ rfl rfl hl.1 rfl (lv_room (Nat.le_of_ble_eq_true rfl)) dX5_call_50 ⟨Nat.le_of_ble_eq_true rfl, Nat.le_of_ble_eq_true rfl⟩) hS (fun q _ h => hFc q h) hFc (fun r_242 u t H1 locs ht hvm hw hB hz1 hk1 hS => ?_)
        obtain ⟨hP1, hK1, hD1⟩ := hB
        rw [ht] at hP1
        have hK1 := va_K.moved hvm.symm hK1
        obtain ⟨hP, hD⟩ := va_join (wr := [(h0, Sum.inr (5, [Value.ref h1, Value.int n0_size, Value.ref h2, Value.int n0_ran])), (h1, Sum.inl (cint, 50, Sum.inl f1)), (h2, Sum.inl (cint, 24, Sum.inl f2))]) (w1 := []) hP hD [] [0, 1, 2] rfl rfl (by decide) (by decide) hk1 hFc hP1 hD1
        generalize H1 = H at hP hS ⊢
        have hP : va_P (dC, dI) vwCl [(h0, Sum.inr (5, [Value.ref h1, Value.int n0_size, Value.ref h2, Value.int n0_ran])), (h1, Sum.inl (cint, 50, Sum.inl f1)), (h2, Sum.inl (cint, 24, Sum.inl f2))] H := hP
        have hD : va_D A [(h0, Sum.inr (5, [Value.ref h1, Value.int n0_size, Value.ref h2, Value.int n0_ran])), (h1, Sum.inl (cint, 50, Sum.inl f1)), (h2, Sum.inl (cint, 24, Sum.inl f2))] := hD
        rcases hw with ⟨rfl⟩ | ⟨t_242_0, t_242_1, rfl⟩
        · skip
          refine lv_if_eq (tgt := 63) hx hb dX5_call_53 (by decide) (fun _ => ?_) (fun c => absurd c (by decide))
          refine lv_iconst (v := 0) hx hb dX5_call_63 (by decide) ?_
          obtain ⟨hP9, hD9⟩ := kk_leafout (wc := [(h0, Sum.inr (5, [Value.ref h1, Value.int n0_size, Value.ref h2, Value.int n0_ran])), (h1, Sum.inl (cint, 50, Sum.inl f1)), (h2, Sum.inl (cint, 24, Sum.inl f2))]) hP hD [0, 1, 2] (by decide) rfl
          have hK9 := hK.sub (tys' := []) [] rfl
          exact W.iret (v := 0) hx hb hr (fun t ht hW => ⟨⟨0, (), rfl, trivial, n0_ran, f2, (by show 0 ≤ (n0_ran : Int32).toInt ∧ (n0_ran : Int32).toInt ≤ 1000; first | decide | (constructor <;> (omega))), (by show (n0_ran : Int32).toInt ≤ (n0_ran : Int32).toInt + 11; first | decide | (omega)), by rw [ht]; exact hP9, va_K.moved hW.alike hK9, hD9⟩, hS.F ht⟩) hS.2.2 dX5_call_64
        · skip
          have t_242_0 : (0 : Int) ≤ 0 := t_242_0
          have t_242_1 : (0 : Int) < 8 := t_242_1
          refine lv_if_eq (tgt := 63) hx hb dX5_call_53 (by decide) (fun c => absurd c (by decide)) (fun _ => ?_)
          refine lv_iload hx hb dX5_call_56 (lv_at hl 7 rfl) ?_
          refine lv_bipush (v := 40) hx hb dX5_call_58 (by decide) ?_
          refine lv_icmp_le (tgt := 65) hx hb dX5_call_60 (by decide) (fun c_243 => ?_) (fun c_243 => ?_)
          · have t_243 : p4.toInt ≤ 40 := kk_le c_243
            refine va_gets hx hb hZOWN_BODIES hS hown (hts (.fieldLink RX5 43 "KinkStreet$Lines" "OWN_BODIES" "[I") (List.mem_of_getElem? (i := 1) rfl)) (fun _ h9 => h9) dX5_call_65 ?_
            refine lv_iload hx hb dX5_call_68 (lv_at hl 1 rfl) ?_
            refine lv_iconst (v := 4) hx hb dX5_call_70 (by decide) ?_
            refine lv_imul hx hb dX5_call_71 ?_
            refine lv_topi (fun y_244 e_244 => ?_)
            obtain rfl : y_244 = 0 := e_244.trans (by decide)
            refine lv_iload_n hx hb dX5_call_72 rfl (lv_at hl 5 rfl) ?_
            refine lv_iadd hx hb dX5_call_73 ?_
            refine lv_topi (fun y_245 e_245 => ?_)
            obtain rfl : y_245 = 1 := e_245.trans (by decide)
            refine va_ti (v := .int 10) hx hb hTOWN_BODIES hS (by unfold vp_in; decide) rfl dX5_call_74 ?_
            refine lv_istore (lv' := [(7, .int 10), (6, .int 0), (0, .ref h0), (1, .int p0), (2, .int 6), (3, .int 1), (4, .int p3), (5, .int p4)]) hx hb dX5_call_75 hl (by decide) rfl (fun ls hl => ?_)
            refine lv_aload_n hx hb dX5_call_77 rfl (lv_at hl 2 rfl) ?_
            refine va_get (D := (dC, dI)) (ci := 5) (v := .int n0_ran) (C := RX5) (T := TX5) (N := 4) hx hb hts (fun _ h => List.mem_cons_of_mem _ (List.mem_append_right _ h)) hown hK hP 0 rfl rfl 3 (by decide) (hts (.fieldLink RX5 36 "KinkStreet$Lines" "ran" "I") (List.mem_of_getElem? (i := 3) rfl)) (fun _ h9 => h9) rfl dX5_call_78 ?_
            refine lv_bipush (v := 24) hx hb dX5_call_81 (by decide) ?_
            refine kk_cut (σ := (Nat → Int32)) (pc' := 97) (fun x H locs ls => va_P (dC, dI) vwCl [(h0, Sum.inr (5, [Value.ref h1, Value.int n0_size, Value.ref h2, Value.int n0_ran])), (h1, Sum.inl (cint, 50, Sum.inl f1)), (h2, Sum.inl (cint, 24, Sum.inl x))] H ∧ va_D A [(h0, Sum.inr (5, [Value.ref h1, Value.int n0_size, Value.ref h2, Value.int n0_ran])), (h1, Sum.inl (cint, 50, Sum.inl f1)), (h2, Sum.inl (cint, 24, Sum.inl x))] ∧ va_S A s.heap H locs ∧ lv_has ls 8 [(7, .int 10), (6, .int 0), (0, .ref h0), (1, .int p0), (2, .int 6), (3, .int 1), (4, .int p3), (5, .int p4)]) ?_ (fun hcut_248 => ?_)
            · rintro f_248_0 H locs ls ⟨hP, hD, hS, hl⟩
              have hl : lv_has ls 8 [(7, .int 10), (6, .int 0), (0, .ref h0), (1, .int p0), (2, .int 6), (3, .int 1), (4, .int p3), (5, .int p4)] := hl
              have hP : va_P (dC, dI) vwCl [(h0, Sum.inr (5, [Value.ref h1, Value.int n0_size, Value.ref h2, Value.int n0_ran])), (h1, Sum.inl (cint, 50, Sum.inl f1)), (h2, Sum.inl (cint, 24, Sum.inl f_248_0))] H := hP
              have hD : va_D A [(h0, Sum.inr (5, [Value.ref h1, Value.int n0_size, Value.ref h2, Value.int n0_ran])), (h1, Sum.inl (cint, 50, Sum.inl f1)), (h2, Sum.inl (cint, 24, Sum.inl f_248_0))] := hD
              refine lv_aload_n hx hb dX5_call_97 rfl (lv_at hl 2 rfl) ?_
              refine lv_dup hx hb dX5_call_98 rfl ?_
              refine va_get (D := (dC, dI)) (ci := 5) (v := .int n0_ran) (C := RX5) (T := TX5) (N := 4) hx hb hts (fun _ h => List.mem_cons_of_mem _ (List.mem_append_right _ h)) hown hK hP 0 rfl rfl 3 (by decide) (hts (.fieldLink RX5 36 "KinkStreet$Lines" "ran" "I") (List.mem_of_getElem? (i := 3) rfl)) (fun _ h9 => h9) rfl dX5_call_99 ?_
              refine lv_iconst (v := 1) hx hb dX5_call_102 (by decide) ?_
              refine lv_iadd hx hb dX5_call_103 ?_
              refine va_put (D := (dC, dI)) (ci := 5) (v := .int (n0_ran + 1)) (ty := .int) (C := RX5) (T := TX5) (N := 4) hx hb hts (fun _ h => List.mem_cons_of_mem _ (List.mem_append_right _ h)) tyX5 tyX5_ok nmX5 hown hK hP hD hS 0 rfl rfl 3 (by decide) (hts (.fieldLink RX5 36 "KinkStreet$Lines" "ran" "I") (List.mem_of_getElem? (i := 3) rfl)) (fun _ h9 => h9) rfl (by decide +kernel) rfl rfl (Nat.le_of_ble_eq_true rfl) dX5_call_104 (fun H locs hP hD hS => ?_)
              have hP : va_P (dC, dI) vwCl [(h0, Sum.inr (5, [Value.ref h1, Value.int n0_size, Value.ref h2, Value.int (n0_ran + 1)])), (h1, Sum.inl (cint, 50, Sum.inl f1)), (h2, Sum.inl (cint, 24, Sum.inl f_248_0))] H := hP
              have hD : va_D A [(h0, Sum.inr (5, [Value.ref h1, Value.int n0_size, Value.ref h2, Value.int (n0_ran + 1)])), (h1, Sum.inl (cint, 50, Sum.inl f1)), (h2, Sum.inl (cint, 24, Sum.inl f_248_0))] := hD
              refine lv_iload hx hb dX5_call_107 (lv_at hl 1 rfl) ?_
              refine lv_if_ne (tgt := 128) hx hb dX5_call_109 (by decide) (fun c => absurd c (by decide)) (fun _ => ?_)
              refine lv_aload_n hx hb dX5_call_112 rfl (lv_at hl 2 rfl) ?_
              refine lv_iload_n hx hb dX5_call_113 rfl (lv_at hl 3 rfl) ?_
              refine lv_iload hx hb dX5_call_114 (lv_at hl 0 rfl) ?_
              refine lv_iload hx hb dX5_call_116 (lv_at hl 6 rfl) ?_
              refine lv_iload hx hb dX5_call_118 (lv_at hl 7 rfl) ?_
              refine lv_iconst (v := 1) hx hb dX5_call_120 (by decide) ?_
              refine lv_iadd hx hb dX5_call_121 ?_
              obtain ⟨hPc, hDc, hFc⟩ := kk_cutout (wc := [(h0, Sum.inr (5, [Value.ref h1, Value.int n0_size, Value.ref h2, Value.int (n0_ran + 1)])), (h1, Sum.inl (cint, 50, Sum.inl f1)), (h2, Sum.inl (cint, 24, Sum.inl f_248_0))]) hP hD hS hA [0, 1, 2] (by decide) rfl
              have hKc := hK.sub (tys' := [(cint, .int)]) [0] rfl
              refine va_calli (va_runV (As := [.int p0, .int 10, .int p3, .int (p4 + 1)]) (rest := []) ⟨hx, hb, hml, hown, hts⟩ (g_X5_runLine_2 l dC dI h0 h1 h2 cint H.size p0 p3 (p4 + 1) n0_size (n0_ran + 1) f1 f_248_0 tn0_size (by show 0 ≤ ((n0_ran + 1) : Int32).toInt ∧ ((n0_ran + 1) : Int32).toInt ≤ 997; first | decide | (constructor <;> (have := kk_rng p4; have := kk_add2 (x := n0_ran) (y := 1) (a := n0_ran.toInt) (b := 1) rfl rfl (by omega) (by omega); have := kk_rng p4; have := kk_add2 (x := p4) (y := 1) (a := p4.toInt) (b := 1) rfl rfl (by omega) (by omega); omega))) bf1 aOWN_BODIES aABOVE) (cwV 4 hts gX5_call_X5_runLine rfl rfl rfl (by decide +kernel) ⟨Nat.le_of_ble_eq_true rfl, Nat.le_of_ble_eq_true rfl⟩) ⟨fun a U g mk q => by obtain ⟨q0, q1, qP, qK, qD, qx0, qx1, qx2, qx3⟩ := q; exact ⟨q0, q1, qP, va_K.moved (u := U) (U := U.calling g mk a) (Vm.Alike.refl U.vm) qK, qD, va_Z.moved (u := U) (U := U.calling g mk a) (Vm.Alike.refl U.vm) qx0, va_T.moved (u := U) (U := U.calling g mk a) (Vm.Alike.refl U.vm) qx1, va_Z.moved (u := U) (U := U.calling g mk a) (Vm.Alike.refl U.vm) qx2, va_T.moved (u := U) (U := U.calling g mk a) (Vm.Alike.refl U.vm) qx3⟩, va_recv hKc hPc (ci := 5) (q0 := 0) rfl rfl, fun U hU hW => ⟨rfl, by rw [hU], by rw [hU]; exact hPc, va_K.moved hW.alike hKc, hDc.weaken (fun _ _ _ _ => trivial), by rw [hU]; exact ((hZOWN_BODIES.kept (fun a h1 h2 => hS.2.1 a h1 h2)).narrow hFc).moved hW.alike, by rw [hU]; exact ((hTOWN_BODIES.kept (fun a h1 h2 => hS.2.1 a h1 h2)).narrow hFc).moved hW.alike, by rw [hU]; exact ((hZABOVE.kept (fun a h1 h2 => hS.2.1 a h1 h2)).narrow hFc).moved hW.alike, by rw [hU]; exact ((hTABOVE.kept (fun a h1 h2 => hS.2.1 a h1 h2)).narrow hFc).moved hW.alike⟩⟩ rfl rfl hl.1 rfl (lv_room (Nat.le_of_ble_eq_true rfl)) dX5_call_122 ⟨Nat.le_of_ble_eq_true rfl, Nat.le_of_ble_eq_true rfl⟩) hS (fun q _ h => hFc q h) hFc (fun r_249 u t H1 locs ht hvm hw hB hz1 hk1 hS => ?_)
              obtain ⟨y_250, f_251, by_250, v_251_0, hP1, hK1, hD1⟩ := hB
              have v_251_0 : y_250.toInt ≤ (n0_ran + 1).toInt + 3 := v_251_0
              rw [ht] at hP1
              have hK1 := va_K.moved hvm.symm hK1
              obtain ⟨hP, hD⟩ := va_join (wr := []) (w1 := [(h0, Sum.inr (5, [Value.ref h1, Value.int n0_size, Value.ref h2, Value.int y_250])), (h1, Sum.inl (cint, 50, Sum.inl f1)), (h2, Sum.inl (cint, 24, Sum.inl f_251))]) hP hD [0, 1, 2] [] rfl rfl (by decide) (by decide) hk1 hFc hP1 hD1
              generalize H1 = H at hP hS ⊢
              have hP : va_P (dC, dI) vwCl [(h0, Sum.inr (5, [Value.ref h1, Value.int n0_size, Value.ref h2, Value.int y_250])), (h1, Sum.inl (cint, 50, Sum.inl f1)), (h2, Sum.inl (cint, 24, Sum.inl f_251))] H := hP
              have hD : va_D A [(h0, Sum.inr (5, [Value.ref h1, Value.int n0_size, Value.ref h2, Value.int y_250])), (h1, Sum.inl (cint, 50, Sum.inl f1)), (h2, Sum.inl (cint, 24, Sum.inl f_251))] := hD
              refine lv_goto (tgt := 143) hx hb dX5_call_125 (by decide) ?_
              obtain ⟨hP9, hD9⟩ := kk_leafout (wc := [(h0, Sum.inr (5, [Value.ref h1, Value.int n0_size, Value.ref h2, Value.int y_250])), (h1, Sum.inl (cint, 50, Sum.inl f1)), (h2, Sum.inl (cint, 24, Sum.inl f_251))]) hP hD [0, 1, 2] (by decide) rfl
              have hK9 := hK.sub (tys' := []) [] rfl
              exact W.iret (v := r_249) hx hb hr (fun t ht hW => ⟨⟨r_249, (), rfl, trivial, y_250, f_251, (by show 0 ≤ (y_250 : Int32).toInt ∧ (y_250 : Int32).toInt ≤ 1000; first | decide | (constructor <;> (have := kk_rng p4; have := kk_add2 (x := n0_ran) (y := 1) (a := n0_ran.toInt) (b := 1) rfl rfl (by omega) (by omega); have := kk_rng p4; have := kk_add2 (x := p4) (y := 1) (a := p4.toInt) (b := 1) rfl rfl (by omega) (by omega); omega))), (by show (y_250 : Int32).toInt ≤ (n0_ran : Int32).toInt + 11; first | decide | (have := kk_rng p4; have := kk_add2 (x := n0_ran) (y := 1) (a := n0_ran.toInt) (b := 1) rfl rfl (by omega) (by omega); have := kk_rng p4; have := kk_add2 (x := p4) (y := 1) (a := p4.toInt) (b := 1) rfl rfl (by omega) (by omega); omega)), by rw [ht]; exact hP9, va_K.moved hW.alike hK9, hD9⟩, hS.F ht⟩) hS.2.2 dX5_call_143
            · skip
              refine lv_icmp_ge (tgt := 97) hx hb dX5_call_83 (by decide) (fun c_252 => ?_) (fun c_252 => ?_)
              · have t_252 : 24 ≤ n0_ran.toInt := kk_le c_252
                exact hcut_248 (f2) _ _ _ ⟨hP, hD, hS, lv_sub hl [0, 1, 2, 3, 4, 5, 6, 7] rfl⟩
              · have t_252 : n0_ran.toInt < 24 := kk_nle c_252
                refine lv_aload_n hx hb dX5_call_86 rfl (lv_at hl 2 rfl) ?_
                refine va_get (D := (dC, dI)) (ci := 5) (v := .ref h2) (C := RX5) (T := TX5) (N := 4) hx hb hts (fun _ h => List.mem_cons_of_mem _ (List.mem_append_right _ h)) hown hK hP 0 rfl rfl 2 (by decide) (hts (.fieldLink RX5 15 "KinkStreet$Lines" "trace" "[I") (List.mem_of_getElem? (i := 4) rfl)) (fun _ h9 => h9) rfl dX5_call_87 ?_
                refine lv_aload_n hx hb dX5_call_90 rfl (lv_at hl 2 rfl) ?_
                refine va_get (D := (dC, dI)) (ci := 5) (v := .int n0_ran) (C := RX5) (T := TX5) (N := 4) hx hb hts (fun _ h => List.mem_cons_of_mem _ (List.mem_append_right _ h)) hown hK hP 0 rfl rfl 3 (by decide) (hts (.fieldLink RX5 36 "KinkStreet$Lines" "ran" "I") (List.mem_of_getElem? (i := 3) rfl)) (fun _ h9 => h9) rfl dX5_call_91 ?_
                refine lv_iload hx hb dX5_call_94 (lv_at hl 0 rfl) ?_
                refine va_iast hx hb hK hP hD hS 2 0 rfl rfl (vp_in_iff.mpr ⟨by have := kk_rng p4; omega, by have := kk_rng p4; omega⟩) dX5_call_96 (fun H locs hP hD hS => ?_)
                generalize upd f2 (n0_ran : Int32).toNatClampNeg 10 = f_253 at hP hD
                have hP : va_P (dC, dI) vwCl [(h0, Sum.inr (5, [Value.ref h1, Value.int n0_size, Value.ref h2, Value.int n0_ran])), (h1, Sum.inl (cint, 50, Sum.inl f1)), (h2, Sum.inl (cint, 24, Sum.inl f_253))] H := hP
                have hD : va_D A [(h0, Sum.inr (5, [Value.ref h1, Value.int n0_size, Value.ref h2, Value.int n0_ran])), (h1, Sum.inl (cint, 50, Sum.inl f1)), (h2, Sum.inl (cint, 24, Sum.inl f_253))] := hD
                exact hcut_248 (f_253) _ _ _ ⟨hP, hD, hS, lv_sub hl [0, 1, 2, 3, 4, 5, 6, 7] rfl⟩
          · have t_243 : 40 < p4.toInt := kk_nle c_243
            refine lv_iconst (v := 0) hx hb dX5_call_63 (by decide) ?_
            obtain ⟨hP9, hD9⟩ := kk_leafout (wc := [(h0, Sum.inr (5, [Value.ref h1, Value.int n0_size, Value.ref h2, Value.int n0_ran])), (h1, Sum.inl (cint, 50, Sum.inl f1)), (h2, Sum.inl (cint, 24, Sum.inl f2))]) hP hD [0, 1, 2] (by decide) rfl
            have hK9 := hK.sub (tys' := []) [] rfl
            exact W.iret (v := 0) hx hb hr (fun t ht hW => ⟨⟨0, (), rfl, trivial, n0_ran, f2, (by show 0 ≤ (n0_ran : Int32).toInt ∧ (n0_ran : Int32).toInt ≤ 1000; first | decide | (constructor <;> (have := kk_rng p4; omega))), (by show (n0_ran : Int32).toInt ≤ (n0_ran : Int32).toInt + 11; first | decide | (have := kk_rng p4; omega)), by rw [ht]; exact hP9, va_K.moved hW.alike hK9, hD9⟩, hS.F ht⟩) hS.2.2 dX5_call_64
      · skip
        have t_241_0 : (0 : Int) ≤ 0 := t_241_0
        have t_241_1 : (0 : Int) < 8 := t_241_1
        refine lv_if_eq (tgt := 48) hx hb dX5_call_18 (by decide) (fun c => absurd c (by decide)) (fun _ => ?_)
        refine va_gets hx hb hZOWN_BODIES hS hown (hts (.fieldLink RX5 43 "KinkStreet$Lines" "OWN_BODIES" "[I") (List.mem_of_getElem? (i := 1) rfl)) (fun _ h9 => h9) dX5_call_21 ?_
        refine lv_iload hx hb dX5_call_24 (lv_at hl 1 rfl) ?_
        refine lv_iconst (v := 4) hx hb dX5_call_26 (by decide) ?_
        refine lv_imul hx hb dX5_call_27 ?_
        refine lv_topi (fun y_254 e_254 => ?_)
        obtain rfl : y_254 = 0 := e_254.trans (by decide)
        refine lv_iload_n hx hb dX5_call_28 rfl (lv_at hl 5 rfl) ?_
        refine lv_iadd hx hb dX5_call_29 ?_
        refine lv_topi (fun y_255 e_255 => ?_)
        obtain rfl : y_255 = 1 := e_255.trans (by decide)
        refine va_ti (v := .int 10) hx hb hTOWN_BODIES hS (by unfold vp_in; decide) rfl dX5_call_30 ?_
        refine lv_if_ne (tgt := 48) hx hb dX5_call_31 (by decide) (fun _ => ?_) (fun c => absurd c (by decide))
        refine lv_iload hx hb dX5_call_48 (lv_at hl 1 rfl) ?_
        obtain ⟨hPc, hDc, hFc⟩ := kk_cutout (wc := []) hP hD hS hA [] (by decide) rfl
        have hKc := hK.sub (tys' := []) [] rfl
        refine va_calli (va_runS (As := [.int 0]) (rest := []) ⟨hx, hb, hml, hown, hts⟩ (g_X5_isKind_0 l dC dI H.size 0) (va_cwS 1 hts gX5_call_X5_isKind rfl rfl rfl (by decide +kernel) ⟨Nat.le_of_ble_eq_true rfl, Nat.le_of_ble_eq_true rfl⟩) ⟨fun a U g mk q => by obtain ⟨q0, q1, qP, qK, qD⟩ := q; exact ⟨q0, q1, qP, va_K.moved (u := U) (U := U.calling g mk a) (Vm.Alike.refl U.vm) qK, qD⟩, fun U hU hW => ⟨rfl, by rw [hU], by rw [hU]; exact hPc, va_K.moved hW.alike hKc, hDc.weaken (fun _ _ _ _ => trivial)⟩⟩ rfl rfl hl.1 rfl (lv_room (Nat.le_of_ble_eq_true rfl)) dX5_call_50 ⟨Nat.le_of_ble_eq_true rfl, Nat.le_of_ble_eq_true rfl⟩) hS (fun q _ h => hFc q h) hFc (fun r_256 u t H1 locs ht hvm hw hB hz1 hk1 hS => ?_)
        obtain ⟨hP1, hK1, hD1⟩ := hB
        rw [ht] at hP1
        have hK1 := va_K.moved hvm.symm hK1
        obtain ⟨hP, hD⟩ := va_join (wr := [(h0, Sum.inr (5, [Value.ref h1, Value.int n0_size, Value.ref h2, Value.int n0_ran])), (h1, Sum.inl (cint, 50, Sum.inl f1)), (h2, Sum.inl (cint, 24, Sum.inl f2))]) (w1 := []) hP hD [] [0, 1, 2] rfl rfl (by decide) (by decide) hk1 hFc hP1 hD1
        generalize H1 = H at hP hS ⊢
        have hP : va_P (dC, dI) vwCl [(h0, Sum.inr (5, [Value.ref h1, Value.int n0_size, Value.ref h2, Value.int n0_ran])), (h1, Sum.inl (cint, 50, Sum.inl f1)), (h2, Sum.inl (cint, 24, Sum.inl f2))] H := hP
        have hD : va_D A [(h0, Sum.inr (5, [Value.ref h1, Value.int n0_size, Value.ref h2, Value.int n0_ran])), (h1, Sum.inl (cint, 50, Sum.inl f1)), (h2, Sum.inl (cint, 24, Sum.inl f2))] := hD
        rcases hw with ⟨rfl⟩ | ⟨t_256_0, t_256_1, rfl⟩
        · skip
          refine lv_if_eq (tgt := 63) hx hb dX5_call_53 (by decide) (fun _ => ?_) (fun c => absurd c (by decide))
          refine lv_iconst (v := 0) hx hb dX5_call_63 (by decide) ?_
          obtain ⟨hP9, hD9⟩ := kk_leafout (wc := [(h0, Sum.inr (5, [Value.ref h1, Value.int n0_size, Value.ref h2, Value.int n0_ran])), (h1, Sum.inl (cint, 50, Sum.inl f1)), (h2, Sum.inl (cint, 24, Sum.inl f2))]) hP hD [0, 1, 2] (by decide) rfl
          have hK9 := hK.sub (tys' := []) [] rfl
          exact W.iret (v := 0) hx hb hr (fun t ht hW => ⟨⟨0, (), rfl, trivial, n0_ran, f2, (by show 0 ≤ (n0_ran : Int32).toInt ∧ (n0_ran : Int32).toInt ≤ 1000; first | decide | (constructor <;> (omega))), (by show (n0_ran : Int32).toInt ≤ (n0_ran : Int32).toInt + 11; first | decide | (omega)), by rw [ht]; exact hP9, va_K.moved hW.alike hK9, hD9⟩, hS.F ht⟩) hS.2.2 dX5_call_64
        · skip
          have t_256_0 : (0 : Int) ≤ 0 := t_256_0
          have t_256_1 : (0 : Int) < 8 := t_256_1
          refine lv_if_eq (tgt := 63) hx hb dX5_call_53 (by decide) (fun c => absurd c (by decide)) (fun _ => ?_)
          refine lv_iload hx hb dX5_call_56 (lv_at hl 7 rfl) ?_
          refine lv_bipush (v := 40) hx hb dX5_call_58 (by decide) ?_
          refine lv_icmp_le (tgt := 65) hx hb dX5_call_60 (by decide) (fun c_257 => ?_) (fun c_257 => ?_)
          · have t_257 : p4.toInt ≤ 40 := kk_le c_257
            refine va_gets hx hb hZOWN_BODIES hS hown (hts (.fieldLink RX5 43 "KinkStreet$Lines" "OWN_BODIES" "[I") (List.mem_of_getElem? (i := 1) rfl)) (fun _ h9 => h9) dX5_call_65 ?_
            refine lv_iload hx hb dX5_call_68 (lv_at hl 1 rfl) ?_
            refine lv_iconst (v := 4) hx hb dX5_call_70 (by decide) ?_
            refine lv_imul hx hb dX5_call_71 ?_
            refine lv_topi (fun y_258 e_258 => ?_)
            obtain rfl : y_258 = 0 := e_258.trans (by decide)
            refine lv_iload_n hx hb dX5_call_72 rfl (lv_at hl 5 rfl) ?_
            refine lv_iadd hx hb dX5_call_73 ?_
            refine lv_topi (fun y_259 e_259 => ?_)
            obtain rfl : y_259 = 1 := e_259.trans (by decide)
            refine va_ti (v := .int 10) hx hb hTOWN_BODIES hS (by unfold vp_in; decide) rfl dX5_call_74 ?_
            refine lv_istore (lv' := [(7, .int 10), (6, .int 0), (0, .ref h0), (1, .int p0), (2, .int 6), (3, .int 1), (4, .int p3), (5, .int p4)]) hx hb dX5_call_75 hl (by decide) rfl (fun ls hl => ?_)
            refine lv_aload_n hx hb dX5_call_77 rfl (lv_at hl 2 rfl) ?_
            refine va_get (D := (dC, dI)) (ci := 5) (v := .int n0_ran) (C := RX5) (T := TX5) (N := 4) hx hb hts (fun _ h => List.mem_cons_of_mem _ (List.mem_append_right _ h)) hown hK hP 0 rfl rfl 3 (by decide) (hts (.fieldLink RX5 36 "KinkStreet$Lines" "ran" "I") (List.mem_of_getElem? (i := 3) rfl)) (fun _ h9 => h9) rfl dX5_call_78 ?_
            refine lv_bipush (v := 24) hx hb dX5_call_81 (by decide) ?_
            refine kk_cut (σ := (Nat → Int32)) (pc' := 97) (fun x H locs ls => va_P (dC, dI) vwCl [(h0, Sum.inr (5, [Value.ref h1, Value.int n0_size, Value.ref h2, Value.int n0_ran])), (h1, Sum.inl (cint, 50, Sum.inl f1)), (h2, Sum.inl (cint, 24, Sum.inl x))] H ∧ va_D A [(h0, Sum.inr (5, [Value.ref h1, Value.int n0_size, Value.ref h2, Value.int n0_ran])), (h1, Sum.inl (cint, 50, Sum.inl f1)), (h2, Sum.inl (cint, 24, Sum.inl x))] ∧ va_S A s.heap H locs ∧ lv_has ls 8 [(7, .int 10), (6, .int 0), (0, .ref h0), (1, .int p0), (2, .int 6), (3, .int 1), (4, .int p3), (5, .int p4)]) ?_ (fun hcut_262 => ?_)
            · rintro f_262_0 H locs ls ⟨hP, hD, hS, hl⟩
              have hl : lv_has ls 8 [(7, .int 10), (6, .int 0), (0, .ref h0), (1, .int p0), (2, .int 6), (3, .int 1), (4, .int p3), (5, .int p4)] := hl
              have hP : va_P (dC, dI) vwCl [(h0, Sum.inr (5, [Value.ref h1, Value.int n0_size, Value.ref h2, Value.int n0_ran])), (h1, Sum.inl (cint, 50, Sum.inl f1)), (h2, Sum.inl (cint, 24, Sum.inl f_262_0))] H := hP
              have hD : va_D A [(h0, Sum.inr (5, [Value.ref h1, Value.int n0_size, Value.ref h2, Value.int n0_ran])), (h1, Sum.inl (cint, 50, Sum.inl f1)), (h2, Sum.inl (cint, 24, Sum.inl f_262_0))] := hD
              refine lv_aload_n hx hb dX5_call_97 rfl (lv_at hl 2 rfl) ?_
              refine lv_dup hx hb dX5_call_98 rfl ?_
              refine va_get (D := (dC, dI)) (ci := 5) (v := .int n0_ran) (C := RX5) (T := TX5) (N := 4) hx hb hts (fun _ h => List.mem_cons_of_mem _ (List.mem_append_right _ h)) hown hK hP 0 rfl rfl 3 (by decide) (hts (.fieldLink RX5 36 "KinkStreet$Lines" "ran" "I") (List.mem_of_getElem? (i := 3) rfl)) (fun _ h9 => h9) rfl dX5_call_99 ?_
              refine lv_iconst (v := 1) hx hb dX5_call_102 (by decide) ?_
              refine lv_iadd hx hb dX5_call_103 ?_
              refine va_put (D := (dC, dI)) (ci := 5) (v := .int (n0_ran + 1)) (ty := .int) (C := RX5) (T := TX5) (N := 4) hx hb hts (fun _ h => List.mem_cons_of_mem _ (List.mem_append_right _ h)) tyX5 tyX5_ok nmX5 hown hK hP hD hS 0 rfl rfl 3 (by decide) (hts (.fieldLink RX5 36 "KinkStreet$Lines" "ran" "I") (List.mem_of_getElem? (i := 3) rfl)) (fun _ h9 => h9) rfl (by decide +kernel) rfl rfl (Nat.le_of_ble_eq_true rfl) dX5_call_104 (fun H locs hP hD hS => ?_)
              have hP : va_P (dC, dI) vwCl [(h0, Sum.inr (5, [Value.ref h1, Value.int n0_size, Value.ref h2, Value.int (n0_ran + 1)])), (h1, Sum.inl (cint, 50, Sum.inl f1)), (h2, Sum.inl (cint, 24, Sum.inl f_262_0))] H := hP
              have hD : va_D A [(h0, Sum.inr (5, [Value.ref h1, Value.int n0_size, Value.ref h2, Value.int (n0_ran + 1)])), (h1, Sum.inl (cint, 50, Sum.inl f1)), (h2, Sum.inl (cint, 24, Sum.inl f_262_0))] := hD
              refine lv_iload hx hb dX5_call_107 (lv_at hl 1 rfl) ?_
              refine lv_if_ne (tgt := 128) hx hb dX5_call_109 (by decide) (fun c => absurd c (by decide)) (fun _ => ?_)
              refine lv_aload_n hx hb dX5_call_112 rfl (lv_at hl 2 rfl) ?_
              refine lv_iload_n hx hb dX5_call_113 rfl (lv_at hl 3 rfl) ?_
              refine lv_iload hx hb dX5_call_114 (lv_at hl 0 rfl) ?_
              refine lv_iload hx hb dX5_call_116 (lv_at hl 6 rfl) ?_
              refine lv_iload hx hb dX5_call_118 (lv_at hl 7 rfl) ?_
              refine lv_iconst (v := 1) hx hb dX5_call_120 (by decide) ?_
              refine lv_iadd hx hb dX5_call_121 ?_
              obtain ⟨hPc, hDc, hFc⟩ := kk_cutout (wc := [(h0, Sum.inr (5, [Value.ref h1, Value.int n0_size, Value.ref h2, Value.int (n0_ran + 1)])), (h1, Sum.inl (cint, 50, Sum.inl f1)), (h2, Sum.inl (cint, 24, Sum.inl f_262_0))]) hP hD hS hA [0, 1, 2] (by decide) rfl
              have hKc := hK.sub (tys' := [(cint, .int)]) [0] rfl
              refine va_calli (va_runV (As := [.int p0, .int 10, .int p3, .int (p4 + 1)]) (rest := []) ⟨hx, hb, hml, hown, hts⟩ (g_X5_runLine_2 l dC dI h0 h1 h2 cint H.size p0 p3 (p4 + 1) n0_size (n0_ran + 1) f1 f_262_0 tn0_size (by show 0 ≤ ((n0_ran + 1) : Int32).toInt ∧ ((n0_ran + 1) : Int32).toInt ≤ 997; first | decide | (constructor <;> (have := kk_rng p4; have := kk_add2 (x := n0_ran) (y := 1) (a := n0_ran.toInt) (b := 1) rfl rfl (by omega) (by omega); have := kk_rng p4; have := kk_add2 (x := p4) (y := 1) (a := p4.toInt) (b := 1) rfl rfl (by omega) (by omega); omega))) bf1 aOWN_BODIES aABOVE) (cwV 4 hts gX5_call_X5_runLine rfl rfl rfl (by decide +kernel) ⟨Nat.le_of_ble_eq_true rfl, Nat.le_of_ble_eq_true rfl⟩) ⟨fun a U g mk q => by obtain ⟨q0, q1, qP, qK, qD, qx0, qx1, qx2, qx3⟩ := q; exact ⟨q0, q1, qP, va_K.moved (u := U) (U := U.calling g mk a) (Vm.Alike.refl U.vm) qK, qD, va_Z.moved (u := U) (U := U.calling g mk a) (Vm.Alike.refl U.vm) qx0, va_T.moved (u := U) (U := U.calling g mk a) (Vm.Alike.refl U.vm) qx1, va_Z.moved (u := U) (U := U.calling g mk a) (Vm.Alike.refl U.vm) qx2, va_T.moved (u := U) (U := U.calling g mk a) (Vm.Alike.refl U.vm) qx3⟩, va_recv hKc hPc (ci := 5) (q0 := 0) rfl rfl, fun U hU hW => ⟨rfl, by rw [hU], by rw [hU]; exact hPc, va_K.moved hW.alike hKc, hDc.weaken (fun _ _ _ _ => trivial), by rw [hU]; exact ((hZOWN_BODIES.kept (fun a h1 h2 => hS.2.1 a h1 h2)).narrow hFc).moved hW.alike, by rw [hU]; exact ((hTOWN_BODIES.kept (fun a h1 h2 => hS.2.1 a h1 h2)).narrow hFc).moved hW.alike, by rw [hU]; exact ((hZABOVE.kept (fun a h1 h2 => hS.2.1 a h1 h2)).narrow hFc).moved hW.alike, by rw [hU]; exact ((hTABOVE.kept (fun a h1 h2 => hS.2.1 a h1 h2)).narrow hFc).moved hW.alike⟩⟩ rfl rfl hl.1 rfl (lv_room (Nat.le_of_ble_eq_true rfl)) dX5_call_122 ⟨Nat.le_of_ble_eq_true rfl, Nat.le_of_ble_eq_true rfl⟩) hS (fun q _ h => hFc q h) hFc (fun r_263 u t H1 locs ht hvm hw hB hz1 hk1 hS => ?_)
              obtain ⟨y_264, f_265, by_264, v_265_0, hP1, hK1, hD1⟩ := hB
              have v_265_0 : y_264.toInt ≤ (n0_ran + 1).toInt + 3 := v_265_0
              rw [ht] at hP1
              have hK1 := va_K.moved hvm.symm hK1
              obtain ⟨hP, hD⟩ := va_join (wr := []) (w1 := [(h0, Sum.inr (5, [Value.ref h1, Value.int n0_size, Value.ref h2, Value.int y_264])), (h1, Sum.inl (cint, 50, Sum.inl f1)), (h2, Sum.inl (cint, 24, Sum.inl f_265))]) hP hD [0, 1, 2] [] rfl rfl (by decide) (by decide) hk1 hFc hP1 hD1
              generalize H1 = H at hP hS ⊢
              have hP : va_P (dC, dI) vwCl [(h0, Sum.inr (5, [Value.ref h1, Value.int n0_size, Value.ref h2, Value.int y_264])), (h1, Sum.inl (cint, 50, Sum.inl f1)), (h2, Sum.inl (cint, 24, Sum.inl f_265))] H := hP
              have hD : va_D A [(h0, Sum.inr (5, [Value.ref h1, Value.int n0_size, Value.ref h2, Value.int y_264])), (h1, Sum.inl (cint, 50, Sum.inl f1)), (h2, Sum.inl (cint, 24, Sum.inl f_265))] := hD
              refine lv_goto (tgt := 143) hx hb dX5_call_125 (by decide) ?_
              obtain ⟨hP9, hD9⟩ := kk_leafout (wc := [(h0, Sum.inr (5, [Value.ref h1, Value.int n0_size, Value.ref h2, Value.int y_264])), (h1, Sum.inl (cint, 50, Sum.inl f1)), (h2, Sum.inl (cint, 24, Sum.inl f_265))]) hP hD [0, 1, 2] (by decide) rfl
              have hK9 := hK.sub (tys' := []) [] rfl
              exact W.iret (v := r_263) hx hb hr (fun t ht hW => ⟨⟨r_263, (), rfl, trivial, y_264, f_265, (by show 0 ≤ (y_264 : Int32).toInt ∧ (y_264 : Int32).toInt ≤ 1000; first | decide | (constructor <;> (have := kk_rng p4; have := kk_add2 (x := n0_ran) (y := 1) (a := n0_ran.toInt) (b := 1) rfl rfl (by omega) (by omega); have := kk_rng p4; have := kk_add2 (x := p4) (y := 1) (a := p4.toInt) (b := 1) rfl rfl (by omega) (by omega); omega))), (by show (y_264 : Int32).toInt ≤ (n0_ran : Int32).toInt + 11; first | decide | (have := kk_rng p4; have := kk_add2 (x := n0_ran) (y := 1) (a := n0_ran.toInt) (b := 1) rfl rfl (by omega) (by omega); have := kk_rng p4; have := kk_add2 (x := p4) (y := 1) (a := p4.toInt) (b := 1) rfl rfl (by omega) (by omega); omega)), by rw [ht]; exact hP9, va_K.moved hW.alike hK9, hD9⟩, hS.F ht⟩) hS.2.2 dX5_call_143
            · skip
              refine lv_icmp_ge (tgt := 97) hx hb dX5_call_83 (by decide) (fun c_266 => ?_) (fun c_266 => ?_)
              · have t_266 : 24 ≤ n0_ran.toInt := kk_le c_266
                exact hcut_262 (f2) _ _ _ ⟨hP, hD, hS, lv_sub hl [0, 1, 2, 3, 4, 5, 6, 7] rfl⟩
              · have t_266 : n0_ran.toInt < 24 := kk_nle c_266
                refine lv_aload_n hx hb dX5_call_86 rfl (lv_at hl 2 rfl) ?_
                refine va_get (D := (dC, dI)) (ci := 5) (v := .ref h2) (C := RX5) (T := TX5) (N := 4) hx hb hts (fun _ h => List.mem_cons_of_mem _ (List.mem_append_right _ h)) hown hK hP 0 rfl rfl 2 (by decide) (hts (.fieldLink RX5 15 "KinkStreet$Lines" "trace" "[I") (List.mem_of_getElem? (i := 4) rfl)) (fun _ h9 => h9) rfl dX5_call_87 ?_
                refine lv_aload_n hx hb dX5_call_90 rfl (lv_at hl 2 rfl) ?_
                refine va_get (D := (dC, dI)) (ci := 5) (v := .int n0_ran) (C := RX5) (T := TX5) (N := 4) hx hb hts (fun _ h => List.mem_cons_of_mem _ (List.mem_append_right _ h)) hown hK hP 0 rfl rfl 3 (by decide) (hts (.fieldLink RX5 36 "KinkStreet$Lines" "ran" "I") (List.mem_of_getElem? (i := 3) rfl)) (fun _ h9 => h9) rfl dX5_call_91 ?_
                refine lv_iload hx hb dX5_call_94 (lv_at hl 0 rfl) ?_
                refine va_iast hx hb hK hP hD hS 2 0 rfl rfl (vp_in_iff.mpr ⟨by have := kk_rng p4; omega, by have := kk_rng p4; omega⟩) dX5_call_96 (fun H locs hP hD hS => ?_)
                generalize upd f2 (n0_ran : Int32).toNatClampNeg 10 = f_267 at hP hD
                have hP : va_P (dC, dI) vwCl [(h0, Sum.inr (5, [Value.ref h1, Value.int n0_size, Value.ref h2, Value.int n0_ran])), (h1, Sum.inl (cint, 50, Sum.inl f1)), (h2, Sum.inl (cint, 24, Sum.inl f_267))] H := hP
                have hD : va_D A [(h0, Sum.inr (5, [Value.ref h1, Value.int n0_size, Value.ref h2, Value.int n0_ran])), (h1, Sum.inl (cint, 50, Sum.inl f1)), (h2, Sum.inl (cint, 24, Sum.inl f_267))] := hD
                exact hcut_262 (f_267) _ _ _ ⟨hP, hD, hS, lv_sub hl [0, 1, 2, 3, 4, 5, 6, 7] rfl⟩
          · have t_257 : 40 < p4.toInt := kk_nle c_257
            refine lv_iconst (v := 0) hx hb dX5_call_63 (by decide) ?_
            obtain ⟨hP9, hD9⟩ := kk_leafout (wc := [(h0, Sum.inr (5, [Value.ref h1, Value.int n0_size, Value.ref h2, Value.int n0_ran])), (h1, Sum.inl (cint, 50, Sum.inl f1)), (h2, Sum.inl (cint, 24, Sum.inl f2))]) hP hD [0, 1, 2] (by decide) rfl
            have hK9 := hK.sub (tys' := []) [] rfl
            exact W.iret (v := 0) hx hb hr (fun t ht hW => ⟨⟨0, (), rfl, trivial, n0_ran, f2, (by show 0 ≤ (n0_ran : Int32).toInt ∧ (n0_ran : Int32).toInt ≤ 1000; first | decide | (constructor <;> (have := kk_rng p4; omega))), (by show (n0_ran : Int32).toInt ≤ (n0_ran : Int32).toInt + 11; first | decide | (have := kk_rng p4; omega)), by rw [ht]; exact hP9, va_K.moved hW.alike hK9, hD9⟩, hS.F ht⟩) hS.2.2 dX5_call_64
  · have t_1 : p1.toInt = 7 := by rw [e_1]; rfl
    subst e_1
    refine lv_iload_n hx hb dX5_call_0 rfl (lv_at hl 2 rfl) ?_
    refine lv_istore (lv' := [(6, .int 7), (0, .ref h0), (1, .int p0), (2, .int 7), (3, .int 1), (4, .int p3), (5, .int p4)]) hx hb dX5_call_1 hl (by decide) rfl (fun ls hl => ?_)
    refine lv_iconst (v := 0) hx hb dX5_call_3 (by decide) ?_
    refine lv_istore (lv' := [(7, .int 0), (6, .int 7), (0, .ref h0), (1, .int p0), (2, .int 7), (3, .int 1), (4, .int p3), (5, .int p4)]) hx hb dX5_call_4 hl (by decide) rfl (fun ls hl => ?_)
    refine lv_iload hx hb dX5_call_6 (lv_at hl 0 rfl) ?_
    refine lv_bipush (v := 8) hx hb dX5_call_8 (by decide) ?_
    refine lv_icmp_ge (tgt := 48) hx hb dX5_call_10 (by decide) (fun c => absurd c (by decide)) (fun _ => ?_)
    refine lv_iload hx hb dX5_call_13 (lv_at hl 1 rfl) ?_
    obtain ⟨hPc, hDc, hFc⟩ := kk_cutout (wc := []) hP hD hS hA [] (by decide) rfl
    have hKc := hK.sub (tys' := []) [] rfl
    refine va_calli (va_runS (As := [.int 7]) (rest := []) ⟨hx, hb, hml, hown, hts⟩ (g_X5_isKind_0 l dC dI s.heap.size 7) (va_cwS 1 hts gX5_call_X5_isKind rfl rfl rfl (by decide +kernel) ⟨Nat.le_of_ble_eq_true rfl, Nat.le_of_ble_eq_true rfl⟩) ⟨fun a U g mk q => by obtain ⟨q0, q1, qP, qK, qD⟩ := q; exact ⟨q0, q1, qP, va_K.moved (u := U) (U := U.calling g mk a) (Vm.Alike.refl U.vm) qK, qD⟩, fun U hU hW => ⟨rfl, by rw [hU], by rw [hU]; exact hPc, va_K.moved hW.alike hKc, hDc.weaken (fun _ _ _ _ => trivial)⟩⟩ rfl rfl hl.1 rfl (lv_room (Nat.le_of_ble_eq_true rfl)) dX5_call_15 ⟨Nat.le_of_ble_eq_true rfl, Nat.le_of_ble_eq_true rfl⟩) hS (fun q _ h => hFc q h) hFc (fun r_268 u t H1 locs ht hvm hw hB hz1 hk1 hS => ?_)
    obtain ⟨hP1, hK1, hD1⟩ := hB
    rw [ht] at hP1
    have hK1 := va_K.moved hvm.symm hK1
    obtain ⟨hP, hD⟩ := va_join (wr := [(h0, Sum.inr (5, [Value.ref h1, Value.int n0_size, Value.ref h2, Value.int n0_ran])), (h1, Sum.inl (cint, 50, Sum.inl f1)), (h2, Sum.inl (cint, 24, Sum.inl f2))]) (w1 := []) hP hD [] [0, 1, 2] rfl rfl (by decide) (by decide) hk1 hFc hP1 hD1
    generalize H1 = H at hP hS ⊢
    have hP : va_P (dC, dI) vwCl [(h0, Sum.inr (5, [Value.ref h1, Value.int n0_size, Value.ref h2, Value.int n0_ran])), (h1, Sum.inl (cint, 50, Sum.inl f1)), (h2, Sum.inl (cint, 24, Sum.inl f2))] H := hP
    have hD : va_D A [(h0, Sum.inr (5, [Value.ref h1, Value.int n0_size, Value.ref h2, Value.int n0_ran])), (h1, Sum.inl (cint, 50, Sum.inl f1)), (h2, Sum.inl (cint, 24, Sum.inl f2))] := hD
    rcases hw with ⟨rfl⟩ | ⟨t_268_0, t_268_1, rfl⟩
    · skip
      refine lv_if_eq (tgt := 48) hx hb dX5_call_18 (by decide) (fun _ => ?_) (fun c => absurd c (by decide))
      refine lv_iload hx hb dX5_call_48 (lv_at hl 1 rfl) ?_
      obtain ⟨hPc, hDc, hFc⟩ := kk_cutout (wc := []) hP hD hS hA [] (by decide) rfl
      have hKc := hK.sub (tys' := []) [] rfl
      refine va_calli (va_runS (As := [.int 7]) (rest := []) ⟨hx, hb, hml, hown, hts⟩ (g_X5_isKind_0 l dC dI H.size 7) (va_cwS 1 hts gX5_call_X5_isKind rfl rfl rfl (by decide +kernel) ⟨Nat.le_of_ble_eq_true rfl, Nat.le_of_ble_eq_true rfl⟩) ⟨fun a U g mk q => by obtain ⟨q0, q1, qP, qK, qD⟩ := q; exact ⟨q0, q1, qP, va_K.moved (u := U) (U := U.calling g mk a) (Vm.Alike.refl U.vm) qK, qD⟩, fun U hU hW => ⟨rfl, by rw [hU], by rw [hU]; exact hPc, va_K.moved hW.alike hKc, hDc.weaken (fun _ _ _ _ => trivial)⟩⟩ rfl rfl hl.1 rfl (lv_room (Nat.le_of_ble_eq_true rfl)) dX5_call_50 ⟨Nat.le_of_ble_eq_true rfl, Nat.le_of_ble_eq_true rfl⟩) hS (fun q _ h => hFc q h) hFc (fun r_269 u t H1 locs ht hvm hw hB hz1 hk1 hS => ?_)
      obtain ⟨hP1, hK1, hD1⟩ := hB
      rw [ht] at hP1
      have hK1 := va_K.moved hvm.symm hK1
      obtain ⟨hP, hD⟩ := va_join (wr := [(h0, Sum.inr (5, [Value.ref h1, Value.int n0_size, Value.ref h2, Value.int n0_ran])), (h1, Sum.inl (cint, 50, Sum.inl f1)), (h2, Sum.inl (cint, 24, Sum.inl f2))]) (w1 := []) hP hD [] [0, 1, 2] rfl rfl (by decide) (by decide) hk1 hFc hP1 hD1
      generalize H1 = H at hP hS ⊢
      have hP : va_P (dC, dI) vwCl [(h0, Sum.inr (5, [Value.ref h1, Value.int n0_size, Value.ref h2, Value.int n0_ran])), (h1, Sum.inl (cint, 50, Sum.inl f1)), (h2, Sum.inl (cint, 24, Sum.inl f2))] H := hP
      have hD : va_D A [(h0, Sum.inr (5, [Value.ref h1, Value.int n0_size, Value.ref h2, Value.int n0_ran])), (h1, Sum.inl (cint, 50, Sum.inl f1)), (h2, Sum.inl (cint, 24, Sum.inl f2))] := hD
      rcases hw with ⟨rfl⟩ | ⟨t_269_0, t_269_1, rfl⟩
      · skip
        refine lv_if_eq (tgt := 63) hx hb dX5_call_53 (by decide) (fun _ => ?_) (fun c => absurd c (by decide))
        refine lv_iconst (v := 0) hx hb dX5_call_63 (by decide) ?_
        obtain ⟨hP9, hD9⟩ := kk_leafout (wc := [(h0, Sum.inr (5, [Value.ref h1, Value.int n0_size, Value.ref h2, Value.int n0_ran])), (h1, Sum.inl (cint, 50, Sum.inl f1)), (h2, Sum.inl (cint, 24, Sum.inl f2))]) hP hD [0, 1, 2] (by decide) rfl
        have hK9 := hK.sub (tys' := []) [] rfl
        exact W.iret (v := 0) hx hb hr (fun t ht hW => ⟨⟨0, (), rfl, trivial, n0_ran, f2, (by show 0 ≤ (n0_ran : Int32).toInt ∧ (n0_ran : Int32).toInt ≤ 1000; first | decide | (constructor <;> (omega))), (by show (n0_ran : Int32).toInt ≤ (n0_ran : Int32).toInt + 11; first | decide | (omega)), by rw [ht]; exact hP9, va_K.moved hW.alike hK9, hD9⟩, hS.F ht⟩) hS.2.2 dX5_call_64
      · skip
        have t_269_0 : (0 : Int) ≤ 7 := t_269_0
        have t_269_1 : (7 : Int) < 8 := t_269_1
        refine lv_if_eq (tgt := 63) hx hb dX5_call_53 (by decide) (fun c => absurd c (by decide)) (fun _ => ?_)
        refine lv_iload hx hb dX5_call_56 (lv_at hl 7 rfl) ?_
        refine lv_bipush (v := 40) hx hb dX5_call_58 (by decide) ?_
        refine lv_icmp_le (tgt := 65) hx hb dX5_call_60 (by decide) (fun c_270 => ?_) (fun c_270 => ?_)
        · have t_270 : p4.toInt ≤ 40 := kk_le c_270
          refine va_gets hx hb hZOWN_BODIES hS hown (hts (.fieldLink RX5 43 "KinkStreet$Lines" "OWN_BODIES" "[I") (List.mem_of_getElem? (i := 1) rfl)) (fun _ h9 => h9) dX5_call_65 ?_
          refine lv_iload hx hb dX5_call_68 (lv_at hl 1 rfl) ?_
          refine lv_iconst (v := 4) hx hb dX5_call_70 (by decide) ?_
          refine lv_imul hx hb dX5_call_71 ?_
          refine lv_topi (fun y_271 e_271 => ?_)
          obtain rfl : y_271 = 28 := e_271.trans (by decide)
          refine lv_iload_n hx hb dX5_call_72 rfl (lv_at hl 5 rfl) ?_
          refine lv_iadd hx hb dX5_call_73 ?_
          refine lv_topi (fun y_272 e_272 => ?_)
          obtain rfl : y_272 = 29 := e_272.trans (by decide)
          refine va_ti (v := .int 0) hx hb hTOWN_BODIES hS (by unfold vp_in; decide) rfl dX5_call_74 ?_
          refine lv_istore (lv' := [(7, .int 0), (6, .int 7), (0, .ref h0), (1, .int p0), (2, .int 7), (3, .int 1), (4, .int p3), (5, .int p4)]) hx hb dX5_call_75 hl (by decide) rfl (fun ls hl => ?_)
          refine lv_aload_n hx hb dX5_call_77 rfl (lv_at hl 2 rfl) ?_
          refine va_get (D := (dC, dI)) (ci := 5) (v := .int n0_ran) (C := RX5) (T := TX5) (N := 4) hx hb hts (fun _ h => List.mem_cons_of_mem _ (List.mem_append_right _ h)) hown hK hP 0 rfl rfl 3 (by decide) (hts (.fieldLink RX5 36 "KinkStreet$Lines" "ran" "I") (List.mem_of_getElem? (i := 3) rfl)) (fun _ h9 => h9) rfl dX5_call_78 ?_
          refine lv_bipush (v := 24) hx hb dX5_call_81 (by decide) ?_
          refine kk_cut (σ := (Nat → Int32)) (pc' := 97) (fun x H locs ls => va_P (dC, dI) vwCl [(h0, Sum.inr (5, [Value.ref h1, Value.int n0_size, Value.ref h2, Value.int n0_ran])), (h1, Sum.inl (cint, 50, Sum.inl f1)), (h2, Sum.inl (cint, 24, Sum.inl x))] H ∧ va_D A [(h0, Sum.inr (5, [Value.ref h1, Value.int n0_size, Value.ref h2, Value.int n0_ran])), (h1, Sum.inl (cint, 50, Sum.inl f1)), (h2, Sum.inl (cint, 24, Sum.inl x))] ∧ va_S A s.heap H locs ∧ lv_has ls 8 [(7, .int 0), (6, .int 7), (0, .ref h0), (1, .int p0), (2, .int 7), (3, .int 1), (4, .int p3), (5, .int p4)]) ?_ (fun hcut_275 => ?_)
          · rintro f_275_0 H locs ls ⟨hP, hD, hS, hl⟩
            have hl : lv_has ls 8 [(7, .int 0), (6, .int 7), (0, .ref h0), (1, .int p0), (2, .int 7), (3, .int 1), (4, .int p3), (5, .int p4)] := hl
            have hP : va_P (dC, dI) vwCl [(h0, Sum.inr (5, [Value.ref h1, Value.int n0_size, Value.ref h2, Value.int n0_ran])), (h1, Sum.inl (cint, 50, Sum.inl f1)), (h2, Sum.inl (cint, 24, Sum.inl f_275_0))] H := hP
            have hD : va_D A [(h0, Sum.inr (5, [Value.ref h1, Value.int n0_size, Value.ref h2, Value.int n0_ran])), (h1, Sum.inl (cint, 50, Sum.inl f1)), (h2, Sum.inl (cint, 24, Sum.inl f_275_0))] := hD
            refine lv_aload_n hx hb dX5_call_97 rfl (lv_at hl 2 rfl) ?_
            refine lv_dup hx hb dX5_call_98 rfl ?_
            refine va_get (D := (dC, dI)) (ci := 5) (v := .int n0_ran) (C := RX5) (T := TX5) (N := 4) hx hb hts (fun _ h => List.mem_cons_of_mem _ (List.mem_append_right _ h)) hown hK hP 0 rfl rfl 3 (by decide) (hts (.fieldLink RX5 36 "KinkStreet$Lines" "ran" "I") (List.mem_of_getElem? (i := 3) rfl)) (fun _ h9 => h9) rfl dX5_call_99 ?_
            refine lv_iconst (v := 1) hx hb dX5_call_102 (by decide) ?_
            refine lv_iadd hx hb dX5_call_103 ?_
            refine va_put (D := (dC, dI)) (ci := 5) (v := .int (n0_ran + 1)) (ty := .int) (C := RX5) (T := TX5) (N := 4) hx hb hts (fun _ h => List.mem_cons_of_mem _ (List.mem_append_right _ h)) tyX5 tyX5_ok nmX5 hown hK hP hD hS 0 rfl rfl 3 (by decide) (hts (.fieldLink RX5 36 "KinkStreet$Lines" "ran" "I") (List.mem_of_getElem? (i := 3) rfl)) (fun _ h9 => h9) rfl (by decide +kernel) rfl rfl (Nat.le_of_ble_eq_true rfl) dX5_call_104 (fun H locs hP hD hS => ?_)
            have hP : va_P (dC, dI) vwCl [(h0, Sum.inr (5, [Value.ref h1, Value.int n0_size, Value.ref h2, Value.int (n0_ran + 1)])), (h1, Sum.inl (cint, 50, Sum.inl f1)), (h2, Sum.inl (cint, 24, Sum.inl f_275_0))] H := hP
            have hD : va_D A [(h0, Sum.inr (5, [Value.ref h1, Value.int n0_size, Value.ref h2, Value.int (n0_ran + 1)])), (h1, Sum.inl (cint, 50, Sum.inl f1)), (h2, Sum.inl (cint, 24, Sum.inl f_275_0))] := hD
            refine lv_iload hx hb dX5_call_107 (lv_at hl 1 rfl) ?_
            refine lv_if_ne (tgt := 128) hx hb dX5_call_109 (by decide) (fun _ => ?_) (fun c => absurd c (by decide))
            refine lv_aload_n hx hb dX5_call_128 rfl (lv_at hl 2 rfl) ?_
            refine lv_iload_n hx hb dX5_call_129 rfl (lv_at hl 3 rfl) ?_
            refine lv_iload hx hb dX5_call_130 (lv_at hl 1 rfl) ?_
            refine lv_iload hx hb dX5_call_132 (lv_at hl 0 rfl) ?_
            refine lv_iload hx hb dX5_call_134 (lv_at hl 6 rfl) ?_
            refine lv_iload hx hb dX5_call_136 (lv_at hl 7 rfl) ?_
            refine lv_iconst (v := 1) hx hb dX5_call_138 (by decide) ?_
            refine lv_iadd hx hb dX5_call_139 ?_
            obtain ⟨hPc, hDc, hFc⟩ := kk_cutout (wc := [(h0, Sum.inr (5, [Value.ref h1, Value.int n0_size, Value.ref h2, Value.int (n0_ran + 1)])), (h1, Sum.inl (cint, 50, Sum.inl f1)), (h2, Sum.inl (cint, 24, Sum.inl f_275_0))]) hP hD hS hA [0, 1, 2] (by decide) rfl
            have hKc := hK.sub (tys' := [(cint, .int)]) [0] rfl
            refine va_calli (va_runV (As := [.int p0, .int 7, .int 0, .int p3, .int (p4 + 1)]) (rest := []) ⟨hx, hb, hml, hown, hts⟩ (g_X5_runUnder_14 l dC dI h0 h1 h2 cint H.size p0 p3 (p4 + 1) n0_size (n0_ran + 1) f1 f_275_0 tn0_size (by show 0 ≤ ((n0_ran + 1) : Int32).toInt ∧ ((n0_ran + 1) : Int32).toInt ≤ 998; first | decide | (constructor <;> (have := kk_rng p4; have := kk_add2 (x := n0_ran) (y := 1) (a := n0_ran.toInt) (b := 1) rfl rfl (by omega) (by omega); have := kk_rng p4; have := kk_add2 (x := p4) (y := 1) (a := p4.toInt) (b := 1) rfl rfl (by omega) (by omega); omega))) bf1 aOWN_BODIES aABOVE) (cwV 5 hts gX5_call_X5_runUnder rfl rfl rfl (by decide +kernel) ⟨Nat.le_of_ble_eq_true rfl, Nat.le_of_ble_eq_true rfl⟩) ⟨fun a U g mk q => by obtain ⟨q0, q1, qP, qK, qD, qx0, qx1, qx2, qx3⟩ := q; exact ⟨q0, q1, qP, va_K.moved (u := U) (U := U.calling g mk a) (Vm.Alike.refl U.vm) qK, qD, va_Z.moved (u := U) (U := U.calling g mk a) (Vm.Alike.refl U.vm) qx0, va_T.moved (u := U) (U := U.calling g mk a) (Vm.Alike.refl U.vm) qx1, va_Z.moved (u := U) (U := U.calling g mk a) (Vm.Alike.refl U.vm) qx2, va_T.moved (u := U) (U := U.calling g mk a) (Vm.Alike.refl U.vm) qx3⟩, va_recv hKc hPc (ci := 5) (q0 := 0) rfl rfl, fun U hU hW => ⟨rfl, by rw [hU], by rw [hU]; exact hPc, va_K.moved hW.alike hKc, hDc.weaken (fun _ _ _ _ => trivial), by rw [hU]; exact ((hZOWN_BODIES.kept (fun a h1 h2 => hS.2.1 a h1 h2)).narrow hFc).moved hW.alike, by rw [hU]; exact ((hTOWN_BODIES.kept (fun a h1 h2 => hS.2.1 a h1 h2)).narrow hFc).moved hW.alike, by rw [hU]; exact ((hZABOVE.kept (fun a h1 h2 => hS.2.1 a h1 h2)).narrow hFc).moved hW.alike, by rw [hU]; exact ((hTABOVE.kept (fun a h1 h2 => hS.2.1 a h1 h2)).narrow hFc).moved hW.alike⟩⟩ rfl rfl hl.1 rfl (lv_room (Nat.le_of_ble_eq_true rfl)) dX5_call_140 ⟨Nat.le_of_ble_eq_true rfl, Nat.le_of_ble_eq_true rfl⟩) hS (fun q _ h => hFc q h) hFc (fun r_276 u t H1 locs ht hvm hw hB hz1 hk1 hS => ?_)
            obtain ⟨y_277, f_278, by_277, v_278_0, hP1, hK1, hD1⟩ := hB
            have v_278_0 : y_277.toInt ≤ (n0_ran + 1).toInt + 2 := v_278_0
            rw [ht] at hP1
            have hK1 := va_K.moved hvm.symm hK1
            obtain ⟨hP, hD⟩ := va_join (wr := []) (w1 := [(h0, Sum.inr (5, [Value.ref h1, Value.int n0_size, Value.ref h2, Value.int y_277])), (h1, Sum.inl (cint, 50, Sum.inl f1)), (h2, Sum.inl (cint, 24, Sum.inl f_278))]) hP hD [0, 1, 2] [] rfl rfl (by decide) (by decide) hk1 hFc hP1 hD1
            generalize H1 = H at hP hS ⊢
            have hP : va_P (dC, dI) vwCl [(h0, Sum.inr (5, [Value.ref h1, Value.int n0_size, Value.ref h2, Value.int y_277])), (h1, Sum.inl (cint, 50, Sum.inl f1)), (h2, Sum.inl (cint, 24, Sum.inl f_278))] H := hP
            have hD : va_D A [(h0, Sum.inr (5, [Value.ref h1, Value.int n0_size, Value.ref h2, Value.int y_277])), (h1, Sum.inl (cint, 50, Sum.inl f1)), (h2, Sum.inl (cint, 24, Sum.inl f_278))] := hD
            obtain ⟨hP9, hD9⟩ := kk_leafout (wc := [(h0, Sum.inr (5, [Value.ref h1, Value.int n0_size, Value.ref h2, Value.int y_277])), (h1, Sum.inl (cint, 50, Sum.inl f1)), (h2, Sum.inl (cint, 24, Sum.inl f_278))]) hP hD [0, 1, 2] (by decide) rfl
            have hK9 := hK.sub (tys' := []) [] rfl
            exact W.iret (v := r_276) hx hb hr (fun t ht hW => ⟨⟨r_276, (), rfl, trivial, y_277, f_278, (by show 0 ≤ (y_277 : Int32).toInt ∧ (y_277 : Int32).toInt ≤ 1000; first | decide | (constructor <;> (have := kk_rng p4; have := kk_add2 (x := n0_ran) (y := 1) (a := n0_ran.toInt) (b := 1) rfl rfl (by omega) (by omega); have := kk_rng p4; have := kk_add2 (x := p4) (y := 1) (a := p4.toInt) (b := 1) rfl rfl (by omega) (by omega); omega))), (by show (y_277 : Int32).toInt ≤ (n0_ran : Int32).toInt + 11; first | decide | (have := kk_rng p4; have := kk_add2 (x := n0_ran) (y := 1) (a := n0_ran.toInt) (b := 1) rfl rfl (by omega) (by omega); have := kk_rng p4; have := kk_add2 (x := p4) (y := 1) (a := p4.toInt) (b := 1) rfl rfl (by omega) (by omega); omega)), by rw [ht]; exact hP9, va_K.moved hW.alike hK9, hD9⟩, hS.F ht⟩) hS.2.2 dX5_call_143
          · skip
            refine lv_icmp_ge (tgt := 97) hx hb dX5_call_83 (by decide) (fun c_279 => ?_) (fun c_279 => ?_)
            · have t_279 : 24 ≤ n0_ran.toInt := kk_le c_279
              exact hcut_275 (f2) _ _ _ ⟨hP, hD, hS, lv_sub hl [0, 1, 2, 3, 4, 5, 6, 7] rfl⟩
            · have t_279 : n0_ran.toInt < 24 := kk_nle c_279
              refine lv_aload_n hx hb dX5_call_86 rfl (lv_at hl 2 rfl) ?_
              refine va_get (D := (dC, dI)) (ci := 5) (v := .ref h2) (C := RX5) (T := TX5) (N := 4) hx hb hts (fun _ h => List.mem_cons_of_mem _ (List.mem_append_right _ h)) hown hK hP 0 rfl rfl 2 (by decide) (hts (.fieldLink RX5 15 "KinkStreet$Lines" "trace" "[I") (List.mem_of_getElem? (i := 4) rfl)) (fun _ h9 => h9) rfl dX5_call_87 ?_
              refine lv_aload_n hx hb dX5_call_90 rfl (lv_at hl 2 rfl) ?_
              refine va_get (D := (dC, dI)) (ci := 5) (v := .int n0_ran) (C := RX5) (T := TX5) (N := 4) hx hb hts (fun _ h => List.mem_cons_of_mem _ (List.mem_append_right _ h)) hown hK hP 0 rfl rfl 3 (by decide) (hts (.fieldLink RX5 36 "KinkStreet$Lines" "ran" "I") (List.mem_of_getElem? (i := 3) rfl)) (fun _ h9 => h9) rfl dX5_call_91 ?_
              refine lv_iload hx hb dX5_call_94 (lv_at hl 0 rfl) ?_
              refine va_iast hx hb hK hP hD hS 2 0 rfl rfl (vp_in_iff.mpr ⟨by have := kk_rng p4; omega, by have := kk_rng p4; omega⟩) dX5_call_96 (fun H locs hP hD hS => ?_)
              generalize upd f2 (n0_ran : Int32).toNatClampNeg 0 = f_280 at hP hD
              have hP : va_P (dC, dI) vwCl [(h0, Sum.inr (5, [Value.ref h1, Value.int n0_size, Value.ref h2, Value.int n0_ran])), (h1, Sum.inl (cint, 50, Sum.inl f1)), (h2, Sum.inl (cint, 24, Sum.inl f_280))] H := hP
              have hD : va_D A [(h0, Sum.inr (5, [Value.ref h1, Value.int n0_size, Value.ref h2, Value.int n0_ran])), (h1, Sum.inl (cint, 50, Sum.inl f1)), (h2, Sum.inl (cint, 24, Sum.inl f_280))] := hD
              exact hcut_275 (f_280) _ _ _ ⟨hP, hD, hS, lv_sub hl [0, 1, 2, 3, 4, 5, 6, 7] rfl⟩
        · have t_270 : 40 < p4.toInt := kk_nle c_270
          refine lv_iconst (v := 0) hx hb dX5_call_63 (by decide) ?_
          obtain ⟨hP9, hD9⟩ := kk_leafout (wc := [(h0, Sum.inr (5, [Value.ref h1, Value.int n0_size, Value.ref h2, Value.int n0_ran])), (h1, Sum.inl (cint, 50, Sum.inl f1)), (h2, Sum.inl (cint, 24, Sum.inl f2))]) hP hD [0, 1, 2] (by decide) rfl
          have hK9 := hK.sub (tys' := []) [] rfl
          exact W.iret (v := 0) hx hb hr (fun t ht hW => ⟨⟨0, (), rfl, trivial, n0_ran, f2, (by show 0 ≤ (n0_ran : Int32).toInt ∧ (n0_ran : Int32).toInt ≤ 1000; first | decide | (constructor <;> (have := kk_rng p4; omega))), (by show (n0_ran : Int32).toInt ≤ (n0_ran : Int32).toInt + 11; first | decide | (have := kk_rng p4; omega)), by rw [ht]; exact hP9, va_K.moved hW.alike hK9, hD9⟩, hS.F ht⟩) hS.2.2 dX5_call_64
    · skip
      have t_268_0 : (0 : Int) ≤ 7 := t_268_0
      have t_268_1 : (7 : Int) < 8 := t_268_1
      refine lv_if_eq (tgt := 48) hx hb dX5_call_18 (by decide) (fun c => absurd c (by decide)) (fun _ => ?_)
      refine va_gets hx hb hZOWN_BODIES hS hown (hts (.fieldLink RX5 43 "KinkStreet$Lines" "OWN_BODIES" "[I") (List.mem_of_getElem? (i := 1) rfl)) (fun _ h9 => h9) dX5_call_21 ?_
      refine lv_iload hx hb dX5_call_24 (lv_at hl 1 rfl) ?_
      refine lv_iconst (v := 4) hx hb dX5_call_26 (by decide) ?_
      refine lv_imul hx hb dX5_call_27 ?_
      refine lv_topi (fun y_281 e_281 => ?_)
      obtain rfl : y_281 = 28 := e_281.trans (by decide)
      refine lv_iload_n hx hb dX5_call_28 rfl (lv_at hl 5 rfl) ?_
      refine lv_iadd hx hb dX5_call_29 ?_
      refine lv_topi (fun y_282 e_282 => ?_)
      obtain rfl : y_282 = 29 := e_282.trans (by decide)
      refine va_ti (v := .int 0) hx hb hTOWN_BODIES hS (by unfold vp_in; decide) rfl dX5_call_30 ?_
      refine lv_if_ne (tgt := 48) hx hb dX5_call_31 (by decide) (fun c => absurd c (by decide)) (fun _ => ?_)
      refine va_gets hx hb hZABOVE hS hown (hts (.fieldLink RX5 22 "KinkStreet$Lines" "ABOVE" "[I") (List.mem_of_getElem? (i := 2) rfl)) (fun _ h9 => h9) dX5_call_34 ?_
      refine lv_iload hx hb dX5_call_37 (lv_at hl 1 rfl) ?_
      refine va_ti (v := .int 1) hx hb hTABOVE hS (by unfold vp_in; decide) rfl dX5_call_39 ?_
      refine lv_istore (lv' := [(6, .int 1), (7, .int 0), (0, .ref h0), (1, .int p0), (2, .int 7), (3, .int 1), (4, .int p3), (5, .int p4)]) hx hb dX5_call_40 hl (by decide) rfl (fun ls hl => ?_)
      refine lv_iinc (v := 1) (lv' := [(7, .int 1), (6, .int 1), (0, .ref h0), (1, .int p0), (2, .int 7), (3, .int 1), (4, .int p3), (5, .int p4)]) hx hb dX5_call_42 hl (k := 1) rfl (by first | rfl | decide) (by decide) rfl (fun ls hl => ?_)
      refine lv_goto (tgt := 6) hx hb dX5_call_45 (by decide) ?_
      refine lv_iload hx hb dX5_call_6 (lv_at hl 0 rfl) ?_
      refine lv_bipush (v := 8) hx hb dX5_call_8 (by decide) ?_
      refine lv_icmp_ge (tgt := 48) hx hb dX5_call_10 (by decide) (fun c => absurd c (by decide)) (fun _ => ?_)
      refine lv_iload hx hb dX5_call_13 (lv_at hl 1 rfl) ?_
      obtain ⟨hPc, hDc, hFc⟩ := kk_cutout (wc := []) hP hD hS hA [] (by decide) rfl
      have hKc := hK.sub (tys' := []) [] rfl
      refine va_calli (va_runS (As := [.int 1]) (rest := []) ⟨hx, hb, hml, hown, hts⟩ (g_X5_isKind_0 l dC dI H.size 1) (va_cwS 1 hts gX5_call_X5_isKind rfl rfl rfl (by decide +kernel) ⟨Nat.le_of_ble_eq_true rfl, Nat.le_of_ble_eq_true rfl⟩) ⟨fun a U g mk q => by obtain ⟨q0, q1, qP, qK, qD⟩ := q; exact ⟨q0, q1, qP, va_K.moved (u := U) (U := U.calling g mk a) (Vm.Alike.refl U.vm) qK, qD⟩, fun U hU hW => ⟨rfl, by rw [hU], by rw [hU]; exact hPc, va_K.moved hW.alike hKc, hDc.weaken (fun _ _ _ _ => trivial)⟩⟩ rfl rfl hl.1 rfl (lv_room (Nat.le_of_ble_eq_true rfl)) dX5_call_15 ⟨Nat.le_of_ble_eq_true rfl, Nat.le_of_ble_eq_true rfl⟩) hS (fun q _ h => hFc q h) hFc (fun r_283 u t H1 locs ht hvm hw hB hz1 hk1 hS => ?_)
      obtain ⟨hP1, hK1, hD1⟩ := hB
      rw [ht] at hP1
      have hK1 := va_K.moved hvm.symm hK1
      obtain ⟨hP, hD⟩ := va_join (wr := [(h0, Sum.inr (5, [Value.ref h1, Value.int n0_size, Value.ref h2, Value.int n0_ran])), (h1, Sum.inl (cint, 50, Sum.inl f1)), (h2, Sum.inl (cint, 24, Sum.inl f2))]) (w1 := []) hP hD [] [0, 1, 2] rfl rfl (by decide) (by decide) hk1 hFc hP1 hD1
      generalize H1 = H at hP hS ⊢
      have hP : va_P (dC, dI) vwCl [(h0, Sum.inr (5, [Value.ref h1, Value.int n0_size, Value.ref h2, Value.int n0_ran])), (h1, Sum.inl (cint, 50, Sum.inl f1)), (h2, Sum.inl (cint, 24, Sum.inl f2))] H := hP
      have hD : va_D A [(h0, Sum.inr (5, [Value.ref h1, Value.int n0_size, Value.ref h2, Value.int n0_ran])), (h1, Sum.inl (cint, 50, Sum.inl f1)), (h2, Sum.inl (cint, 24, Sum.inl f2))] := hD
      rcases hw with ⟨rfl⟩ | ⟨t_283_0, t_283_1, rfl⟩
      · skip
        refine lv_if_eq (tgt := 48) hx hb dX5_call_18 (by decide) (fun _ => ?_) (fun c => absurd c (by decide))
        refine lv_iload hx hb dX5_call_48 (lv_at hl 1 rfl) ?_
        obtain ⟨hPc, hDc, hFc⟩ := kk_cutout (wc := []) hP hD hS hA [] (by decide) rfl
        have hKc := hK.sub (tys' := []) [] rfl
        refine va_calli (va_runS (As := [.int 1]) (rest := []) ⟨hx, hb, hml, hown, hts⟩ (g_X5_isKind_0 l dC dI H.size 1) (va_cwS 1 hts gX5_call_X5_isKind rfl rfl rfl (by decide +kernel) ⟨Nat.le_of_ble_eq_true rfl, Nat.le_of_ble_eq_true rfl⟩) ⟨fun a U g mk q => by obtain ⟨q0, q1, qP, qK, qD⟩ := q; exact ⟨q0, q1, qP, va_K.moved (u := U) (U := U.calling g mk a) (Vm.Alike.refl U.vm) qK, qD⟩, fun U hU hW => ⟨rfl, by rw [hU], by rw [hU]; exact hPc, va_K.moved hW.alike hKc, hDc.weaken (fun _ _ _ _ => trivial)⟩⟩ rfl rfl hl.1 rfl (lv_room (Nat.le_of_ble_eq_true rfl)) dX5_call_50 ⟨Nat.le_of_ble_eq_true rfl, Nat.le_of_ble_eq_true rfl⟩) hS (fun q _ h => hFc q h) hFc (fun r_284 u t H1 locs ht hvm hw hB hz1 hk1 hS => ?_)
        obtain ⟨hP1, hK1, hD1⟩ := hB
        rw [ht] at hP1
        have hK1 := va_K.moved hvm.symm hK1
        obtain ⟨hP, hD⟩ := va_join (wr := [(h0, Sum.inr (5, [Value.ref h1, Value.int n0_size, Value.ref h2, Value.int n0_ran])), (h1, Sum.inl (cint, 50, Sum.inl f1)), (h2, Sum.inl (cint, 24, Sum.inl f2))]) (w1 := []) hP hD [] [0, 1, 2] rfl rfl (by decide) (by decide) hk1 hFc hP1 hD1
        generalize H1 = H at hP hS ⊢
        have hP : va_P (dC, dI) vwCl [(h0, Sum.inr (5, [Value.ref h1, Value.int n0_size, Value.ref h2, Value.int n0_ran])), (h1, Sum.inl (cint, 50, Sum.inl f1)), (h2, Sum.inl (cint, 24, Sum.inl f2))] H := hP
        have hD : va_D A [(h0, Sum.inr (5, [Value.ref h1, Value.int n0_size, Value.ref h2, Value.int n0_ran])), (h1, Sum.inl (cint, 50, Sum.inl f1)), (h2, Sum.inl (cint, 24, Sum.inl f2))] := hD
        rcases hw with ⟨rfl⟩ | ⟨t_284_0, t_284_1, rfl⟩
        · skip
          refine lv_if_eq (tgt := 63) hx hb dX5_call_53 (by decide) (fun _ => ?_) (fun c => absurd c (by decide))
          refine lv_iconst (v := 0) hx hb dX5_call_63 (by decide) ?_
          obtain ⟨hP9, hD9⟩ := kk_leafout (wc := [(h0, Sum.inr (5, [Value.ref h1, Value.int n0_size, Value.ref h2, Value.int n0_ran])), (h1, Sum.inl (cint, 50, Sum.inl f1)), (h2, Sum.inl (cint, 24, Sum.inl f2))]) hP hD [0, 1, 2] (by decide) rfl
          have hK9 := hK.sub (tys' := []) [] rfl
          exact W.iret (v := 0) hx hb hr (fun t ht hW => ⟨⟨0, (), rfl, trivial, n0_ran, f2, (by show 0 ≤ (n0_ran : Int32).toInt ∧ (n0_ran : Int32).toInt ≤ 1000; first | decide | (constructor <;> (omega))), (by show (n0_ran : Int32).toInt ≤ (n0_ran : Int32).toInt + 11; first | decide | (omega)), by rw [ht]; exact hP9, va_K.moved hW.alike hK9, hD9⟩, hS.F ht⟩) hS.2.2 dX5_call_64
        · skip
          have t_284_0 : (0 : Int) ≤ 1 := t_284_0
          have t_284_1 : (1 : Int) < 8 := t_284_1
          refine lv_if_eq (tgt := 63) hx hb dX5_call_53 (by decide) (fun c => absurd c (by decide)) (fun _ => ?_)
          refine lv_iload hx hb dX5_call_56 (lv_at hl 7 rfl) ?_
          refine lv_bipush (v := 40) hx hb dX5_call_58 (by decide) ?_
          refine lv_icmp_le (tgt := 65) hx hb dX5_call_60 (by decide) (fun c_285 => ?_) (fun c_285 => ?_)
          · have t_285 : p4.toInt ≤ 40 := kk_le c_285
            refine va_gets hx hb hZOWN_BODIES hS hown (hts (.fieldLink RX5 43 "KinkStreet$Lines" "OWN_BODIES" "[I") (List.mem_of_getElem? (i := 1) rfl)) (fun _ h9 => h9) dX5_call_65 ?_
            refine lv_iload hx hb dX5_call_68 (lv_at hl 1 rfl) ?_
            refine lv_iconst (v := 4) hx hb dX5_call_70 (by decide) ?_
            refine lv_imul hx hb dX5_call_71 ?_
            refine lv_topi (fun y_286 e_286 => ?_)
            obtain rfl : y_286 = 4 := e_286.trans (by decide)
            refine lv_iload_n hx hb dX5_call_72 rfl (lv_at hl 5 rfl) ?_
            refine lv_iadd hx hb dX5_call_73 ?_
            refine lv_topi (fun y_287 e_287 => ?_)
            obtain rfl : y_287 = 5 := e_287.trans (by decide)
            refine va_ti (v := .int 0) hx hb hTOWN_BODIES hS (by unfold vp_in; decide) rfl dX5_call_74 ?_
            refine lv_istore (lv' := [(7, .int 0), (6, .int 1), (0, .ref h0), (1, .int p0), (2, .int 7), (3, .int 1), (4, .int p3), (5, .int p4)]) hx hb dX5_call_75 hl (by decide) rfl (fun ls hl => ?_)
            refine lv_aload_n hx hb dX5_call_77 rfl (lv_at hl 2 rfl) ?_
            refine va_get (D := (dC, dI)) (ci := 5) (v := .int n0_ran) (C := RX5) (T := TX5) (N := 4) hx hb hts (fun _ h => List.mem_cons_of_mem _ (List.mem_append_right _ h)) hown hK hP 0 rfl rfl 3 (by decide) (hts (.fieldLink RX5 36 "KinkStreet$Lines" "ran" "I") (List.mem_of_getElem? (i := 3) rfl)) (fun _ h9 => h9) rfl dX5_call_78 ?_
            refine lv_bipush (v := 24) hx hb dX5_call_81 (by decide) ?_
            refine kk_cut (σ := (Nat → Int32)) (pc' := 97) (fun x H locs ls => va_P (dC, dI) vwCl [(h0, Sum.inr (5, [Value.ref h1, Value.int n0_size, Value.ref h2, Value.int n0_ran])), (h1, Sum.inl (cint, 50, Sum.inl f1)), (h2, Sum.inl (cint, 24, Sum.inl x))] H ∧ va_D A [(h0, Sum.inr (5, [Value.ref h1, Value.int n0_size, Value.ref h2, Value.int n0_ran])), (h1, Sum.inl (cint, 50, Sum.inl f1)), (h2, Sum.inl (cint, 24, Sum.inl x))] ∧ va_S A s.heap H locs ∧ lv_has ls 8 [(7, .int 0), (6, .int 1), (0, .ref h0), (1, .int p0), (2, .int 7), (3, .int 1), (4, .int p3), (5, .int p4)]) ?_ (fun hcut_290 => ?_)
            · rintro f_290_0 H locs ls ⟨hP, hD, hS, hl⟩
              have hl : lv_has ls 8 [(7, .int 0), (6, .int 1), (0, .ref h0), (1, .int p0), (2, .int 7), (3, .int 1), (4, .int p3), (5, .int p4)] := hl
              have hP : va_P (dC, dI) vwCl [(h0, Sum.inr (5, [Value.ref h1, Value.int n0_size, Value.ref h2, Value.int n0_ran])), (h1, Sum.inl (cint, 50, Sum.inl f1)), (h2, Sum.inl (cint, 24, Sum.inl f_290_0))] H := hP
              have hD : va_D A [(h0, Sum.inr (5, [Value.ref h1, Value.int n0_size, Value.ref h2, Value.int n0_ran])), (h1, Sum.inl (cint, 50, Sum.inl f1)), (h2, Sum.inl (cint, 24, Sum.inl f_290_0))] := hD
              refine lv_aload_n hx hb dX5_call_97 rfl (lv_at hl 2 rfl) ?_
              refine lv_dup hx hb dX5_call_98 rfl ?_
              refine va_get (D := (dC, dI)) (ci := 5) (v := .int n0_ran) (C := RX5) (T := TX5) (N := 4) hx hb hts (fun _ h => List.mem_cons_of_mem _ (List.mem_append_right _ h)) hown hK hP 0 rfl rfl 3 (by decide) (hts (.fieldLink RX5 36 "KinkStreet$Lines" "ran" "I") (List.mem_of_getElem? (i := 3) rfl)) (fun _ h9 => h9) rfl dX5_call_99 ?_
              refine lv_iconst (v := 1) hx hb dX5_call_102 (by decide) ?_
              refine lv_iadd hx hb dX5_call_103 ?_
              refine va_put (D := (dC, dI)) (ci := 5) (v := .int (n0_ran + 1)) (ty := .int) (C := RX5) (T := TX5) (N := 4) hx hb hts (fun _ h => List.mem_cons_of_mem _ (List.mem_append_right _ h)) tyX5 tyX5_ok nmX5 hown hK hP hD hS 0 rfl rfl 3 (by decide) (hts (.fieldLink RX5 36 "KinkStreet$Lines" "ran" "I") (List.mem_of_getElem? (i := 3) rfl)) (fun _ h9 => h9) rfl (by decide +kernel) rfl rfl (Nat.le_of_ble_eq_true rfl) dX5_call_104 (fun H locs hP hD hS => ?_)
              have hP : va_P (dC, dI) vwCl [(h0, Sum.inr (5, [Value.ref h1, Value.int n0_size, Value.ref h2, Value.int (n0_ran + 1)])), (h1, Sum.inl (cint, 50, Sum.inl f1)), (h2, Sum.inl (cint, 24, Sum.inl f_290_0))] H := hP
              have hD : va_D A [(h0, Sum.inr (5, [Value.ref h1, Value.int n0_size, Value.ref h2, Value.int (n0_ran + 1)])), (h1, Sum.inl (cint, 50, Sum.inl f1)), (h2, Sum.inl (cint, 24, Sum.inl f_290_0))] := hD
              refine lv_iload hx hb dX5_call_107 (lv_at hl 1 rfl) ?_
              refine lv_if_ne (tgt := 128) hx hb dX5_call_109 (by decide) (fun _ => ?_) (fun c => absurd c (by decide))
              refine lv_aload_n hx hb dX5_call_128 rfl (lv_at hl 2 rfl) ?_
              refine lv_iload_n hx hb dX5_call_129 rfl (lv_at hl 3 rfl) ?_
              refine lv_iload hx hb dX5_call_130 (lv_at hl 1 rfl) ?_
              refine lv_iload hx hb dX5_call_132 (lv_at hl 0 rfl) ?_
              refine lv_iload hx hb dX5_call_134 (lv_at hl 6 rfl) ?_
              refine lv_iload hx hb dX5_call_136 (lv_at hl 7 rfl) ?_
              refine lv_iconst (v := 1) hx hb dX5_call_138 (by decide) ?_
              refine lv_iadd hx hb dX5_call_139 ?_
              obtain ⟨hPc, hDc, hFc⟩ := kk_cutout (wc := [(h0, Sum.inr (5, [Value.ref h1, Value.int n0_size, Value.ref h2, Value.int (n0_ran + 1)])), (h1, Sum.inl (cint, 50, Sum.inl f1)), (h2, Sum.inl (cint, 24, Sum.inl f_290_0))]) hP hD hS hA [0, 1, 2] (by decide) rfl
              have hKc := hK.sub (tys' := [(cint, .int)]) [0] rfl
              refine va_calli (va_runV (As := [.int p0, .int 1, .int 0, .int p3, .int (p4 + 1)]) (rest := []) ⟨hx, hb, hml, hown, hts⟩ (g_X5_runUnder_5 l dC dI h0 h1 h2 cint H.size p0 p3 (p4 + 1) n0_size (n0_ran + 1) f1 f_290_0 tn0_size (by show 0 ≤ ((n0_ran + 1) : Int32).toInt ∧ ((n0_ran + 1) : Int32).toInt ≤ 999; first | decide | (constructor <;> (have := kk_rng p4; have := kk_add2 (x := n0_ran) (y := 1) (a := n0_ran.toInt) (b := 1) rfl rfl (by omega) (by omega); have := kk_rng p4; have := kk_add2 (x := p4) (y := 1) (a := p4.toInt) (b := 1) rfl rfl (by omega) (by omega); omega))) bf1 aOWN_BODIES aABOVE) (cwV 5 hts gX5_call_X5_runUnder rfl rfl rfl (by decide +kernel) ⟨Nat.le_of_ble_eq_true rfl, Nat.le_of_ble_eq_true rfl⟩) ⟨fun a U g mk q => by obtain ⟨q0, q1, qP, qK, qD, qx0, qx1, qx2, qx3⟩ := q; exact ⟨q0, q1, qP, va_K.moved (u := U) (U := U.calling g mk a) (Vm.Alike.refl U.vm) qK, qD, va_Z.moved (u := U) (U := U.calling g mk a) (Vm.Alike.refl U.vm) qx0, va_T.moved (u := U) (U := U.calling g mk a) (Vm.Alike.refl U.vm) qx1, va_Z.moved (u := U) (U := U.calling g mk a) (Vm.Alike.refl U.vm) qx2, va_T.moved (u := U) (U := U.calling g mk a) (Vm.Alike.refl U.vm) qx3⟩, va_recv hKc hPc (ci := 5) (q0 := 0) rfl rfl, fun U hU hW => ⟨rfl, by rw [hU], by rw [hU]; exact hPc, va_K.moved hW.alike hKc, hDc.weaken (fun _ _ _ _ => trivial), by rw [hU]; exact ((hZOWN_BODIES.kept (fun a h1 h2 => hS.2.1 a h1 h2)).narrow hFc).moved hW.alike, by rw [hU]; exact ((hTOWN_BODIES.kept (fun a h1 h2 => hS.2.1 a h1 h2)).narrow hFc).moved hW.alike, by rw [hU]; exact ((hZABOVE.kept (fun a h1 h2 => hS.2.1 a h1 h2)).narrow hFc).moved hW.alike, by rw [hU]; exact ((hTABOVE.kept (fun a h1 h2 => hS.2.1 a h1 h2)).narrow hFc).moved hW.alike⟩⟩ rfl rfl hl.1 rfl (lv_room (Nat.le_of_ble_eq_true rfl)) dX5_call_140 ⟨Nat.le_of_ble_eq_true rfl, Nat.le_of_ble_eq_true rfl⟩) hS (fun q _ h => hFc q h) hFc (fun r_291 u t H1 locs ht hvm hw hB hz1 hk1 hS => ?_)
              obtain ⟨y_292, f_293, by_292, v_293_0, hP1, hK1, hD1⟩ := hB
              have v_293_0 : y_292.toInt ≤ (n0_ran + 1).toInt + 1 := v_293_0
              rw [ht] at hP1
              have hK1 := va_K.moved hvm.symm hK1
              obtain ⟨hP, hD⟩ := va_join (wr := []) (w1 := [(h0, Sum.inr (5, [Value.ref h1, Value.int n0_size, Value.ref h2, Value.int y_292])), (h1, Sum.inl (cint, 50, Sum.inl f1)), (h2, Sum.inl (cint, 24, Sum.inl f_293))]) hP hD [0, 1, 2] [] rfl rfl (by decide) (by decide) hk1 hFc hP1 hD1
              generalize H1 = H at hP hS ⊢
              have hP : va_P (dC, dI) vwCl [(h0, Sum.inr (5, [Value.ref h1, Value.int n0_size, Value.ref h2, Value.int y_292])), (h1, Sum.inl (cint, 50, Sum.inl f1)), (h2, Sum.inl (cint, 24, Sum.inl f_293))] H := hP
              have hD : va_D A [(h0, Sum.inr (5, [Value.ref h1, Value.int n0_size, Value.ref h2, Value.int y_292])), (h1, Sum.inl (cint, 50, Sum.inl f1)), (h2, Sum.inl (cint, 24, Sum.inl f_293))] := hD
              obtain ⟨hP9, hD9⟩ := kk_leafout (wc := [(h0, Sum.inr (5, [Value.ref h1, Value.int n0_size, Value.ref h2, Value.int y_292])), (h1, Sum.inl (cint, 50, Sum.inl f1)), (h2, Sum.inl (cint, 24, Sum.inl f_293))]) hP hD [0, 1, 2] (by decide) rfl
              have hK9 := hK.sub (tys' := []) [] rfl
              exact W.iret (v := r_291) hx hb hr (fun t ht hW => ⟨⟨r_291, (), rfl, trivial, y_292, f_293, (by show 0 ≤ (y_292 : Int32).toInt ∧ (y_292 : Int32).toInt ≤ 1000; first | decide | (constructor <;> (have := kk_rng p4; have := kk_add2 (x := n0_ran) (y := 1) (a := n0_ran.toInt) (b := 1) rfl rfl (by omega) (by omega); have := kk_rng p4; have := kk_add2 (x := p4) (y := 1) (a := p4.toInt) (b := 1) rfl rfl (by omega) (by omega); omega))), (by show (y_292 : Int32).toInt ≤ (n0_ran : Int32).toInt + 11; first | decide | (have := kk_rng p4; have := kk_add2 (x := n0_ran) (y := 1) (a := n0_ran.toInt) (b := 1) rfl rfl (by omega) (by omega); have := kk_rng p4; have := kk_add2 (x := p4) (y := 1) (a := p4.toInt) (b := 1) rfl rfl (by omega) (by omega); omega)), by rw [ht]; exact hP9, va_K.moved hW.alike hK9, hD9⟩, hS.F ht⟩) hS.2.2 dX5_call_143
            · skip
              refine lv_icmp_ge (tgt := 97) hx hb dX5_call_83 (by decide) (fun c_294 => ?_) (fun c_294 => ?_)
              · have t_294 : 24 ≤ n0_ran.toInt := kk_le c_294
                exact hcut_290 (f2) _ _ _ ⟨hP, hD, hS, lv_sub hl [0, 1, 2, 3, 4, 5, 6, 7] rfl⟩
              · have t_294 : n0_ran.toInt < 24 := kk_nle c_294
                refine lv_aload_n hx hb dX5_call_86 rfl (lv_at hl 2 rfl) ?_
                refine va_get (D := (dC, dI)) (ci := 5) (v := .ref h2) (C := RX5) (T := TX5) (N := 4) hx hb hts (fun _ h => List.mem_cons_of_mem _ (List.mem_append_right _ h)) hown hK hP 0 rfl rfl 2 (by decide) (hts (.fieldLink RX5 15 "KinkStreet$Lines" "trace" "[I") (List.mem_of_getElem? (i := 4) rfl)) (fun _ h9 => h9) rfl dX5_call_87 ?_
                refine lv_aload_n hx hb dX5_call_90 rfl (lv_at hl 2 rfl) ?_
                refine va_get (D := (dC, dI)) (ci := 5) (v := .int n0_ran) (C := RX5) (T := TX5) (N := 4) hx hb hts (fun _ h => List.mem_cons_of_mem _ (List.mem_append_right _ h)) hown hK hP 0 rfl rfl 3 (by decide) (hts (.fieldLink RX5 36 "KinkStreet$Lines" "ran" "I") (List.mem_of_getElem? (i := 3) rfl)) (fun _ h9 => h9) rfl dX5_call_91 ?_
                refine lv_iload hx hb dX5_call_94 (lv_at hl 0 rfl) ?_
                refine va_iast hx hb hK hP hD hS 2 0 rfl rfl (vp_in_iff.mpr ⟨by have := kk_rng p4; omega, by have := kk_rng p4; omega⟩) dX5_call_96 (fun H locs hP hD hS => ?_)
                generalize upd f2 (n0_ran : Int32).toNatClampNeg 0 = f_295 at hP hD
                have hP : va_P (dC, dI) vwCl [(h0, Sum.inr (5, [Value.ref h1, Value.int n0_size, Value.ref h2, Value.int n0_ran])), (h1, Sum.inl (cint, 50, Sum.inl f1)), (h2, Sum.inl (cint, 24, Sum.inl f_295))] H := hP
                have hD : va_D A [(h0, Sum.inr (5, [Value.ref h1, Value.int n0_size, Value.ref h2, Value.int n0_ran])), (h1, Sum.inl (cint, 50, Sum.inl f1)), (h2, Sum.inl (cint, 24, Sum.inl f_295))] := hD
                exact hcut_290 (f_295) _ _ _ ⟨hP, hD, hS, lv_sub hl [0, 1, 2, 3, 4, 5, 6, 7] rfl⟩
          · have t_285 : 40 < p4.toInt := kk_nle c_285
            refine lv_iconst (v := 0) hx hb dX5_call_63 (by decide) ?_
            obtain ⟨hP9, hD9⟩ := kk_leafout (wc := [(h0, Sum.inr (5, [Value.ref h1, Value.int n0_size, Value.ref h2, Value.int n0_ran])), (h1, Sum.inl (cint, 50, Sum.inl f1)), (h2, Sum.inl (cint, 24, Sum.inl f2))]) hP hD [0, 1, 2] (by decide) rfl
            have hK9 := hK.sub (tys' := []) [] rfl
            exact W.iret (v := 0) hx hb hr (fun t ht hW => ⟨⟨0, (), rfl, trivial, n0_ran, f2, (by show 0 ≤ (n0_ran : Int32).toInt ∧ (n0_ran : Int32).toInt ≤ 1000; first | decide | (constructor <;> (have := kk_rng p4; omega))), (by show (n0_ran : Int32).toInt ≤ (n0_ran : Int32).toInt + 11; first | decide | (have := kk_rng p4; omega)), by rw [ht]; exact hP9, va_K.moved hW.alike hK9, hD9⟩, hS.F ht⟩) hS.2.2 dX5_call_64
      · skip
        have t_283_0 : (0 : Int) ≤ 1 := t_283_0
        have t_283_1 : (1 : Int) < 8 := t_283_1
        refine lv_if_eq (tgt := 48) hx hb dX5_call_18 (by decide) (fun c => absurd c (by decide)) (fun _ => ?_)
        refine va_gets hx hb hZOWN_BODIES hS hown (hts (.fieldLink RX5 43 "KinkStreet$Lines" "OWN_BODIES" "[I") (List.mem_of_getElem? (i := 1) rfl)) (fun _ h9 => h9) dX5_call_21 ?_
        refine lv_iload hx hb dX5_call_24 (lv_at hl 1 rfl) ?_
        refine lv_iconst (v := 4) hx hb dX5_call_26 (by decide) ?_
        refine lv_imul hx hb dX5_call_27 ?_
        refine lv_topi (fun y_296 e_296 => ?_)
        obtain rfl : y_296 = 4 := e_296.trans (by decide)
        refine lv_iload_n hx hb dX5_call_28 rfl (lv_at hl 5 rfl) ?_
        refine lv_iadd hx hb dX5_call_29 ?_
        refine lv_topi (fun y_297 e_297 => ?_)
        obtain rfl : y_297 = 5 := e_297.trans (by decide)
        refine va_ti (v := .int 0) hx hb hTOWN_BODIES hS (by unfold vp_in; decide) rfl dX5_call_30 ?_
        refine lv_if_ne (tgt := 48) hx hb dX5_call_31 (by decide) (fun c => absurd c (by decide)) (fun _ => ?_)
        refine va_gets hx hb hZABOVE hS hown (hts (.fieldLink RX5 22 "KinkStreet$Lines" "ABOVE" "[I") (List.mem_of_getElem? (i := 2) rfl)) (fun _ h9 => h9) dX5_call_34 ?_
        refine lv_iload hx hb dX5_call_37 (lv_at hl 1 rfl) ?_
        refine va_ti (v := .int 0) hx hb hTABOVE hS (by unfold vp_in; decide) rfl dX5_call_39 ?_
        refine lv_istore (lv' := [(6, .int 0), (7, .int 1), (0, .ref h0), (1, .int p0), (2, .int 7), (3, .int 1), (4, .int p3), (5, .int p4)]) hx hb dX5_call_40 hl (by decide) rfl (fun ls hl => ?_)
        refine lv_iinc (v := 2) (lv' := [(7, .int 2), (6, .int 0), (0, .ref h0), (1, .int p0), (2, .int 7), (3, .int 1), (4, .int p3), (5, .int p4)]) hx hb dX5_call_42 hl (k := 1) rfl (by first | rfl | decide) (by decide) rfl (fun ls hl => ?_)
        refine lv_goto (tgt := 6) hx hb dX5_call_45 (by decide) ?_
        refine lv_iload hx hb dX5_call_6 (lv_at hl 0 rfl) ?_
        refine lv_bipush (v := 8) hx hb dX5_call_8 (by decide) ?_
        refine lv_icmp_ge (tgt := 48) hx hb dX5_call_10 (by decide) (fun c => absurd c (by decide)) (fun _ => ?_)
        refine lv_iload hx hb dX5_call_13 (lv_at hl 1 rfl) ?_
        obtain ⟨hPc, hDc, hFc⟩ := kk_cutout (wc := []) hP hD hS hA [] (by decide) rfl
        have hKc := hK.sub (tys' := []) [] rfl
        refine va_calli (va_runS (As := [.int 0]) (rest := []) ⟨hx, hb, hml, hown, hts⟩ (g_X5_isKind_0 l dC dI H.size 0) (va_cwS 1 hts gX5_call_X5_isKind rfl rfl rfl (by decide +kernel) ⟨Nat.le_of_ble_eq_true rfl, Nat.le_of_ble_eq_true rfl⟩) ⟨fun a U g mk q => by obtain ⟨q0, q1, qP, qK, qD⟩ := q; exact ⟨q0, q1, qP, va_K.moved (u := U) (U := U.calling g mk a) (Vm.Alike.refl U.vm) qK, qD⟩, fun U hU hW => ⟨rfl, by rw [hU], by rw [hU]; exact hPc, va_K.moved hW.alike hKc, hDc.weaken (fun _ _ _ _ => trivial)⟩⟩ rfl rfl hl.1 rfl (lv_room (Nat.le_of_ble_eq_true rfl)) dX5_call_15 ⟨Nat.le_of_ble_eq_true rfl, Nat.le_of_ble_eq_true rfl⟩) hS (fun q _ h => hFc q h) hFc (fun r_298 u t H1 locs ht hvm hw hB hz1 hk1 hS => ?_)
        obtain ⟨hP1, hK1, hD1⟩ := hB
        rw [ht] at hP1
        have hK1 := va_K.moved hvm.symm hK1
        obtain ⟨hP, hD⟩ := va_join (wr := [(h0, Sum.inr (5, [Value.ref h1, Value.int n0_size, Value.ref h2, Value.int n0_ran])), (h1, Sum.inl (cint, 50, Sum.inl f1)), (h2, Sum.inl (cint, 24, Sum.inl f2))]) (w1 := []) hP hD [] [0, 1, 2] rfl rfl (by decide) (by decide) hk1 hFc hP1 hD1
        generalize H1 = H at hP hS ⊢
        have hP : va_P (dC, dI) vwCl [(h0, Sum.inr (5, [Value.ref h1, Value.int n0_size, Value.ref h2, Value.int n0_ran])), (h1, Sum.inl (cint, 50, Sum.inl f1)), (h2, Sum.inl (cint, 24, Sum.inl f2))] H := hP
        have hD : va_D A [(h0, Sum.inr (5, [Value.ref h1, Value.int n0_size, Value.ref h2, Value.int n0_ran])), (h1, Sum.inl (cint, 50, Sum.inl f1)), (h2, Sum.inl (cint, 24, Sum.inl f2))] := hD
        rcases hw with ⟨rfl⟩ | ⟨t_298_0, t_298_1, rfl⟩
        · skip
          refine lv_if_eq (tgt := 48) hx hb dX5_call_18 (by decide) (fun _ => ?_) (fun c => absurd c (by decide))
          refine lv_iload hx hb dX5_call_48 (lv_at hl 1 rfl) ?_
          obtain ⟨hPc, hDc, hFc⟩ := kk_cutout (wc := []) hP hD hS hA [] (by decide) rfl
          have hKc := hK.sub (tys' := []) [] rfl
          refine va_calli (va_runS (As := [.int 0]) (rest := []) ⟨hx, hb, hml, hown, hts⟩ (g_X5_isKind_0 l dC dI H.size 0) (va_cwS 1 hts gX5_call_X5_isKind rfl rfl rfl (by decide +kernel) ⟨Nat.le_of_ble_eq_true rfl, Nat.le_of_ble_eq_true rfl⟩) ⟨fun a U g mk q => by obtain ⟨q0, q1, qP, qK, qD⟩ := q; exact ⟨q0, q1, qP, va_K.moved (u := U) (U := U.calling g mk a) (Vm.Alike.refl U.vm) qK, qD⟩, fun U hU hW => ⟨rfl, by rw [hU], by rw [hU]; exact hPc, va_K.moved hW.alike hKc, hDc.weaken (fun _ _ _ _ => trivial)⟩⟩ rfl rfl hl.1 rfl (lv_room (Nat.le_of_ble_eq_true rfl)) dX5_call_50 ⟨Nat.le_of_ble_eq_true rfl, Nat.le_of_ble_eq_true rfl⟩) hS (fun q _ h => hFc q h) hFc (fun r_299 u t H1 locs ht hvm hw hB hz1 hk1 hS => ?_)
          obtain ⟨hP1, hK1, hD1⟩ := hB
          rw [ht] at hP1
          have hK1 := va_K.moved hvm.symm hK1
          obtain ⟨hP, hD⟩ := va_join (wr := [(h0, Sum.inr (5, [Value.ref h1, Value.int n0_size, Value.ref h2, Value.int n0_ran])), (h1, Sum.inl (cint, 50, Sum.inl f1)), (h2, Sum.inl (cint, 24, Sum.inl f2))]) (w1 := []) hP hD [] [0, 1, 2] rfl rfl (by decide) (by decide) hk1 hFc hP1 hD1
          generalize H1 = H at hP hS ⊢
          have hP : va_P (dC, dI) vwCl [(h0, Sum.inr (5, [Value.ref h1, Value.int n0_size, Value.ref h2, Value.int n0_ran])), (h1, Sum.inl (cint, 50, Sum.inl f1)), (h2, Sum.inl (cint, 24, Sum.inl f2))] H := hP
          have hD : va_D A [(h0, Sum.inr (5, [Value.ref h1, Value.int n0_size, Value.ref h2, Value.int n0_ran])), (h1, Sum.inl (cint, 50, Sum.inl f1)), (h2, Sum.inl (cint, 24, Sum.inl f2))] := hD
          rcases hw with ⟨rfl⟩ | ⟨t_299_0, t_299_1, rfl⟩
          · skip
            refine lv_if_eq (tgt := 63) hx hb dX5_call_53 (by decide) (fun _ => ?_) (fun c => absurd c (by decide))
            refine lv_iconst (v := 0) hx hb dX5_call_63 (by decide) ?_
            obtain ⟨hP9, hD9⟩ := kk_leafout (wc := [(h0, Sum.inr (5, [Value.ref h1, Value.int n0_size, Value.ref h2, Value.int n0_ran])), (h1, Sum.inl (cint, 50, Sum.inl f1)), (h2, Sum.inl (cint, 24, Sum.inl f2))]) hP hD [0, 1, 2] (by decide) rfl
            have hK9 := hK.sub (tys' := []) [] rfl
            exact W.iret (v := 0) hx hb hr (fun t ht hW => ⟨⟨0, (), rfl, trivial, n0_ran, f2, (by show 0 ≤ (n0_ran : Int32).toInt ∧ (n0_ran : Int32).toInt ≤ 1000; first | decide | (constructor <;> (omega))), (by show (n0_ran : Int32).toInt ≤ (n0_ran : Int32).toInt + 11; first | decide | (omega)), by rw [ht]; exact hP9, va_K.moved hW.alike hK9, hD9⟩, hS.F ht⟩) hS.2.2 dX5_call_64
          · skip
            have t_299_0 : (0 : Int) ≤ 0 := t_299_0
            have t_299_1 : (0 : Int) < 8 := t_299_1
            refine lv_if_eq (tgt := 63) hx hb dX5_call_53 (by decide) (fun c => absurd c (by decide)) (fun _ => ?_)
            refine lv_iload hx hb dX5_call_56 (lv_at hl 7 rfl) ?_
            refine lv_bipush (v := 40) hx hb dX5_call_58 (by decide) ?_
            refine lv_icmp_le (tgt := 65) hx hb dX5_call_60 (by decide) (fun c_300 => ?_) (fun c_300 => ?_)
            · have t_300 : p4.toInt ≤ 40 := kk_le c_300
              refine va_gets hx hb hZOWN_BODIES hS hown (hts (.fieldLink RX5 43 "KinkStreet$Lines" "OWN_BODIES" "[I") (List.mem_of_getElem? (i := 1) rfl)) (fun _ h9 => h9) dX5_call_65 ?_
              refine lv_iload hx hb dX5_call_68 (lv_at hl 1 rfl) ?_
              refine lv_iconst (v := 4) hx hb dX5_call_70 (by decide) ?_
              refine lv_imul hx hb dX5_call_71 ?_
              refine lv_topi (fun y_301 e_301 => ?_)
              obtain rfl : y_301 = 0 := e_301.trans (by decide)
              refine lv_iload_n hx hb dX5_call_72 rfl (lv_at hl 5 rfl) ?_
              refine lv_iadd hx hb dX5_call_73 ?_
              refine lv_topi (fun y_302 e_302 => ?_)
              obtain rfl : y_302 = 1 := e_302.trans (by decide)
              refine va_ti (v := .int 10) hx hb hTOWN_BODIES hS (by unfold vp_in; decide) rfl dX5_call_74 ?_
              refine lv_istore (lv' := [(7, .int 10), (6, .int 0), (0, .ref h0), (1, .int p0), (2, .int 7), (3, .int 1), (4, .int p3), (5, .int p4)]) hx hb dX5_call_75 hl (by decide) rfl (fun ls hl => ?_)
              refine lv_aload_n hx hb dX5_call_77 rfl (lv_at hl 2 rfl) ?_
              refine va_get (D := (dC, dI)) (ci := 5) (v := .int n0_ran) (C := RX5) (T := TX5) (N := 4) hx hb hts (fun _ h => List.mem_cons_of_mem _ (List.mem_append_right _ h)) hown hK hP 0 rfl rfl 3 (by decide) (hts (.fieldLink RX5 36 "KinkStreet$Lines" "ran" "I") (List.mem_of_getElem? (i := 3) rfl)) (fun _ h9 => h9) rfl dX5_call_78 ?_
              refine lv_bipush (v := 24) hx hb dX5_call_81 (by decide) ?_
              refine kk_cut (σ := (Nat → Int32)) (pc' := 97) (fun x H locs ls => va_P (dC, dI) vwCl [(h0, Sum.inr (5, [Value.ref h1, Value.int n0_size, Value.ref h2, Value.int n0_ran])), (h1, Sum.inl (cint, 50, Sum.inl f1)), (h2, Sum.inl (cint, 24, Sum.inl x))] H ∧ va_D A [(h0, Sum.inr (5, [Value.ref h1, Value.int n0_size, Value.ref h2, Value.int n0_ran])), (h1, Sum.inl (cint, 50, Sum.inl f1)), (h2, Sum.inl (cint, 24, Sum.inl x))] ∧ va_S A s.heap H locs ∧ lv_has ls 8 [(7, .int 10), (6, .int 0), (0, .ref h0), (1, .int p0), (2, .int 7), (3, .int 1), (4, .int p3), (5, .int p4)]) ?_ (fun hcut_305 => ?_)
              · rintro f_305_0 H locs ls ⟨hP, hD, hS, hl⟩
                have hl : lv_has ls 8 [(7, .int 10), (6, .int 0), (0, .ref h0), (1, .int p0), (2, .int 7), (3, .int 1), (4, .int p3), (5, .int p4)] := hl
                have hP : va_P (dC, dI) vwCl [(h0, Sum.inr (5, [Value.ref h1, Value.int n0_size, Value.ref h2, Value.int n0_ran])), (h1, Sum.inl (cint, 50, Sum.inl f1)), (h2, Sum.inl (cint, 24, Sum.inl f_305_0))] H := hP
                have hD : va_D A [(h0, Sum.inr (5, [Value.ref h1, Value.int n0_size, Value.ref h2, Value.int n0_ran])), (h1, Sum.inl (cint, 50, Sum.inl f1)), (h2, Sum.inl (cint, 24, Sum.inl f_305_0))] := hD
                refine lv_aload_n hx hb dX5_call_97 rfl (lv_at hl 2 rfl) ?_
                refine lv_dup hx hb dX5_call_98 rfl ?_
                refine va_get (D := (dC, dI)) (ci := 5) (v := .int n0_ran) (C := RX5) (T := TX5) (N := 4) hx hb hts (fun _ h => List.mem_cons_of_mem _ (List.mem_append_right _ h)) hown hK hP 0 rfl rfl 3 (by decide) (hts (.fieldLink RX5 36 "KinkStreet$Lines" "ran" "I") (List.mem_of_getElem? (i := 3) rfl)) (fun _ h9 => h9) rfl dX5_call_99 ?_
                refine lv_iconst (v := 1) hx hb dX5_call_102 (by decide) ?_
                refine lv_iadd hx hb dX5_call_103 ?_
                refine va_put (D := (dC, dI)) (ci := 5) (v := .int (n0_ran + 1)) (ty := .int) (C := RX5) (T := TX5) (N := 4) hx hb hts (fun _ h => List.mem_cons_of_mem _ (List.mem_append_right _ h)) tyX5 tyX5_ok nmX5 hown hK hP hD hS 0 rfl rfl 3 (by decide) (hts (.fieldLink RX5 36 "KinkStreet$Lines" "ran" "I") (List.mem_of_getElem? (i := 3) rfl)) (fun _ h9 => h9) rfl (by decide +kernel) rfl rfl (Nat.le_of_ble_eq_true rfl) dX5_call_104 (fun H locs hP hD hS => ?_)
                have hP : va_P (dC, dI) vwCl [(h0, Sum.inr (5, [Value.ref h1, Value.int n0_size, Value.ref h2, Value.int (n0_ran + 1)])), (h1, Sum.inl (cint, 50, Sum.inl f1)), (h2, Sum.inl (cint, 24, Sum.inl f_305_0))] H := hP
                have hD : va_D A [(h0, Sum.inr (5, [Value.ref h1, Value.int n0_size, Value.ref h2, Value.int (n0_ran + 1)])), (h1, Sum.inl (cint, 50, Sum.inl f1)), (h2, Sum.inl (cint, 24, Sum.inl f_305_0))] := hD
                refine lv_iload hx hb dX5_call_107 (lv_at hl 1 rfl) ?_
                refine lv_if_ne (tgt := 128) hx hb dX5_call_109 (by decide) (fun c => absurd c (by decide)) (fun _ => ?_)
                refine lv_aload_n hx hb dX5_call_112 rfl (lv_at hl 2 rfl) ?_
                refine lv_iload_n hx hb dX5_call_113 rfl (lv_at hl 3 rfl) ?_
                refine lv_iload hx hb dX5_call_114 (lv_at hl 0 rfl) ?_
                refine lv_iload hx hb dX5_call_116 (lv_at hl 6 rfl) ?_
                refine lv_iload hx hb dX5_call_118 (lv_at hl 7 rfl) ?_
                refine lv_iconst (v := 1) hx hb dX5_call_120 (by decide) ?_
                refine lv_iadd hx hb dX5_call_121 ?_
                obtain ⟨hPc, hDc, hFc⟩ := kk_cutout (wc := [(h0, Sum.inr (5, [Value.ref h1, Value.int n0_size, Value.ref h2, Value.int (n0_ran + 1)])), (h1, Sum.inl (cint, 50, Sum.inl f1)), (h2, Sum.inl (cint, 24, Sum.inl f_305_0))]) hP hD hS hA [0, 1, 2] (by decide) rfl
                have hKc := hK.sub (tys' := [(cint, .int)]) [0] rfl
                refine va_calli (va_runV (As := [.int p0, .int 10, .int p3, .int (p4 + 1)]) (rest := []) ⟨hx, hb, hml, hown, hts⟩ (g_X5_runLine_2 l dC dI h0 h1 h2 cint H.size p0 p3 (p4 + 1) n0_size (n0_ran + 1) f1 f_305_0 tn0_size (by show 0 ≤ ((n0_ran + 1) : Int32).toInt ∧ ((n0_ran + 1) : Int32).toInt ≤ 997; first | decide | (constructor <;> (have := kk_rng p4; have := kk_add2 (x := n0_ran) (y := 1) (a := n0_ran.toInt) (b := 1) rfl rfl (by omega) (by omega); have := kk_rng p4; have := kk_add2 (x := p4) (y := 1) (a := p4.toInt) (b := 1) rfl rfl (by omega) (by omega); omega))) bf1 aOWN_BODIES aABOVE) (cwV 4 hts gX5_call_X5_runLine rfl rfl rfl (by decide +kernel) ⟨Nat.le_of_ble_eq_true rfl, Nat.le_of_ble_eq_true rfl⟩) ⟨fun a U g mk q => by obtain ⟨q0, q1, qP, qK, qD, qx0, qx1, qx2, qx3⟩ := q; exact ⟨q0, q1, qP, va_K.moved (u := U) (U := U.calling g mk a) (Vm.Alike.refl U.vm) qK, qD, va_Z.moved (u := U) (U := U.calling g mk a) (Vm.Alike.refl U.vm) qx0, va_T.moved (u := U) (U := U.calling g mk a) (Vm.Alike.refl U.vm) qx1, va_Z.moved (u := U) (U := U.calling g mk a) (Vm.Alike.refl U.vm) qx2, va_T.moved (u := U) (U := U.calling g mk a) (Vm.Alike.refl U.vm) qx3⟩, va_recv hKc hPc (ci := 5) (q0 := 0) rfl rfl, fun U hU hW => ⟨rfl, by rw [hU], by rw [hU]; exact hPc, va_K.moved hW.alike hKc, hDc.weaken (fun _ _ _ _ => trivial), by rw [hU]; exact ((hZOWN_BODIES.kept (fun a h1 h2 => hS.2.1 a h1 h2)).narrow hFc).moved hW.alike, by rw [hU]; exact ((hTOWN_BODIES.kept (fun a h1 h2 => hS.2.1 a h1 h2)).narrow hFc).moved hW.alike, by rw [hU]; exact ((hZABOVE.kept (fun a h1 h2 => hS.2.1 a h1 h2)).narrow hFc).moved hW.alike, by rw [hU]; exact ((hTABOVE.kept (fun a h1 h2 => hS.2.1 a h1 h2)).narrow hFc).moved hW.alike⟩⟩ rfl rfl hl.1 rfl (lv_room (Nat.le_of_ble_eq_true rfl)) dX5_call_122 ⟨Nat.le_of_ble_eq_true rfl, Nat.le_of_ble_eq_true rfl⟩) hS (fun q _ h => hFc q h) hFc (fun r_306 u t H1 locs ht hvm hw hB hz1 hk1 hS => ?_)
                obtain ⟨y_307, f_308, by_307, v_308_0, hP1, hK1, hD1⟩ := hB
                have v_308_0 : y_307.toInt ≤ (n0_ran + 1).toInt + 3 := v_308_0
                rw [ht] at hP1
                have hK1 := va_K.moved hvm.symm hK1
                obtain ⟨hP, hD⟩ := va_join (wr := []) (w1 := [(h0, Sum.inr (5, [Value.ref h1, Value.int n0_size, Value.ref h2, Value.int y_307])), (h1, Sum.inl (cint, 50, Sum.inl f1)), (h2, Sum.inl (cint, 24, Sum.inl f_308))]) hP hD [0, 1, 2] [] rfl rfl (by decide) (by decide) hk1 hFc hP1 hD1
                generalize H1 = H at hP hS ⊢
                have hP : va_P (dC, dI) vwCl [(h0, Sum.inr (5, [Value.ref h1, Value.int n0_size, Value.ref h2, Value.int y_307])), (h1, Sum.inl (cint, 50, Sum.inl f1)), (h2, Sum.inl (cint, 24, Sum.inl f_308))] H := hP
                have hD : va_D A [(h0, Sum.inr (5, [Value.ref h1, Value.int n0_size, Value.ref h2, Value.int y_307])), (h1, Sum.inl (cint, 50, Sum.inl f1)), (h2, Sum.inl (cint, 24, Sum.inl f_308))] := hD
                refine lv_goto (tgt := 143) hx hb dX5_call_125 (by decide) ?_
                obtain ⟨hP9, hD9⟩ := kk_leafout (wc := [(h0, Sum.inr (5, [Value.ref h1, Value.int n0_size, Value.ref h2, Value.int y_307])), (h1, Sum.inl (cint, 50, Sum.inl f1)), (h2, Sum.inl (cint, 24, Sum.inl f_308))]) hP hD [0, 1, 2] (by decide) rfl
                have hK9 := hK.sub (tys' := []) [] rfl
                exact W.iret (v := r_306) hx hb hr (fun t ht hW => ⟨⟨r_306, (), rfl, trivial, y_307, f_308, (by show 0 ≤ (y_307 : Int32).toInt ∧ (y_307 : Int32).toInt ≤ 1000; first | decide | (constructor <;> (have := kk_rng p4; have := kk_add2 (x := n0_ran) (y := 1) (a := n0_ran.toInt) (b := 1) rfl rfl (by omega) (by omega); have := kk_rng p4; have := kk_add2 (x := p4) (y := 1) (a := p4.toInt) (b := 1) rfl rfl (by omega) (by omega); omega))), (by show (y_307 : Int32).toInt ≤ (n0_ran : Int32).toInt + 11; first | decide | (have := kk_rng p4; have := kk_add2 (x := n0_ran) (y := 1) (a := n0_ran.toInt) (b := 1) rfl rfl (by omega) (by omega); have := kk_rng p4; have := kk_add2 (x := p4) (y := 1) (a := p4.toInt) (b := 1) rfl rfl (by omega) (by omega); omega)), by rw [ht]; exact hP9, va_K.moved hW.alike hK9, hD9⟩, hS.F ht⟩) hS.2.2 dX5_call_143
              · skip
                refine lv_icmp_ge (tgt := 97) hx hb dX5_call_83 (by decide) (fun c_309 => ?_) (fun c_309 => ?_)
                · have t_309 : 24 ≤ n0_ran.toInt := kk_le c_309
                  exact hcut_305 (f2) _ _ _ ⟨hP, hD, hS, lv_sub hl [0, 1, 2, 3, 4, 5, 6, 7] rfl⟩
                · have t_309 : n0_ran.toInt < 24 := kk_nle c_309
                  refine lv_aload_n hx hb dX5_call_86 rfl (lv_at hl 2 rfl) ?_
                  refine va_get (D := (dC, dI)) (ci := 5) (v := .ref h2) (C := RX5) (T := TX5) (N := 4) hx hb hts (fun _ h => List.mem_cons_of_mem _ (List.mem_append_right _ h)) hown hK hP 0 rfl rfl 2 (by decide) (hts (.fieldLink RX5 15 "KinkStreet$Lines" "trace" "[I") (List.mem_of_getElem? (i := 4) rfl)) (fun _ h9 => h9) rfl dX5_call_87 ?_
                  refine lv_aload_n hx hb dX5_call_90 rfl (lv_at hl 2 rfl) ?_
                  refine va_get (D := (dC, dI)) (ci := 5) (v := .int n0_ran) (C := RX5) (T := TX5) (N := 4) hx hb hts (fun _ h => List.mem_cons_of_mem _ (List.mem_append_right _ h)) hown hK hP 0 rfl rfl 3 (by decide) (hts (.fieldLink RX5 36 "KinkStreet$Lines" "ran" "I") (List.mem_of_getElem? (i := 3) rfl)) (fun _ h9 => h9) rfl dX5_call_91 ?_
                  refine lv_iload hx hb dX5_call_94 (lv_at hl 0 rfl) ?_
                  refine va_iast hx hb hK hP hD hS 2 0 rfl rfl (vp_in_iff.mpr ⟨by have := kk_rng p4; omega, by have := kk_rng p4; omega⟩) dX5_call_96 (fun H locs hP hD hS => ?_)
                  generalize upd f2 (n0_ran : Int32).toNatClampNeg 10 = f_310 at hP hD
                  have hP : va_P (dC, dI) vwCl [(h0, Sum.inr (5, [Value.ref h1, Value.int n0_size, Value.ref h2, Value.int n0_ran])), (h1, Sum.inl (cint, 50, Sum.inl f1)), (h2, Sum.inl (cint, 24, Sum.inl f_310))] H := hP
                  have hD : va_D A [(h0, Sum.inr (5, [Value.ref h1, Value.int n0_size, Value.ref h2, Value.int n0_ran])), (h1, Sum.inl (cint, 50, Sum.inl f1)), (h2, Sum.inl (cint, 24, Sum.inl f_310))] := hD
                  exact hcut_305 (f_310) _ _ _ ⟨hP, hD, hS, lv_sub hl [0, 1, 2, 3, 4, 5, 6, 7] rfl⟩
            · have t_300 : 40 < p4.toInt := kk_nle c_300
              refine lv_iconst (v := 0) hx hb dX5_call_63 (by decide) ?_
              obtain ⟨hP9, hD9⟩ := kk_leafout (wc := [(h0, Sum.inr (5, [Value.ref h1, Value.int n0_size, Value.ref h2, Value.int n0_ran])), (h1, Sum.inl (cint, 50, Sum.inl f1)), (h2, Sum.inl (cint, 24, Sum.inl f2))]) hP hD [0, 1, 2] (by decide) rfl
              have hK9 := hK.sub (tys' := []) [] rfl
              exact W.iret (v := 0) hx hb hr (fun t ht hW => ⟨⟨0, (), rfl, trivial, n0_ran, f2, (by show 0 ≤ (n0_ran : Int32).toInt ∧ (n0_ran : Int32).toInt ≤ 1000; first | decide | (constructor <;> (have := kk_rng p4; omega))), (by show (n0_ran : Int32).toInt ≤ (n0_ran : Int32).toInt + 11; first | decide | (have := kk_rng p4; omega)), by rw [ht]; exact hP9, va_K.moved hW.alike hK9, hD9⟩, hS.F ht⟩) hS.2.2 dX5_call_64
        · skip
          have t_298_0 : (0 : Int) ≤ 0 := t_298_0
          have t_298_1 : (0 : Int) < 8 := t_298_1
          refine lv_if_eq (tgt := 48) hx hb dX5_call_18 (by decide) (fun c => absurd c (by decide)) (fun _ => ?_)
          refine va_gets hx hb hZOWN_BODIES hS hown (hts (.fieldLink RX5 43 "KinkStreet$Lines" "OWN_BODIES" "[I") (List.mem_of_getElem? (i := 1) rfl)) (fun _ h9 => h9) dX5_call_21 ?_
          refine lv_iload hx hb dX5_call_24 (lv_at hl 1 rfl) ?_
          refine lv_iconst (v := 4) hx hb dX5_call_26 (by decide) ?_
          refine lv_imul hx hb dX5_call_27 ?_
          refine lv_topi (fun y_311 e_311 => ?_)
          obtain rfl : y_311 = 0 := e_311.trans (by decide)
          refine lv_iload_n hx hb dX5_call_28 rfl (lv_at hl 5 rfl) ?_
          refine lv_iadd hx hb dX5_call_29 ?_
          refine lv_topi (fun y_312 e_312 => ?_)
          obtain rfl : y_312 = 1 := e_312.trans (by decide)
          refine va_ti (v := .int 10) hx hb hTOWN_BODIES hS (by unfold vp_in; decide) rfl dX5_call_30 ?_
          refine lv_if_ne (tgt := 48) hx hb dX5_call_31 (by decide) (fun _ => ?_) (fun c => absurd c (by decide))
          refine lv_iload hx hb dX5_call_48 (lv_at hl 1 rfl) ?_
          obtain ⟨hPc, hDc, hFc⟩ := kk_cutout (wc := []) hP hD hS hA [] (by decide) rfl
          have hKc := hK.sub (tys' := []) [] rfl
          refine va_calli (va_runS (As := [.int 0]) (rest := []) ⟨hx, hb, hml, hown, hts⟩ (g_X5_isKind_0 l dC dI H.size 0) (va_cwS 1 hts gX5_call_X5_isKind rfl rfl rfl (by decide +kernel) ⟨Nat.le_of_ble_eq_true rfl, Nat.le_of_ble_eq_true rfl⟩) ⟨fun a U g mk q => by obtain ⟨q0, q1, qP, qK, qD⟩ := q; exact ⟨q0, q1, qP, va_K.moved (u := U) (U := U.calling g mk a) (Vm.Alike.refl U.vm) qK, qD⟩, fun U hU hW => ⟨rfl, by rw [hU], by rw [hU]; exact hPc, va_K.moved hW.alike hKc, hDc.weaken (fun _ _ _ _ => trivial)⟩⟩ rfl rfl hl.1 rfl (lv_room (Nat.le_of_ble_eq_true rfl)) dX5_call_50 ⟨Nat.le_of_ble_eq_true rfl, Nat.le_of_ble_eq_true rfl⟩) hS (fun q _ h => hFc q h) hFc (fun r_313 u t H1 locs ht hvm hw hB hz1 hk1 hS => ?_)
          obtain ⟨hP1, hK1, hD1⟩ := hB
          rw [ht] at hP1
          have hK1 := va_K.moved hvm.symm hK1
          obtain ⟨hP, hD⟩ := va_join (wr := [(h0, Sum.inr (5, [Value.ref h1, Value.int n0_size, Value.ref h2, Value.int n0_ran])), (h1, Sum.inl (cint, 50, Sum.inl f1)), (h2, Sum.inl (cint, 24, Sum.inl f2))]) (w1 := []) hP hD [] [0, 1, 2] rfl rfl (by decide) (by decide) hk1 hFc hP1 hD1
          generalize H1 = H at hP hS ⊢
          have hP : va_P (dC, dI) vwCl [(h0, Sum.inr (5, [Value.ref h1, Value.int n0_size, Value.ref h2, Value.int n0_ran])), (h1, Sum.inl (cint, 50, Sum.inl f1)), (h2, Sum.inl (cint, 24, Sum.inl f2))] H := hP
          have hD : va_D A [(h0, Sum.inr (5, [Value.ref h1, Value.int n0_size, Value.ref h2, Value.int n0_ran])), (h1, Sum.inl (cint, 50, Sum.inl f1)), (h2, Sum.inl (cint, 24, Sum.inl f2))] := hD
          rcases hw with ⟨rfl⟩ | ⟨t_313_0, t_313_1, rfl⟩
          · skip
            refine lv_if_eq (tgt := 63) hx hb dX5_call_53 (by decide) (fun _ => ?_) (fun c => absurd c (by decide))
            refine lv_iconst (v := 0) hx hb dX5_call_63 (by decide) ?_
            obtain ⟨hP9, hD9⟩ := kk_leafout (wc := [(h0, Sum.inr (5, [Value.ref h1, Value.int n0_size, Value.ref h2, Value.int n0_ran])), (h1, Sum.inl (cint, 50, Sum.inl f1)), (h2, Sum.inl (cint, 24, Sum.inl f2))]) hP hD [0, 1, 2] (by decide) rfl
            have hK9 := hK.sub (tys' := []) [] rfl
            exact W.iret (v := 0) hx hb hr (fun t ht hW => ⟨⟨0, (), rfl, trivial, n0_ran, f2, (by show 0 ≤ (n0_ran : Int32).toInt ∧ (n0_ran : Int32).toInt ≤ 1000; first | decide | (constructor <;> (omega))), (by show (n0_ran : Int32).toInt ≤ (n0_ran : Int32).toInt + 11; first | decide | (omega)), by rw [ht]; exact hP9, va_K.moved hW.alike hK9, hD9⟩, hS.F ht⟩) hS.2.2 dX5_call_64
          · skip
            have t_313_0 : (0 : Int) ≤ 0 := t_313_0
            have t_313_1 : (0 : Int) < 8 := t_313_1
            refine lv_if_eq (tgt := 63) hx hb dX5_call_53 (by decide) (fun c => absurd c (by decide)) (fun _ => ?_)
            refine lv_iload hx hb dX5_call_56 (lv_at hl 7 rfl) ?_
            refine lv_bipush (v := 40) hx hb dX5_call_58 (by decide) ?_
            refine lv_icmp_le (tgt := 65) hx hb dX5_call_60 (by decide) (fun c_314 => ?_) (fun c_314 => ?_)
            · have t_314 : p4.toInt ≤ 40 := kk_le c_314
              refine va_gets hx hb hZOWN_BODIES hS hown (hts (.fieldLink RX5 43 "KinkStreet$Lines" "OWN_BODIES" "[I") (List.mem_of_getElem? (i := 1) rfl)) (fun _ h9 => h9) dX5_call_65 ?_
              refine lv_iload hx hb dX5_call_68 (lv_at hl 1 rfl) ?_
              refine lv_iconst (v := 4) hx hb dX5_call_70 (by decide) ?_
              refine lv_imul hx hb dX5_call_71 ?_
              refine lv_topi (fun y_315 e_315 => ?_)
              obtain rfl : y_315 = 0 := e_315.trans (by decide)
              refine lv_iload_n hx hb dX5_call_72 rfl (lv_at hl 5 rfl) ?_
              refine lv_iadd hx hb dX5_call_73 ?_
              refine lv_topi (fun y_316 e_316 => ?_)
              obtain rfl : y_316 = 1 := e_316.trans (by decide)
              refine va_ti (v := .int 10) hx hb hTOWN_BODIES hS (by unfold vp_in; decide) rfl dX5_call_74 ?_
              refine lv_istore (lv' := [(7, .int 10), (6, .int 0), (0, .ref h0), (1, .int p0), (2, .int 7), (3, .int 1), (4, .int p3), (5, .int p4)]) hx hb dX5_call_75 hl (by decide) rfl (fun ls hl => ?_)
              refine lv_aload_n hx hb dX5_call_77 rfl (lv_at hl 2 rfl) ?_
              refine va_get (D := (dC, dI)) (ci := 5) (v := .int n0_ran) (C := RX5) (T := TX5) (N := 4) hx hb hts (fun _ h => List.mem_cons_of_mem _ (List.mem_append_right _ h)) hown hK hP 0 rfl rfl 3 (by decide) (hts (.fieldLink RX5 36 "KinkStreet$Lines" "ran" "I") (List.mem_of_getElem? (i := 3) rfl)) (fun _ h9 => h9) rfl dX5_call_78 ?_
              refine lv_bipush (v := 24) hx hb dX5_call_81 (by decide) ?_
              refine kk_cut (σ := (Nat → Int32)) (pc' := 97) (fun x H locs ls => va_P (dC, dI) vwCl [(h0, Sum.inr (5, [Value.ref h1, Value.int n0_size, Value.ref h2, Value.int n0_ran])), (h1, Sum.inl (cint, 50, Sum.inl f1)), (h2, Sum.inl (cint, 24, Sum.inl x))] H ∧ va_D A [(h0, Sum.inr (5, [Value.ref h1, Value.int n0_size, Value.ref h2, Value.int n0_ran])), (h1, Sum.inl (cint, 50, Sum.inl f1)), (h2, Sum.inl (cint, 24, Sum.inl x))] ∧ va_S A s.heap H locs ∧ lv_has ls 8 [(7, .int 10), (6, .int 0), (0, .ref h0), (1, .int p0), (2, .int 7), (3, .int 1), (4, .int p3), (5, .int p4)]) ?_ (fun hcut_319 => ?_)
              · rintro f_319_0 H locs ls ⟨hP, hD, hS, hl⟩
                have hl : lv_has ls 8 [(7, .int 10), (6, .int 0), (0, .ref h0), (1, .int p0), (2, .int 7), (3, .int 1), (4, .int p3), (5, .int p4)] := hl
                have hP : va_P (dC, dI) vwCl [(h0, Sum.inr (5, [Value.ref h1, Value.int n0_size, Value.ref h2, Value.int n0_ran])), (h1, Sum.inl (cint, 50, Sum.inl f1)), (h2, Sum.inl (cint, 24, Sum.inl f_319_0))] H := hP
                have hD : va_D A [(h0, Sum.inr (5, [Value.ref h1, Value.int n0_size, Value.ref h2, Value.int n0_ran])), (h1, Sum.inl (cint, 50, Sum.inl f1)), (h2, Sum.inl (cint, 24, Sum.inl f_319_0))] := hD
                refine lv_aload_n hx hb dX5_call_97 rfl (lv_at hl 2 rfl) ?_
                refine lv_dup hx hb dX5_call_98 rfl ?_
                refine va_get (D := (dC, dI)) (ci := 5) (v := .int n0_ran) (C := RX5) (T := TX5) (N := 4) hx hb hts (fun _ h => List.mem_cons_of_mem _ (List.mem_append_right _ h)) hown hK hP 0 rfl rfl 3 (by decide) (hts (.fieldLink RX5 36 "KinkStreet$Lines" "ran" "I") (List.mem_of_getElem? (i := 3) rfl)) (fun _ h9 => h9) rfl dX5_call_99 ?_
                refine lv_iconst (v := 1) hx hb dX5_call_102 (by decide) ?_
                refine lv_iadd hx hb dX5_call_103 ?_
                refine va_put (D := (dC, dI)) (ci := 5) (v := .int (n0_ran + 1)) (ty := .int) (C := RX5) (T := TX5) (N := 4) hx hb hts (fun _ h => List.mem_cons_of_mem _ (List.mem_append_right _ h)) tyX5 tyX5_ok nmX5 hown hK hP hD hS 0 rfl rfl 3 (by decide) (hts (.fieldLink RX5 36 "KinkStreet$Lines" "ran" "I") (List.mem_of_getElem? (i := 3) rfl)) (fun _ h9 => h9) rfl (by decide +kernel) rfl rfl (Nat.le_of_ble_eq_true rfl) dX5_call_104 (fun H locs hP hD hS => ?_)
                have hP : va_P (dC, dI) vwCl [(h0, Sum.inr (5, [Value.ref h1, Value.int n0_size, Value.ref h2, Value.int (n0_ran + 1)])), (h1, Sum.inl (cint, 50, Sum.inl f1)), (h2, Sum.inl (cint, 24, Sum.inl f_319_0))] H := hP
                have hD : va_D A [(h0, Sum.inr (5, [Value.ref h1, Value.int n0_size, Value.ref h2, Value.int (n0_ran + 1)])), (h1, Sum.inl (cint, 50, Sum.inl f1)), (h2, Sum.inl (cint, 24, Sum.inl f_319_0))] := hD
                refine lv_iload hx hb dX5_call_107 (lv_at hl 1 rfl) ?_
                refine lv_if_ne (tgt := 128) hx hb dX5_call_109 (by decide) (fun c => absurd c (by decide)) (fun _ => ?_)
                refine lv_aload_n hx hb dX5_call_112 rfl (lv_at hl 2 rfl) ?_
                refine lv_iload_n hx hb dX5_call_113 rfl (lv_at hl 3 rfl) ?_
                refine lv_iload hx hb dX5_call_114 (lv_at hl 0 rfl) ?_
                refine lv_iload hx hb dX5_call_116 (lv_at hl 6 rfl) ?_
                refine lv_iload hx hb dX5_call_118 (lv_at hl 7 rfl) ?_
                refine lv_iconst (v := 1) hx hb dX5_call_120 (by decide) ?_
                refine lv_iadd hx hb dX5_call_121 ?_
                obtain ⟨hPc, hDc, hFc⟩ := kk_cutout (wc := [(h0, Sum.inr (5, [Value.ref h1, Value.int n0_size, Value.ref h2, Value.int (n0_ran + 1)])), (h1, Sum.inl (cint, 50, Sum.inl f1)), (h2, Sum.inl (cint, 24, Sum.inl f_319_0))]) hP hD hS hA [0, 1, 2] (by decide) rfl
                have hKc := hK.sub (tys' := [(cint, .int)]) [0] rfl
                refine va_calli (va_runV (As := [.int p0, .int 10, .int p3, .int (p4 + 1)]) (rest := []) ⟨hx, hb, hml, hown, hts⟩ (g_X5_runLine_2 l dC dI h0 h1 h2 cint H.size p0 p3 (p4 + 1) n0_size (n0_ran + 1) f1 f_319_0 tn0_size (by show 0 ≤ ((n0_ran + 1) : Int32).toInt ∧ ((n0_ran + 1) : Int32).toInt ≤ 997; first | decide | (constructor <;> (have := kk_rng p4; have := kk_add2 (x := n0_ran) (y := 1) (a := n0_ran.toInt) (b := 1) rfl rfl (by omega) (by omega); have := kk_rng p4; have := kk_add2 (x := p4) (y := 1) (a := p4.toInt) (b := 1) rfl rfl (by omega) (by omega); omega))) bf1 aOWN_BODIES aABOVE) (cwV 4 hts gX5_call_X5_runLine rfl rfl rfl (by decide +kernel) ⟨Nat.le_of_ble_eq_true rfl, Nat.le_of_ble_eq_true rfl⟩) ⟨fun a U g mk q => by obtain ⟨q0, q1, qP, qK, qD, qx0, qx1, qx2, qx3⟩ := q; exact ⟨q0, q1, qP, va_K.moved (u := U) (U := U.calling g mk a) (Vm.Alike.refl U.vm) qK, qD, va_Z.moved (u := U) (U := U.calling g mk a) (Vm.Alike.refl U.vm) qx0, va_T.moved (u := U) (U := U.calling g mk a) (Vm.Alike.refl U.vm) qx1, va_Z.moved (u := U) (U := U.calling g mk a) (Vm.Alike.refl U.vm) qx2, va_T.moved (u := U) (U := U.calling g mk a) (Vm.Alike.refl U.vm) qx3⟩, va_recv hKc hPc (ci := 5) (q0 := 0) rfl rfl, fun U hU hW => ⟨rfl, by rw [hU], by rw [hU]; exact hPc, va_K.moved hW.alike hKc, hDc.weaken (fun _ _ _ _ => trivial), by rw [hU]; exact ((hZOWN_BODIES.kept (fun a h1 h2 => hS.2.1 a h1 h2)).narrow hFc).moved hW.alike, by rw [hU]; exact ((hTOWN_BODIES.kept (fun a h1 h2 => hS.2.1 a h1 h2)).narrow hFc).moved hW.alike, by rw [hU]; exact ((hZABOVE.kept (fun a h1 h2 => hS.2.1 a h1 h2)).narrow hFc).moved hW.alike, by rw [hU]; exact ((hTABOVE.kept (fun a h1 h2 => hS.2.1 a h1 h2)).narrow hFc).moved hW.alike⟩⟩ rfl rfl hl.1 rfl (lv_room (Nat.le_of_ble_eq_true rfl)) dX5_call_122 ⟨Nat.le_of_ble_eq_true rfl, Nat.le_of_ble_eq_true rfl⟩) hS (fun q _ h => hFc q h) hFc (fun r_320 u t H1 locs ht hvm hw hB hz1 hk1 hS => ?_)
                obtain ⟨y_321, f_322, by_321, v_322_0, hP1, hK1, hD1⟩ := hB
                have v_322_0 : y_321.toInt ≤ (n0_ran + 1).toInt + 3 := v_322_0
                rw [ht] at hP1
                have hK1 := va_K.moved hvm.symm hK1
                obtain ⟨hP, hD⟩ := va_join (wr := []) (w1 := [(h0, Sum.inr (5, [Value.ref h1, Value.int n0_size, Value.ref h2, Value.int y_321])), (h1, Sum.inl (cint, 50, Sum.inl f1)), (h2, Sum.inl (cint, 24, Sum.inl f_322))]) hP hD [0, 1, 2] [] rfl rfl (by decide) (by decide) hk1 hFc hP1 hD1
                generalize H1 = H at hP hS ⊢
                have hP : va_P (dC, dI) vwCl [(h0, Sum.inr (5, [Value.ref h1, Value.int n0_size, Value.ref h2, Value.int y_321])), (h1, Sum.inl (cint, 50, Sum.inl f1)), (h2, Sum.inl (cint, 24, Sum.inl f_322))] H := hP
                have hD : va_D A [(h0, Sum.inr (5, [Value.ref h1, Value.int n0_size, Value.ref h2, Value.int y_321])), (h1, Sum.inl (cint, 50, Sum.inl f1)), (h2, Sum.inl (cint, 24, Sum.inl f_322))] := hD
                refine lv_goto (tgt := 143) hx hb dX5_call_125 (by decide) ?_
                obtain ⟨hP9, hD9⟩ := kk_leafout (wc := [(h0, Sum.inr (5, [Value.ref h1, Value.int n0_size, Value.ref h2, Value.int y_321])), (h1, Sum.inl (cint, 50, Sum.inl f1)), (h2, Sum.inl (cint, 24, Sum.inl f_322))]) hP hD [0, 1, 2] (by decide) rfl
                have hK9 := hK.sub (tys' := []) [] rfl
                exact W.iret (v := r_320) hx hb hr (fun t ht hW => ⟨⟨r_320, (), rfl, trivial, y_321, f_322, (by show 0 ≤ (y_321 : Int32).toInt ∧ (y_321 : Int32).toInt ≤ 1000; first | decide | (constructor <;> (have := kk_rng p4; have := kk_add2 (x := n0_ran) (y := 1) (a := n0_ran.toInt) (b := 1) rfl rfl (by omega) (by omega); have := kk_rng p4; have := kk_add2 (x := p4) (y := 1) (a := p4.toInt) (b := 1) rfl rfl (by omega) (by omega); omega))), (by show (y_321 : Int32).toInt ≤ (n0_ran : Int32).toInt + 11; first | decide | (have := kk_rng p4; have := kk_add2 (x := n0_ran) (y := 1) (a := n0_ran.toInt) (b := 1) rfl rfl (by omega) (by omega); have := kk_rng p4; have := kk_add2 (x := p4) (y := 1) (a := p4.toInt) (b := 1) rfl rfl (by omega) (by omega); omega)), by rw [ht]; exact hP9, va_K.moved hW.alike hK9, hD9⟩, hS.F ht⟩) hS.2.2 dX5_call_143
              · skip
                refine lv_icmp_ge (tgt := 97) hx hb dX5_call_83 (by decide) (fun c_323 => ?_) (fun c_323 => ?_)
                · have t_323 : 24 ≤ n0_ran.toInt := kk_le c_323
                  exact hcut_319 (f2) _ _ _ ⟨hP, hD, hS, lv_sub hl [0, 1, 2, 3, 4, 5, 6, 7] rfl⟩
                · have t_323 : n0_ran.toInt < 24 := kk_nle c_323
                  refine lv_aload_n hx hb dX5_call_86 rfl (lv_at hl 2 rfl) ?_
                  refine va_get (D := (dC, dI)) (ci := 5) (v := .ref h2) (C := RX5) (T := TX5) (N := 4) hx hb hts (fun _ h => List.mem_cons_of_mem _ (List.mem_append_right _ h)) hown hK hP 0 rfl rfl 2 (by decide) (hts (.fieldLink RX5 15 "KinkStreet$Lines" "trace" "[I") (List.mem_of_getElem? (i := 4) rfl)) (fun _ h9 => h9) rfl dX5_call_87 ?_
                  refine lv_aload_n hx hb dX5_call_90 rfl (lv_at hl 2 rfl) ?_
                  refine va_get (D := (dC, dI)) (ci := 5) (v := .int n0_ran) (C := RX5) (T := TX5) (N := 4) hx hb hts (fun _ h => List.mem_cons_of_mem _ (List.mem_append_right _ h)) hown hK hP 0 rfl rfl 3 (by decide) (hts (.fieldLink RX5 36 "KinkStreet$Lines" "ran" "I") (List.mem_of_getElem? (i := 3) rfl)) (fun _ h9 => h9) rfl dX5_call_91 ?_
                  refine lv_iload hx hb dX5_call_94 (lv_at hl 0 rfl) ?_
                  refine va_iast hx hb hK hP hD hS 2 0 rfl rfl (vp_in_iff.mpr ⟨by have := kk_rng p4; omega, by have := kk_rng p4; omega⟩) dX5_call_96 (fun H locs hP hD hS => ?_)
                  generalize upd f2 (n0_ran : Int32).toNatClampNeg 10 = f_324 at hP hD
                  have hP : va_P (dC, dI) vwCl [(h0, Sum.inr (5, [Value.ref h1, Value.int n0_size, Value.ref h2, Value.int n0_ran])), (h1, Sum.inl (cint, 50, Sum.inl f1)), (h2, Sum.inl (cint, 24, Sum.inl f_324))] H := hP
                  have hD : va_D A [(h0, Sum.inr (5, [Value.ref h1, Value.int n0_size, Value.ref h2, Value.int n0_ran])), (h1, Sum.inl (cint, 50, Sum.inl f1)), (h2, Sum.inl (cint, 24, Sum.inl f_324))] := hD
                  exact hcut_319 (f_324) _ _ _ ⟨hP, hD, hS, lv_sub hl [0, 1, 2, 3, 4, 5, 6, 7] rfl⟩
            · have t_314 : 40 < p4.toInt := kk_nle c_314
              refine lv_iconst (v := 0) hx hb dX5_call_63 (by decide) ?_
              obtain ⟨hP9, hD9⟩ := kk_leafout (wc := [(h0, Sum.inr (5, [Value.ref h1, Value.int n0_size, Value.ref h2, Value.int n0_ran])), (h1, Sum.inl (cint, 50, Sum.inl f1)), (h2, Sum.inl (cint, 24, Sum.inl f2))]) hP hD [0, 1, 2] (by decide) rfl
              have hK9 := hK.sub (tys' := []) [] rfl
              exact W.iret (v := 0) hx hb hr (fun t ht hW => ⟨⟨0, (), rfl, trivial, n0_ran, f2, (by show 0 ≤ (n0_ran : Int32).toInt ∧ (n0_ran : Int32).toInt ≤ 1000; first | decide | (constructor <;> (have := kk_rng p4; omega))), (by show (n0_ran : Int32).toInt ≤ (n0_ran : Int32).toInt + 11; first | decide | (have := kk_rng p4; omega)), by rw [ht]; exact hP9, va_K.moved hW.alike hK9, hD9⟩, hS.F ht⟩) hS.2.2 dX5_call_64
