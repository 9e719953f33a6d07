set_option maxHeartbeats 4000000 in
set_option maxRecDepth 100000 in
theorem g_X11_bend_0 (l : Launch) (dC : Nat → ClassId) (dI : Nat → Nat → Nat) (h0 : Nat) (h1 : Nat) (h2 : Nat) (h3 : Nat) (h4 : Nat) (h5 : Nat) (h6 : Nat) (h7 : Nat) (h8 : Nat) (h9 : Nat) (h10 : Nat) (h11 : Nat) (h12 : Nat) (h13 : Nat) (cint : ClassId) (sz : Nat) (p0 : Int32) (n0_streetCount : Int32) (n0_lawCount : Int32) (n1_size : Int32) (f2 : Nat → Int32) (tn0_streetCount : 0 ≤ n0_streetCount.toInt ∧ n0_streetCount.toInt ≤ 6) (tn0_lawCount : 0 ≤ n0_lawCount.toInt ∧ n0_lawCount.toInt ≤ 4) : Met l yX11_bend wsX11_bend ({ frames := 3, cells := 0, slots := 0, locals := 64 }) (va_Pc [.ref h0, .int p0] (fun U => U.heap.size = sz ∧ va_P (dC, dI) vwCl [(h0, Sum.inr (11, [Value.ref h3, Value.int n0_streetCount, Value.ref h4, Value.ref h5, Value.ref h6, Value.ref h7, Value.ref h8, Value.ref h1, Value.ref h9, Value.ref h10, Value.ref h11, Value.int n0_lawCount, Value.ref h12, Value.ref h13])), (h1, Sum.inr (0, [Value.ref h2, Value.int n1_size])), (h2, Sum.inl (cint, 6, Sum.inl f2))] U.heap ∧ va_K (dC, dI) vwCl [(cint, .int)] U ∧ va_D (fun _ => True) [(h0, Sum.inr (11, [Value.ref h3, Value.int n0_streetCount, Value.ref h4, Value.ref h5, Value.ref h6, Value.ref h7, Value.ref h8, Value.ref h1, Value.ref h9, Value.ref h10, Value.ref h11, Value.int n0_lawCount, Value.ref h12, Value.ref h13])), (h1, Sum.inr (0, [Value.ref h2, Value.int n1_size])), (h2, Sum.inl (cint, 6, Sum.inl f2))])) (va_Qi (fun (r : Int32) (_ : Unit) => True) (fun (_ : Unit) t => ∃ (m1_size : Int32) (g2 : Nat → Int32), va_P (dC, dI) vwCl [(h0, Sum.inr (11, [Value.ref h3, Value.int n0_streetCount, Value.ref h4, Value.ref h5, Value.ref h6, Value.ref h7, Value.ref h8, Value.ref h1, Value.ref h9, Value.ref h10, Value.ref h11, Value.int n0_lawCount, Value.ref h12, Value.ref h13])), (h1, Sum.inr (0, [Value.ref h2, Value.int m1_size])), (h2, Sum.inl (cint, 6, Sum.inl g2))] t.heap ∧ va_K (dC, dI) vwCl [] t ∧ va_D (va_A [(h0, Sum.inr (11, [Value.ref h3, Value.int n0_streetCount, Value.ref h4, Value.ref h5, Value.ref h6, Value.ref h7, Value.ref h8, Value.ref h1, Value.ref h9, Value.ref h10, Value.ref h11, Value.int n0_lawCount, Value.ref h12, Value.ref h13])), (h1, Sum.inr (0, [Value.ref h2, Value.int n1_size])), (h2, Sum.inl (cint, 6, Sum.inl f2))] sz) [(h0, Sum.inr (11, [Value.ref h3, Value.int n0_streetCount, Value.ref h4, Value.ref h5, Value.ref h6, Value.ref h7, Value.ref h8, Value.ref h1, Value.ref h9, Value.ref h10, Value.ref h11, Value.int n0_lawCount, Value.ref h12, Value.ref h13])), (h1, Sum.inr (0, [Value.ref h2, Value.int m1_size])), (h2, Sum.inl (cint, 6, Sum.inl g2))]) (va_A [(h0, Sum.inr (11, [Value.ref h3, Value.int n0_streetCount, Value.ref h4, Value.ref h5, Value.ref h6, Value.ref h7, Value.ref h8, Value.ref h1, Value.ref h9, Value.ref h10, Value.ref h11, Value.int n0_lawCount, Value.ref h12, Value.ref h13])), (h1, Sum.inr (0, [Value.ref h2, Value.int n1_size])), (h2, Sum.inl (cint, 6, Sum.inl f2))] sz)) 0 0 (va_A [(h0, Sum.inr (11, [Value.ref h3, Value.int n0_streetCount, Value.ref h4, Value.ref h5, Value.ref h6, Value.ref h7, Value.ref h8, Value.ref h1, Value.ref h9, Value.ref h10, Value.ref h11, Value.int n0_lawCount, Value.ref h12, Value.ref h13])), (h1, Sum.inr (0, [Value.ref h2, Value.int n1_size])), (h2, Sum.inl (cint, 6, Sum.inl f2))] sz) := by
  refine Met.ofW (cc := cX11_bend) (maxL := 4) (ret := (some .int)) (by decide) rfl ?_
  intro p e s m args below meth c s₁ B hml hv
  obtain ⟨rfl, hsz, hP, hK, hD0⟩ := hv
  have hx := B.exec
  have hb := B.bytes
  have hr := B.returns
  have hts := atoms_spec (ws := wsX11_bend) B.pre
  have hown : s.vm.findClass RX11 = some m.cls := findClass_of_methodNamed B.named
  have hlocks := B.notSynchronized
  subst hsz
  have hD := hD0.self (sz := s.heap.size)
  generalize hAe : va_A [(h0, Sum.inr (11, [Value.ref h3, Value.int n0_streetCount, Value.ref h4, Value.ref h5, Value.ref h6, Value.ref h7, Value.ref h8, Value.ref h1, Value.ref h9, Value.ref h10, Value.ref h11, Value.int n0_lawCount, Value.ref h12, Value.ref h13])), (h1, Sum.inr (0, [Value.ref h2, Value.int n1_size])), (h2, Sum.inl (cint, 6, Sum.inl f2))] s.heap.size = A at hD ⊢
  have hA : ∀ q : Nat, s.heap.size ≤ q → A q := fun q h => by rw [← hAe]; exact Or.inr h
  have hS : va_S A s.heap s.heap [] := va_S.rf
  have hP : va_P (dC, dI) vwCl [(h0, Sum.inr (11, [Value.ref h3, Value.int n0_streetCount, Value.ref h4, Value.ref h5, Value.ref h6, Value.ref h7, Value.ref h8, Value.ref h1, Value.ref h9, Value.ref h10, Value.ref h11, Value.int n0_lawCount, Value.ref h12, Value.ref h13])), (h1, Sum.inr (0, [Value.ref h2, Value.int n1_size])), (h2, Sum.inl (cint, 6, Sum.inl f2))] s.heap := hP
  have hl := lv_entry ([.ref h0, .int p0]) (n := 4) (Nat.le_of_ble_eq_true rfl)
  rw [lg_entry_eq]
  generalize (lg_sl ([.ref h0, .int p0]) ++ List.replicate (4 - (lg_sl ([.ref h0, .int p0])).length) Slot.unset).toArray = ls at hl ⊢
  have hl : lv_has ls 4 [(0, .ref h0), (1, .int p0)] := hl
  refine lv_iload_n hx hb dX11_bend_0 rfl (lv_at hl 1 rfl) ?_
  refine lv_bipush (v := 10) hx hb dX11_bend_1 (by decide) ?_
  refine lv_idiv hx hb dX11_bend_3 (by decide) ?_
  refine lv_istore_n (lv' := [(2, .int (p0 / 10)), (0, .ref h0), (1, .int p0)]) hx hb dX11_bend_4 rfl hl (by decide) rfl (fun ls hl => ?_)
  refine lv_iload_n hx hb dX11_bend_5 rfl (lv_at hl 2 rfl) ?_
  refine lv_bipush (v := 10) hx hb dX11_bend_6 (by decide) ?_
  refine lv_irem hx hb dX11_bend_8 (by decide) ?_
  refine lv_istore_n (lv' := [(3, .int (p0 - p0 / 10 * 10)), (2, .int (p0 / 10)), (0, .ref h0), (1, .int p0)]) hx hb dX11_bend_9 rfl hl (by decide) rfl (fun ls hl => ?_)
  refine lv_iload_n hx hb dX11_bend_10 rfl (lv_at hl 3 rfl) ?_
  refine lv_if_lt (tgt := 47) hx hb dX11_bend_11 (by decide) (fun c_1 => ?_) (fun c_1 => ?_)
  · have t_1 : p0.toInt < 0 := kk_lt c_1
    refine lv_iconst (v := (-1)) hx hb dX11_bend_47 (by decide) ?_
    obtain ⟨hP9, hD9⟩ := kk_leafout (wc := [(h0, Sum.inr (11, [Value.ref h3, Value.int n0_streetCount, Value.ref h4, Value.ref h5, Value.ref h6, Value.ref h7, Value.ref h8, Value.ref h1, Value.ref h9, Value.ref h10, Value.ref h11, Value.int n0_lawCount, Value.ref h12, Value.ref h13])), (h1, Sum.inr (0, [Value.ref h2, Value.int n1_size])), (h2, Sum.inl (cint, 6, Sum.inl f2))]) hP hD [0, 1, 2] (by decide) rfl
    have hK9 := hK.sub (tys' := []) [] rfl
    exact W.iret (v := (-1)) hx hb hr (fun t ht hW => ⟨⟨(-1), (), rfl, trivial, n1_size, f2, by rw [ht]; exact hP9, va_K.moved hW.alike hK9, hD9⟩, hS.F ht⟩) hS.2.2 dX11_bend_48
  · have t_1 : 0 ≤ p0.toInt := kk_nlt c_1
    refine lv_iload_n hx hb dX11_bend_14 rfl (lv_at hl 1 rfl) ?_
    refine lv_aload_n hx hb dX11_bend_15 rfl (lv_at hl 2 rfl) ?_
    refine va_get (D := (dC, dI)) (ci := 11) (v := .int n0_streetCount) (C := RX11) (T := TX11) (N := 14) hx hb hts (fun _ h => List.mem_cons_of_mem _ (List.mem_append_left _ (List.mem_append_right _ h))) hown hK hP 0 rfl rfl 1 (by decide) (hts (.fieldLink RX11 90 "KinkStreet" "streetCount" "I") (List.mem_of_getElem? (i := 1) rfl)) (fun _ h9 => h9) rfl dX11_bend_16 ?_
    refine lv_icmp_ge (tgt := 47) hx hb dX11_bend_19 (by decide) (fun c_2 => ?_) (fun c_2 => ?_)
    · have t_2 : n0_streetCount.toInt ≤ (p0 / 10).toInt := kk_le c_2
      refine lv_iconst (v := (-1)) hx hb dX11_bend_47 (by decide) ?_
      obtain ⟨hP9, hD9⟩ := kk_leafout (wc := [(h0, Sum.inr (11, [Value.ref h3, Value.int n0_streetCount, Value.ref h4, Value.ref h5, Value.ref h6, Value.ref h7, Value.ref h8, Value.ref h1, Value.ref h9, Value.ref h10, Value.ref h11, Value.int n0_lawCount, Value.ref h12, Value.ref h13])), (h1, Sum.inr (0, [Value.ref h2, Value.int n1_size])), (h2, Sum.inl (cint, 6, Sum.inl f2))]) hP hD [0, 1, 2] (by decide) rfl
      have hK9 := hK.sub (tys' := []) [] rfl
      exact W.iret (v := (-1)) hx hb hr (fun t ht hW => ⟨⟨(-1), (), rfl, trivial, n1_size, f2, by rw [ht]; exact hP9, va_K.moved hW.alike hK9, hD9⟩, hS.F ht⟩) hS.2.2 dX11_bend_48
    · have t_2 : (p0 / 10).toInt < n0_streetCount.toInt := kk_nle c_2
      refine lv_iload_n hx hb dX11_bend_22 rfl (lv_at hl 0 rfl) ?_
      refine lv_aload_n hx hb dX11_bend_23 rfl (lv_at hl 2 rfl) ?_
      refine va_get (D := (dC, dI)) (ci := 11) (v := .int n0_streetCount) (C := RX11) (T := TX11) (N := 14) hx hb hts (fun _ h => List.mem_cons_of_mem _ (List.mem_append_left _ (List.mem_append_right _ h))) hown hK hP 0 rfl rfl 1 (by decide) (hts (.fieldLink RX11 90 "KinkStreet" "streetCount" "I") (List.mem_of_getElem? (i := 1) rfl)) (fun _ h9 => h9) rfl dX11_bend_24 ?_
      refine lv_icmp_ge (tgt := 47) hx hb dX11_bend_27 (by decide) (fun c_3 => ?_) (fun c_3 => ?_)
      · have t_3 : n0_streetCount.toInt ≤ (p0 - p0 / 10 * 10).toInt := kk_le c_3
        refine lv_iconst (v := (-1)) hx hb dX11_bend_47 (by decide) ?_
        obtain ⟨hP9, hD9⟩ := kk_leafout (wc := [(h0, Sum.inr (11, [Value.ref h3, Value.int n0_streetCount, Value.ref h4, Value.ref h5, Value.ref h6, Value.ref h7, Value.ref h8, Value.ref h1, Value.ref h9, Value.ref h10, Value.ref h11, Value.int n0_lawCount, Value.ref h12, Value.ref h13])), (h1, Sum.inr (0, [Value.ref h2, Value.int n1_size])), (h2, Sum.inl (cint, 6, Sum.inl f2))]) hP hD [0, 1, 2] (by decide) rfl
        have hK9 := hK.sub (tys' := []) [] rfl
        exact W.iret (v := (-1)) hx hb hr (fun t ht hW => ⟨⟨(-1), (), rfl, trivial, n1_size, f2, by rw [ht]; exact hP9, va_K.moved hW.alike hK9, hD9⟩, hS.F ht⟩) hS.2.2 dX11_bend_48
      · have t_3 : (p0 - p0 / 10 * 10).toInt < n0_streetCount.toInt := kk_nle c_3
        refine lv_iload_n hx hb dX11_bend_30 rfl (lv_at hl 1 rfl) ?_
        refine lv_iload_n hx hb dX11_bend_31 rfl (lv_at hl 0 rfl) ?_
        refine lv_icmp_eq (tgt := 47) hx hb dX11_bend_32 (by decide) (fun c_4 => ?_) (fun c_4 => ?_)
        · have t_4 : (p0 / 10).toInt = (p0 - p0 / 10 * 10).toInt := kk_eq c_4
          refine lv_iconst (v := (-1)) hx hb dX11_bend_47 (by decide) ?_
          obtain ⟨hP9, hD9⟩ := kk_leafout (wc := [(h0, Sum.inr (11, [Value.ref h3, Value.int n0_streetCount, Value.ref h4, Value.ref h5, Value.ref h6, Value.ref h7, Value.ref h8, Value.ref h1, Value.ref h9, Value.ref h10, Value.ref h11, Value.int n0_lawCount, Value.ref h12, Value.ref h13])), (h1, Sum.inr (0, [Value.ref h2, Value.int n1_size])), (h2, Sum.inl (cint, 6, Sum.inl f2))]) hP hD [0, 1, 2] (by decide) rfl
          have hK9 := hK.sub (tys' := []) [] rfl
          exact W.iret (v := (-1)) hx hb hr (fun t ht hW => ⟨⟨(-1), (), rfl, trivial, n1_size, f2, by rw [ht]; exact hP9, va_K.moved hW.alike hK9, hD9⟩, hS.F ht⟩) hS.2.2 dX11_bend_48
        · have t_4 : (p0 / 10).toInt ≠ (p0 - p0 / 10 * 10).toInt := kk_ne c_4
          refine lv_aload_n hx hb dX11_bend_35 rfl (lv_at hl 2 rfl) ?_
          refine va_get (D := (dC, dI)) (ci := 11) (v := .ref h1) (C := RX11) (T := TX11) (N := 14) hx hb hts (fun _ h => List.mem_cons_of_mem _ (List.mem_append_left _ (List.mem_append_right _ h))) hown hK hP 0 rfl rfl 7 (by decide) (hts (.fieldLink RX11 51 "KinkStreet" "bends" "LKinkStreet$Bends;") (List.mem_of_getElem? (i := 2) rfl)) (fun _ h9 => h9) rfl dX11_bend_36 ?_
          refine lv_iload_n hx hb dX11_bend_39 rfl (lv_at hl 1 rfl) ?_
          refine lv_iload_n hx hb dX11_bend_40 rfl (lv_at hl 0 rfl) ?_
          obtain ⟨hPc, hDc, hFc⟩ := kk_cutout (wc := [(h1, Sum.inr (0, [Value.ref h2, Value.int n1_size])), (h2, Sum.inl (cint, 6, Sum.inl f2))]) hP hD hS hA [1, 2] (by decide) rfl
          have hKc := hK.sub (tys' := [(cint, .int)]) [0] rfl
          refine va_calli (va_runV (As := [.int (p0 / 10), .int (p0 - p0 / 10 * 10)]) (rest := []) ⟨hx, hb, hml, hown, hts⟩ (g_X0_isTold_0 l dC dI h1 h2 cint s.heap.size (p0 / 10) (p0 - p0 / 10 * 10) n1_size f2) (cwV 2 hts gX11_bend_X0_isTold rfl rfl rfl (by decide +kernel) ⟨Nat.le_of_ble_eq_true rfl, Nat.le_of_ble_eq_true rfl⟩) ⟨fun a U g mk q => by obtain ⟨q0, q1, qP, qK, qD⟩ := q; exact ⟨q0, q1, qP, va_K.moved (u := U) (U := U.calling g mk a) (Vm.Alike.refl U.vm) qK, qD⟩, va_recv hKc hPc (ci := 0) (q0 := 0) rfl rfl, fun U hU hW => ⟨rfl, by rw [hU], by rw [hU]; exact hPc, va_K.moved hW.alike hKc, hDc.weaken (fun _ _ _ _ => trivial)⟩⟩ rfl rfl hl.1 rfl (lv_room (Nat.le_of_ble_eq_true rfl)) dX11_bend_41 ⟨Nat.le_of_ble_eq_true rfl, Nat.le_of_ble_eq_true rfl⟩) hS (fun q _ h => hFc q h) hFc (fun r_5 u t H1 locs ht hvm hw hB hz1 hk1 hS => ?_)
          obtain ⟨hP1, hK1, hD1⟩ := hB
          rw [ht] at hP1
          have hK1 := va_K.moved hvm.symm hK1
          obtain ⟨hP, hD⟩ := va_join (wr := [(h0, Sum.inr (11, [Value.ref h3, Value.int n0_streetCount, Value.ref h4, Value.ref h5, Value.ref h6, Value.ref h7, Value.ref h8, Value.ref h1, Value.ref h9, Value.ref h10, Value.ref h11, Value.int n0_lawCount, Value.ref h12, Value.ref h13]))]) (w1 := [(h1, Sum.inr (0, [Value.ref h2, Value.int n1_size])), (h2, Sum.inl (cint, 6, Sum.inl f2))]) hP hD [1, 2] [0] rfl rfl (by decide) (by decide) hk1 hFc hP1 hD1
          generalize H1 = H at hP hS ⊢
          have hP : va_P (dC, dI) vwCl [(h0, Sum.inr (11, [Value.ref h3, Value.int n0_streetCount, Value.ref h4, Value.ref h5, Value.ref h6, Value.ref h7, Value.ref h8, Value.ref h1, Value.ref h9, Value.ref h10, Value.ref h11, Value.int n0_lawCount, Value.ref h12, Value.ref h13])), (h1, Sum.inr (0, [Value.ref h2, Value.int n1_size])), (h2, Sum.inl (cint, 6, Sum.inl f2))] H := hP
          have hD : va_D A [(h0, Sum.inr (11, [Value.ref h3, Value.int n0_streetCount, Value.ref h4, Value.ref h5, Value.ref h6, Value.ref h7, Value.ref h8, Value.ref h1, Value.ref h9, Value.ref h10, Value.ref h11, Value.int n0_lawCount, Value.ref h12, Value.ref h13])), (h1, Sum.inr (0, [Value.ref h2, Value.int n1_size])), (h2, Sum.inl (cint, 6, Sum.inl f2))] := hD
          rcases hw with ⟨rfl⟩ | ⟨t_5_0, t_5_1, t_5_2, t_5_3, rfl⟩
          · skip
            refine lv_if_eq (tgt := 49) hx hb dX11_bend_44 (by decide) (fun _ => ?_) (fun c => absurd c (by decide))
            refine lv_aload_n hx hb dX11_bend_49 rfl (lv_at hl 2 rfl) ?_
            refine va_get (D := (dC, dI)) (ci := 11) (v := .ref h1) (C := RX11) (T := TX11) (N := 14) hx hb hts (fun _ h => List.mem_cons_of_mem _ (List.mem_append_left _ (List.mem_append_right _ h))) hown hK hP 0 rfl rfl 7 (by decide) (hts (.fieldLink RX11 51 "KinkStreet" "bends" "LKinkStreet$Bends;") (List.mem_of_getElem? (i := 2) rfl)) (fun _ h9 => h9) rfl dX11_bend_50 ?_
            refine lv_iload_n hx hb dX11_bend_53 rfl (lv_at hl 1 rfl) ?_
            refine lv_iload_n hx hb dX11_bend_54 rfl (lv_at hl 0 rfl) ?_
            obtain ⟨hPc, hDc, hFc⟩ := kk_cutout (wc := [(h1, Sum.inr (0, [Value.ref h2, Value.int n1_size])), (h2, Sum.inl (cint, 6, Sum.inl f2))]) hP hD hS hA [1, 2] (by decide) rfl
            have hKc := hK.sub (tys' := [(cint, .int)]) [0] rfl
            refine va_calli (va_runV (As := [.int (p0 / 10), .int (p0 - p0 / 10 * 10)]) (rest := []) ⟨hx, hb, hml, hown, hts⟩ (g_X0_tell_0 l dC dI h1 h2 cint H.size (p0 / 10) (p0 - p0 / 10 * 10) n1_size f2) (cwV 2 hts gX11_bend_X0_tell rfl rfl rfl (by decide +kernel) ⟨Nat.le_of_ble_eq_true rfl, Nat.le_of_ble_eq_true rfl⟩) ⟨fun a U g mk q => by obtain ⟨q0, q1, qP, qK, qD⟩ := q; exact ⟨q0, q1, qP, va_K.moved (u := U) (U := U.calling g mk a) (Vm.Alike.refl U.vm) qK, qD⟩, va_recv hKc hPc (ci := 0) (q0 := 0) rfl rfl, fun U hU hW => ⟨rfl, by rw [hU], by rw [hU]; exact hPc, va_K.moved hW.alike hKc, hDc.weaken (fun _ _ _ _ => trivial)⟩⟩ rfl rfl hl.1 rfl (lv_room (Nat.le_of_ble_eq_true rfl)) dX11_bend_55 ⟨Nat.le_of_ble_eq_true rfl, Nat.le_of_ble_eq_true rfl⟩) hS (fun q _ h => hFc q h) hFc (fun r_6 u t H1 locs ht hvm hw hB hz1 hk1 hS => ?_)
            obtain ⟨y_7, f_8, hP1, hK1, hD1⟩ := hB
            rw [ht] at hP1
            have hK1 := va_K.moved hvm.symm hK1
            obtain ⟨hP, hD⟩ := va_join (wr := [(h0, Sum.inr (11, [Value.ref h3, Value.int n0_streetCount, Value.ref h4, Value.ref h5, Value.ref h6, Value.ref h7, Value.ref h8, Value.ref h1, Value.ref h9, Value.ref h10, Value.ref h11, Value.int n0_lawCount, Value.ref h12, Value.ref h13]))]) (w1 := [(h1, Sum.inr (0, [Value.ref h2, Value.int y_7])), (h2, Sum.inl (cint, 6, Sum.inl f_8))]) hP hD [1, 2] [0] rfl rfl (by decide) (by decide) hk1 hFc hP1 hD1
            generalize H1 = H at hP hS ⊢
            have hP : va_P (dC, dI) vwCl [(h0, Sum.inr (11, [Value.ref h3, Value.int n0_streetCount, Value.ref h4, Value.ref h5, Value.ref h6, Value.ref h7, Value.ref h8, Value.ref h1, Value.ref h9, Value.ref h10, Value.ref h11, Value.int n0_lawCount, Value.ref h12, Value.ref h13])), (h1, Sum.inr (0, [Value.ref h2, Value.int y_7])), (h2, Sum.inl (cint, 6, Sum.inl f_8))] H := hP
            have hD : va_D A [(h0, Sum.inr (11, [Value.ref h3, Value.int n0_streetCount, Value.ref h4, Value.ref h5, Value.ref h6, Value.ref h7, Value.ref h8, Value.ref h1, Value.ref h9, Value.ref h10, Value.ref h11, Value.int n0_lawCount, Value.ref h12, Value.ref h13])), (h1, Sum.inr (0, [Value.ref h2, Value.int y_7])), (h2, Sum.inl (cint, 6, Sum.inl f_8))] := hD
            obtain ⟨hP9, hD9⟩ := kk_leafout (wc := [(h0, Sum.inr (11, [Value.ref h3, Value.int n0_streetCount, Value.ref h4, Value.ref h5, Value.ref h6, Value.ref h7, Value.ref h8, Value.ref h1, Value.ref h9, Value.ref h10, Value.ref h11, Value.int n0_lawCount, Value.ref h12, Value.ref h13])), (h1, Sum.inr (0, [Value.ref h2, Value.int y_7])), (h2, Sum.inl (cint, 6, Sum.inl f_8))]) hP hD [0, 1, 2] (by decide) rfl
            have hK9 := hK.sub (tys' := []) [] rfl
            exact W.iret (v := r_6) hx hb hr (fun t ht hW => ⟨⟨r_6, (), rfl, trivial, y_7, f_8, by rw [ht]; exact hP9, va_K.moved hW.alike hK9, hD9⟩, hS.F ht⟩) hS.2.2 dX11_bend_58
          · skip
            have t_5_0 : (0 : Int) ≤ (p0 / 10).toInt := t_5_0
            have t_5_1 : ((p0 / 10).toInt : Int) < 6 := t_5_1
            have t_5_2 : (0 : Int) ≤ (p0 - p0 / 10 * 10).toInt := t_5_2
            have t_5_3 : ((p0 - p0 / 10 * 10).toInt : Int) < 6 := t_5_3
            refine lv_if_eq (tgt := 49) hx hb dX11_bend_44 (by decide) (fun c => absurd c (by decide)) (fun _ => ?_)
            refine lv_iconst (v := (-1)) hx hb dX11_bend_47 (by decide) ?_
            obtain ⟨hP9, hD9⟩ := kk_leafout (wc := [(h0, Sum.inr (11, [Value.ref h3, Value.int n0_streetCount, Value.ref h4, Value.ref h5, Value.ref h6, Value.ref h7, Value.ref h8, Value.ref h1, Value.ref h9, Value.ref h10, Value.ref h11, Value.int n0_lawCount, Value.ref h12, Value.ref h13])), (h1, Sum.inr (0, [Value.ref h2, Value.int n1_size])), (h2, Sum.inl (cint, 6, Sum.inl f2))]) hP hD [0, 1, 2] (by decide) rfl
            have hK9 := hK.sub (tys' := []) [] rfl
            exact W.iret (v := (-1)) hx hb hr (fun t ht hW => ⟨⟨(-1), (), rfl, trivial, n1_size, f2, by rw [ht]; exact hP9, va_K.moved hW.alike hK9, hD9⟩, hS.F ht⟩) hS.2.2 dX11_bend_48
