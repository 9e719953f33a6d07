set_option maxHeartbeats 4000000 in
set_option maxRecDepth 100000 in
theorem g_X10_readChain_27 (l : Launch) (dC : Nat → ClassId) (dI : Nat → Nat → Nat) (h0 : Nat) (h1 : Nat) (h2 : Nat) (h3 : Nat) (h4 : Nat) (h5 : Nat) (cint : ClassId) (sz : Nat) (n0_size : Int32) (n0_place : Int32) (f1 : Nat → Int32) (n2_size : Int32) (n2_top : Int32) (f3 : Nat → Int32) (tn0_size : 0 ≤ n0_size.toInt ∧ n0_size.toInt ≤ 120) (bf1 : ∀ j, j < 120 → 0 ≤ (f1 j).toInt ∧ (f1 j).toInt ≤ 255) (tn2_size : 0 ≤ n2_size.toInt ∧ n2_size.toInt ≤ 128) (tn2_top : 0 ≤ n2_top.toInt ∧ n2_top.toInt ≤ 64) (aNAMES : Nat) : Met l yX10_readChain wsX10_readChain ({ frames := 38, cells := 0, slots := 0, locals := 890 }) (va_Pc [.ref h0, .int 2, .int 2] (fun U => U.heap.size = sz ∧ va_P (dC, dI) vwCl [(h0, Sum.inr (10, [Value.ref h1, Value.int n0_size, Value.int n0_place, Value.ref h2])), (h1, Sum.inl (cint, 120, Sum.inl f1)), (h2, Sum.inr (4, [Value.ref h3, Value.int n2_size, Value.ref h4, Value.ref h5, Value.int n2_top])), (h3, Sum.inl (cint, 128, Sum.inl f3))] U.heap ∧ va_K (dC, dI) vwCl [(cint, .int)] U ∧ va_D (fun _ => True) [(h0, Sum.inr (10, [Value.ref h1, Value.int n0_size, Value.int n0_place, Value.ref h2])), (h1, Sum.inl (cint, 120, Sum.inl f1)), (h2, Sum.inr (4, [Value.ref h3, Value.int n2_size, Value.ref h4, Value.ref h5, Value.int n2_top])), (h3, Sum.inl (cint, 128, Sum.inl f3))] ∧ va_Z "KinkStreet$Law" "NAMES" "[C" (.ref aNAMES) (va_A [(h0, Sum.inr (10, [Value.ref h1, Value.int n0_size, Value.int n0_place, Value.ref h2])), (h1, Sum.inl (cint, 120, Sum.inl f1)), (h2, Sum.inr (4, [Value.ref h3, Value.int n2_size, Value.ref h4, Value.ref h5, Value.int n2_top])), (h3, Sum.inl (cint, 128, Sum.inl f3))] sz) U U.heap ∧ va_T .char aNAMES 8 tb_NAMES (va_A [(h0, Sum.inr (10, [Value.ref h1, Value.int n0_size, Value.int n0_place, Value.ref h2])), (h1, Sum.inl (cint, 120, Sum.inl f1)), (h2, Sum.inr (4, [Value.ref h3, Value.int n2_size, Value.ref h4, Value.ref h5, Value.int n2_top])), (h3, Sum.inl (cint, 128, Sum.inl f3))] sz) U U.heap)) (va_Qi (fun (r : Int32) (_ : Unit) => (0 ≤ r.toInt ∧ r.toInt ≤ 1)) (fun (_ : Unit) t => ∃ (m0_place : Int32) (m2_size : Int32) (g3 : Nat → Int32), (0 ≤ m2_size.toInt ∧ m2_size.toInt ≤ 128) ∧ va_P (dC, dI) vwCl [(h0, Sum.inr (10, [Value.ref h1, Value.int n0_size, Value.int m0_place, Value.ref h2])), (h1, Sum.inl (cint, 120, Sum.inl f1)), (h2, Sum.inr (4, [Value.ref h3, Value.int m2_size, Value.ref h4, Value.ref h5, Value.int n2_top])), (h3, Sum.inl (cint, 128, Sum.inl g3))] t.heap ∧ va_K (dC, dI) vwCl [] t ∧ va_D (va_A [(h0, Sum.inr (10, [Value.ref h1, Value.int n0_size, Value.int n0_place, Value.ref h2])), (h1, Sum.inl (cint, 120, Sum.inl f1)), (h2, Sum.inr (4, [Value.ref h3, Value.int n2_size, Value.ref h4, Value.ref h5, Value.int n2_top])), (h3, Sum.inl (cint, 128, Sum.inl f3))] sz) [(h0, Sum.inr (10, [Value.ref h1, Value.int n0_size, Value.int m0_place, Value.ref h2])), (h1, Sum.inl (cint, 120, Sum.inl f1)), (h2, Sum.inr (4, [Value.ref h3, Value.int m2_size, Value.ref h4, Value.ref h5, Value.int n2_top])), (h3, Sum.inl (cint, 128, Sum.inl g3))]) (va_A [(h0, Sum.inr (10, [Value.ref h1, Value.int n0_size, Value.int n0_place, Value.ref h2])), (h1, Sum.inl (cint, 120, Sum.inl f1)), (h2, Sum.inr (4, [Value.ref h3, Value.int n2_size, Value.ref h4, Value.ref h5, Value.int n2_top])), (h3, Sum.inl (cint, 128, Sum.inl f3))] sz)) 0 0 (va_A [(h0, Sum.inr (10, [Value.ref h1, Value.int n0_size, Value.int n0_place, Value.ref h2])), (h1, Sum.inl (cint, 120, Sum.inl f1)), (h2, Sum.inr (4, [Value.ref h3, Value.int n2_size, Value.ref h4, Value.ref h5, Value.int n2_top])), (h3, Sum.inl (cint, 128, Sum.inl f3))] sz) := by
  refine Met.ofW (cc := cX10_readChain) (maxL := 5) (ret := (some .boolean)) (by decide) rfl ?_
  intro p e s m args below meth c s₁ B hml hv
  obtain ⟨rfl, hsz, hP, hK, hD0, hZNAMES, hTNAMES⟩ := hv
  have hx := B.exec
  have hb := B.bytes
  have hr := B.returns
  have hts := atoms_spec (ws := wsX10_readChain) B.pre
  have hown : s.vm.findClass RX10 = some m.cls := findClass_of_methodNamed B.named
  have hlocks := B.notSynchronized
  subst hsz
  have hD := hD0.self (sz := s.heap.size)
  generalize hAe : va_A [(h0, Sum.inr (10, [Value.ref h1, Value.int n0_size, Value.int n0_place, Value.ref h2])), (h1, Sum.inl (cint, 120, Sum.inl f1)), (h2, Sum.inr (4, [Value.ref h3, Value.int n2_size, Value.ref h4, Value.ref h5, Value.int n2_top])), (h3, Sum.inl (cint, 128, Sum.inl f3))] s.heap.size = A at hD hZNAMES hTNAMES ⊢
  have hA : ∀ q : Nat, s.heap.size ≤ q → A q := fun q h => by rw [← hAe]; exact Or.inr h
  have hS : va_S A s.heap s.heap [] := va_S.rf
  have hP : va_P (dC, dI) vwCl [(h0, Sum.inr (10, [Value.ref h1, Value.int n0_size, Value.int n0_place, Value.ref h2])), (h1, Sum.inl (cint, 120, Sum.inl f1)), (h2, Sum.inr (4, [Value.ref h3, Value.int n2_size, Value.ref h4, Value.ref h5, Value.int n2_top])), (h3, Sum.inl (cint, 128, Sum.inl f3))] s.heap := hP
  have hl := lv_entry ([.ref h0, .int 2, .int 2]) (n := 5) (Nat.le_of_ble_eq_true rfl)
  rw [lg_entry_eq]
  generalize (lg_sl ([.ref h0, .int 2, .int 2]) ++ List.replicate (5 - (lg_sl ([.ref h0, .int 2, .int 2])).length) Slot.unset).toArray = ls at hl ⊢
  have hl : lv_has ls 5 [(0, .ref h0), (1, .int 2), (2, .int 2)] := hl
  refine lv_iload_n hx hb dX10_readChain_0 rfl (lv_at hl 1 rfl) ?_
  refine lv_iconst (v := 5) hx hb dX10_readChain_1 (by decide) ?_
  refine lv_icmp_lt (tgt := 11) hx hb dX10_readChain_2 (by decide) (fun _ => ?_) (fun c => absurd c (by decide))
  refine lv_aload_n hx hb dX10_readChain_11 rfl (lv_at hl 0 rfl) ?_
  refine lv_iload_n hx hb dX10_readChain_12 rfl (lv_at hl 1 rfl) ?_
  refine lv_iconst (v := 1) hx hb dX10_readChain_13 (by decide) ?_
  refine lv_iadd hx hb dX10_readChain_14 ?_
  refine lv_topi (fun y_1 e_1 => ?_)
  obtain rfl : y_1 = 3 := e_1.trans (by decide)
  refine lv_iload_n hx hb dX10_readChain_15 rfl (lv_at hl 2 rfl) ?_
  have hPc := hP.sub (ws' := [(h0, Sum.inr (10, [Value.ref h1, Value.int n0_size, Value.int n0_place, Value.ref h2])), (h1, Sum.inl (cint, 120, Sum.inl f1)), (h2, Sum.inr (4, [Value.ref h3, Value.int n2_size, Value.ref h4, Value.ref h5, Value.int n2_top])), (h3, Sum.inl (cint, 128, Sum.inl f3))]) [0, 1, 2, 3] rfl
  have hDc := hD.sub (ws' := [(h0, Sum.inr (10, [Value.ref h1, Value.int n0_size, Value.int n0_place, Value.ref h2])), (h1, Sum.inl (cint, 120, Sum.inl f1)), (h2, Sum.inr (4, [Value.ref h3, Value.int n2_size, Value.ref h4, Value.ref h5, Value.int n2_top])), (h3, Sum.inl (cint, 128, Sum.inl f3))]) [0, 1, 2, 3] (by decide) rfl
  have hKc := hK.sub (tys' := [(cint, .int)]) [0] rfl
  have hFc := va_free (wc := [(h0, Sum.inr (10, [Value.ref h1, Value.int n0_size, Value.int n0_place, Value.ref h2])), (h1, Sum.inl (cint, 120, Sum.inl f1)), (h2, Sum.inr (4, [Value.ref h3, Value.int n2_size, Value.ref h4, Value.ref h5, Value.int n2_top])), (h3, Sum.inl (cint, 128, Sum.inl f3))]) hD hS hA [0, 1, 2, 3] rfl
  refine va_calli (va_runV (As := [.int 3, .int 2]) (rest := []) ⟨hx, hb, hml, hown, hts⟩ (g_X10_readChain_26 l dC dI h0 h1 h2 h3 h4 h5 cint s.heap.size n0_size n0_place f1 n2_size n2_top f3 tn0_size bf1 tn2_size tn2_top aNAMES) (cwV 2 hts gX10_readChain_X10_readChain rfl rfl rfl (by decide +kernel) ⟨Nat.le_of_ble_eq_true rfl, Nat.le_of_ble_eq_true rfl⟩) ⟨fun a U g mk q => by obtain ⟨q0, q1, qP, qK, qD, qx0, qx1⟩ := q; exact ⟨q0, q1, qP, va_K.moved (u := U) (U := U.calling g mk a) (Vm.Alike.refl U.vm) qK, qD, va_Z.moved (u := U) (U := U.calling g mk a) (Vm.Alike.refl U.vm) qx0, va_T.moved (u := U) (U := U.calling g mk a) (Vm.Alike.refl U.vm) qx1⟩, va_recv hKc hPc (ci := 10) (q0 := 0) rfl rfl, fun U hU hW => ⟨rfl, by rw [hU], by rw [hU]; exact hPc, va_K.moved hW.alike hKc, hDc.weaken (fun _ _ _ _ => trivial), by rw [hU]; exact ((hZNAMES.kept (fun a h1 h2 => hS.2.1 a h1 h2)).narrow hFc).moved hW.alike, by rw [hU]; exact ((hTNAMES.kept (fun a h1 h2 => hS.2.1 a h1 h2)).narrow hFc).moved hW.alike⟩⟩ rfl rfl hl.1 rfl (lv_room (Nat.le_of_ble_eq_true rfl)) dX10_readChain_16 ⟨Nat.le_of_ble_eq_true rfl, Nat.le_of_ble_eq_true rfl⟩) hS (fun q _ h => hFc q h) hFc (fun r_2 u t H1 locs ht hvm hw hB hz1 hk1 hS => ?_)
  obtain ⟨y_3, y_4, f_5, by_4, hP1, hK1, hD1⟩ := hB
  rw [ht] at hP1
  have hK1 := va_K.moved hvm.symm hK1
  obtain ⟨hP, hD⟩ := va_join (wr := []) (w1 := [(h0, Sum.inr (10, [Value.ref h1, Value.int n0_size, Value.int y_3, Value.ref h2])), (h1, Sum.inl (cint, 120, Sum.inl f1)), (h2, Sum.inr (4, [Value.ref h3, Value.int y_4, Value.ref h4, Value.ref h5, Value.int n2_top])), (h3, Sum.inl (cint, 128, Sum.inl f_5))]) hP hD [0, 1, 2, 3] [] rfl rfl (by decide) (by decide) hk1 hFc hP1 hD1
  generalize H1 = H at hP hS ⊢
  have hP : va_P (dC, dI) vwCl [(h0, Sum.inr (10, [Value.ref h1, Value.int n0_size, Value.int y_3, Value.ref h2])), (h1, Sum.inl (cint, 120, Sum.inl f1)), (h2, Sum.inr (4, [Value.ref h3, Value.int y_4, Value.ref h4, Value.ref h5, Value.int n2_top])), (h3, Sum.inl (cint, 128, Sum.inl f_5))] H := hP
  have hD : va_D A [(h0, Sum.inr (10, [Value.ref h1, Value.int n0_size, Value.int y_3, Value.ref h2])), (h1, Sum.inl (cint, 120, Sum.inl f1)), (h2, Sum.inr (4, [Value.ref h3, Value.int y_4, Value.ref h4, Value.ref h5, Value.int n2_top])), (h3, Sum.inl (cint, 128, Sum.inl f_5))] := hD
  have t_2 : 0 ≤ r_2.toInt ∧ r_2.toInt ≤ 1 := hw
  refine lv_if_ne (tgt := 24) hx hb dX10_readChain_19 (by decide) (fun c_6 => ?_) (fun c_6 => ?_)
  · have t_6 : r_2.toInt ≠ 0 := kk_ne c_6
    refine lv_iconst (v := 0) hx hb dX10_readChain_24 (by decide) ?_
    refine lv_istore_n (lv' := [(3, .int 0), (0, .ref h0), (1, .int 2), (2, .int 2)]) hx hb dX10_readChain_25 rfl hl (by decide) rfl (fun ls hl => ?_)
    refine kk_loop (σ := Unit) (fun x H locs ls => va_P (dC, dI) vwCl [(h0, Sum.inr (10, [Value.ref h1, Value.int n0_size, Value.int y_3, Value.ref h2])), (h1, Sum.inl (cint, 120, Sum.inl f1)), (h2, Sum.inr (4, [Value.ref h3, Value.int y_4, Value.ref h4, Value.ref h5, Value.int n2_top])), (h3, Sum.inl (cint, 128, Sum.inl f_5))] H ∧ va_D A [(h0, Sum.inr (10, [Value.ref h1, Value.int n0_size, Value.int y_3, Value.ref h2])), (h1, Sum.inl (cint, 120, Sum.inl f1)), (h2, Sum.inr (4, [Value.ref h3, Value.int y_4, Value.ref h4, Value.ref h5, Value.int n2_top])), (h3, Sum.inl (cint, 128, Sum.inl f_5))] ∧ va_S A s.heap H locs ∧ lv_has ls 5 [(3, .int 0), (0, .ref h0), (1, .int 2), (2, .int 2)]) (fun x => 0) ?_ () _ _ _ ⟨hP, hD, hS, hl⟩
    rintro _ H locs ls ⟨hP, hD, hS, hl⟩ ih_7
    have hl : lv_has ls 5 [(3, .int 0), (0, .ref h0), (1, .int 2), (2, .int 2)] := hl
    have hP : va_P (dC, dI) vwCl [(h0, Sum.inr (10, [Value.ref h1, Value.int n0_size, Value.int y_3, Value.ref h2])), (h1, Sum.inl (cint, 120, Sum.inl f1)), (h2, Sum.inr (4, [Value.ref h3, Value.int y_4, Value.ref h4, Value.ref h5, Value.int n2_top])), (h3, Sum.inl (cint, 128, Sum.inl f_5))] H := hP
    have hD : va_D A [(h0, Sum.inr (10, [Value.ref h1, Value.int n0_size, Value.int y_3, Value.ref h2])), (h1, Sum.inl (cint, 120, Sum.inl f1)), (h2, Sum.inr (4, [Value.ref h3, Value.int y_4, Value.ref h4, Value.ref h5, Value.int n2_top])), (h3, Sum.inl (cint, 128, Sum.inl f_5))] := hD
    refine lv_iload_n hx hb dX10_readChain_26 rfl (lv_at hl 0 rfl) ?_
    refine lv_bipush (v := 120) hx hb dX10_readChain_27 (by decide) ?_
    refine lv_icmp_ge (tgt := 94) hx hb dX10_readChain_29 (by decide) (fun c => absurd c (by decide)) (fun _ => ?_)
    refine lv_iload_n hx hb dX10_readChain_32 rfl (lv_at hl 2 rfl) ?_
    refine lv_aload_n hx hb dX10_readChain_33 rfl (lv_at hl 1 rfl) ?_
    have hPc := hP.sub (ws' := [(h0, Sum.inr (10, [Value.ref h1, Value.int n0_size, Value.int y_3, Value.ref h2])), (h1, Sum.inl (cint, 120, Sum.inl f1))]) [0, 1] rfl
    have hDc := hD.sub (ws' := [(h0, Sum.inr (10, [Value.ref h1, Value.int n0_size, Value.int y_3, Value.ref h2])), (h1, Sum.inl (cint, 120, Sum.inl f1))]) [0, 1] (by decide) rfl
    have hKc := hK.sub (tys' := [(cint, .int)]) [0] rfl
    have hFc := va_free (wc := [(h0, Sum.inr (10, [Value.ref h1, Value.int n0_size, Value.int y_3, Value.ref h2])), (h1, Sum.inl (cint, 120, Sum.inl f1))]) hD hS hA [0, 1] rfl
    refine va_calli (va_runV (As := []) (rest := [.int 2]) ⟨hx, hb, hml, hown, hts⟩ (g_X10_next_0 l dC dI h0 h1 h2 cint H.size n0_size y_3 f1 tn0_size bf1) (cwV 0 hts gX10_readChain_X10_next rfl rfl rfl (by decide +kernel) ⟨Nat.le_of_ble_eq_true rfl, Nat.le_of_ble_eq_true rfl⟩) ⟨fun a U g mk q => by obtain ⟨q0, q1, qP, qK, qD⟩ := q; exact ⟨q0, q1, qP, va_K.moved (u := U) (U := U.calling g mk a) (Vm.Alike.refl U.vm) qK, qD⟩, va_recv hKc hPc (ci := 10) (q0 := 0) rfl rfl, fun U hU hW => ⟨rfl, by rw [hU], by rw [hU]; exact hPc, va_K.moved hW.alike hKc, hDc.weaken (fun _ _ _ _ => trivial)⟩⟩ rfl rfl hl.1 rfl (lv_room (Nat.le_of_ble_eq_true rfl)) dX10_readChain_34 ⟨Nat.le_of_ble_eq_true rfl, Nat.le_of_ble_eq_true rfl⟩) hS (fun q _ h => hFc q h) hFc (fun r_47 u t H1 locs ht hvm hw hB hz1 hk1 hS => ?_)
    obtain ⟨hP1, hK1, hD1⟩ := hB
    rw [ht] at hP1
    have hK1 := va_K.moved hvm.symm hK1
    obtain ⟨hP, hD⟩ := va_join (wr := [(h2, Sum.inr (4, [Value.ref h3, Value.int y_4, Value.ref h4, Value.ref h5, Value.int n2_top])), (h3, Sum.inl (cint, 128, Sum.inl f_5))]) (w1 := [(h0, Sum.inr (10, [Value.ref h1, Value.int n0_size, Value.int y_3, Value.ref h2])), (h1, Sum.inl (cint, 120, Sum.inl f1))]) hP hD [0, 1] [2, 3] rfl rfl (by decide) (by decide) hk1 hFc hP1 hD1
    generalize H1 = H at hP hS ⊢
    have hP : va_P (dC, dI) vwCl [(h2, Sum.inr (4, [Value.ref h3, Value.int y_4, Value.ref h4, Value.ref h5, Value.int n2_top])), (h3, Sum.inl (cint, 128, Sum.inl f_5)), (h0, Sum.inr (10, [Value.ref h1, Value.int n0_size, Value.int y_3, Value.ref h2])), (h1, Sum.inl (cint, 120, Sum.inl f1))] H := hP
    have hD : va_D A [(h2, Sum.inr (4, [Value.ref h3, Value.int y_4, Value.ref h4, Value.ref h5, Value.int n2_top])), (h3, Sum.inl (cint, 128, Sum.inl f_5)), (h0, Sum.inr (10, [Value.ref h1, Value.int n0_size, Value.int y_3, Value.ref h2])), (h1, Sum.inl (cint, 120, Sum.inl f1))] := hD
    have t_47 : (-1) ≤ r_47.toInt ∧ r_47.toInt ≤ 255 := hw
    have hPc := hP.sub (ws' := []) [] rfl
    have hDc := hD.sub (ws' := []) [] (by decide) rfl
    have hKc := hK.sub (tys' := []) [] rfl
    have hFc := va_free (wc := []) hD hS hA [] rfl
    refine va_calli (va_runS (As := [.int 2, .int r_47]) (rest := []) ⟨hx, hb, hml, hown, hts⟩ (g_X10_joins_2 l dC dI H.size r_47) (va_cwS 2 hts gX10_readChain_X10_joins rfl rfl rfl (by decide +kernel) ⟨Nat.le_of_ble_eq_true rfl, Nat.le_of_ble_eq_true rfl⟩) ⟨fun a U g mk q => by obtain ⟨q0, q1, qP, qK, qD⟩ := q; exact ⟨q0, q1, qP, va_K.moved (u := U) (U := U.calling g mk a) (Vm.Alike.refl U.vm) qK, qD⟩, fun U hU hW => ⟨rfl, by rw [hU], by rw [hU]; exact hPc, va_K.moved hW.alike hKc, hDc.weaken (fun _ _ _ _ => trivial)⟩⟩ rfl rfl hl.1 rfl (lv_room (Nat.le_of_ble_eq_true rfl)) dX10_readChain_37 ⟨Nat.le_of_ble_eq_true rfl, Nat.le_of_ble_eq_true rfl⟩) hS (fun q _ h => hFc q h) hFc (fun r_48 u t H1 locs ht hvm hw hB hz1 hk1 hS => ?_)
    obtain ⟨hP1, hK1, hD1⟩ := hB
    rw [ht] at hP1
    have hK1 := va_K.moved hvm.symm hK1
    obtain ⟨hP, hD⟩ := va_join (wr := [(h2, Sum.inr (4, [Value.ref h3, Value.int y_4, Value.ref h4, Value.ref h5, Value.int n2_top])), (h3, Sum.inl (cint, 128, Sum.inl f_5)), (h0, Sum.inr (10, [Value.ref h1, Value.int n0_size, Value.int y_3, Value.ref h2])), (h1, Sum.inl (cint, 120, Sum.inl f1))]) (w1 := []) hP hD [] [0, 1, 2, 3] rfl rfl (by decide) (by decide) hk1 hFc hP1 hD1
    generalize H1 = H at hP hS ⊢
    have hP : va_P (dC, dI) vwCl [(h2, Sum.inr (4, [Value.ref h3, Value.int y_4, Value.ref h4, Value.ref h5, Value.int n2_top])), (h3, Sum.inl (cint, 128, Sum.inl f_5)), (h0, Sum.inr (10, [Value.ref h1, Value.int n0_size, Value.int y_3, Value.ref h2])), (h1, Sum.inl (cint, 120, Sum.inl f1))] H := hP
    have hD : va_D A [(h2, Sum.inr (4, [Value.ref h3, Value.int y_4, Value.ref h4, Value.ref h5, Value.int n2_top])), (h3, Sum.inl (cint, 128, Sum.inl f_5)), (h0, Sum.inr (10, [Value.ref h1, Value.int n0_size, Value.int y_3, Value.ref h2])), (h1, Sum.inl (cint, 120, Sum.inl f1))] := hD
    have t_48 : 0 ≤ r_48.toInt ∧ r_48.toInt ≤ 1 := hw
    refine lv_if_eq (tgt := 94) hx hb dX10_readChain_40 (by decide) (fun c_49 => ?_) (fun c_49 => ?_)
    · have t_49 : r_48.toInt = 0 := kk_eq c_49
      refine lv_iconst (v := 1) hx hb dX10_readChain_94 (by decide) ?_
      have hP9 := hP.sub (ws' := [(h0, Sum.inr (10, [Value.ref h1, Value.int n0_size, Value.int y_3, Value.ref h2])), (h1, Sum.inl (cint, 120, Sum.inl f1)), (h2, Sum.inr (4, [Value.ref h3, Value.int y_4, Value.ref h4, Value.ref h5, Value.int n2_top])), (h3, Sum.inl (cint, 128, Sum.inl f_5))]) [2, 3, 0, 1] rfl
      have hD9 := hD.sub (ws' := [(h0, Sum.inr (10, [Value.ref h1, Value.int n0_size, Value.int y_3, Value.ref h2])), (h1, Sum.inl (cint, 120, Sum.inl f1)), (h2, Sum.inr (4, [Value.ref h3, Value.int y_4, Value.ref h4, Value.ref h5, Value.int n2_top])), (h3, Sum.inl (cint, 128, Sum.inl f_5))]) [2, 3, 0, 1] (by decide) rfl
      have hK9 := hK.sub (tys' := []) [] rfl
      exact W.zret (v := 1) hx hb hr rfl (fun t ht hW => ⟨⟨1, (), rfl, (by show 0 ≤ (1 : Int32).toInt ∧ (1 : Int32).toInt ≤ 1; first | decide | (constructor <;> (omega))), y_3, y_4, f_5, (by show 0 ≤ (y_4 : Int32).toInt ∧ (y_4 : Int32).toInt ≤ 128; first | decide | (constructor <;> (omega))), by rw [ht]; exact hP9, va_K.moved hW.alike hK9, hD9⟩, hS.F ht⟩) hS.2.2 dX10_readChain_95
    · have t_49 : r_48.toInt ≠ 0 := kk_ne c_49
      refine lv_aload_n hx hb dX10_readChain_43 rfl (lv_at hl 1 rfl) ?_
      have hPc := hP.sub (ws' := [(h0, Sum.inr (10, [Value.ref h1, Value.int n0_size, Value.int y_3, Value.ref h2])), (h1, Sum.inl (cint, 120, Sum.inl f1))]) [2, 3] rfl
      have hDc := hD.sub (ws' := [(h0, Sum.inr (10, [Value.ref h1, Value.int n0_size, Value.int y_3, Value.ref h2])), (h1, Sum.inl (cint, 120, Sum.inl f1))]) [2, 3] (by decide) rfl
      have hKc := hK.sub (tys' := [(cint, .int)]) [0] rfl
      have hFc := va_free (wc := [(h0, Sum.inr (10, [Value.ref h1, Value.int n0_size, Value.int y_3, Value.ref h2])), (h1, Sum.inl (cint, 120, Sum.inl f1))]) hD hS hA [2, 3] rfl
      refine va_calli (va_runV (As := []) (rest := []) ⟨hx, hb, hml, hown, hts⟩ (g_X10_next_0 l dC dI h0 h1 h2 cint H.size n0_size y_3 f1 tn0_size bf1) (cwV 0 hts gX10_readChain_X10_next rfl rfl rfl (by decide +kernel) ⟨Nat.le_of_ble_eq_true rfl, Nat.le_of_ble_eq_true rfl⟩) ⟨fun a U g mk q => by obtain ⟨q0, q1, qP, qK, qD⟩ := q; exact ⟨q0, q1, qP, va_K.moved (u := U) (U := U.calling g mk a) (Vm.Alike.refl U.vm) qK, qD⟩, va_recv hKc hPc (ci := 10) (q0 := 0) rfl rfl, fun U hU hW => ⟨rfl, by rw [hU], by rw [hU]; exact hPc, va_K.moved hW.alike hKc, hDc.weaken (fun _ _ _ _ => trivial)⟩⟩ rfl rfl hl.1 rfl (lv_room (Nat.le_of_ble_eq_true rfl)) dX10_readChain_44 ⟨Nat.le_of_ble_eq_true rfl, Nat.le_of_ble_eq_true rfl⟩) hS (fun q _ h => hFc q h) hFc (fun r_50 u t H1 locs ht hvm hw hB hz1 hk1 hS => ?_)
      obtain ⟨hP1, hK1, hD1⟩ := hB
      rw [ht] at hP1
      have hK1 := va_K.moved hvm.symm hK1
      obtain ⟨hP, hD⟩ := va_join (wr := [(h2, Sum.inr (4, [Value.ref h3, Value.int y_4, Value.ref h4, Value.ref h5, Value.int n2_top])), (h3, Sum.inl (cint, 128, Sum.inl f_5))]) (w1 := [(h0, Sum.inr (10, [Value.ref h1, Value.int n0_size, Value.int y_3, Value.ref h2])), (h1, Sum.inl (cint, 120, Sum.inl f1))]) hP hD [2, 3] [0, 1] rfl rfl (by decide) (by decide) hk1 hFc hP1 hD1
      generalize H1 = H at hP hS ⊢
      have hP : va_P (dC, dI) vwCl [(h2, Sum.inr (4, [Value.ref h3, Value.int y_4, Value.ref h4, Value.ref h5, Value.int n2_top])), (h3, Sum.inl (cint, 128, Sum.inl f_5)), (h0, Sum.inr (10, [Value.ref h1, Value.int n0_size, Value.int y_3, Value.ref h2])), (h1, Sum.inl (cint, 120, Sum.inl f1))] H := hP
      have hD : va_D A [(h2, Sum.inr (4, [Value.ref h3, Value.int y_4, Value.ref h4, Value.ref h5, Value.int n2_top])), (h3, Sum.inl (cint, 128, Sum.inl f_5)), (h0, Sum.inr (10, [Value.ref h1, Value.int n0_size, Value.int y_3, Value.ref h2])), (h1, Sum.inl (cint, 120, Sum.inl f1))] := hD
      have t_50 : (-1) ≤ r_50.toInt ∧ r_50.toInt ≤ 255 := hw
      refine lv_istore (lv' := [(4, .int r_50), (3, .int 0), (0, .ref h0), (1, .int 2), (2, .int 2)]) hx hb dX10_readChain_47 hl (by decide) rfl (fun ls hl => ?_)
      refine lv_aload_n hx hb dX10_readChain_49 rfl (lv_at hl 2 rfl) ?_
      refine lv_dup hx hb dX10_readChain_50 rfl ?_
      refine va_get (D := (dC, dI)) (ci := 10) (v := .int y_3) (C := RX10) (T := TX10) (N := 4) hx hb hts (fun _ h => List.mem_cons_of_mem _ (List.mem_append_left _ (List.mem_append_right _ h))) hown hK hP 2 rfl rfl 2 (by decide) (hts (.fieldLink RX10 17 "KinkStreet$Tape" "place" "I") (List.mem_of_getElem? (i := 1) rfl)) (fun _ h9 => h9) rfl dX10_readChain_51 ?_
      refine lv_iconst (v := 1) hx hb dX10_readChain_54 (by decide) ?_
      refine lv_iadd hx hb dX10_readChain_55 ?_
      refine va_put (D := (dC, dI)) (ci := 10) (v := .int (y_3 + 1)) (ty := .int) (C := RX10) (T := TX10) (N := 4) hx hb hts (fun _ h => List.mem_cons_of_mem _ (List.mem_append_left _ (List.mem_append_right _ h))) tyX10 tyX10_ok nmX10 hown hK hP hD hS 2 rfl rfl 2 (by decide) (hts (.fieldLink RX10 17 "KinkStreet$Tape" "place" "I") (List.mem_of_getElem? (i := 1) rfl)) (fun _ h9 => h9) rfl (by decide +kernel) rfl rfl (Nat.le_of_ble_eq_true rfl) dX10_readChain_56 (fun H locs hP hD hS => ?_)
      have hP : va_P (dC, dI) vwCl [(h2, Sum.inr (4, [Value.ref h3, Value.int y_4, Value.ref h4, Value.ref h5, Value.int n2_top])), (h3, Sum.inl (cint, 128, Sum.inl f_5)), (h0, Sum.inr (10, [Value.ref h1, Value.int n0_size, Value.int (y_3 + 1), Value.ref h2])), (h1, Sum.inl (cint, 120, Sum.inl f1))] H := hP
      have hD : va_D A [(h2, Sum.inr (4, [Value.ref h3, Value.int y_4, Value.ref h4, Value.ref h5, Value.int n2_top])), (h3, Sum.inl (cint, 128, Sum.inl f_5)), (h0, Sum.inr (10, [Value.ref h1, Value.int n0_size, Value.int (y_3 + 1), Value.ref h2])), (h1, Sum.inl (cint, 120, Sum.inl f1))] := hD
      refine lv_aload_n hx hb dX10_readChain_59 rfl (lv_at hl 2 rfl) ?_
      refine lv_iload_n hx hb dX10_readChain_60 rfl (lv_at hl 3 rfl) ?_
      refine lv_iconst (v := 1) hx hb dX10_readChain_61 (by decide) ?_
      refine lv_iadd hx hb dX10_readChain_62 ?_
      refine lv_topi (fun y_51 e_51 => ?_)
      obtain rfl : y_51 = 3 := e_51.trans (by decide)
      refine lv_iload_n hx hb dX10_readChain_63 rfl (lv_at hl 4 rfl) ?_
      have hPc := hP.sub (ws' := [(h0, Sum.inr (10, [Value.ref h1, Value.int n0_size, Value.int (y_3 + 1), Value.ref h2])), (h1, Sum.inl (cint, 120, Sum.inl f1)), (h2, Sum.inr (4, [Value.ref h3, Value.int y_4, Value.ref h4, Value.ref h5, Value.int n2_top])), (h3, Sum.inl (cint, 128, Sum.inl f_5))]) [2, 3, 0, 1] rfl
      have hDc := hD.sub (ws' := [(h0, Sum.inr (10, [Value.ref h1, Value.int n0_size, Value.int (y_3 + 1), Value.ref h2])), (h1, Sum.inl (cint, 120, Sum.inl f1)), (h2, Sum.inr (4, [Value.ref h3, Value.int y_4, Value.ref h4, Value.ref h5, Value.int n2_top])), (h3, Sum.inl (cint, 128, Sum.inl f_5))]) [2, 3, 0, 1] (by decide) rfl
      have hKc := hK.sub (tys' := [(cint, .int)]) [0] rfl
      have hFc := va_free (wc := [(h0, Sum.inr (10, [Value.ref h1, Value.int n0_size, Value.int (y_3 + 1), Value.ref h2])), (h1, Sum.inl (cint, 120, Sum.inl f1)), (h2, Sum.inr (4, [Value.ref h3, Value.int y_4, Value.ref h4, Value.ref h5, Value.int n2_top])), (h3, Sum.inl (cint, 128, Sum.inl f_5))]) hD hS hA [2, 3, 0, 1] rfl
      refine va_calli (va_runV (As := [.int 3, .int 2]) (rest := []) ⟨hx, hb, hml, hown, hts⟩ (g_X10_readChain_26 l dC dI h0 h1 h2 h3 h4 h5 cint H.size n0_size (y_3 + 1) f1 y_4 n2_top f_5 tn0_size bf1 (by show 0 ≤ (y_4 : Int32).toInt ∧ (y_4 : Int32).toInt ≤ 128; first | decide | (constructor <;> (omega))) tn2_top aNAMES) (cwV 2 hts gX10_readChain_X10_readChain rfl rfl rfl (by decide +kernel) ⟨Nat.le_of_ble_eq_true rfl, Nat.le_of_ble_eq_true rfl⟩) ⟨fun a U g mk q => by obtain ⟨q0, q1, qP, qK, qD, qx0, qx1⟩ := q; exact ⟨q0, q1, qP, va_K.moved (u := U) (U := U.calling g mk a) (Vm.Alike.refl U.vm) qK, qD, va_Z.moved (u := U) (U := U.calling g mk a) (Vm.Alike.refl U.vm) qx0, va_T.moved (u := U) (U := U.calling g mk a) (Vm.Alike.refl U.vm) qx1⟩, va_recv hKc hPc (ci := 10) (q0 := 0) rfl rfl, fun U hU hW => ⟨rfl, by rw [hU], by rw [hU]; exact hPc, va_K.moved hW.alike hKc, hDc.weaken (fun _ _ _ _ => trivial), by rw [hU]; exact ((hZNAMES.kept (fun a h1 h2 => hS.2.1 a h1 h2)).narrow hFc).moved hW.alike, by rw [hU]; exact ((hTNAMES.kept (fun a h1 h2 => hS.2.1 a h1 h2)).narrow hFc).moved hW.alike⟩⟩ rfl rfl hl.1 rfl (lv_room (Nat.le_of_ble_eq_true rfl)) dX10_readChain_64 ⟨Nat.le_of_ble_eq_true rfl, Nat.le_of_ble_eq_true rfl⟩) hS (fun q _ h => hFc q h) hFc (fun r_52 u t H1 locs ht hvm hw hB hz1 hk1 hS => ?_)
      obtain ⟨y_53, y_54, f_55, by_54, hP1, hK1, hD1⟩ := hB
      rw [ht] at hP1
      have hK1 := va_K.moved hvm.symm hK1
      obtain ⟨hP, hD⟩ := va_join (wr := []) (w1 := [(h0, Sum.inr (10, [Value.ref h1, Value.int n0_size, Value.int y_53, Value.ref h2])), (h1, Sum.inl (cint, 120, Sum.inl f1)), (h2, Sum.inr (4, [Value.ref h3, Value.int y_54, Value.ref h4, Value.ref h5, Value.int n2_top])), (h3, Sum.inl (cint, 128, Sum.inl f_55))]) hP hD [2, 3, 0, 1] [] rfl rfl (by decide) (by decide) hk1 hFc hP1 hD1
      generalize H1 = H at hP hS ⊢
      have hP : va_P (dC, dI) vwCl [(h0, Sum.inr (10, [Value.ref h1, Value.int n0_size, Value.int y_53, Value.ref h2])), (h1, Sum.inl (cint, 120, Sum.inl f1)), (h2, Sum.inr (4, [Value.ref h3, Value.int y_54, Value.ref h4, Value.ref h5, Value.int n2_top])), (h3, Sum.inl (cint, 128, Sum.inl f_55))] H := hP
      have hD : va_D A [(h0, Sum.inr (10, [Value.ref h1, Value.int n0_size, Value.int y_53, Value.ref h2])), (h1, Sum.inl (cint, 120, Sum.inl f1)), (h2, Sum.inr (4, [Value.ref h3, Value.int y_54, Value.ref h4, Value.ref h5, Value.int n2_top])), (h3, Sum.inl (cint, 128, Sum.inl f_55))] := hD
      have t_52 : 0 ≤ r_52.toInt ∧ r_52.toInt ≤ 1 := hw
      refine lv_if_ne (tgt := 72) hx hb dX10_readChain_67 (by decide) (fun c_56 => ?_) (fun c_56 => ?_)
      · have t_56 : r_52.toInt ≠ 0 := kk_ne c_56
        refine lv_aload_n hx hb dX10_readChain_72 rfl (lv_at hl 2 rfl) ?_
        refine va_get (D := (dC, dI)) (ci := 10) (v := .ref h2) (C := RX10) (T := TX10) (N := 4) hx hb hts (fun _ h => List.mem_cons_of_mem _ (List.mem_append_left _ (List.mem_append_right _ h))) hown hK hP 0 rfl rfl 3 (by decide) (hts (.fieldLink RX10 20 "KinkStreet$Tape" "law" "LKinkStreet$Law;") (List.mem_of_getElem? (i := 2) rfl)) (fun _ h9 => h9) rfl dX10_readChain_73 ?_
        refine lv_iload hx hb dX10_readChain_76 (lv_at hl 0 rfl) ?_
        have hPc := hP.sub (ws' := [(h2, Sum.inr (4, [Value.ref h3, Value.int y_54, Value.ref h4, Value.ref h5, Value.int n2_top])), (h3, Sum.inl (cint, 128, Sum.inl f_55))]) [2, 3] rfl
        have hDc := hD.sub (ws' := [(h2, Sum.inr (4, [Value.ref h3, Value.int y_54, Value.ref h4, Value.ref h5, Value.int n2_top])), (h3, Sum.inl (cint, 128, Sum.inl f_55))]) [2, 3] (by decide) rfl
        have hKc := hK.sub (tys' := [(cint, .int)]) [0] rfl
        have hFc := va_free (wc := [(h2, Sum.inr (4, [Value.ref h3, Value.int y_54, Value.ref h4, Value.ref h5, Value.int n2_top])), (h3, Sum.inl (cint, 128, Sum.inl f_55))]) hD hS hA [2, 3] rfl
        refine va_callv (va_runV (As := [.int r_50]) (rest := []) ⟨hx, hb, hml, hown, hts⟩ (g_X4_append_0 l dC dI h2 h3 h4 h5 cint H.size r_50 y_54 n2_top f_55 (by show 0 ≤ (y_54 : Int32).toInt ∧ (y_54 : Int32).toInt ≤ 128; first | decide | (constructor <;> (omega))) tn2_top) (cwV 1 hts gX10_readChain_X4_append rfl rfl rfl (by decide +kernel) ⟨Nat.le_of_ble_eq_true rfl, Nat.le_of_ble_eq_true rfl⟩) ⟨fun a U g mk q => by obtain ⟨q0, q1, qP, qK, qD⟩ := q; exact ⟨q0, q1, qP, va_K.moved (u := U) (U := U.calling g mk a) (Vm.Alike.refl U.vm) qK, qD⟩, va_recv hKc hPc (ci := 4) (q0 := 0) rfl rfl, fun U hU hW => ⟨rfl, by rw [hU], by rw [hU]; exact hPc, va_K.moved hW.alike hKc, hDc.weaken (fun _ _ _ _ => trivial)⟩⟩ rfl rfl hl.1 rfl (lv_room (Nat.le_of_ble_eq_true rfl)) dX10_readChain_78 ⟨Nat.le_of_ble_eq_true rfl, Nat.le_of_ble_eq_true rfl⟩) hS (fun q _ h => hFc q h) hFc (fun u t H1 locs ht hvm hw hB hz1 hk1 hS => ?_)
        obtain ⟨y_58, f_59, by_58, hP1, hK1, hD1⟩ := hB
        rw [ht] at hP1
        have hK1 := va_K.moved hvm.symm hK1
        obtain ⟨hP, hD⟩ := va_join (wr := [(h0, Sum.inr (10, [Value.ref h1, Value.int n0_size, Value.int y_53, Value.ref h2])), (h1, Sum.inl (cint, 120, Sum.inl f1))]) (w1 := [(h2, Sum.inr (4, [Value.ref h3, Value.int y_58, Value.ref h4, Value.ref h5, Value.int n2_top])), (h3, Sum.inl (cint, 128, Sum.inl f_59))]) hP hD [2, 3] [0, 1] rfl rfl (by decide) (by decide) hk1 hFc hP1 hD1
        generalize H1 = H at hP hS ⊢
        have hP : va_P (dC, dI) vwCl [(h0, Sum.inr (10, [Value.ref h1, Value.int n0_size, Value.int y_53, Value.ref h2])), (h1, Sum.inl (cint, 120, Sum.inl f1)), (h2, Sum.inr (4, [Value.ref h3, Value.int y_58, Value.ref h4, Value.ref h5, Value.int n2_top])), (h3, Sum.inl (cint, 128, Sum.inl f_59))] H := hP
        have hD : va_D A [(h0, Sum.inr (10, [Value.ref h1, Value.int n0_size, Value.int y_53, Value.ref h2])), (h1, Sum.inl (cint, 120, Sum.inl f1)), (h2, Sum.inr (4, [Value.ref h3, Value.int y_58, Value.ref h4, Value.ref h5, Value.int n2_top])), (h3, Sum.inl (cint, 128, Sum.inl f_59))] := hD
        refine lv_iload_n hx hb dX10_readChain_81 rfl (lv_at hl 3 rfl) ?_
        refine lv_iconst (v := 2) hx hb dX10_readChain_82 (by decide) ?_
        refine lv_icmp_ne (tgt := 88) hx hb dX10_readChain_83 (by decide) (fun c => absurd c (by decide)) (fun _ => ?_)
        refine lv_iconst (v := 1) hx hb dX10_readChain_86 (by decide) ?_
        have hP9 := hP.sub (ws' := [(h0, Sum.inr (10, [Value.ref h1, Value.int n0_size, Value.int y_53, Value.ref h2])), (h1, Sum.inl (cint, 120, Sum.inl f1)), (h2, Sum.inr (4, [Value.ref h3, Value.int y_58, Value.ref h4, Value.ref h5, Value.int n2_top])), (h3, Sum.inl (cint, 128, Sum.inl f_59))]) [0, 1, 2, 3] rfl
        have hD9 := hD.sub (ws' := [(h0, Sum.inr (10, [Value.ref h1, Value.int n0_size, Value.int y_53, Value.ref h2])), (h1, Sum.inl (cint, 120, Sum.inl f1)), (h2, Sum.inr (4, [Value.ref h3, Value.int y_58, Value.ref h4, Value.ref h5, Value.int n2_top])), (h3, Sum.inl (cint, 128, Sum.inl f_59))]) [0, 1, 2, 3] (by decide) rfl
        have hK9 := hK.sub (tys' := []) [] rfl
        exact W.zret (v := 1) hx hb hr rfl (fun t ht hW => ⟨⟨1, (), rfl, (by show 0 ≤ (1 : Int32).toInt ∧ (1 : Int32).toInt ≤ 1; first | decide | (constructor <;> (omega))), y_53, y_58, f_59, (by show 0 ≤ (y_58 : Int32).toInt ∧ (y_58 : Int32).toInt ≤ 128; first | decide | (constructor <;> (omega))), by rw [ht]; exact hP9, va_K.moved hW.alike hK9, hD9⟩, hS.F ht⟩) hS.2.2 dX10_readChain_87
      · have t_56 : r_52.toInt = 0 := kk_eq c_56
        refine lv_iconst (v := 0) hx hb dX10_readChain_70 (by decide) ?_
        have hP9 := hP.sub (ws' := [(h0, Sum.inr (10, [Value.ref h1, Value.int n0_size, Value.int y_53, Value.ref h2])), (h1, Sum.inl (cint, 120, Sum.inl f1)), (h2, Sum.inr (4, [Value.ref h3, Value.int y_54, Value.ref h4, Value.ref h5, Value.int n2_top])), (h3, Sum.inl (cint, 128, Sum.inl f_55))]) [0, 1, 2, 3] rfl
        have hD9 := hD.sub (ws' := [(h0, Sum.inr (10, [Value.ref h1, Value.int n0_size, Value.int y_53, Value.ref h2])), (h1, Sum.inl (cint, 120, Sum.inl f1)), (h2, Sum.inr (4, [Value.ref h3, Value.int y_54, Value.ref h4, Value.ref h5, Value.int n2_top])), (h3, Sum.inl (cint, 128, Sum.inl f_55))]) [0, 1, 2, 3] (by decide) rfl
        have hK9 := hK.sub (tys' := []) [] rfl
        exact W.zret (v := 0) hx hb hr rfl (fun t ht hW => ⟨⟨0, (), rfl, (by show 0 ≤ (0 : Int32).toInt ∧ (0 : Int32).toInt ≤ 1; first | decide | (constructor <;> (omega))), y_53, y_54, f_55, (by show 0 ≤ (y_54 : Int32).toInt ∧ (y_54 : Int32).toInt ≤ 128; first | decide | (constructor <;> (omega))), by rw [ht]; exact hP9, va_K.moved hW.alike hK9, hD9⟩, hS.F ht⟩) hS.2.2 dX10_readChain_71
  · have t_6 : r_2.toInt = 0 := kk_eq c_6
    refine lv_iconst (v := 0) hx hb dX10_readChain_22 (by decide) ?_
    have hP9 := hP.sub (ws' := [(h0, Sum.inr (10, [Value.ref h1, Value.int n0_size, Value.int y_3, Value.ref h2])), (h1, Sum.inl (cint, 120, Sum.inl f1)), (h2, Sum.inr (4, [Value.ref h3, Value.int y_4, Value.ref h4, Value.ref h5, Value.int n2_top])), (h3, Sum.inl (cint, 128, Sum.inl f_5))]) [0, 1, 2, 3] rfl
    have hD9 := hD.sub (ws' := [(h0, Sum.inr (10, [Value.ref h1, Value.int n0_size, Value.int y_3, Value.ref h2])), (h1, Sum.inl (cint, 120, Sum.inl f1)), (h2, Sum.inr (4, [Value.ref h3, Value.int y_4, Value.ref h4, Value.ref h5, Value.int n2_top])), (h3, Sum.inl (cint, 128, Sum.inl f_5))]) [0, 1, 2, 3] (by decide) rfl
    have hK9 := hK.sub (tys' := []) [] rfl
    exact W.zret (v := 0) hx hb hr rfl (fun t ht hW => ⟨⟨0, (), rfl, (by show 0 ≤ (0 : Int32).toInt ∧ (0 : Int32).toInt ≤ 1; first | decide | (constructor <;> (omega))), y_3, y_4, f_5, (by show 0 ≤ (y_4 : Int32).toInt ∧ (y_4 : Int32).toInt ≤ 128; first | decide | (constructor <;> (omega))), by rw [ht]; exact hP9, va_K.moved hW.alike hK9, hD9⟩, hS.F ht⟩) hS.2.2 dX10_readChain_23
set_option maxHeartbeats 4000000 in
set_option maxRecDepth 100000 in
theorem g_X10_readChain_28 (l : Launch) (dC : Nat → ClassId) (dI : Nat → Nat → Nat) (h0 : Nat) (h1 : Nat) (h2 : Nat) (h3 : Nat) (h4 : Nat) (h5 : Nat) (cint : ClassId) (sz : Nat) (n0_size : Int32) (n0_place : Int32) (f1 : Nat → Int32) (n2_size : Int32) (n2_top : Int32) (f3 : Nat → Int32) (tn0_size : 0 ≤ n0_size.toInt ∧ n0_size.toInt ≤ 120) (bf1 : ∀ j, j < 120 → 0 ≤ (f1 j).toInt ∧ (f1 j).toInt ≤ 255) (tn2_size : 0 ≤ n2_size.toInt ∧ n2_size.toInt ≤ 128) (tn2_top : 0 ≤ n2_top.toInt ∧ n2_top.toInt ≤ 64) (aNAMES : Nat) : Met l yX10_readChain wsX10_readChain ({ frames := 39, cells := 0, slots := 0, locals := 914 }) (va_Pc [.ref h0, .int 1, .int 2] (fun U => U.heap.size = sz ∧ va_P (dC, dI) vwCl [(h0, Sum.inr (10, [Value.ref h1, Value.int n0_size, Value.int n0_place, Value.ref h2])), (h1, Sum.inl (cint, 120, Sum.inl f1)), (h2, Sum.inr (4, [Value.ref h3, Value.int n2_size, Value.ref h4, Value.ref h5, Value.int n2_top])), (h3, Sum.inl (cint, 128, Sum.inl f3))] U.heap ∧ va_K (dC, dI) vwCl [(cint, .int)] U ∧ va_D (fun _ => True) [(h0, Sum.inr (10, [Value.ref h1, Value.int n0_size, Value.int n0_place, Value.ref h2])), (h1, Sum.inl (cint, 120, Sum.inl f1)), (h2, Sum.inr (4, [Value.ref h3, Value.int n2_size, Value.ref h4, Value.ref h5, Value.int n2_top])), (h3, Sum.inl (cint, 128, Sum.inl f3))] ∧ va_Z "KinkStreet$Law" "NAMES" "[C" (.ref aNAMES) (va_A [(h0, Sum.inr (10, [Value.ref h1, Value.int n0_size, Value.int n0_place, Value.ref h2])), (h1, Sum.inl (cint, 120, Sum.inl f1)), (h2, Sum.inr (4, [Value.ref h3, Value.int n2_size, Value.ref h4, Value.ref h5, Value.int n2_top])), (h3, Sum.inl (cint, 128, Sum.inl f3))] sz) U U.heap ∧ va_T .char aNAMES 8 tb_NAMES (va_A [(h0, Sum.inr (10, [Value.ref h1, Value.int n0_size, Value.int n0_place, Value.ref h2])), (h1, Sum.inl (cint, 120, Sum.inl f1)), (h2, Sum.inr (4, [Value.ref h3, Value.int n2_size, Value.ref h4, Value.ref h5, Value.int n2_top])), (h3, Sum.inl (cint, 128, Sum.inl f3))] sz) U U.heap)) (va_Qi (fun (r : Int32) (_ : Unit) => (0 ≤ r.toInt ∧ r.toInt ≤ 1)) (fun (_ : Unit) t => ∃ (m0_place : Int32) (m2_size : Int32) (g3 : Nat → Int32), (0 ≤ m2_size.toInt ∧ m2_size.toInt ≤ 128) ∧ va_P (dC, dI) vwCl [(h0, Sum.inr (10, [Value.ref h1, Value.int n0_size, Value.int m0_place, Value.ref h2])), (h1, Sum.inl (cint, 120, Sum.inl f1)), (h2, Sum.inr (4, [Value.ref h3, Value.int m2_size, Value.ref h4, Value.ref h5, Value.int n2_top])), (h3, Sum.inl (cint, 128, Sum.inl g3))] t.heap ∧ va_K (dC, dI) vwCl [] t ∧ va_D (va_A [(h0, Sum.inr (10, [Value.ref h1, Value.int n0_size, Value.int n0_place, Value.ref h2])), (h1, Sum.inl (cint, 120, Sum.inl f1)), (h2, Sum.inr (4, [Value.ref h3, Value.int n2_size, Value.ref h4, Value.ref h5, Value.int n2_top])), (h3, Sum.inl (cint, 128, Sum.inl f3))] sz) [(h0, Sum.inr (10, [Value.ref h1, Value.int n0_size, Value.int m0_place, Value.ref h2])), (h1, Sum.inl (cint, 120, Sum.inl f1)), (h2, Sum.inr (4, [Value.ref h3, Value.int m2_size, Value.ref h4, Value.ref h5, Value.int n2_top])), (h3, Sum.inl (cint, 128, Sum.inl g3))]) (va_A [(h0, Sum.inr (10, [Value.ref h1, Value.int n0_size, Value.int n0_place, Value.ref h2])), (h1, Sum.inl (cint, 120, Sum.inl f1)), (h2, Sum.inr (4, [Value.ref h3, Value.int n2_size, Value.ref h4, Value.ref h5, Value.int n2_top])), (h3, Sum.inl (cint, 128, Sum.inl f3))] sz)) 0 0 (va_A [(h0, Sum.inr (10, [Value.ref h1, Value.int n0_size, Value.int n0_place, Value.ref h2])), (h1, Sum.inl (cint, 120, Sum.inl f1)), (h2, Sum.inr (4, [Value.ref h3, Value.int n2_size, Value.ref h4, Value.ref h5, Value.int n2_top])), (h3, Sum.inl (cint, 128, Sum.inl f3))] sz) := by
  refine Met.ofW (cc := cX10_readChain) (maxL := 5) (ret := (some .boolean)) (by decide) rfl ?_
  intro p e s m args below meth c s₁ B hml hv
  obtain ⟨rfl, hsz, hP, hK, hD0, hZNAMES, hTNAMES⟩ := hv
  have hx := B.exec
  have hb := B.bytes
  have hr := B.returns
  have hts := atoms_spec (ws := wsX10_readChain) B.pre
  have hown : s.vm.findClass RX10 = some m.cls := findClass_of_methodNamed B.named
  have hlocks := B.notSynchronized
  subst hsz
  have hD := hD0.self (sz := s.heap.size)
  generalize hAe : va_A [(h0, Sum.inr (10, [Value.ref h1, Value.int n0_size, Value.int n0_place, Value.ref h2])), (h1, Sum.inl (cint, 120, Sum.inl f1)), (h2, Sum.inr (4, [Value.ref h3, Value.int n2_size, Value.ref h4, Value.ref h5, Value.int n2_top])), (h3, Sum.inl (cint, 128, Sum.inl f3))] s.heap.size = A at hD hZNAMES hTNAMES ⊢
  have hA : ∀ q : Nat, s.heap.size ≤ q → A q := fun q h => by rw [← hAe]; exact Or.inr h
  have hS : va_S A s.heap s.heap [] := va_S.rf
  have hP : va_P (dC, dI) vwCl [(h0, Sum.inr (10, [Value.ref h1, Value.int n0_size, Value.int n0_place, Value.ref h2])), (h1, Sum.inl (cint, 120, Sum.inl f1)), (h2, Sum.inr (4, [Value.ref h3, Value.int n2_size, Value.ref h4, Value.ref h5, Value.int n2_top])), (h3, Sum.inl (cint, 128, Sum.inl f3))] s.heap := hP
  have hl := lv_entry ([.ref h0, .int 1, .int 2]) (n := 5) (Nat.le_of_ble_eq_true rfl)
  rw [lg_entry_eq]
  generalize (lg_sl ([.ref h0, .int 1, .int 2]) ++ List.replicate (5 - (lg_sl ([.ref h0, .int 1, .int 2])).length) Slot.unset).toArray = ls at hl ⊢
  have hl : lv_has ls 5 [(0, .ref h0), (1, .int 1), (2, .int 2)] := hl
  refine lv_iload_n hx hb dX10_readChain_0 rfl (lv_at hl 1 rfl) ?_
  refine lv_iconst (v := 5) hx hb dX10_readChain_1 (by decide) ?_
  refine lv_icmp_lt (tgt := 11) hx hb dX10_readChain_2 (by decide) (fun _ => ?_) (fun c => absurd c (by decide))
  refine lv_aload_n hx hb dX10_readChain_11 rfl (lv_at hl 0 rfl) ?_
  refine lv_iload_n hx hb dX10_readChain_12 rfl (lv_at hl 1 rfl) ?_
  refine lv_iconst (v := 1) hx hb dX10_readChain_13 (by decide) ?_
  refine lv_iadd hx hb dX10_readChain_14 ?_
  refine lv_topi (fun y_1 e_1 => ?_)
  obtain rfl : y_1 = 2 := e_1.trans (by decide)
  refine lv_iload_n hx hb dX10_readChain_15 rfl (lv_at hl 2 rfl) ?_
  have hPc := hP.sub (ws' := [(h0, Sum.inr (10, [Value.ref h1, Value.int n0_size, Value.int n0_place, Value.ref h2])), (h1, Sum.inl (cint, 120, Sum.inl f1)), (h2, Sum.inr (4, [Value.ref h3, Value.int n2_size, Value.ref h4, Value.ref h5, Value.int n2_top])), (h3, Sum.inl (cint, 128, Sum.inl f3))]) [0, 1, 2, 3] rfl
  have hDc := hD.sub (ws' := [(h0, Sum.inr (10, [Value.ref h1, Value.int n0_size, Value.int n0_place, Value.ref h2])), (h1, Sum.inl (cint, 120, Sum.inl f1)), (h2, Sum.inr (4, [Value.ref h3, Value.int n2_size, Value.ref h4, Value.ref h5, Value.int n2_top])), (h3, Sum.inl (cint, 128, Sum.inl f3))]) [0, 1, 2, 3] (by decide) rfl
  have hKc := hK.sub (tys' := [(cint, .int)]) [0] rfl
  have hFc := va_free (wc := [(h0, Sum.inr (10, [Value.ref h1, Value.int n0_size, Value.int n0_place, Value.ref h2])), (h1, Sum.inl (cint, 120, Sum.inl f1)), (h2, Sum.inr (4, [Value.ref h3, Value.int n2_size, Value.ref h4, Value.ref h5, Value.int n2_top])), (h3, Sum.inl (cint, 128, Sum.inl f3))]) hD hS hA [0, 1, 2, 3] rfl
  refine va_calli (va_runV (As := [.int 2, .int 2]) (rest := []) ⟨hx, hb, hml, hown, hts⟩ (g_X10_readChain_27 l dC dI h0 h1 h2 h3 h4 h5 cint s.heap.size n0_size n0_place f1 n2_size n2_top f3 tn0_size bf1 tn2_size tn2_top aNAMES) (cwV 2 hts gX10_readChain_X10_readChain rfl rfl rfl (by decide +kernel) ⟨Nat.le_of_ble_eq_true rfl, Nat.le_of_ble_eq_true rfl⟩) ⟨fun a U g mk q => by obtain ⟨q0, q1, qP, qK, qD, qx0, qx1⟩ := q; exact ⟨q0, q1, qP, va_K.moved (u := U) (U := U.calling g mk a) (Vm.Alike.refl U.vm) qK, qD, va_Z.moved (u := U) (U := U.calling g mk a) (Vm.Alike.refl U.vm) qx0, va_T.moved (u := U) (U := U.calling g mk a) (Vm.Alike.refl U.vm) qx1⟩, va_recv hKc hPc (ci := 10) (q0 := 0) rfl rfl, fun U hU hW => ⟨rfl, by rw [hU], by rw [hU]; exact hPc, va_K.moved hW.alike hKc, hDc.weaken (fun _ _ _ _ => trivial), by rw [hU]; exact ((hZNAMES.kept (fun a h1 h2 => hS.2.1 a h1 h2)).narrow hFc).moved hW.alike, by rw [hU]; exact ((hTNAMES.kept (fun a h1 h2 => hS.2.1 a h1 h2)).narrow hFc).moved hW.alike⟩⟩ rfl rfl hl.1 rfl (lv_room (Nat.le_of_ble_eq_true rfl)) dX10_readChain_16 ⟨Nat.le_of_ble_eq_true rfl, Nat.le_of_ble_eq_true rfl⟩) hS (fun q _ h => hFc q h) hFc (fun r_2 u t H1 locs ht hvm hw hB hz1 hk1 hS => ?_)
  obtain ⟨y_3, y_4, f_5, by_4, hP1, hK1, hD1⟩ := hB
  rw [ht] at hP1
  have hK1 := va_K.moved hvm.symm hK1
  obtain ⟨hP, hD⟩ := va_join (wr := []) (w1 := [(h0, Sum.inr (10, [Value.ref h1, Value.int n0_size, Value.int y_3, Value.ref h2])), (h1, Sum.inl (cint, 120, Sum.inl f1)), (h2, Sum.inr (4, [Value.ref h3, Value.int y_4, Value.ref h4, Value.ref h5, Value.int n2_top])), (h3, Sum.inl (cint, 128, Sum.inl f_5))]) hP hD [0, 1, 2, 3] [] rfl rfl (by decide) (by decide) hk1 hFc hP1 hD1
  generalize H1 = H at hP hS ⊢
  have hP : va_P (dC, dI) vwCl [(h0, Sum.inr (10, [Value.ref h1, Value.int n0_size, Value.int y_3, Value.ref h2])), (h1, Sum.inl (cint, 120, Sum.inl f1)), (h2, Sum.inr (4, [Value.ref h3, Value.int y_4, Value.ref h4, Value.ref h5, Value.int n2_top])), (h3, Sum.inl (cint, 128, Sum.inl f_5))] H := hP
  have hD : va_D A [(h0, Sum.inr (10, [Value.ref h1, Value.int n0_size, Value.int y_3, Value.ref h2])), (h1, Sum.inl (cint, 120, Sum.inl f1)), (h2, Sum.inr (4, [Value.ref h3, Value.int y_4, Value.ref h4, Value.ref h5, Value.int n2_top])), (h3, Sum.inl (cint, 128, Sum.inl f_5))] := hD
  have t_2 : 0 ≤ r_2.toInt ∧ r_2.toInt ≤ 1 := hw
  refine lv_if_ne (tgt := 24) hx hb dX10_readChain_19 (by decide) (fun c_6 => ?_) (fun c_6 => ?_)
  · have t_6 : r_2.toInt ≠ 0 := kk_ne c_6
    refine lv_iconst (v := 0) hx hb dX10_readChain_24 (by decide) ?_
    refine lv_istore_n (lv' := [(3, .int 0), (0, .ref h0), (1, .int 1), (2, .int 2)]) hx hb dX10_readChain_25 rfl hl (by decide) rfl (fun ls hl => ?_)
    refine kk_loop (σ := Int32 × Int32 × Int32 × (Nat → Int32)) (fun x H locs ls => (0 ≤ x.1.toInt ∧ x.1.toInt ≤ 120) ∧ (0 ≤ x.2.2.1.toInt ∧ x.2.2.1.toInt ≤ 128) ∧ va_P (dC, dI) vwCl [(h0, Sum.inr (10, [Value.ref h1, Value.int n0_size, Value.int x.2.1, Value.ref h2])), (h1, Sum.inl (cint, 120, Sum.inl f1)), (h2, Sum.inr (4, [Value.ref h3, Value.int x.2.2.1, Value.ref h4, Value.ref h5, Value.int n2_top])), (h3, Sum.inl (cint, 128, Sum.inl x.2.2.2))] H ∧ va_D A [(h0, Sum.inr (10, [Value.ref h1, Value.int n0_size, Value.int x.2.1, Value.ref h2])), (h1, Sum.inl (cint, 120, Sum.inl f1)), (h2, Sum.inr (4, [Value.ref h3, Value.int x.2.2.1, Value.ref h4, Value.ref h5, Value.int n2_top])), (h3, Sum.inl (cint, 128, Sum.inl x.2.2.2))] ∧ va_S A s.heap H locs ∧ lv_has ls 5 [(3, .int x.1), (0, .ref h0), (1, .int 1), (2, .int 2)]) (fun x => ((120 : Int) - x.1.toInt).toNat) ?_ (0, y_3, y_4, f_5) _ _ _ ⟨(by show 0 ≤ (0 : Int32).toInt ∧ (0 : Int32).toInt ≤ 120; first | decide | (constructor <;> (omega))), (by show 0 ≤ (y_4 : Int32).toInt ∧ (y_4 : Int32).toInt ≤ 128; first | decide | (constructor <;> (omega))), hP, hD, hS, hl⟩
    rintro ⟨i_7_0, i_7_1, i_7_2, f_7_3⟩ H locs ls ⟨t_7_0, t_7_2, hP, hD, hS, hl⟩ ih_7
    have t_7_0 : (0 ≤ i_7_0.toInt ∧ i_7_0.toInt ≤ 120) := t_7_0
    have t_7_2 : (0 ≤ i_7_2.toInt ∧ i_7_2.toInt ≤ 128) := t_7_2
    have hl : lv_has ls 5 [(3, .int i_7_0), (0, .ref h0), (1, .int 1), (2, .int 2)] := hl
    have hP : va_P (dC, dI) vwCl [(h0, Sum.inr (10, [Value.ref h1, Value.int n0_size, Value.int i_7_1, Value.ref h2])), (h1, Sum.inl (cint, 120, Sum.inl f1)), (h2, Sum.inr (4, [Value.ref h3, Value.int i_7_2, Value.ref h4, Value.ref h5, Value.int n2_top])), (h3, Sum.inl (cint, 128, Sum.inl f_7_3))] H := hP
    have hD : va_D A [(h0, Sum.inr (10, [Value.ref h1, Value.int n0_size, Value.int i_7_1, Value.ref h2])), (h1, Sum.inl (cint, 120, Sum.inl f1)), (h2, Sum.inr (4, [Value.ref h3, Value.int i_7_2, Value.ref h4, Value.ref h5, Value.int n2_top])), (h3, Sum.inl (cint, 128, Sum.inl f_7_3))] := hD
    refine lv_iload_n hx hb dX10_readChain_26 rfl (lv_at hl 0 rfl) ?_
    refine lv_bipush (v := 120) hx hb dX10_readChain_27 (by decide) ?_
    refine lv_icmp_ge (tgt := 94) hx hb dX10_readChain_29 (by decide) (fun c_119 => ?_) (fun c_119 => ?_)
    · have t_119 : 120 ≤ i_7_0.toInt := kk_le c_119
      refine lv_iconst (v := 1) hx hb dX10_readChain_94 (by decide) ?_
      have hP9 := hP.sub (ws' := [(h0, Sum.inr (10, [Value.ref h1, Value.int n0_size, Value.int i_7_1, Value.ref h2])), (h1, Sum.inl (cint, 120, Sum.inl f1)), (h2, Sum.inr (4, [Value.ref h3, Value.int i_7_2, Value.ref h4, Value.ref h5, Value.int n2_top])), (h3, Sum.inl (cint, 128, Sum.inl f_7_3))]) [0, 1, 2, 3] rfl
      have hD9 := hD.sub (ws' := [(h0, Sum.inr (10, [Value.ref h1, Value.int n0_size, Value.int i_7_1, Value.ref h2])), (h1, Sum.inl (cint, 120, Sum.inl f1)), (h2, Sum.inr (4, [Value.ref h3, Value.int i_7_2, Value.ref h4, Value.ref h5, Value.int n2_top])), (h3, Sum.inl (cint, 128, Sum.inl f_7_3))]) [0, 1, 2, 3] (by decide) rfl
      have hK9 := hK.sub (tys' := []) [] rfl
      exact W.zret (v := 1) hx hb hr rfl (fun t ht hW => ⟨⟨1, (), rfl, (by show 0 ≤ (1 : Int32).toInt ∧ (1 : Int32).toInt ≤ 1; first | decide | (constructor <;> (omega))), i_7_1, i_7_2, f_7_3, (by show 0 ≤ (i_7_2 : Int32).toInt ∧ (i_7_2 : Int32).toInt ≤ 128; first | decide | (constructor <;> (omega))), by rw [ht]; exact hP9, va_K.moved hW.alike hK9, hD9⟩, hS.F ht⟩) hS.2.2 dX10_readChain_95
    · have t_119 : i_7_0.toInt < 120 := kk_nle c_119
      refine lv_iload_n hx hb dX10_readChain_32 rfl (lv_at hl 2 rfl) ?_
      refine lv_aload_n hx hb dX10_readChain_33 rfl (lv_at hl 1 rfl) ?_
      have hPc := hP.sub (ws' := [(h0, Sum.inr (10, [Value.ref h1, Value.int n0_size, Value.int i_7_1, Value.ref h2])), (h1, Sum.inl (cint, 120, Sum.inl f1))]) [0, 1] rfl
      have hDc := hD.sub (ws' := [(h0, Sum.inr (10, [Value.ref h1, Value.int n0_size, Value.int i_7_1, Value.ref h2])), (h1, Sum.inl (cint, 120, Sum.inl f1))]) [0, 1] (by decide) rfl
      have hKc := hK.sub (tys' := [(cint, .int)]) [0] rfl
      have hFc := va_free (wc := [(h0, Sum.inr (10, [Value.ref h1, Value.int n0_size, Value.int i_7_1, Value.ref h2])), (h1, Sum.inl (cint, 120, Sum.inl f1))]) hD hS hA [0, 1] rfl
      refine va_calli (va_runV (As := []) (rest := [.int 1]) ⟨hx, hb, hml, hown, hts⟩ (g_X10_next_0 l dC dI h0 h1 h2 cint H.size n0_size i_7_1 f1 tn0_size bf1) (cwV 0 hts gX10_readChain_X10_next rfl rfl rfl (by decide +kernel) ⟨Nat.le_of_ble_eq_true rfl, Nat.le_of_ble_eq_true rfl⟩) ⟨fun a U g mk q => by obtain ⟨q0, q1, qP, qK, qD⟩ := q; exact ⟨q0, q1, qP, va_K.moved (u := U) (U := U.calling g mk a) (Vm.Alike.refl U.vm) qK, qD⟩, va_recv hKc hPc (ci := 10) (q0 := 0) rfl rfl, fun U hU hW => ⟨rfl, by rw [hU], by rw [hU]; exact hPc, va_K.moved hW.alike hKc, hDc.weaken (fun _ _ _ _ => trivial)⟩⟩ rfl rfl hl.1 rfl (lv_room (Nat.le_of_ble_eq_true rfl)) dX10_readChain_34 ⟨Nat.le_of_ble_eq_true rfl, Nat.le_of_ble_eq_true rfl⟩) hS (fun q _ h => hFc q h) hFc (fun r_120 u t H1 locs ht hvm hw hB hz1 hk1 hS => ?_)
      obtain ⟨hP1, hK1, hD1⟩ := hB
      rw [ht] at hP1
      have hK1 := va_K.moved hvm.symm hK1
      obtain ⟨hP, hD⟩ := va_join (wr := [(h2, Sum.inr (4, [Value.ref h3, Value.int i_7_2, Value.ref h4, Value.ref h5, Value.int n2_top])), (h3, Sum.inl (cint, 128, Sum.inl f_7_3))]) (w1 := [(h0, Sum.inr (10, [Value.ref h1, Value.int n0_size, Value.int i_7_1, Value.ref h2])), (h1, Sum.inl (cint, 120, Sum.inl f1))]) hP hD [0, 1] [2, 3] rfl rfl (by decide) (by decide) hk1 hFc hP1 hD1
      generalize H1 = H at hP hS ⊢
      have hP : va_P (dC, dI) vwCl [(h2, Sum.inr (4, [Value.ref h3, Value.int i_7_2, Value.ref h4, Value.ref h5, Value.int n2_top])), (h3, Sum.inl (cint, 128, Sum.inl f_7_3)), (h0, Sum.inr (10, [Value.ref h1, Value.int n0_size, Value.int i_7_1, Value.ref h2])), (h1, Sum.inl (cint, 120, Sum.inl f1))] H := hP
      have hD : va_D A [(h2, Sum.inr (4, [Value.ref h3, Value.int i_7_2, Value.ref h4, Value.ref h5, Value.int n2_top])), (h3, Sum.inl (cint, 128, Sum.inl f_7_3)), (h0, Sum.inr (10, [Value.ref h1, Value.int n0_size, Value.int i_7_1, Value.ref h2])), (h1, Sum.inl (cint, 120, Sum.inl f1))] := hD
      have t_120 : (-1) ≤ r_120.toInt ∧ r_120.toInt ≤ 255 := hw
      have hPc := hP.sub (ws' := []) [] rfl
      have hDc := hD.sub (ws' := []) [] (by decide) rfl
      have hKc := hK.sub (tys' := []) [] rfl
      have hFc := va_free (wc := []) hD hS hA [] rfl
      refine va_calli (va_runS (As := [.int 1, .int r_120]) (rest := []) ⟨hx, hb, hml, hown, hts⟩ (g_X10_joins_3 l dC dI H.size r_120) (va_cwS 2 hts gX10_readChain_X10_joins rfl rfl rfl (by decide +kernel) ⟨Nat.le_of_ble_eq_true rfl, Nat.le_of_ble_eq_true rfl⟩) ⟨fun a U g mk q => by obtain ⟨q0, q1, qP, qK, qD⟩ := q; exact ⟨q0, q1, qP, va_K.moved (u := U) (U := U.calling g mk a) (Vm.Alike.refl U.vm) qK, qD⟩, fun U hU hW => ⟨rfl, by rw [hU], by rw [hU]; exact hPc, va_K.moved hW.alike hKc, hDc.weaken (fun _ _ _ _ => trivial)⟩⟩ rfl rfl hl.1 rfl (lv_room (Nat.le_of_ble_eq_true rfl)) dX10_readChain_37 ⟨Nat.le_of_ble_eq_true rfl, Nat.le_of_ble_eq_true rfl⟩) hS (fun q _ h => hFc q h) hFc (fun r_121 u t H1 locs ht hvm hw hB hz1 hk1 hS => ?_)
      obtain ⟨hP1, hK1, hD1⟩ := hB
      rw [ht] at hP1
      have hK1 := va_K.moved hvm.symm hK1
      obtain ⟨hP, hD⟩ := va_join (wr := [(h2, Sum.inr (4, [Value.ref h3, Value.int i_7_2, Value.ref h4, Value.ref h5, Value.int n2_top])), (h3, Sum.inl (cint, 128, Sum.inl f_7_3)), (h0, Sum.inr (10, [Value.ref h1, Value.int n0_size, Value.int i_7_1, Value.ref h2])), (h1, Sum.inl (cint, 120, Sum.inl f1))]) (w1 := []) hP hD [] [0, 1, 2, 3] rfl rfl (by decide) (by decide) hk1 hFc hP1 hD1
      generalize H1 = H at hP hS ⊢
      have hP : va_P (dC, dI) vwCl [(h2, Sum.inr (4, [Value.ref h3, Value.int i_7_2, Value.ref h4, Value.ref h5, Value.int n2_top])), (h3, Sum.inl (cint, 128, Sum.inl f_7_3)), (h0, Sum.inr (10, [Value.ref h1, Value.int n0_size, Value.int i_7_1, Value.ref h2])), (h1, Sum.inl (cint, 120, Sum.inl f1))] H := hP
      have hD : va_D A [(h2, Sum.inr (4, [Value.ref h3, Value.int i_7_2, Value.ref h4, Value.ref h5, Value.int n2_top])), (h3, Sum.inl (cint, 128, Sum.inl f_7_3)), (h0, Sum.inr (10, [Value.ref h1, Value.int n0_size, Value.int i_7_1, Value.ref h2])), (h1, Sum.inl (cint, 120, Sum.inl f1))] := hD
      have t_121 : 0 ≤ r_121.toInt ∧ r_121.toInt ≤ 1 := hw
      refine lv_if_eq (tgt := 94) hx hb dX10_readChain_40 (by decide) (fun c_122 => ?_) (fun c_122 => ?_)
      · have t_122 : r_121.toInt = 0 := kk_eq c_122
        refine lv_iconst (v := 1) hx hb dX10_readChain_94 (by decide) ?_
        have hP9 := hP.sub (ws' := [(h0, Sum.inr (10, [Value.ref h1, Value.int n0_size, Value.int i_7_1, Value.ref h2])), (h1, Sum.inl (cint, 120, Sum.inl f1)), (h2, Sum.inr (4, [Value.ref h3, Value.int i_7_2, Value.ref h4, Value.ref h5, Value.int n2_top])), (h3, Sum.inl (cint, 128, Sum.inl f_7_3))]) [2, 3, 0, 1] rfl
        have hD9 := hD.sub (ws' := [(h0, Sum.inr (10, [Value.ref h1, Value.int n0_size, Value.int i_7_1, Value.ref h2])), (h1, Sum.inl (cint, 120, Sum.inl f1)), (h2, Sum.inr (4, [Value.ref h3, Value.int i_7_2, Value.ref h4, Value.ref h5, Value.int n2_top])), (h3, Sum.inl (cint, 128, Sum.inl f_7_3))]) [2, 3, 0, 1] (by decide) rfl
        have hK9 := hK.sub (tys' := []) [] rfl
        exact W.zret (v := 1) hx hb hr rfl (fun t ht hW => ⟨⟨1, (), rfl, (by show 0 ≤ (1 : Int32).toInt ∧ (1 : Int32).toInt ≤ 1; first | decide | (constructor <;> (omega))), i_7_1, i_7_2, f_7_3, (by show 0 ≤ (i_7_2 : Int32).toInt ∧ (i_7_2 : Int32).toInt ≤ 128; first | decide | (constructor <;> (omega))), by rw [ht]; exact hP9, va_K.moved hW.alike hK9, hD9⟩, hS.F ht⟩) hS.2.2 dX10_readChain_95
      · have t_122 : r_121.toInt ≠ 0 := kk_ne c_122
        refine lv_aload_n hx hb dX10_readChain_43 rfl (lv_at hl 1 rfl) ?_
        have hPc := hP.sub (ws' := [(h0, Sum.inr (10, [Value.ref h1, Value.int n0_size, Value.int i_7_1, Value.ref h2])), (h1, Sum.inl (cint, 120, Sum.inl f1))]) [2, 3] rfl
        have hDc := hD.sub (ws' := [(h0, Sum.inr (10, [Value.ref h1, Value.int n0_size, Value.int i_7_1, Value.ref h2])), (h1, Sum.inl (cint, 120, Sum.inl f1))]) [2, 3] (by decide) rfl
        have hKc := hK.sub (tys' := [(cint, .int)]) [0] rfl
        have hFc := va_free (wc := [(h0, Sum.inr (10, [Value.ref h1, Value.int n0_size, Value.int i_7_1, Value.ref h2])), (h1, Sum.inl (cint, 120, Sum.inl f1))]) hD hS hA [2, 3] rfl
        refine va_calli (va_runV (As := []) (rest := []) ⟨hx, hb, hml, hown, hts⟩ (g_X10_next_0 l dC dI h0 h1 h2 cint H.size n0_size i_7_1 f1 tn0_size bf1) (cwV 0 hts gX10_readChain_X10_next rfl rfl rfl (by decide +kernel) ⟨Nat.le_of_ble_eq_true rfl, Nat.le_of_ble_eq_true rfl⟩) ⟨fun a U g mk q => by obtain ⟨q0, q1, qP, qK, qD⟩ := q; exact ⟨q0, q1, qP, va_K.moved (u := U) (U := U.calling g mk a) (Vm.Alike.refl U.vm) qK, qD⟩, va_recv hKc hPc (ci := 10) (q0 := 0) rfl rfl, fun U hU hW => ⟨rfl, by rw [hU], by rw [hU]; exact hPc, va_K.moved hW.alike hKc, hDc.weaken (fun _ _ _ _ => trivial)⟩⟩ rfl rfl hl.1 rfl (lv_room (Nat.le_of_ble_eq_true rfl)) dX10_readChain_44 ⟨Nat.le_of_ble_eq_true rfl, Nat.le_of_ble_eq_true rfl⟩) hS (fun q _ h => hFc q h) hFc (fun r_123 u t H1 locs ht hvm hw hB hz1 hk1 hS => ?_)
        obtain ⟨hP1, hK1, hD1⟩ := hB
        rw [ht] at hP1
        have hK1 := va_K.moved hvm.symm hK1
        obtain ⟨hP, hD⟩ := va_join (wr := [(h2, Sum.inr (4, [Value.ref h3, Value.int i_7_2, Value.ref h4, Value.ref h5, Value.int n2_top])), (h3, Sum.inl (cint, 128, Sum.inl f_7_3))]) (w1 := [(h0, Sum.inr (10, [Value.ref h1, Value.int n0_size, Value.int i_7_1, Value.ref h2])), (h1, Sum.inl (cint, 120, Sum.inl f1))]) hP hD [2, 3] [0, 1] rfl rfl (by decide) (by decide) hk1 hFc hP1 hD1
        generalize H1 = H at hP hS ⊢
        have hP : va_P (dC, dI) vwCl [(h2, Sum.inr (4, [Value.ref h3, Value.int i_7_2, Value.ref h4, Value.ref h5, Value.int n2_top])), (h3, Sum.inl (cint, 128, Sum.inl f_7_3)), (h0, Sum.inr (10, [Value.ref h1, Value.int n0_size, Value.int i_7_1, Value.ref h2])), (h1, Sum.inl (cint, 120, Sum.inl f1))] H := hP
        have hD : va_D A [(h2, Sum.inr (4, [Value.ref h3, Value.int i_7_2, Value.ref h4, Value.ref h5, Value.int n2_top])), (h3, Sum.inl (cint, 128, Sum.inl f_7_3)), (h0, Sum.inr (10, [Value.ref h1, Value.int n0_size, Value.int i_7_1, Value.ref h2])), (h1, Sum.inl (cint, 120, Sum.inl f1))] := hD
        have t_123 : (-1) ≤ r_123.toInt ∧ r_123.toInt ≤ 255 := hw
        refine lv_istore (lv' := [(4, .int r_123), (3, .int i_7_0), (0, .ref h0), (1, .int 1), (2, .int 2)]) hx hb dX10_readChain_47 hl (by decide) rfl (fun ls hl => ?_)
        refine lv_aload_n hx hb dX10_readChain_49 rfl (lv_at hl 2 rfl) ?_
        refine lv_dup hx hb dX10_readChain_50 rfl ?_
        refine va_get (D := (dC, dI)) (ci := 10) (v := .int i_7_1) (C := RX10) (T := TX10) (N := 4) hx hb hts (fun _ h => List.mem_cons_of_mem _ (List.mem_append_left _ (List.mem_append_right _ h))) hown hK hP 2 rfl rfl 2 (by decide) (hts (.fieldLink RX10 17 "KinkStreet$Tape" "place" "I") (List.mem_of_getElem? (i := 1) rfl)) (fun _ h9 => h9) rfl dX10_readChain_51 ?_
        refine lv_iconst (v := 1) hx hb dX10_readChain_54 (by decide) ?_
        refine lv_iadd hx hb dX10_readChain_55 ?_
        refine va_put (D := (dC, dI)) (ci := 10) (v := .int (i_7_1 + 1)) (ty := .int) (C := RX10) (T := TX10) (N := 4) hx hb hts (fun _ h => List.mem_cons_of_mem _ (List.mem_append_left _ (List.mem_append_right _ h))) tyX10 tyX10_ok nmX10 hown hK hP hD hS 2 rfl rfl 2 (by decide) (hts (.fieldLink RX10 17 "KinkStreet$Tape" "place" "I") (List.mem_of_getElem? (i := 1) rfl)) (fun _ h9 => h9) rfl (by decide +kernel) rfl rfl (Nat.le_of_ble_eq_true rfl) dX10_readChain_56 (fun H locs hP hD hS => ?_)
        have hP : va_P (dC, dI) vwCl [(h2, Sum.inr (4, [Value.ref h3, Value.int i_7_2, Value.ref h4, Value.ref h5, Value.int n2_top])), (h3, Sum.inl (cint, 128, Sum.inl f_7_3)), (h0, Sum.inr (10, [Value.ref h1, Value.int n0_size, Value.int (i_7_1 + 1), Value.ref h2])), (h1, Sum.inl (cint, 120, Sum.inl f1))] H := hP
        have hD : va_D A [(h2, Sum.inr (4, [Value.ref h3, Value.int i_7_2, Value.ref h4, Value.ref h5, Value.int n2_top])), (h3, Sum.inl (cint, 128, Sum.inl f_7_3)), (h0, Sum.inr (10, [Value.ref h1, Value.int n0_size, Value.int (i_7_1 + 1), Value.ref h2])), (h1, Sum.inl (cint, 120, Sum.inl f1))] := hD
        refine lv_aload_n hx hb dX10_readChain_59 rfl (lv_at hl 2 rfl) ?_
        refine lv_iload_n hx hb dX10_readChain_60 rfl (lv_at hl 3 rfl) ?_
        refine lv_iconst (v := 1) hx hb dX10_readChain_61 (by decide) ?_
        refine lv_iadd hx hb dX10_readChain_62 ?_
        refine lv_topi (fun y_124 e_124 => ?_)
        obtain rfl : y_124 = 2 := e_124.trans (by decide)
        refine lv_iload_n hx hb dX10_readChain_63 rfl (lv_at hl 4 rfl) ?_
        have hPc := hP.sub (ws' := [(h0, Sum.inr (10, [Value.ref h1, Value.int n0_size, Value.int (i_7_1 + 1), Value.ref h2])), (h1, Sum.inl (cint, 120, Sum.inl f1)), (h2, Sum.inr (4, [Value.ref h3, Value.int i_7_2, Value.ref h4, Value.ref h5, Value.int n2_top])), (h3, Sum.inl (cint, 128, Sum.inl f_7_3))]) [2, 3, 0, 1] rfl
        have hDc := hD.sub (ws' := [(h0, Sum.inr (10, [Value.ref h1, Value.int n0_size, Value.int (i_7_1 + 1), Value.ref h2])), (h1, Sum.inl (cint, 120, Sum.inl f1)), (h2, Sum.inr (4, [Value.ref h3, Value.int i_7_2, Value.ref h4, Value.ref h5, Value.int n2_top])), (h3, Sum.inl (cint, 128, Sum.inl f_7_3))]) [2, 3, 0, 1] (by decide) rfl
        have hKc := hK.sub (tys' := [(cint, .int)]) [0] rfl
        have hFc := va_free (wc := [(h0, Sum.inr (10, [Value.ref h1, Value.int n0_size, Value.int (i_7_1 + 1), Value.ref h2])), (h1, Sum.inl (cint, 120, Sum.inl f1)), (h2, Sum.inr (4, [Value.ref h3, Value.int i_7_2, Value.ref h4, Value.ref h5, Value.int n2_top])), (h3, Sum.inl (cint, 128, Sum.inl f_7_3))]) hD hS hA [2, 3, 0, 1] rfl
        refine va_calli (va_runV (As := [.int 2, .int 2]) (rest := []) ⟨hx, hb, hml, hown, hts⟩ (g_X10_readChain_27 l dC dI h0 h1 h2 h3 h4 h5 cint H.size n0_size (i_7_1 + 1) f1 i_7_2 n2_top f_7_3 tn0_size bf1 (by show 0 ≤ (i_7_2 : Int32).toInt ∧ (i_7_2 : Int32).toInt ≤ 128; first | decide | (constructor <;> (omega))) tn2_top aNAMES) (cwV 2 hts gX10_readChain_X10_readChain rfl rfl rfl (by decide +kernel) ⟨Nat.le_of_ble_eq_true rfl, Nat.le_of_ble_eq_true rfl⟩) ⟨fun a U g mk q => by obtain ⟨q0, q1, qP, qK, qD, qx0, qx1⟩ := q; exact ⟨q0, q1, qP, va_K.moved (u := U) (U := U.calling g mk a) (Vm.Alike.refl U.vm) qK, qD, va_Z.moved (u := U) (U := U.calling g mk a) (Vm.Alike.refl U.vm) qx0, va_T.moved (u := U) (U := U.calling g mk a) (Vm.Alike.refl U.vm) qx1⟩, va_recv hKc hPc (ci := 10) (q0 := 0) rfl rfl, fun U hU hW => ⟨rfl, by rw [hU], by rw [hU]; exact hPc, va_K.moved hW.alike hKc, hDc.weaken (fun _ _ _ _ => trivial), by rw [hU]; exact ((hZNAMES.kept (fun a h1 h2 => hS.2.1 a h1 h2)).narrow hFc).moved hW.alike, by rw [hU]; exact ((hTNAMES.kept (fun a h1 h2 => hS.2.1 a h1 h2)).narrow hFc).moved hW.alike⟩⟩ rfl rfl hl.1 rfl (lv_room (Nat.le_of_ble_eq_true rfl)) dX10_readChain_64 ⟨Nat.le_of_ble_eq_true rfl, Nat.le_of_ble_eq_true rfl⟩) hS (fun q _ h => hFc q h) hFc (fun r_125 u t H1 locs ht hvm hw hB hz1 hk1 hS => ?_)
        obtain ⟨y_126, y_127, f_128, by_127, hP1, hK1, hD1⟩ := hB
        rw [ht] at hP1
        have hK1 := va_K.moved hvm.symm hK1
        obtain ⟨hP, hD⟩ := va_join (wr := []) (w1 := [(h0, Sum.inr (10, [Value.ref h1, Value.int n0_size, Value.int y_126, Value.ref h2])), (h1, Sum.inl (cint, 120, Sum.inl f1)), (h2, Sum.inr (4, [Value.ref h3, Value.int y_127, Value.ref h4, Value.ref h5, Value.int n2_top])), (h3, Sum.inl (cint, 128, Sum.inl f_128))]) hP hD [2, 3, 0, 1] [] rfl rfl (by decide) (by decide) hk1 hFc hP1 hD1
        generalize H1 = H at hP hS ⊢
        have hP : va_P (dC, dI) vwCl [(h0, Sum.inr (10, [Value.ref h1, Value.int n0_size, Value.int y_126, Value.ref h2])), (h1, Sum.inl (cint, 120, Sum.inl f1)), (h2, Sum.inr (4, [Value.ref h3, Value.int y_127, Value.ref h4, Value.ref h5, Value.int n2_top])), (h3, Sum.inl (cint, 128, Sum.inl f_128))] H := hP
        have hD : va_D A [(h0, Sum.inr (10, [Value.ref h1, Value.int n0_size, Value.int y_126, Value.ref h2])), (h1, Sum.inl (cint, 120, Sum.inl f1)), (h2, Sum.inr (4, [Value.ref h3, Value.int y_127, Value.ref h4, Value.ref h5, Value.int n2_top])), (h3, Sum.inl (cint, 128, Sum.inl f_128))] := hD
        have t_125 : 0 ≤ r_125.toInt ∧ r_125.toInt ≤ 1 := hw
        refine lv_if_ne (tgt := 72) hx hb dX10_readChain_67 (by decide) (fun c_129 => ?_) (fun c_129 => ?_)
        · have t_129 : r_125.toInt ≠ 0 := kk_ne c_129
          refine lv_aload_n hx hb dX10_readChain_72 rfl (lv_at hl 2 rfl) ?_
          refine va_get (D := (dC, dI)) (ci := 10) (v := .ref h2) (C := RX10) (T := TX10) (N := 4) hx hb hts (fun _ h => List.mem_cons_of_mem _ (List.mem_append_left _ (List.mem_append_right _ h))) hown hK hP 0 rfl rfl 3 (by decide) (hts (.fieldLink RX10 20 "KinkStreet$Tape" "law" "LKinkStreet$Law;") (List.mem_of_getElem? (i := 2) rfl)) (fun _ h9 => h9) rfl dX10_readChain_73 ?_
          refine lv_iload hx hb dX10_readChain_76 (lv_at hl 0 rfl) ?_
          have hPc := hP.sub (ws' := [(h2, Sum.inr (4, [Value.ref h3, Value.int y_127, Value.ref h4, Value.ref h5, Value.int n2_top])), (h3, Sum.inl (cint, 128, Sum.inl f_128))]) [2, 3] rfl
          have hDc := hD.sub (ws' := [(h2, Sum.inr (4, [Value.ref h3, Value.int y_127, Value.ref h4, Value.ref h5, Value.int n2_top])), (h3, Sum.inl (cint, 128, Sum.inl f_128))]) [2, 3] (by decide) rfl
          have hKc := hK.sub (tys' := [(cint, .int)]) [0] rfl
          have hFc := va_free (wc := [(h2, Sum.inr (4, [Value.ref h3, Value.int y_127, Value.ref h4, Value.ref h5, Value.int n2_top])), (h3, Sum.inl (cint, 128, Sum.inl f_128))]) hD hS hA [2, 3] rfl
          refine va_callv (va_runV (As := [.int r_123]) (rest := []) ⟨hx, hb, hml, hown, hts⟩ (g_X4_append_0 l dC dI h2 h3 h4 h5 cint H.size r_123 y_127 n2_top f_128 (by show 0 ≤ (y_127 : Int32).toInt ∧ (y_127 : Int32).toInt ≤ 128; first | decide | (constructor <;> (omega))) tn2_top) (cwV 1 hts gX10_readChain_X4_append rfl rfl rfl (by decide +kernel) ⟨Nat.le_of_ble_eq_true rfl, Nat.le_of_ble_eq_true rfl⟩) ⟨fun a U g mk q => by obtain ⟨q0, q1, qP, qK, qD⟩ := q; exact ⟨q0, q1, qP, va_K.moved (u := U) (U := U.calling g mk a) (Vm.Alike.refl U.vm) qK, qD⟩, va_recv hKc hPc (ci := 4) (q0 := 0) rfl rfl, fun U hU hW => ⟨rfl, by rw [hU], by rw [hU]; exact hPc, va_K.moved hW.alike hKc, hDc.weaken (fun _ _ _ _ => trivial)⟩⟩ rfl rfl hl.1 rfl (lv_room (Nat.le_of_ble_eq_true rfl)) dX10_readChain_78 ⟨Nat.le_of_ble_eq_true rfl, Nat.le_of_ble_eq_true rfl⟩) hS (fun q _ h => hFc q h) hFc (fun u t H1 locs ht hvm hw hB hz1 hk1 hS => ?_)
          obtain ⟨y_131, f_132, by_131, hP1, hK1, hD1⟩ := hB
          rw [ht] at hP1
          have hK1 := va_K.moved hvm.symm hK1
          obtain ⟨hP, hD⟩ := va_join (wr := [(h0, Sum.inr (10, [Value.ref h1, Value.int n0_size, Value.int y_126, Value.ref h2])), (h1, Sum.inl (cint, 120, Sum.inl f1))]) (w1 := [(h2, Sum.inr (4, [Value.ref h3, Value.int y_131, Value.ref h4, Value.ref h5, Value.int n2_top])), (h3, Sum.inl (cint, 128, Sum.inl f_132))]) hP hD [2, 3] [0, 1] rfl rfl (by decide) (by decide) hk1 hFc hP1 hD1
          generalize H1 = H at hP hS ⊢
          have hP : va_P (dC, dI) vwCl [(h0, Sum.inr (10, [Value.ref h1, Value.int n0_size, Value.int y_126, Value.ref h2])), (h1, Sum.inl (cint, 120, Sum.inl f1)), (h2, Sum.inr (4, [Value.ref h3, Value.int y_131, Value.ref h4, Value.ref h5, Value.int n2_top])), (h3, Sum.inl (cint, 128, Sum.inl f_132))] H := hP
          have hD : va_D A [(h0, Sum.inr (10, [Value.ref h1, Value.int n0_size, Value.int y_126, Value.ref h2])), (h1, Sum.inl (cint, 120, Sum.inl f1)), (h2, Sum.inr (4, [Value.ref h3, Value.int y_131, Value.ref h4, Value.ref h5, Value.int n2_top])), (h3, Sum.inl (cint, 128, Sum.inl f_132))] := hD
          refine lv_iload_n hx hb dX10_readChain_81 rfl (lv_at hl 3 rfl) ?_
          refine lv_iconst (v := 2) hx hb dX10_readChain_82 (by decide) ?_
          refine lv_icmp_ne (tgt := 88) hx hb dX10_readChain_83 (by decide) (fun _ => ?_) (fun c => absurd c (by decide))
          refine lv_iinc (v := (i_7_0 + 1)) (lv' := [(3, .int (i_7_0 + 1)), (4, .int r_123), (0, .ref h0), (1, .int 1), (2, .int 2)]) hx hb dX10_readChain_88 hl (k := 1) rfl (by first | rfl | decide) (by decide) rfl (fun ls hl => ?_)
          refine lv_goto (tgt := 26) hx hb dX10_readChain_91 (by decide) ?_
          exact ih_7 ((i_7_0 + 1), y_126, y_131, f_132) _ _ _ (by show ((120 : Int) - ((i_7_0 + 1)).toInt).toNat < ((120 : Int) - i_7_0.toInt).toNat; have := kk_add2 (x := i_7_0) (y := 1) (a := i_7_0.toInt) (b := 1) rfl rfl (by omega) (by omega); exact kk_mu (by omega) (by omega)) ⟨(by show 0 ≤ ((i_7_0 + 1) : Int32).toInt ∧ ((i_7_0 + 1) : Int32).toInt ≤ 120; first | decide | (constructor <;> (have := kk_add2 (x := i_7_0) (y := 1) (a := i_7_0.toInt) (b := 1) rfl rfl (by omega) (by omega); omega))), (by show 0 ≤ (y_131 : Int32).toInt ∧ (y_131 : Int32).toInt ≤ 128; first | decide | (constructor <;> (have := kk_add2 (x := i_7_0) (y := 1) (a := i_7_0.toInt) (b := 1) rfl rfl (by omega) (by omega); omega))), hP, hD, hS, lv_sub hl [0, 2, 3, 4] rfl⟩
        · have t_129 : r_125.toInt = 0 := kk_eq c_129
          refine lv_iconst (v := 0) hx hb dX10_readChain_70 (by decide) ?_
          have hP9 := hP.sub (ws' := [(h0, Sum.inr (10, [Value.ref h1, Value.int n0_size, Value.int y_126, Value.ref h2])), (h1, Sum.inl (cint, 120, Sum.inl f1)), (h2, Sum.inr (4, [Value.ref h3, Value.int y_127, Value.ref h4, Value.ref h5, Value.int n2_top])), (h3, Sum.inl (cint, 128, Sum.inl f_128))]) [0, 1, 2, 3] rfl
          have hD9 := hD.sub (ws' := [(h0, Sum.inr (10, [Value.ref h1, Value.int n0_size, Value.int y_126, Value.ref h2])), (h1, Sum.inl (cint, 120, Sum.inl f1)), (h2, Sum.inr (4, [Value.ref h3, Value.int y_127, Value.ref h4, Value.ref h5, Value.int n2_top])), (h3, Sum.inl (cint, 128, Sum.inl f_128))]) [0, 1, 2, 3] (by decide) rfl
          have hK9 := hK.sub (tys' := []) [] rfl
          exact W.zret (v := 0) hx hb hr rfl (fun t ht hW => ⟨⟨0, (), rfl, (by show 0 ≤ (0 : Int32).toInt ∧ (0 : Int32).toInt ≤ 1; first | decide | (constructor <;> (omega))), y_126, y_127, f_128, (by show 0 ≤ (y_127 : Int32).toInt ∧ (y_127 : Int32).toInt ≤ 128; first | decide | (constructor <;> (omega))), by rw [ht]; exact hP9, va_K.moved hW.alike hK9, hD9⟩, hS.F ht⟩) hS.2.2 dX10_readChain_71
  · have t_6 : r_2.toInt = 0 := kk_eq c_6
    refine lv_iconst (v := 0) hx hb dX10_readChain_22 (by decide) ?_
    have hP9 := hP.sub (ws' := [(h0, Sum.inr (10, [Value.ref h1, Value.int n0_size, Value.int y_3, Value.ref h2])), (h1, Sum.inl (cint, 120, Sum.inl f1)), (h2, Sum.inr (4, [Value.ref h3, Value.int y_4, Value.ref h4, Value.ref h5, Value.int n2_top])), (h3, Sum.inl (cint, 128, Sum.inl f_5))]) [0, 1, 2, 3] rfl
    have hD9 := hD.sub (ws' := [(h0, Sum.inr (10, [Value.ref h1, Value.int n0_size, Value.int y_3, Value.ref h2])), (h1, Sum.inl (cint, 120, Sum.inl f1)), (h2, Sum.inr (4, [Value.ref h3, Value.int y_4, Value.ref h4, Value.ref h5, Value.int n2_top])), (h3, Sum.inl (cint, 128, Sum.inl f_5))]) [0, 1, 2, 3] (by decide) rfl
    have hK9 := hK.sub (tys' := []) [] rfl
    exact W.zret (v := 0) hx hb hr rfl (fun t ht hW => ⟨⟨0, (), rfl, (by show 0 ≤ (0 : Int32).toInt ∧ (0 : Int32).toInt ≤ 1; first | decide | (constructor <;> (omega))), y_3, y_4, f_5, (by show 0 ≤ (y_4 : Int32).toInt ∧ (y_4 : Int32).toInt ≤ 128; first | decide | (constructor <;> (omega))), by rw [ht]; exact hP9, va_K.moved hW.alike hK9, hD9⟩, hS.F ht⟩) hS.2.2 dX10_readChain_23
set_option maxHeartbeats 4000000 in
set_option maxRecDepth 100000 in
theorem g_X10_readChain_29 (l : Launch) (dC : Nat → ClassId) (dI : Nat → Nat → Nat) (h0 : Nat) (h1 : Nat) (h2 : Nat) (h3 : Nat) (h4 : Nat) (h5 : Nat) (cint : ClassId) (sz : Nat) (n0_size : Int32) (n0_place : Int32) (f1 : Nat → Int32) (n2_size : Int32) (n2_top : Int32) (f3 : Nat → Int32) (tn0_size : 0 ≤ n0_size.toInt ∧ n0_size.toInt ≤ 120) (bf1 : ∀ j, j < 120 → 0 ≤ (f1 j).toInt ∧ (f1 j).toInt ≤ 255) (tn2_size : 0 ≤ n2_size.toInt ∧ n2_size.toInt ≤ 128) (tn2_top : 0 ≤ n2_top.toInt ∧ n2_top.toInt ≤ 64) (aNAMES : Nat) : Met l yX10_readChain wsX10_readChain ({ frames := 40, cells := 0, slots := 0, locals := 938 }) (va_Pc [.ref h0, .int 0, .int 2] (fun U => U.heap.size = sz ∧ va_P (dC, dI) vwCl [(h0, Sum.inr (10, [Value.ref h1, Value.int n0_size, Value.int n0_place, Value.ref h2])), (h1, Sum.inl (cint, 120, Sum.inl f1)), (h2, Sum.inr (4, [Value.ref h3, Value.int n2_size, Value.ref h4, Value.ref h5, Value.int n2_top])), (h3, Sum.inl (cint, 128, Sum.inl f3))] U.heap ∧ va_K (dC, dI) vwCl [(cint, .int)] U ∧ va_D (fun _ => True) [(h0, Sum.inr (10, [Value.ref h1, Value.int n0_size, Value.int n0_place, Value.ref h2])), (h1, Sum.inl (cint, 120, Sum.inl f1)), (h2, Sum.inr (4, [Value.ref h3, Value.int n2_size, Value.ref h4, Value.ref h5, Value.int n2_top])), (h3, Sum.inl (cint, 128, Sum.inl f3))] ∧ va_Z "KinkStreet$Law" "NAMES" "[C" (.ref aNAMES) (va_A [(h0, Sum.inr (10, [Value.ref h1, Value.int n0_size, Value.int n0_place, Value.ref h2])), (h1, Sum.inl (cint, 120, Sum.inl f1)), (h2, Sum.inr (4, [Value.ref h3, Value.int n2_size, Value.ref h4, Value.ref h5, Value.int n2_top])), (h3, Sum.inl (cint, 128, Sum.inl f3))] sz) U U.heap ∧ va_T .char aNAMES 8 tb_NAMES (va_A [(h0, Sum.inr (10, [Value.ref h1, Value.int n0_size, Value.int n0_place, Value.ref h2])), (h1, Sum.inl (cint, 120, Sum.inl f1)), (h2, Sum.inr (4, [Value.ref h3, Value.int n2_size, Value.ref h4, Value.ref h5, Value.int n2_top])), (h3, Sum.inl (cint, 128, Sum.inl f3))] sz) U U.heap)) (va_Qi (fun (r : Int32) (_ : Unit) => (0 ≤ r.toInt ∧ r.toInt ≤ 1)) (fun (_ : Unit) t => ∃ (m0_place : Int32) (m2_size : Int32) (g3 : Nat → Int32), (0 ≤ m2_size.toInt ∧ m2_size.toInt ≤ 128) ∧ va_P (dC, dI) vwCl [(h0, Sum.inr (10, [Value.ref h1, Value.int n0_size, Value.int m0_place, Value.ref h2])), (h1, Sum.inl (cint, 120, Sum.inl f1)), (h2, Sum.inr (4, [Value.ref h3, Value.int m2_size, Value.ref h4, Value.ref h5, Value.int n2_top])), (h3, Sum.inl (cint, 128, Sum.inl g3))] t.heap ∧ va_K (dC, dI) vwCl [] t ∧ va_D (va_A [(h0, Sum.inr (10, [Value.ref h1, Value.int n0_size, Value.int n0_place, Value.ref h2])), (h1, Sum.inl (cint, 120, Sum.inl f1)), (h2, Sum.inr (4, [Value.ref h3, Value.int n2_size, Value.ref h4, Value.ref h5, Value.int n2_top])), (h3, Sum.inl (cint, 128, Sum.inl f3))] sz) [(h0, Sum.inr (10, [Value.ref h1, Value.int n0_size, Value.int m0_place, Value.ref h2])), (h1, Sum.inl (cint, 120, Sum.inl f1)), (h2, Sum.inr (4, [Value.ref h3, Value.int m2_size, Value.ref h4, Value.ref h5, Value.int n2_top])), (h3, Sum.inl (cint, 128, Sum.inl g3))]) (va_A [(h0, Sum.inr (10, [Value.ref h1, Value.int n0_size, Value.int n0_place, Value.ref h2])), (h1, Sum.inl (cint, 120, Sum.inl f1)), (h2, Sum.inr (4, [Value.ref h3, Value.int n2_size, Value.ref h4, Value.ref h5, Value.int n2_top])), (h3, Sum.inl (cint, 128, Sum.inl f3))] sz)) 0 0 (va_A [(h0, Sum.inr (10, [Value.ref h1, Value.int n0_size, Value.int n0_place, Value.ref h2])), (h1, Sum.inl (cint, 120, Sum.inl f1)), (h2, Sum.inr (4, [Value.ref h3, Value.int n2_size, Value.ref h4, Value.ref h5, Value.int n2_top])), (h3, Sum.inl (cint, 128, Sum.inl f3))] sz) := by
  refine Met.ofW (cc := cX10_readChain) (maxL := 5) (ret := (some .boolean)) (by decide) rfl ?_
  intro p e s m args below meth c s₁ B hml hv
  obtain ⟨rfl, hsz, hP, hK, hD0, hZNAMES, hTNAMES⟩ := hv
  have hx := B.exec
  have hb := B.bytes
  have hr := B.returns
  have hts := atoms_spec (ws := wsX10_readChain) B.pre
  have hown : s.vm.findClass RX10 = some m.cls := findClass_of_methodNamed B.named
  have hlocks := B.notSynchronized
  subst hsz
  have hD := hD0.self (sz := s.heap.size)
  generalize hAe : va_A [(h0, Sum.inr (10, [Value.ref h1, Value.int n0_size, Value.int n0_place, Value.ref h2])), (h1, Sum.inl (cint, 120, Sum.inl f1)), (h2, Sum.inr (4, [Value.ref h3, Value.int n2_size, Value.ref h4, Value.ref h5, Value.int n2_top])), (h3, Sum.inl (cint, 128, Sum.inl f3))] s.heap.size = A at hD hZNAMES hTNAMES ⊢
  have hA : ∀ q : Nat, s.heap.size ≤ q → A q := fun q h => by rw [← hAe]; exact Or.inr h
  have hS : va_S A s.heap s.heap [] := va_S.rf
  have hP : va_P (dC, dI) vwCl [(h0, Sum.inr (10, [Value.ref h1, Value.int n0_size, Value.int n0_place, Value.ref h2])), (h1, Sum.inl (cint, 120, Sum.inl f1)), (h2, Sum.inr (4, [Value.ref h3, Value.int n2_size, Value.ref h4, Value.ref h5, Value.int n2_top])), (h3, Sum.inl (cint, 128, Sum.inl f3))] s.heap := hP
  have hl := lv_entry ([.ref h0, .int 0, .int 2]) (n := 5) (Nat.le_of_ble_eq_true rfl)
  rw [lg_entry_eq]
  generalize (lg_sl ([.ref h0, .int 0, .int 2]) ++ List.replicate (5 - (lg_sl ([.ref h0, .int 0, .int 2])).length) Slot.unset).toArray = ls at hl ⊢
  have hl : lv_has ls 5 [(0, .ref h0), (1, .int 0), (2, .int 2)] := hl
  refine lv_iload_n hx hb dX10_readChain_0 rfl (lv_at hl 1 rfl) ?_
  refine lv_iconst (v := 5) hx hb dX10_readChain_1 (by decide) ?_
  refine lv_icmp_lt (tgt := 11) hx hb dX10_readChain_2 (by decide) (fun _ => ?_) (fun c => absurd c (by decide))
  refine lv_aload_n hx hb dX10_readChain_11 rfl (lv_at hl 0 rfl) ?_
  refine lv_iload_n hx hb dX10_readChain_12 rfl (lv_at hl 1 rfl) ?_
  refine lv_iconst (v := 1) hx hb dX10_readChain_13 (by decide) ?_
  refine lv_iadd hx hb dX10_readChain_14 ?_
  refine lv_topi (fun y_1 e_1 => ?_)
  obtain rfl : y_1 = 1 := e_1.trans (by decide)
  refine lv_iload_n hx hb dX10_readChain_15 rfl (lv_at hl 2 rfl) ?_
  have hPc := hP.sub (ws' := [(h0, Sum.inr (10, [Value.ref h1, Value.int n0_size, Value.int n0_place, Value.ref h2])), (h1, Sum.inl (cint, 120, Sum.inl f1)), (h2, Sum.inr (4, [Value.ref h3, Value.int n2_size, Value.ref h4, Value.ref h5, Value.int n2_top])), (h3, Sum.inl (cint, 128, Sum.inl f3))]) [0, 1, 2, 3] rfl
  have hDc := hD.sub (ws' := [(h0, Sum.inr (10, [Value.ref h1, Value.int n0_size, Value.int n0_place, Value.ref h2])), (h1, Sum.inl (cint, 120, Sum.inl f1)), (h2, Sum.inr (4, [Value.ref h3, Value.int n2_size, Value.ref h4, Value.ref h5, Value.int n2_top])), (h3, Sum.inl (cint, 128, Sum.inl f3))]) [0, 1, 2, 3] (by decide) rfl
  have hKc := hK.sub (tys' := [(cint, .int)]) [0] rfl
  have hFc := va_free (wc := [(h0, Sum.inr (10, [Value.ref h1, Value.int n0_size, Value.int n0_place, Value.ref h2])), (h1, Sum.inl (cint, 120, Sum.inl f1)), (h2, Sum.inr (4, [Value.ref h3, Value.int n2_size, Value.ref h4, Value.ref h5, Value.int n2_top])), (h3, Sum.inl (cint, 128, Sum.inl f3))]) hD hS hA [0, 1, 2, 3] rfl
  refine va_calli (va_runV (As := [.int 1, .int 2]) (rest := []) ⟨hx, hb, hml, hown, hts⟩ (g_X10_readChain_28 l dC dI h0 h1 h2 h3 h4 h5 cint s.heap.size n0_size n0_place f1 n2_size n2_top f3 tn0_size bf1 tn2_size tn2_top aNAMES) (cwV 2 hts gX10_readChain_X10_readChain rfl rfl rfl (by decide +kernel) ⟨Nat.le_of_ble_eq_true rfl, Nat.le_of_ble_eq_true rfl⟩) ⟨fun a U g mk q => by obtain ⟨q0, q1, qP, qK, qD, qx0, qx1⟩ := q; exact ⟨q0, q1, qP, va_K.moved (u := U) (U := U.calling g mk a) (Vm.Alike.refl U.vm) qK, qD, va_Z.moved (u := U) (U := U.calling g mk a) (Vm.Alike.refl U.vm) qx0, va_T.moved (u := U) (U := U.calling g mk a) (Vm.Alike.refl U.vm) qx1⟩, va_recv hKc hPc (ci := 10) (q0 := 0) rfl rfl, fun U hU hW => ⟨rfl, by rw [hU], by rw [hU]; exact hPc, va_K.moved hW.alike hKc, hDc.weaken (fun _ _ _ _ => trivial), by rw [hU]; exact ((hZNAMES.kept (fun a h1 h2 => hS.2.1 a h1 h2)).narrow hFc).moved hW.alike, by rw [hU]; exact ((hTNAMES.kept (fun a h1 h2 => hS.2.1 a h1 h2)).narrow hFc).moved hW.alike⟩⟩ rfl rfl hl.1 rfl (lv_room (Nat.le_of_ble_eq_true rfl)) dX10_readChain_16 ⟨Nat.le_of_ble_eq_true rfl, Nat.le_of_ble_eq_true rfl⟩) hS (fun q _ h => hFc q h) hFc (fun r_2 u t H1 locs ht hvm hw hB hz1 hk1 hS => ?_)
  obtain ⟨y_3, y_4, f_5, by_4, hP1, hK1, hD1⟩ := hB
  rw [ht] at hP1
  have hK1 := va_K.moved hvm.symm hK1
  obtain ⟨hP, hD⟩ := va_join (wr := []) (w1 := [(h0, Sum.inr (10, [Value.ref h1, Value.int n0_size, Value.int y_3, Value.ref h2])), (h1, Sum.inl (cint, 120, Sum.inl f1)), (h2, Sum.inr (4, [Value.ref h3, Value.int y_4, Value.ref h4, Value.ref h5, Value.int n2_top])), (h3, Sum.inl (cint, 128, Sum.inl f_5))]) hP hD [0, 1, 2, 3] [] rfl rfl (by decide) (by decide) hk1 hFc hP1 hD1
  generalize H1 = H at hP hS ⊢
  have hP : va_P (dC, dI) vwCl [(h0, Sum.inr (10, [Value.ref h1, Value.int n0_size, Value.int y_3, Value.ref h2])), (h1, Sum.inl (cint, 120, Sum.inl f1)), (h2, Sum.inr (4, [Value.ref h3, Value.int y_4, Value.ref h4, Value.ref h5, Value.int n2_top])), (h3, Sum.inl (cint, 128, Sum.inl f_5))] H := hP
  have hD : va_D A [(h0, Sum.inr (10, [Value.ref h1, Value.int n0_size, Value.int y_3, Value.ref h2])), (h1, Sum.inl (cint, 120, Sum.inl f1)), (h2, Sum.inr (4, [Value.ref h3, Value.int y_4, Value.ref h4, Value.ref h5, Value.int n2_top])), (h3, Sum.inl (cint, 128, Sum.inl f_5))] := hD
  have t_2 : 0 ≤ r_2.toInt ∧ r_2.toInt ≤ 1 := hw
  refine lv_if_ne (tgt := 24) hx hb dX10_readChain_19 (by decide) (fun c_6 => ?_) (fun c_6 => ?_)
  · have t_6 : r_2.toInt ≠ 0 := kk_ne c_6
    refine lv_iconst (v := 0) hx hb dX10_readChain_24 (by decide) ?_
    refine lv_istore_n (lv' := [(3, .int 0), (0, .ref h0), (1, .int 0), (2, .int 2)]) hx hb dX10_readChain_25 rfl hl (by decide) rfl (fun ls hl => ?_)
    refine kk_loop (σ := Int32 × Int32 × Int32 × (Nat → Int32)) (fun x H locs ls => (0 ≤ x.1.toInt ∧ x.1.toInt ≤ 120) ∧ (0 ≤ x.2.2.1.toInt ∧ x.2.2.1.toInt ≤ 128) ∧ va_P (dC, dI) vwCl [(h0, Sum.inr (10, [Value.ref h1, Value.int n0_size, Value.int x.2.1, Value.ref h2])), (h1, Sum.inl (cint, 120, Sum.inl f1)), (h2, Sum.inr (4, [Value.ref h3, Value.int x.2.2.1, Value.ref h4, Value.ref h5, Value.int n2_top])), (h3, Sum.inl (cint, 128, Sum.inl x.2.2.2))] H ∧ va_D A [(h0, Sum.inr (10, [Value.ref h1, Value.int n0_size, Value.int x.2.1, Value.ref h2])), (h1, Sum.inl (cint, 120, Sum.inl f1)), (h2, Sum.inr (4, [Value.ref h3, Value.int x.2.2.1, Value.ref h4, Value.ref h5, Value.int n2_top])), (h3, Sum.inl (cint, 128, Sum.inl x.2.2.2))] ∧ va_S A s.heap H locs ∧ lv_has ls 5 [(3, .int x.1), (0, .ref h0), (1, .int 0), (2, .int 2)]) (fun x => ((120 : Int) - x.1.toInt).toNat) ?_ (0, y_3, y_4, f_5) _ _ _ ⟨(by show 0 ≤ (0 : Int32).toInt ∧ (0 : Int32).toInt ≤ 120; first | decide | (constructor <;> (omega))), (by show 0 ≤ (y_4 : Int32).toInt ∧ (y_4 : Int32).toInt ≤ 128; first | decide | (constructor <;> (omega))), hP, hD, hS, hl⟩
    rintro ⟨i_7_0, i_7_1, i_7_2, f_7_3⟩ H locs ls ⟨t_7_0, t_7_2, hP, hD, hS, hl⟩ ih_7
    have t_7_0 : (0 ≤ i_7_0.toInt ∧ i_7_0.toInt ≤ 120) := t_7_0
    have t_7_2 : (0 ≤ i_7_2.toInt ∧ i_7_2.toInt ≤ 128) := t_7_2
    have hl : lv_has ls 5 [(3, .int i_7_0), (0, .ref h0), (1, .int 0), (2, .int 2)] := hl
    have hP : va_P (dC, dI) vwCl [(h0, Sum.inr (10, [Value.ref h1, Value.int n0_size, Value.int i_7_1, Value.ref h2])), (h1, Sum.inl (cint, 120, Sum.inl f1)), (h2, Sum.inr (4, [Value.ref h3, Value.int i_7_2, Value.ref h4, Value.ref h5, Value.int n2_top])), (h3, Sum.inl (cint, 128, Sum.inl f_7_3))] H := hP
    have hD : va_D A [(h0, Sum.inr (10, [Value.ref h1, Value.int n0_size, Value.int i_7_1, Value.ref h2])), (h1, Sum.inl (cint, 120, Sum.inl f1)), (h2, Sum.inr (4, [Value.ref h3, Value.int i_7_2, Value.ref h4, Value.ref h5, Value.int n2_top])), (h3, Sum.inl (cint, 128, Sum.inl f_7_3))] := hD
    refine lv_iload_n hx hb dX10_readChain_26 rfl (lv_at hl 0 rfl) ?_
    refine lv_bipush (v := 120) hx hb dX10_readChain_27 (by decide) ?_
    refine lv_icmp_ge (tgt := 94) hx hb dX10_readChain_29 (by decide) (fun c_119 => ?_) (fun c_119 => ?_)
    · have t_119 : 120 ≤ i_7_0.toInt := kk_le c_119
      refine lv_iconst (v := 1) hx hb dX10_readChain_94 (by decide) ?_
      have hP9 := hP.sub (ws' := [(h0, Sum.inr (10, [Value.ref h1, Value.int n0_size, Value.int i_7_1, Value.ref h2])), (h1, Sum.inl (cint, 120, Sum.inl f1)), (h2, Sum.inr (4, [Value.ref h3, Value.int i_7_2, Value.ref h4, Value.ref h5, Value.int n2_top])), (h3, Sum.inl (cint, 128, Sum.inl f_7_3))]) [0, 1, 2, 3] rfl
      have hD9 := hD.sub (ws' := [(h0, Sum.inr (10, [Value.ref h1, Value.int n0_size, Value.int i_7_1, Value.ref h2])), (h1, Sum.inl (cint, 120, Sum.inl f1)), (h2, Sum.inr (4, [Value.ref h3, Value.int i_7_2, Value.ref h4, Value.ref h5, Value.int n2_top])), (h3, Sum.inl (cint, 128, Sum.inl f_7_3))]) [0, 1, 2, 3] (by decide) rfl
      have hK9 := hK.sub (tys' := []) [] rfl
      exact W.zret (v := 1) hx hb hr rfl (fun t ht hW => ⟨⟨1, (), rfl, (by show 0 ≤ (1 : Int32).toInt ∧ (1 : Int32).toInt ≤ 1; first | decide | (constructor <;> (omega))), i_7_1, i_7_2, f_7_3, (by show 0 ≤ (i_7_2 : Int32).toInt ∧ (i_7_2 : Int32).toInt ≤ 128; first | decide | (constructor <;> (omega))), by rw [ht]; exact hP9, va_K.moved hW.alike hK9, hD9⟩, hS.F ht⟩) hS.2.2 dX10_readChain_95
    · have t_119 : i_7_0.toInt < 120 := kk_nle c_119
      refine lv_iload_n hx hb dX10_readChain_32 rfl (lv_at hl 2 rfl) ?_
      refine lv_aload_n hx hb dX10_readChain_33 rfl (lv_at hl 1 rfl) ?_
      have hPc := hP.sub (ws' := [(h0, Sum.inr (10, [Value.ref h1, Value.int n0_size, Value.int i_7_1, Value.ref h2])), (h1, Sum.inl (cint, 120, Sum.inl f1))]) [0, 1] rfl
      have hDc := hD.sub (ws' := [(h0, Sum.inr (10, [Value.ref h1, Value.int n0_size, Value.int i_7_1, Value.ref h2])), (h1, Sum.inl (cint, 120, Sum.inl f1))]) [0, 1] (by decide) rfl
      have hKc := hK.sub (tys' := [(cint, .int)]) [0] rfl
      have hFc := va_free (wc := [(h0, Sum.inr (10, [Value.ref h1, Value.int n0_size, Value.int i_7_1, Value.ref h2])), (h1, Sum.inl (cint, 120, Sum.inl f1))]) hD hS hA [0, 1] rfl
      refine va_calli (va_runV (As := []) (rest := [.int 0]) ⟨hx, hb, hml, hown, hts⟩ (g_X10_next_0 l dC dI h0 h1 h2 cint H.size n0_size i_7_1 f1 tn0_size bf1) (cwV 0 hts gX10_readChain_X10_next rfl rfl rfl (by decide +kernel) ⟨Nat.le_of_ble_eq_true rfl, Nat.le_of_ble_eq_true rfl⟩) ⟨fun a U g mk q => by obtain ⟨q0, q1, qP, qK, qD⟩ := q; exact ⟨q0, q1, qP, va_K.moved (u := U) (U := U.calling g mk a) (Vm.Alike.refl U.vm) qK, qD⟩, va_recv hKc hPc (ci := 10) (q0 := 0) rfl rfl, fun U hU hW => ⟨rfl, by rw [hU], by rw [hU]; exact hPc, va_K.moved hW.alike hKc, hDc.weaken (fun _ _ _ _ => trivial)⟩⟩ rfl rfl hl.1 rfl (lv_room (Nat.le_of_ble_eq_true rfl)) dX10_readChain_34 ⟨Nat.le_of_ble_eq_true rfl, Nat.le_of_ble_eq_true rfl⟩) hS (fun q _ h => hFc q h) hFc (fun r_120 u t H1 locs ht hvm hw hB hz1 hk1 hS => ?_)
      obtain ⟨hP1, hK1, hD1⟩ := hB
      rw [ht] at hP1
      have hK1 := va_K.moved hvm.symm hK1
      obtain ⟨hP, hD⟩ := va_join (wr := [(h2, Sum.inr (4, [Value.ref h3, Value.int i_7_2, Value.ref h4, Value.ref h5, Value.int n2_top])), (h3, Sum.inl (cint, 128, Sum.inl f_7_3))]) (w1 := [(h0, Sum.inr (10, [Value.ref h1, Value.int n0_size, Value.int i_7_1, Value.ref h2])), (h1, Sum.inl (cint, 120, Sum.inl f1))]) hP hD [0, 1] [2, 3] rfl rfl (by decide) (by decide) hk1 hFc hP1 hD1
      generalize H1 = H at hP hS ⊢
      have hP : va_P (dC, dI) vwCl [(h2, Sum.inr (4, [Value.ref h3, Value.int i_7_2, Value.ref h4, Value.ref h5, Value.int n2_top])), (h3, Sum.inl (cint, 128, Sum.inl f_7_3)), (h0, Sum.inr (10, [Value.ref h1, Value.int n0_size, Value.int i_7_1, Value.ref h2])), (h1, Sum.inl (cint, 120, Sum.inl f1))] H := hP
      have hD : va_D A [(h2, Sum.inr (4, [Value.ref h3, Value.int i_7_2, Value.ref h4, Value.ref h5, Value.int n2_top])), (h3, Sum.inl (cint, 128, Sum.inl f_7_3)), (h0, Sum.inr (10, [Value.ref h1, Value.int n0_size, Value.int i_7_1, Value.ref h2])), (h1, Sum.inl (cint, 120, Sum.inl f1))] := hD
      have t_120 : (-1) ≤ r_120.toInt ∧ r_120.toInt ≤ 255 := hw
      have hPc := hP.sub (ws' := []) [] rfl
      have hDc := hD.sub (ws' := []) [] (by decide) rfl
      have hKc := hK.sub (tys' := []) [] rfl
      have hFc := va_free (wc := []) hD hS hA [] rfl
      refine va_calli (va_runS (As := [.int 0, .int r_120]) (rest := []) ⟨hx, hb, hml, hown, hts⟩ (g_X10_joins_4 l dC dI H.size r_120) (va_cwS 2 hts gX10_readChain_X10_joins rfl rfl rfl (by decide +kernel) ⟨Nat.le_of_ble_eq_true rfl, Nat.le_of_ble_eq_true rfl⟩) ⟨fun a U g mk q => by obtain ⟨q0, q1, qP, qK, qD⟩ := q; exact ⟨q0, q1, qP, va_K.moved (u := U) (U := U.calling g mk a) (Vm.Alike.refl U.vm) qK, qD⟩, fun U hU hW => ⟨rfl, by rw [hU], by rw [hU]; exact hPc, va_K.moved hW.alike hKc, hDc.weaken (fun _ _ _ _ => trivial)⟩⟩ rfl rfl hl.1 rfl (lv_room (Nat.le_of_ble_eq_true rfl)) dX10_readChain_37 ⟨Nat.le_of_ble_eq_true rfl, Nat.le_of_ble_eq_true rfl⟩) hS (fun q _ h => hFc q h) hFc (fun r_121 u t H1 locs ht hvm hw hB hz1 hk1 hS => ?_)
      obtain ⟨hP1, hK1, hD1⟩ := hB
      rw [ht] at hP1
      have hK1 := va_K.moved hvm.symm hK1
      obtain ⟨hP, hD⟩ := va_join (wr := [(h2, Sum.inr (4, [Value.ref h3, Value.int i_7_2, Value.ref h4, Value.ref h5, Value.int n2_top])), (h3, Sum.inl (cint, 128, Sum.inl f_7_3)), (h0, Sum.inr (10, [Value.ref h1, Value.int n0_size, Value.int i_7_1, Value.ref h2])), (h1, Sum.inl (cint, 120, Sum.inl f1))]) (w1 := []) hP hD [] [0, 1, 2, 3] rfl rfl (by decide) (by decide) hk1 hFc hP1 hD1
      generalize H1 = H at hP hS ⊢
      have hP : va_P (dC, dI) vwCl [(h2, Sum.inr (4, [Value.ref h3, Value.int i_7_2, Value.ref h4, Value.ref h5, Value.int n2_top])), (h3, Sum.inl (cint, 128, Sum.inl f_7_3)), (h0, Sum.inr (10, [Value.ref h1, Value.int n0_size, Value.int i_7_1, Value.ref h2])), (h1, Sum.inl (cint, 120, Sum.inl f1))] H := hP
      have hD : va_D A [(h2, Sum.inr (4, [Value.ref h3, Value.int i_7_2, Value.ref h4, Value.ref h5, Value.int n2_top])), (h3, Sum.inl (cint, 128, Sum.inl f_7_3)), (h0, Sum.inr (10, [Value.ref h1, Value.int n0_size, Value.int i_7_1, Value.ref h2])), (h1, Sum.inl (cint, 120, Sum.inl f1))] := hD
      have t_121 : 0 ≤ r_121.toInt ∧ r_121.toInt ≤ 1 := hw
      refine lv_if_eq (tgt := 94) hx hb dX10_readChain_40 (by decide) (fun c_122 => ?_) (fun c_122 => ?_)
      · have t_122 : r_121.toInt = 0 := kk_eq c_122
        refine lv_iconst (v := 1) hx hb dX10_readChain_94 (by decide) ?_
        have hP9 := hP.sub (ws' := [(h0, Sum.inr (10, [Value.ref h1, Value.int n0_size, Value.int i_7_1, Value.ref h2])), (h1, Sum.inl (cint, 120, Sum.inl f1)), (h2, Sum.inr (4, [Value.ref h3, Value.int i_7_2, Value.ref h4, Value.ref h5, Value.int n2_top])), (h3, Sum.inl (cint, 128, Sum.inl f_7_3))]) [2, 3, 0, 1] rfl
        have hD9 := hD.sub (ws' := [(h0, Sum.inr (10, [Value.ref h1, Value.int n0_size, Value.int i_7_1, Value.ref h2])), (h1, Sum.inl (cint, 120, Sum.inl f1)), (h2, Sum.inr (4, [Value.ref h3, Value.int i_7_2, Value.ref h4, Value.ref h5, Value.int n2_top])), (h3, Sum.inl (cint, 128, Sum.inl f_7_3))]) [2, 3, 0, 1] (by decide) rfl
        have hK9 := hK.sub (tys' := []) [] rfl
        exact W.zret (v := 1) hx hb hr rfl (fun t ht hW => ⟨⟨1, (), rfl, (by show 0 ≤ (1 : Int32).toInt ∧ (1 : Int32).toInt ≤ 1; first | decide | (constructor <;> (omega))), i_7_1, i_7_2, f_7_3, (by show 0 ≤ (i_7_2 : Int32).toInt ∧ (i_7_2 : Int32).toInt ≤ 128; first | decide | (constructor <;> (omega))), by rw [ht]; exact hP9, va_K.moved hW.alike hK9, hD9⟩, hS.F ht⟩) hS.2.2 dX10_readChain_95
      · have t_122 : r_121.toInt ≠ 0 := kk_ne c_122
        refine lv_aload_n hx hb dX10_readChain_43 rfl (lv_at hl 1 rfl) ?_
        have hPc := hP.sub (ws' := [(h0, Sum.inr (10, [Value.ref h1, Value.int n0_size, Value.int i_7_1, Value.ref h2])), (h1, Sum.inl (cint, 120, Sum.inl f1))]) [2, 3] rfl
        have hDc := hD.sub (ws' := [(h0, Sum.inr (10, [Value.ref h1, Value.int n0_size, Value.int i_7_1, Value.ref h2])), (h1, Sum.inl (cint, 120, Sum.inl f1))]) [2, 3] (by decide) rfl
        have hKc := hK.sub (tys' := [(cint, .int)]) [0] rfl
        have hFc := va_free (wc := [(h0, Sum.inr (10, [Value.ref h1, Value.int n0_size, Value.int i_7_1, Value.ref h2])), (h1, Sum.inl (cint, 120, Sum.inl f1))]) hD hS hA [2, 3] rfl
        refine va_calli (va_runV (As := []) (rest := []) ⟨hx, hb, hml, hown, hts⟩ (g_X10_next_0 l dC dI h0 h1 h2 cint H.size n0_size i_7_1 f1 tn0_size bf1) (cwV 0 hts gX10_readChain_X10_next rfl rfl rfl (by decide +kernel) ⟨Nat.le_of_ble_eq_true rfl, Nat.le_of_ble_eq_true rfl⟩) ⟨fun a U g mk q => by obtain ⟨q0, q1, qP, qK, qD⟩ := q; exact ⟨q0, q1, qP, va_K.moved (u := U) (U := U.calling g mk a) (Vm.Alike.refl U.vm) qK, qD⟩, va_recv hKc hPc (ci := 10) (q0 := 0) rfl rfl, fun U hU hW => ⟨rfl, by rw [hU], by rw [hU]; exact hPc, va_K.moved hW.alike hKc, hDc.weaken (fun _ _ _ _ => trivial)⟩⟩ rfl rfl hl.1 rfl (lv_room (Nat.le_of_ble_eq_true rfl)) dX10_readChain_44 ⟨Nat.le_of_ble_eq_true rfl, Nat.le_of_ble_eq_true rfl⟩) hS (fun q _ h => hFc q h) hFc (fun r_123 u t H1 locs ht hvm hw hB hz1 hk1 hS => ?_)
        obtain ⟨hP1, hK1, hD1⟩ := hB
        rw [ht] at hP1
        have hK1 := va_K.moved hvm.symm hK1
        obtain ⟨hP, hD⟩ := va_join (wr := [(h2, Sum.inr (4, [Value.ref h3, Value.int i_7_2, Value.ref h4, Value.ref h5, Value.int n2_top])), (h3, Sum.inl (cint, 128, Sum.inl f_7_3))]) (w1 := [(h0, Sum.inr (10, [Value.ref h1, Value.int n0_size, Value.int i_7_1, Value.ref h2])), (h1, Sum.inl (cint, 120, Sum.inl f1))]) hP hD [2, 3] [0, 1] rfl rfl (by decide) (by decide) hk1 hFc hP1 hD1
        generalize H1 = H at hP hS ⊢
        have hP : va_P (dC, dI) vwCl [(h2, Sum.inr (4, [Value.ref h3, Value.int i_7_2, Value.ref h4, Value.ref h5, Value.int n2_top])), (h3, Sum.inl (cint, 128, Sum.inl f_7_3)), (h0, Sum.inr (10, [Value.ref h1, Value.int n0_size, Value.int i_7_1, Value.ref h2])), (h1, Sum.inl (cint, 120, Sum.inl f1))] H := hP
        have hD : va_D A [(h2, Sum.inr (4, [Value.ref h3, Value.int i_7_2, Value.ref h4, Value.ref h5, Value.int n2_top])), (h3, Sum.inl (cint, 128, Sum.inl f_7_3)), (h0, Sum.inr (10, [Value.ref h1, Value.int n0_size, Value.int i_7_1, Value.ref h2])), (h1, Sum.inl (cint, 120, Sum.inl f1))] := hD
        have t_123 : (-1) ≤ r_123.toInt ∧ r_123.toInt ≤ 255 := hw
        refine lv_istore (lv' := [(4, .int r_123), (3, .int i_7_0), (0, .ref h0), (1, .int 0), (2, .int 2)]) hx hb dX10_readChain_47 hl (by decide) rfl (fun ls hl => ?_)
        refine lv_aload_n hx hb dX10_readChain_49 rfl (lv_at hl 2 rfl) ?_
        refine lv_dup hx hb dX10_readChain_50 rfl ?_
        refine va_get (D := (dC, dI)) (ci := 10) (v := .int i_7_1) (C := RX10) (T := TX10) (N := 4) hx hb hts (fun _ h => List.mem_cons_of_mem _ (List.mem_append_left _ (List.mem_append_right _ h))) hown hK hP 2 rfl rfl 2 (by decide) (hts (.fieldLink RX10 17 "KinkStreet$Tape" "place" "I") (List.mem_of_getElem? (i := 1) rfl)) (fun _ h9 => h9) rfl dX10_readChain_51 ?_
        refine lv_iconst (v := 1) hx hb dX10_readChain_54 (by decide) ?_
        refine lv_iadd hx hb dX10_readChain_55 ?_
        refine va_put (D := (dC, dI)) (ci := 10) (v := .int (i_7_1 + 1)) (ty := .int) (C := RX10) (T := TX10) (N := 4) hx hb hts (fun _ h => List.mem_cons_of_mem _ (List.mem_append_left _ (List.mem_append_right _ h))) tyX10 tyX10_ok nmX10 hown hK hP hD hS 2 rfl rfl 2 (by decide) (hts (.fieldLink RX10 17 "KinkStreet$Tape" "place" "I") (List.mem_of_getElem? (i := 1) rfl)) (fun _ h9 => h9) rfl (by decide +kernel) rfl rfl (Nat.le_of_ble_eq_true rfl) dX10_readChain_56 (fun H locs hP hD hS => ?_)
        have hP : va_P (dC, dI) vwCl [(h2, Sum.inr (4, [Value.ref h3, Value.int i_7_2, Value.ref h4, Value.ref h5, Value.int n2_top])), (h3, Sum.inl (cint, 128, Sum.inl f_7_3)), (h0, Sum.inr (10, [Value.ref h1, Value.int n0_size, Value.int (i_7_1 + 1), Value.ref h2])), (h1, Sum.inl (cint, 120, Sum.inl f1))] H := hP
        have hD : va_D A [(h2, Sum.inr (4, [Value.ref h3, Value.int i_7_2, Value.ref h4, Value.ref h5, Value.int n2_top])), (h3, Sum.inl (cint, 128, Sum.inl f_7_3)), (h0, Sum.inr (10, [Value.ref h1, Value.int n0_size, Value.int (i_7_1 + 1), Value.ref h2])), (h1, Sum.inl (cint, 120, Sum.inl f1))] := hD
        refine lv_aload_n hx hb dX10_readChain_59 rfl (lv_at hl 2 rfl) ?_
        refine lv_iload_n hx hb dX10_readChain_60 rfl (lv_at hl 3 rfl) ?_
        refine lv_iconst (v := 1) hx hb dX10_readChain_61 (by decide) ?_
        refine lv_iadd hx hb dX10_readChain_62 ?_
        refine lv_topi (fun y_124 e_124 => ?_)
        obtain rfl : y_124 = 1 := e_124.trans (by decide)
        refine lv_iload_n hx hb dX10_readChain_63 rfl (lv_at hl 4 rfl) ?_
        have hPc := hP.sub (ws' := [(h0, Sum.inr (10, [Value.ref h1, Value.int n0_size, Value.int (i_7_1 + 1), Value.ref h2])), (h1, Sum.inl (cint, 120, Sum.inl f1)), (h2, Sum.inr (4, [Value.ref h3, Value.int i_7_2, Value.ref h4, Value.ref h5, Value.int n2_top])), (h3, Sum.inl (cint, 128, Sum.inl f_7_3))]) [2, 3, 0, 1] rfl
        have hDc := hD.sub (ws' := [(h0, Sum.inr (10, [Value.ref h1, Value.int n0_size, Value.int (i_7_1 + 1), Value.ref h2])), (h1, Sum.inl (cint, 120, Sum.inl f1)), (h2, Sum.inr (4, [Value.ref h3, Value.int i_7_2, Value.ref h4, Value.ref h5, Value.int n2_top])), (h3, Sum.inl (cint, 128, Sum.inl f_7_3))]) [2, 3, 0, 1] (by decide) rfl
        have hKc := hK.sub (tys' := [(cint, .int)]) [0] rfl
        have hFc := va_free (wc := [(h0, Sum.inr (10, [Value.ref h1, Value.int n0_size, Value.int (i_7_1 + 1), Value.ref h2])), (h1, Sum.inl (cint, 120, Sum.inl f1)), (h2, Sum.inr (4, [Value.ref h3, Value.int i_7_2, Value.ref h4, Value.ref h5, Value.int n2_top])), (h3, Sum.inl (cint, 128, Sum.inl f_7_3))]) hD hS hA [2, 3, 0, 1] rfl
        refine va_calli (va_runV (As := [.int 1, .int 2]) (rest := []) ⟨hx, hb, hml, hown, hts⟩ (g_X10_readChain_28 l dC dI h0 h1 h2 h3 h4 h5 cint H.size n0_size (i_7_1 + 1) f1 i_7_2 n2_top f_7_3 tn0_size bf1 (by show 0 ≤ (i_7_2 : Int32).toInt ∧ (i_7_2 : Int32).toInt ≤ 128; first | decide | (constructor <;> (omega))) tn2_top aNAMES) (cwV 2 hts gX10_readChain_X10_readChain rfl rfl rfl (by decide +kernel) ⟨Nat.le_of_ble_eq_true rfl, Nat.le_of_ble_eq_true rfl⟩) ⟨fun a U g mk q => by obtain ⟨q0, q1, qP, qK, qD, qx0, qx1⟩ := q; exact ⟨q0, q1, qP, va_K.moved (u := U) (U := U.calling g mk a) (Vm.Alike.refl U.vm) qK, qD, va_Z.moved (u := U) (U := U.calling g mk a) (Vm.Alike.refl U.vm) qx0, va_T.moved (u := U) (U := U.calling g mk a) (Vm.Alike.refl U.vm) qx1⟩, va_recv hKc hPc (ci := 10) (q0 := 0) rfl rfl, fun U hU hW => ⟨rfl, by rw [hU], by rw [hU]; exact hPc, va_K.moved hW.alike hKc, hDc.weaken (fun _ _ _ _ => trivial), by rw [hU]; exact ((hZNAMES.kept (fun a h1 h2 => hS.2.1 a h1 h2)).narrow hFc).moved hW.alike, by rw [hU]; exact ((hTNAMES.kept (fun a h1 h2 => hS.2.1 a h1 h2)).narrow hFc).moved hW.alike⟩⟩ rfl rfl hl.1 rfl (lv_room (Nat.le_of_ble_eq_true rfl)) dX10_readChain_64 ⟨Nat.le_of_ble_eq_true rfl, Nat.le_of_ble_eq_true rfl⟩) hS (fun q _ h => hFc q h) hFc (fun r_125 u t H1 locs ht hvm hw hB hz1 hk1 hS => ?_)
        obtain ⟨y_126, y_127, f_128, by_127, hP1, hK1, hD1⟩ := hB
        rw [ht] at hP1
        have hK1 := va_K.moved hvm.symm hK1
        obtain ⟨hP, hD⟩ := va_join (wr := []) (w1 := [(h0, Sum.inr (10, [Value.ref h1, Value.int n0_size, Value.int y_126, Value.ref h2])), (h1, Sum.inl (cint, 120, Sum.inl f1)), (h2, Sum.inr (4, [Value.ref h3, Value.int y_127, Value.ref h4, Value.ref h5, Value.int n2_top])), (h3, Sum.inl (cint, 128, Sum.inl f_128))]) hP hD [2, 3, 0, 1] [] rfl rfl (by decide) (by decide) hk1 hFc hP1 hD1
        generalize H1 = H at hP hS ⊢
        have hP : va_P (dC, dI) vwCl [(h0, Sum.inr (10, [Value.ref h1, Value.int n0_size, Value.int y_126, Value.ref h2])), (h1, Sum.inl (cint, 120, Sum.inl f1)), (h2, Sum.inr (4, [Value.ref h3, Value.int y_127, Value.ref h4, Value.ref h5, Value.int n2_top])), (h3, Sum.inl (cint, 128, Sum.inl f_128))] H := hP
        have hD : va_D A [(h0, Sum.inr (10, [Value.ref h1, Value.int n0_size, Value.int y_126, Value.ref h2])), (h1, Sum.inl (cint, 120, Sum.inl f1)), (h2, Sum.inr (4, [Value.ref h3, Value.int y_127, Value.ref h4, Value.ref h5, Value.int n2_top])), (h3, Sum.inl (cint, 128, Sum.inl f_128))] := hD
        have t_125 : 0 ≤ r_125.toInt ∧ r_125.toInt ≤ 1 := hw
        refine lv_if_ne (tgt := 72) hx hb dX10_readChain_67 (by decide) (fun c_129 => ?_) (fun c_129 => ?_)
        · have t_129 : r_125.toInt ≠ 0 := kk_ne c_129
          refine lv_aload_n hx hb dX10_readChain_72 rfl (lv_at hl 2 rfl) ?_
          refine va_get (D := (dC, dI)) (ci := 10) (v := .ref h2) (C := RX10) (T := TX10) (N := 4) hx hb hts (fun _ h => List.mem_cons_of_mem _ (List.mem_append_left _ (List.mem_append_right _ h))) hown hK hP 0 rfl rfl 3 (by decide) (hts (.fieldLink RX10 20 "KinkStreet$Tape" "law" "LKinkStreet$Law;") (List.mem_of_getElem? (i := 2) rfl)) (fun _ h9 => h9) rfl dX10_readChain_73 ?_
          refine lv_iload hx hb dX10_readChain_76 (lv_at hl 0 rfl) ?_
          have hPc := hP.sub (ws' := [(h2, Sum.inr (4, [Value.ref h3, Value.int y_127, Value.ref h4, Value.ref h5, Value.int n2_top])), (h3, Sum.inl (cint, 128, Sum.inl f_128))]) [2, 3] rfl
          have hDc := hD.sub (ws' := [(h2, Sum.inr (4, [Value.ref h3, Value.int y_127, Value.ref h4, Value.ref h5, Value.int n2_top])), (h3, Sum.inl (cint, 128, Sum.inl f_128))]) [2, 3] (by decide) rfl
          have hKc := hK.sub (tys' := [(cint, .int)]) [0] rfl
          have hFc := va_free (wc := [(h2, Sum.inr (4, [Value.ref h3, Value.int y_127, Value.ref h4, Value.ref h5, Value.int n2_top])), (h3, Sum.inl (cint, 128, Sum.inl f_128))]) hD hS hA [2, 3] rfl
          refine va_callv (va_runV (As := [.int r_123]) (rest := []) ⟨hx, hb, hml, hown, hts⟩ (g_X4_append_0 l dC dI h2 h3 h4 h5 cint H.size r_123 y_127 n2_top f_128 (by show 0 ≤ (y_127 : Int32).toInt ∧ (y_127 : Int32).toInt ≤ 128; first | decide | (constructor <;> (omega))) tn2_top) (cwV 1 hts gX10_readChain_X4_append rfl rfl rfl (by decide +kernel) ⟨Nat.le_of_ble_eq_true rfl, Nat.le_of_ble_eq_true rfl⟩) ⟨fun a U g mk q => by obtain ⟨q0, q1, qP, qK, qD⟩ := q; exact ⟨q0, q1, qP, va_K.moved (u := U) (U := U.calling g mk a) (Vm.Alike.refl U.vm) qK, qD⟩, va_recv hKc hPc (ci := 4) (q0 := 0) rfl rfl, fun U hU hW => ⟨rfl, by rw [hU], by rw [hU]; exact hPc, va_K.moved hW.alike hKc, hDc.weaken (fun _ _ _ _ => trivial)⟩⟩ rfl rfl hl.1 rfl (lv_room (Nat.le_of_ble_eq_true rfl)) dX10_readChain_78 ⟨Nat.le_of_ble_eq_true rfl, Nat.le_of_ble_eq_true rfl⟩) hS (fun q _ h => hFc q h) hFc (fun u t H1 locs ht hvm hw hB hz1 hk1 hS => ?_)
          obtain ⟨y_131, f_132, by_131, hP1, hK1, hD1⟩ := hB
          rw [ht] at hP1
          have hK1 := va_K.moved hvm.symm hK1
          obtain ⟨hP, hD⟩ := va_join (wr := [(h0, Sum.inr (10, [Value.ref h1, Value.int n0_size, Value.int y_126, Value.ref h2])), (h1, Sum.inl (cint, 120, Sum.inl f1))]) (w1 := [(h2, Sum.inr (4, [Value.ref h3, Value.int y_131, Value.ref h4, Value.ref h5, Value.int n2_top])), (h3, Sum.inl (cint, 128, Sum.inl f_132))]) hP hD [2, 3] [0, 1] rfl rfl (by decide) (by decide) hk1 hFc hP1 hD1
          generalize H1 = H at hP hS ⊢
          have hP : va_P (dC, dI) vwCl [(h0, Sum.inr (10, [Value.ref h1, Value.int n0_size, Value.int y_126, Value.ref h2])), (h1, Sum.inl (cint, 120, Sum.inl f1)), (h2, Sum.inr (4, [Value.ref h3, Value.int y_131, Value.ref h4, Value.ref h5, Value.int n2_top])), (h3, Sum.inl (cint, 128, Sum.inl f_132))] H := hP
          have hD : va_D A [(h0, Sum.inr (10, [Value.ref h1, Value.int n0_size, Value.int y_126, Value.ref h2])), (h1, Sum.inl (cint, 120, Sum.inl f1)), (h2, Sum.inr (4, [Value.ref h3, Value.int y_131, Value.ref h4, Value.ref h5, Value.int n2_top])), (h3, Sum.inl (cint, 128, Sum.inl f_132))] := hD
          refine lv_iload_n hx hb dX10_readChain_81 rfl (lv_at hl 3 rfl) ?_
          refine lv_iconst (v := 2) hx hb dX10_readChain_82 (by decide) ?_
          refine lv_icmp_ne (tgt := 88) hx hb dX10_readChain_83 (by decide) (fun _ => ?_) (fun c => absurd c (by decide))
          refine lv_iinc (v := (i_7_0 + 1)) (lv' := [(3, .int (i_7_0 + 1)), (4, .int r_123), (0, .ref h0), (1, .int 0), (2, .int 2)]) hx hb dX10_readChain_88 hl (k := 1) rfl (by first | rfl | decide) (by decide) rfl (fun ls hl => ?_)
          refine lv_goto (tgt := 26) hx hb dX10_readChain_91 (by decide) ?_
          exact ih_7 ((i_7_0 + 1), y_126, y_131, f_132) _ _ _ (by show ((120 : Int) - ((i_7_0 + 1)).toInt).toNat < ((120 : Int) - i_7_0.toInt).toNat; have := kk_add2 (x := i_7_0) (y := 1) (a := i_7_0.toInt) (b := 1) rfl rfl (by omega) (by omega); exact kk_mu (by omega) (by omega)) ⟨(by show 0 ≤ ((i_7_0 + 1) : Int32).toInt ∧ ((i_7_0 + 1) : Int32).toInt ≤ 120; first | decide | (constructor <;> (have := kk_add2 (x := i_7_0) (y := 1) (a := i_7_0.toInt) (b := 1) rfl rfl (by omega) (by omega); omega))), (by show 0 ≤ (y_131 : Int32).toInt ∧ (y_131 : Int32).toInt ≤ 128; first | decide | (constructor <;> (have := kk_add2 (x := i_7_0) (y := 1) (a := i_7_0.toInt) (b := 1) rfl rfl (by omega) (by omega); omega))), hP, hD, hS, lv_sub hl [0, 2, 3, 4] rfl⟩
        · have t_129 : r_125.toInt = 0 := kk_eq c_129
          refine lv_iconst (v := 0) hx hb dX10_readChain_70 (by decide) ?_
          have hP9 := hP.sub (ws' := [(h0, Sum.inr (10, [Value.ref h1, Value.int n0_size, Value.int y_126, Value.ref h2])), (h1, Sum.inl (cint, 120, Sum.inl f1)), (h2, Sum.inr (4, [Value.ref h3, Value.int y_127, Value.ref h4, Value.ref h5, Value.int n2_top])), (h3, Sum.inl (cint, 128, Sum.inl f_128))]) [0, 1, 2, 3] rfl
          have hD9 := hD.sub (ws' := [(h0, Sum.inr (10, [Value.ref h1, Value.int n0_size, Value.int y_126, Value.ref h2])), (h1, Sum.inl (cint, 120, Sum.inl f1)), (h2, Sum.inr (4, [Value.ref h3, Value.int y_127, Value.ref h4, Value.ref h5, Value.int n2_top])), (h3, Sum.inl (cint, 128, Sum.inl f_128))]) [0, 1, 2, 3] (by decide) rfl
          have hK9 := hK.sub (tys' := []) [] rfl
          exact W.zret (v := 0) hx hb hr rfl (fun t ht hW => ⟨⟨0, (), rfl, (by show 0 ≤ (0 : Int32).toInt ∧ (0 : Int32).toInt ≤ 1; first | decide | (constructor <;> (omega))), y_126, y_127, f_128, (by show 0 ≤ (y_127 : Int32).toInt ∧ (y_127 : Int32).toInt ≤ 128; first | decide | (constructor <;> (omega))), by rw [ht]; exact hP9, va_K.moved hW.alike hK9, hD9⟩, hS.F ht⟩) hS.2.2 dX10_readChain_71
  · have t_6 : r_2.toInt = 0 := kk_eq c_6
    refine lv_iconst (v := 0) hx hb dX10_readChain_22 (by decide) ?_
    have hP9 := hP.sub (ws' := [(h0, Sum.inr (10, [Value.ref h1, Value.int n0_size, Value.int y_3, Value.ref h2])), (h1, Sum.inl (cint, 120, Sum.inl f1)), (h2, Sum.inr (4, [Value.ref h3, Value.int y_4, Value.ref h4, Value.ref h5, Value.int n2_top])), (h3, Sum.inl (cint, 128, Sum.inl f_5))]) [0, 1, 2, 3] rfl
    have hD9 := hD.sub (ws' := [(h0, Sum.inr (10, [Value.ref h1, Value.int n0_size, Value.int y_3, Value.ref h2])), (h1, Sum.inl (cint, 120, Sum.inl f1)), (h2, Sum.inr (4, [Value.ref h3, Value.int y_4, Value.ref h4, Value.ref h5, Value.int n2_top])), (h3, Sum.inl (cint, 128, Sum.inl f_5))]) [0, 1, 2, 3] (by decide) rfl
    have hK9 := hK.sub (tys' := []) [] rfl
    exact W.zret (v := 0) hx hb hr rfl (fun t ht hW => ⟨⟨0, (), rfl, (by show 0 ≤ (0 : Int32).toInt ∧ (0 : Int32).toInt ≤ 1; first | decide | (constructor <;> (omega))), y_3, y_4, f_5, (by show 0 ≤ (y_4 : Int32).toInt ∧ (y_4 : Int32).toInt ≤ 128; first | decide | (constructor <;> (omega))), by rw [ht]; exact hP9, va_K.moved hW.alike hK9, hD9⟩, hS.F ht⟩) hS.2.2 dX10_readChain_23
set_option maxHeartbeats 4000000 in
set_option maxRecDepth 100000 in
theorem g_X10_readInner_4 (l : Launch) (dC : Nat → ClassId) (dI : Nat → Nat → Nat) (h0 : Nat) (h1 : Nat) (h2 : Nat) (h3 : Nat) (h4 : Nat) (h5 : Nat) (cint : ClassId) (sz : Nat) (n0_size : Int32) (n0_place : Int32) (f1 : Nat → Int32) (n2_size : Int32) (n2_top : Int32) (f3 : Nat → Int32) (tn0_size : 0 ≤ n0_size.toInt ∧ n0_size.toInt ≤ 120) (bf1 : ∀ j, j < 120 → 0 ≤ (f1 j).toInt ∧ (f1 j).toInt ≤ 255) (tn2_size : 0 ≤ n2_size.toInt ∧ n2_size.toInt ≤ 128) (tn2_top : 0 ≤ n2_top.toInt ∧ n2_top.toInt ≤ 64) (aNAMES : Nat) : Met l yX10_readInner wsX10_readInner ({ frames := 41, cells := 0, slots := 0, locals := 962 }) (va_Pc [.ref h0, .int 2] (fun U => U.heap.size = sz ∧ va_P (dC, dI) vwCl [(h0, Sum.inr (10, [Value.ref h1, Value.int n0_size, Value.int n0_place, Value.ref h2])), (h1, Sum.inl (cint, 120, Sum.inl f1)), (h2, Sum.inr (4, [Value.ref h3, Value.int n2_size, Value.ref h4, Value.ref h5, Value.int n2_top])), (h3, Sum.inl (cint, 128, Sum.inl f3))] U.heap ∧ va_K (dC, dI) vwCl [(cint, .int)] U ∧ va_D (fun _ => True) [(h0, Sum.inr (10, [Value.ref h1, Value.int n0_size, Value.int n0_place, Value.ref h2])), (h1, Sum.inl (cint, 120, Sum.inl f1)), (h2, Sum.inr (4, [Value.ref h3, Value.int n2_size, Value.ref h4, Value.ref h5, Value.int n2_top])), (h3, Sum.inl (cint, 128, Sum.inl f3))] ∧ va_Z "KinkStreet$Law" "NAMES" "[C" (.ref aNAMES) (va_A [(h0, Sum.inr (10, [Value.ref h1, Value.int n0_size, Value.int n0_place, Value.ref h2])), (h1, Sum.inl (cint, 120, Sum.inl f1)), (h2, Sum.inr (4, [Value.ref h3, Value.int n2_size, Value.ref h4, Value.ref h5, Value.int n2_top])), (h3, Sum.inl (cint, 128, Sum.inl f3))] sz) U U.heap ∧ va_T .char aNAMES 8 tb_NAMES (va_A [(h0, Sum.inr (10, [Value.ref h1, Value.int n0_size, Value.int n0_place, Value.ref h2])), (h1, Sum.inl (cint, 120, Sum.inl f1)), (h2, Sum.inr (4, [Value.ref h3, Value.int n2_size, Value.ref h4, Value.ref h5, Value.int n2_top])), (h3, Sum.inl (cint, 128, Sum.inl f3))] sz) U U.heap)) (va_Qi (fun (r : Int32) (_ : Unit) => (0 ≤ r.toInt ∧ r.toInt ≤ 1)) (fun (_ : Unit) t => ∃ (m0_place : Int32) (m2_size : Int32) (g3 : Nat → Int32), (0 ≤ m2_size.toInt ∧ m2_size.toInt ≤ 128) ∧ va_P (dC, dI) vwCl [(h0, Sum.inr (10, [Value.ref h1, Value.int n0_size, Value.int m0_place, Value.ref h2])), (h1, Sum.inl (cint, 120, Sum.inl f1)), (h2, Sum.inr (4, [Value.ref h3, Value.int m2_size, Value.ref h4, Value.ref h5, Value.int n2_top])), (h3, Sum.inl (cint, 128, Sum.inl g3))] t.heap ∧ va_K (dC, dI) vwCl [] t ∧ va_D (va_A [(h0, Sum.inr (10, [Value.ref h1, Value.int n0_size, Value.int n0_place, Value.ref h2])), (h1, Sum.inl (cint, 120, Sum.inl f1)), (h2, Sum.inr (4, [Value.ref h3, Value.int n2_size, Value.ref h4, Value.ref h5, Value.int n2_top])), (h3, Sum.inl (cint, 128, Sum.inl f3))] sz) [(h0, Sum.inr (10, [Value.ref h1, Value.int n0_size, Value.int m0_place, Value.ref h2])), (h1, Sum.inl (cint, 120, Sum.inl f1)), (h2, Sum.inr (4, [Value.ref h3, Value.int m2_size, Value.ref h4, Value.ref h5, Value.int n2_top])), (h3, Sum.inl (cint, 128, Sum.inl g3))]) (va_A [(h0, Sum.inr (10, [Value.ref h1, Value.int n0_size, Value.int n0_place, Value.ref h2])), (h1, Sum.inl (cint, 120, Sum.inl f1)), (h2, Sum.inr (4, [Value.ref h3, Value.int n2_size, Value.ref h4, Value.ref h5, Value.int n2_top])), (h3, Sum.inl (cint, 128, Sum.inl f3))] sz)) 0 0 (va_A [(h0, Sum.inr (10, [Value.ref h1, Value.int n0_size, Value.int n0_place, Value.ref h2])), (h1, Sum.inl (cint, 120, Sum.inl f1)), (h2, Sum.inr (4, [Value.ref h3, Value.int n2_size, Value.ref h4, Value.ref h5, Value.int n2_top])), (h3, Sum.inl (cint, 128, Sum.inl f3))] sz) := by
  refine Met.ofW (cc := cX10_readInner) (maxL := 2) (ret := (some .boolean)) (by decide) rfl ?_
  intro p e s m args below meth c s₁ B hml hv
  obtain ⟨rfl, hsz, hP, hK, hD0, hZNAMES, hTNAMES⟩ := hv
  have hx := B.exec
  have hb := B.bytes
  have hr := B.returns
  have hts := atoms_spec (ws := wsX10_readInner) B.pre
  have hown : s.vm.findClass RX10 = some m.cls := findClass_of_methodNamed B.named
  have hlocks := B.notSynchronized
  subst hsz
  have hD := hD0.self (sz := s.heap.size)
  generalize hAe : va_A [(h0, Sum.inr (10, [Value.ref h1, Value.int n0_size, Value.int n0_place, Value.ref h2])), (h1, Sum.inl (cint, 120, Sum.inl f1)), (h2, Sum.inr (4, [Value.ref h3, Value.int n2_size, Value.ref h4, Value.ref h5, Value.int n2_top])), (h3, Sum.inl (cint, 128, Sum.inl f3))] s.heap.size = A at hD hZNAMES hTNAMES ⊢
  have hA : ∀ q : Nat, s.heap.size ≤ q → A q := fun q h => by rw [← hAe]; exact Or.inr h
  have hS : va_S A s.heap s.heap [] := va_S.rf
  have hP : va_P (dC, dI) vwCl [(h0, Sum.inr (10, [Value.ref h1, Value.int n0_size, Value.int n0_place, Value.ref h2])), (h1, Sum.inl (cint, 120, Sum.inl f1)), (h2, Sum.inr (4, [Value.ref h3, Value.int n2_size, Value.ref h4, Value.ref h5, Value.int n2_top])), (h3, Sum.inl (cint, 128, Sum.inl f3))] s.heap := hP
  have hl := lv_entry ([.ref h0, .int 2]) (n := 2) (Nat.le_of_ble_eq_true rfl)
  rw [lg_entry_eq]
  generalize (lg_sl ([.ref h0, .int 2]) ++ List.replicate (2 - (lg_sl ([.ref h0, .int 2])).length) Slot.unset).toArray = ls at hl ⊢
  have hl : lv_has ls 2 [(0, .ref h0), (1, .int 2)] := hl
  refine lv_aload_n hx hb dX10_readInner_0 rfl (lv_at hl 0 rfl) ?_
  refine lv_iconst (v := 0) hx hb dX10_readInner_1 (by decide) ?_
  refine lv_iload_n hx hb dX10_readInner_2 rfl (lv_at hl 1 rfl) ?_
  have hPc := hP.sub (ws' := [(h0, Sum.inr (10, [Value.ref h1, Value.int n0_size, Value.int n0_place, Value.ref h2])), (h1, Sum.inl (cint, 120, Sum.inl f1)), (h2, Sum.inr (4, [Value.ref h3, Value.int n2_size, Value.ref h4, Value.ref h5, Value.int n2_top])), (h3, Sum.inl (cint, 128, Sum.inl f3))]) [0, 1, 2, 3] rfl
  have hDc := hD.sub (ws' := [(h0, Sum.inr (10, [Value.ref h1, Value.int n0_size, Value.int n0_place, Value.ref h2])), (h1, Sum.inl (cint, 120, Sum.inl f1)), (h2, Sum.inr (4, [Value.ref h3, Value.int n2_size, Value.ref h4, Value.ref h5, Value.int n2_top])), (h3, Sum.inl (cint, 128, Sum.inl f3))]) [0, 1, 2, 3] (by decide) rfl
  have hKc := hK.sub (tys' := [(cint, .int)]) [0] rfl
  have hFc := va_free (wc := [(h0, Sum.inr (10, [Value.ref h1, Value.int n0_size, Value.int n0_place, Value.ref h2])), (h1, Sum.inl (cint, 120, Sum.inl f1)), (h2, Sum.inr (4, [Value.ref h3, Value.int n2_size, Value.ref h4, Value.ref h5, Value.int n2_top])), (h3, Sum.inl (cint, 128, Sum.inl f3))]) hD hS hA [0, 1, 2, 3] rfl
  refine va_calli (va_runV (As := [.int 0, .int 2]) (rest := []) ⟨hx, hb, hml, hown, hts⟩ (g_X10_readChain_29 l dC dI h0 h1 h2 h3 h4 h5 cint s.heap.size n0_size n0_place f1 n2_size n2_top f3 tn0_size bf1 tn2_size tn2_top aNAMES) (cwV 2 hts gX10_readInner_X10_readChain rfl rfl rfl (by decide +kernel) ⟨Nat.le_of_ble_eq_true rfl, Nat.le_of_ble_eq_true rfl⟩) ⟨fun a U g mk q => by obtain ⟨q0, q1, qP, qK, qD, qx0, qx1⟩ := q; exact ⟨q0, q1, qP, va_K.moved (u := U) (U := U.calling g mk a) (Vm.Alike.refl U.vm) qK, qD, va_Z.moved (u := U) (U := U.calling g mk a) (Vm.Alike.refl U.vm) qx0, va_T.moved (u := U) (U := U.calling g mk a) (Vm.Alike.refl U.vm) qx1⟩, va_recv hKc hPc (ci := 10) (q0 := 0) rfl rfl, fun U hU hW => ⟨rfl, by rw [hU], by rw [hU]; exact hPc, va_K.moved hW.alike hKc, hDc.weaken (fun _ _ _ _ => trivial), by rw [hU]; exact ((hZNAMES.kept (fun a h1 h2 => hS.2.1 a h1 h2)).narrow hFc).moved hW.alike, by rw [hU]; exact ((hTNAMES.kept (fun a h1 h2 => hS.2.1 a h1 h2)).narrow hFc).moved hW.alike⟩⟩ rfl rfl hl.1 rfl (lv_room (Nat.le_of_ble_eq_true rfl)) dX10_readInner_3 ⟨Nat.le_of_ble_eq_true rfl, Nat.le_of_ble_eq_true rfl⟩) hS (fun q _ h => hFc q h) hFc (fun r_1 u t H1 locs ht hvm hw hB hz1 hk1 hS => ?_)
  obtain ⟨y_2, y_3, f_4, by_3, hP1, hK1, hD1⟩ := hB
  rw [ht] at hP1
  have hK1 := va_K.moved hvm.symm hK1
  obtain ⟨hP, hD⟩ := va_join (wr := []) (w1 := [(h0, Sum.inr (10, [Value.ref h1, Value.int n0_size, Value.int y_2, Value.ref h2])), (h1, Sum.inl (cint, 120, Sum.inl f1)), (h2, Sum.inr (4, [Value.ref h3, Value.int y_3, Value.ref h4, Value.ref h5, Value.int n2_top])), (h3, Sum.inl (cint, 128, Sum.inl f_4))]) hP hD [0, 1, 2, 3] [] rfl rfl (by decide) (by decide) hk1 hFc hP1 hD1
  generalize H1 = H at hP hS ⊢
  have hP : va_P (dC, dI) vwCl [(h0, Sum.inr (10, [Value.ref h1, Value.int n0_size, Value.int y_2, Value.ref h2])), (h1, Sum.inl (cint, 120, Sum.inl f1)), (h2, Sum.inr (4, [Value.ref h3, Value.int y_3, Value.ref h4, Value.ref h5, Value.int n2_top])), (h3, Sum.inl (cint, 128, Sum.inl f_4))] H := hP
  have hD : va_D A [(h0, Sum.inr (10, [Value.ref h1, Value.int n0_size, Value.int y_2, Value.ref h2])), (h1, Sum.inl (cint, 120, Sum.inl f1)), (h2, Sum.inr (4, [Value.ref h3, Value.int y_3, Value.ref h4, Value.ref h5, Value.int n2_top])), (h3, Sum.inl (cint, 128, Sum.inl f_4))] := hD
  have t_1 : 0 ≤ r_1.toInt ∧ r_1.toInt ≤ 1 := hw
  refine lv_if_eq (tgt := 18) hx hb dX10_readInner_6 (by decide) (fun c_5 => ?_) (fun c_5 => ?_)
  · have t_5 : r_1.toInt = 0 := kk_eq c_5
    refine lv_iconst (v := 0) hx hb dX10_readInner_18 (by decide) ?_
    have hP9 := hP.sub (ws' := [(h0, Sum.inr (10, [Value.ref h1, Value.int n0_size, Value.int y_2, Value.ref h2])), (h1, Sum.inl (cint, 120, Sum.inl f1)), (h2, Sum.inr (4, [Value.ref h3, Value.int y_3, Value.ref h4, Value.ref h5, Value.int n2_top])), (h3, Sum.inl (cint, 128, Sum.inl f_4))]) [0, 1, 2, 3] rfl
    have hD9 := hD.sub (ws' := [(h0, Sum.inr (10, [Value.ref h1, Value.int n0_size, Value.int y_2, Value.ref h2])), (h1, Sum.inl (cint, 120, Sum.inl f1)), (h2, Sum.inr (4, [Value.ref h3, Value.int y_3, Value.ref h4, Value.ref h5, Value.int n2_top])), (h3, Sum.inl (cint, 128, Sum.inl f_4))]) [0, 1, 2, 3] (by decide) rfl
    have hK9 := hK.sub (tys' := []) [] rfl
    exact W.zret (v := 0) hx hb hr rfl (fun t ht hW => ⟨⟨0, (), rfl, (by show 0 ≤ (0 : Int32).toInt ∧ (0 : Int32).toInt ≤ 1; first | decide | (constructor <;> (omega))), y_2, y_3, f_4, (by show 0 ≤ (y_3 : Int32).toInt ∧ (y_3 : Int32).toInt ≤ 128; first | decide | (constructor <;> (omega))), by rw [ht]; exact hP9, va_K.moved hW.alike hK9, hD9⟩, hS.F ht⟩) hS.2.2 dX10_readInner_19
  · have t_5 : r_1.toInt ≠ 0 := kk_ne c_5
    refine lv_aload_n hx hb dX10_readInner_9 rfl (lv_at hl 0 rfl) ?_
    have hPc := hP.sub (ws' := [(h0, Sum.inr (10, [Value.ref h1, Value.int n0_size, Value.int y_2, Value.ref h2])), (h1, Sum.inl (cint, 120, Sum.inl f1))]) [0, 1] rfl
    have hDc := hD.sub (ws' := [(h0, Sum.inr (10, [Value.ref h1, Value.int n0_size, Value.int y_2, Value.ref h2])), (h1, Sum.inl (cint, 120, Sum.inl f1))]) [0, 1] (by decide) rfl
    have hKc := hK.sub (tys' := [(cint, .int)]) [0] rfl
    have hFc := va_free (wc := [(h0, Sum.inr (10, [Value.ref h1, Value.int n0_size, Value.int y_2, Value.ref h2])), (h1, Sum.inl (cint, 120, Sum.inl f1))]) hD hS hA [0, 1] rfl
    refine va_calli (va_runV (As := []) (rest := []) ⟨hx, hb, hml, hown, hts⟩ (g_X10_next_0 l dC dI h0 h1 h2 cint H.size n0_size y_2 f1 tn0_size bf1) (cwV 0 hts gX10_readInner_X10_next rfl rfl rfl (by decide +kernel) ⟨Nat.le_of_ble_eq_true rfl, Nat.le_of_ble_eq_true rfl⟩) ⟨fun a U g mk q => by obtain ⟨q0, q1, qP, qK, qD⟩ := q; exact ⟨q0, q1, qP, va_K.moved (u := U) (U := U.calling g mk a) (Vm.Alike.refl U.vm) qK, qD⟩, va_recv hKc hPc (ci := 10) (q0 := 0) rfl rfl, fun U hU hW => ⟨rfl, by rw [hU], by rw [hU]; exact hPc, va_K.moved hW.alike hKc, hDc.weaken (fun _ _ _ _ => trivial)⟩⟩ rfl rfl hl.1 rfl (lv_room (Nat.le_of_ble_eq_true rfl)) dX10_readInner_10 ⟨Nat.le_of_ble_eq_true rfl, Nat.le_of_ble_eq_true rfl⟩) hS (fun q _ h => hFc q h) hFc (fun r_6 u t H1 locs ht hvm hw hB hz1 hk1 hS => ?_)
    obtain ⟨hP1, hK1, hD1⟩ := hB
    rw [ht] at hP1
    have hK1 := va_K.moved hvm.symm hK1
    obtain ⟨hP, hD⟩ := va_join (wr := [(h2, Sum.inr (4, [Value.ref h3, Value.int y_3, Value.ref h4, Value.ref h5, Value.int n2_top])), (h3, Sum.inl (cint, 128, Sum.inl f_4))]) (w1 := [(h0, Sum.inr (10, [Value.ref h1, Value.int n0_size, Value.int y_2, Value.ref h2])), (h1, Sum.inl (cint, 120, Sum.inl f1))]) hP hD [0, 1] [2, 3] rfl rfl (by decide) (by decide) hk1 hFc hP1 hD1
    generalize H1 = H at hP hS ⊢
    have hP : va_P (dC, dI) vwCl [(h2, Sum.inr (4, [Value.ref h3, Value.int y_3, Value.ref h4, Value.ref h5, Value.int n2_top])), (h3, Sum.inl (cint, 128, Sum.inl f_4)), (h0, Sum.inr (10, [Value.ref h1, Value.int n0_size, Value.int y_2, Value.ref h2])), (h1, Sum.inl (cint, 120, Sum.inl f1))] H := hP
    have hD : va_D A [(h2, Sum.inr (4, [Value.ref h3, Value.int y_3, Value.ref h4, Value.ref h5, Value.int n2_top])), (h3, Sum.inl (cint, 128, Sum.inl f_4)), (h0, Sum.inr (10, [Value.ref h1, Value.int n0_size, Value.int y_2, Value.ref h2])), (h1, Sum.inl (cint, 120, Sum.inl f1))] := hD
    have t_6 : (-1) ≤ r_6.toInt ∧ r_6.toInt ≤ 255 := hw
    refine lv_bipush (v := 41) hx hb dX10_readInner_13 (by decide) ?_
    refine lv_icmp_eq (tgt := 20) hx hb dX10_readInner_15 (by decide) (fun c_7 => ?_) (fun c_7 => ?_)
    · have t_7 : r_6.toInt = 41 := kk_eq c_7
      refine lv_aload_n hx hb dX10_readInner_20 rfl (lv_at hl 0 rfl) ?_
      refine lv_dup hx hb dX10_readInner_21 rfl ?_
      refine va_get (D := (dC, dI)) (ci := 10) (v := .int y_2) (C := RX10) (T := TX10) (N := 4) hx hb hts (fun _ h => List.mem_cons_of_mem _ (List.mem_append_left _ (List.mem_append_right _ h))) hown hK hP 2 rfl rfl 2 (by decide) (hts (.fieldLink RX10 17 "KinkStreet$Tape" "place" "I") (List.mem_of_getElem? (i := 1) rfl)) (fun _ h9 => h9) rfl dX10_readInner_22 ?_
      refine lv_iconst (v := 1) hx hb dX10_readInner_25 (by decide) ?_
      refine lv_iadd hx hb dX10_readInner_26 ?_
      refine va_put (D := (dC, dI)) (ci := 10) (v := .int (y_2 + 1)) (ty := .int) (C := RX10) (T := TX10) (N := 4) hx hb hts (fun _ h => List.mem_cons_of_mem _ (List.mem_append_left _ (List.mem_append_right _ h))) tyX10 tyX10_ok nmX10 hown hK hP hD hS 2 rfl rfl 2 (by decide) (hts (.fieldLink RX10 17 "KinkStreet$Tape" "place" "I") (List.mem_of_getElem? (i := 1) rfl)) (fun _ h9 => h9) rfl (by decide +kernel) rfl rfl (Nat.le_of_ble_eq_true rfl) dX10_readInner_27 (fun H locs hP hD hS => ?_)
      have hP : va_P (dC, dI) vwCl [(h2, Sum.inr (4, [Value.ref h3, Value.int y_3, Value.ref h4, Value.ref h5, Value.int n2_top])), (h3, Sum.inl (cint, 128, Sum.inl f_4)), (h0, Sum.inr (10, [Value.ref h1, Value.int n0_size, Value.int (y_2 + 1), Value.ref h2])), (h1, Sum.inl (cint, 120, Sum.inl f1))] H := hP
      have hD : va_D A [(h2, Sum.inr (4, [Value.ref h3, Value.int y_3, Value.ref h4, Value.ref h5, Value.int n2_top])), (h3, Sum.inl (cint, 128, Sum.inl f_4)), (h0, Sum.inr (10, [Value.ref h1, Value.int n0_size, Value.int (y_2 + 1), Value.ref h2])), (h1, Sum.inl (cint, 120, Sum.inl f1))] := hD
      refine lv_iconst (v := 1) hx hb dX10_readInner_30 (by decide) ?_
      have hP9 := hP.sub (ws' := [(h0, Sum.inr (10, [Value.ref h1, Value.int n0_size, Value.int (y_2 + 1), Value.ref h2])), (h1, Sum.inl (cint, 120, Sum.inl f1)), (h2, Sum.inr (4, [Value.ref h3, Value.int y_3, Value.ref h4, Value.ref h5, Value.int n2_top])), (h3, Sum.inl (cint, 128, Sum.inl f_4))]) [2, 3, 0, 1] rfl
      have hD9 := hD.sub (ws' := [(h0, Sum.inr (10, [Value.ref h1, Value.int n0_size, Value.int (y_2 + 1), Value.ref h2])), (h1, Sum.inl (cint, 120, Sum.inl f1)), (h2, Sum.inr (4, [Value.ref h3, Value.int y_3, Value.ref h4, Value.ref h5, Value.int n2_top])), (h3, Sum.inl (cint, 128, Sum.inl f_4))]) [2, 3, 0, 1] (by decide) rfl
      have hK9 := hK.sub (tys' := []) [] rfl
      exact W.zret (v := 1) hx hb hr rfl (fun t ht hW => ⟨⟨1, (), rfl, (by show 0 ≤ (1 : Int32).toInt ∧ (1 : Int32).toInt ≤ 1; first | decide | (constructor <;> (omega))), (y_2 + 1), y_3, f_4, (by show 0 ≤ (y_3 : Int32).toInt ∧ (y_3 : Int32).toInt ≤ 128; first | decide | (constructor <;> (omega))), by rw [ht]; exact hP9, va_K.moved hW.alike hK9, hD9⟩, hS.F ht⟩) hS.2.2 dX10_readInner_31
    · have t_7 : r_6.toInt ≠ 41 := kk_ne c_7
      refine lv_iconst (v := 0) hx hb dX10_readInner_18 (by decide) ?_
      have hP9 := hP.sub (ws' := [(h0, Sum.inr (10, [Value.ref h1, Value.int n0_size, Value.int y_2, Value.ref h2])), (h1, Sum.inl (cint, 120, Sum.inl f1)), (h2, Sum.inr (4, [Value.ref h3, Value.int y_3, Value.ref h4, Value.ref h5, Value.int n2_top])), (h3, Sum.inl (cint, 128, Sum.inl f_4))]) [2, 3, 0, 1] rfl
      have hD9 := hD.sub (ws' := [(h0, Sum.inr (10, [Value.ref h1, Value.int n0_size, Value.int y_2, Value.ref h2])), (h1, Sum.inl (cint, 120, Sum.inl f1)), (h2, Sum.inr (4, [Value.ref h3, Value.int y_3, Value.ref h4, Value.ref h5, Value.int n2_top])), (h3, Sum.inl (cint, 128, Sum.inl f_4))]) [2, 3, 0, 1] (by decide) rfl
      have hK9 := hK.sub (tys' := []) [] rfl
      exact W.zret (v := 0) hx hb hr rfl (fun t ht hW => ⟨⟨0, (), rfl, (by show 0 ≤ (0 : Int32).toInt ∧ (0 : Int32).toInt ≤ 1; first | decide | (constructor <;> (omega))), y_2, y_3, f_4, (by show 0 ≤ (y_3 : Int32).toInt ∧ (y_3 : Int32).toInt ≤ 128; first | decide | (constructor <;> (omega))), by rw [ht]; exact hP9, va_K.moved hW.alike hK9, hD9⟩, hS.F ht⟩) hS.2.2 dX10_readInner_19
set_option maxHeartbeats 4000000 in
set_option maxRecDepth 100000 in
theorem g_X10_readSigned_4 (l : Launch) (dC : Nat → ClassId) (dI : Nat → Nat → Nat) (h0 : Nat) (h1 : Nat) (h2 : Nat) (h3 : Nat) (h4 : Nat) (h5 : Nat) (cint : ClassId) (sz : Nat) (p0 : Int32) (n0_size : Int32) (n0_place : Int32) (f1 : Nat → Int32) (n2_size : Int32) (n2_top : Int32) (f3 : Nat → Int32) (tn0_size : 0 ≤ n0_size.toInt ∧ n0_size.toInt ≤ 120) (bf1 : ∀ j, j < 120 → 0 ≤ (f1 j).toInt ∧ (f1 j).toInt ≤ 255) (tn2_size : 0 ≤ n2_size.toInt ∧ n2_size.toInt ≤ 128) (tn2_top : 0 ≤ n2_top.toInt ∧ n2_top.toInt ≤ 64) (aNAMES : Nat) : Met l yX10_readSigned wsX10_readSigned ({ frames := 35, cells := 0, slots := 0, locals := 818 }) (va_Pc [.ref h0, .int p0, .int 2] (fun U => U.heap.size = sz ∧ va_P (dC, dI) vwCl [(h0, Sum.inr (10, [Value.ref h1, Value.int n0_size, Value.int n0_place, Value.ref h2])), (h1, Sum.inl (cint, 120, Sum.inl f1)), (h2, Sum.inr (4, [Value.ref h3, Value.int n2_size, Value.ref h4, Value.ref h5, Value.int n2_top])), (h3, Sum.inl (cint, 128, Sum.inl f3))] U.heap ∧ va_K (dC, dI) vwCl [(cint, .int)] U ∧ va_D (fun _ => True) [(h0, Sum.inr (10, [Value.ref h1, Value.int n0_size, Value.int n0_place, Value.ref h2])), (h1, Sum.inl (cint, 120, Sum.inl f1)), (h2, Sum.inr (4, [Value.ref h3, Value.int n2_size, Value.ref h4, Value.ref h5, Value.int n2_top])), (h3, Sum.inl (cint, 128, Sum.inl f3))] ∧ va_Z "KinkStreet$Law" "NAMES" "[C" (.ref aNAMES) (va_A [(h0, Sum.inr (10, [Value.ref h1, Value.int n0_size, Value.int n0_place, Value.ref h2])), (h1, Sum.inl (cint, 120, Sum.inl f1)), (h2, Sum.inr (4, [Value.ref h3, Value.int n2_size, Value.ref h4, Value.ref h5, Value.int n2_top])), (h3, Sum.inl (cint, 128, Sum.inl f3))] sz) U U.heap ∧ va_T .char aNAMES 8 tb_NAMES (va_A [(h0, Sum.inr (10, [Value.ref h1, Value.int n0_size, Value.int n0_place, Value.ref h2])), (h1, Sum.inl (cint, 120, Sum.inl f1)), (h2, Sum.inr (4, [Value.ref h3, Value.int n2_size, Value.ref h4, Value.ref h5, Value.int n2_top])), (h3, Sum.inl (cint, 128, Sum.inl f3))] sz) U U.heap)) (va_Qi (fun (r : Int32) (_ : Unit) => (0 ≤ r.toInt ∧ r.toInt ≤ 1)) (fun (_ : Unit) t => ∃ (m0_place : Int32) (m2_size : Int32) (g3 : Nat → Int32), (0 ≤ m2_size.toInt ∧ m2_size.toInt ≤ 128) ∧ va_P (dC, dI) vwCl [(h0, Sum.inr (10, [Value.ref h1, Value.int n0_size, Value.int m0_place, Value.ref h2])), (h1, Sum.inl (cint, 120, Sum.inl f1)), (h2, Sum.inr (4, [Value.ref h3, Value.int m2_size, Value.ref h4, Value.ref h5, Value.int n2_top])), (h3, Sum.inl (cint, 128, Sum.inl g3))] t.heap ∧ va_K (dC, dI) vwCl [] t ∧ va_D (va_A [(h0, Sum.inr (10, [Value.ref h1, Value.int n0_size, Value.int n0_place, Value.ref h2])), (h1, Sum.inl (cint, 120, Sum.inl f1)), (h2, Sum.inr (4, [Value.ref h3, Value.int n2_size, Value.ref h4, Value.ref h5, Value.int n2_top])), (h3, Sum.inl (cint, 128, Sum.inl f3))] sz) [(h0, Sum.inr (10, [Value.ref h1, Value.int n0_size, Value.int m0_place, Value.ref h2])), (h1, Sum.inl (cint, 120, Sum.inl f1)), (h2, Sum.inr (4, [Value.ref h3, Value.int m2_size, Value.ref h4, Value.ref h5, Value.int n2_top])), (h3, Sum.inl (cint, 128, Sum.inl g3))]) (va_A [(h0, Sum.inr (10, [Value.ref h1, Value.int n0_size, Value.int n0_place, Value.ref h2])), (h1, Sum.inl (cint, 120, Sum.inl f1)), (h2, Sum.inr (4, [Value.ref h3, Value.int n2_size, Value.ref h4, Value.ref h5, Value.int n2_top])), (h3, Sum.inl (cint, 128, Sum.inl f3))] sz)) 0 0 (va_A [(h0, Sum.inr (10, [Value.ref h1, Value.int n0_size, Value.int n0_place, Value.ref h2])), (h1, Sum.inl (cint, 120, Sum.inl f1)), (h2, Sum.inr (4, [Value.ref h3, Value.int n2_size, Value.ref h4, Value.ref h5, Value.int n2_top])), (h3, Sum.inl (cint, 128, Sum.inl f3))] sz) := by
  refine Met.ofW (cc := cX10_readSigned) (maxL := 3) (ret := (some .boolean)) (by decide) rfl ?_
  intro p e s m args below meth c s₁ B hml hv
  obtain ⟨rfl, hsz, hP, hK, hD0, hZNAMES, hTNAMES⟩ := hv
  have hx := B.exec
  have hb := B.bytes
  have hr := B.returns
  have hts := atoms_spec (ws := wsX10_readSigned) B.pre
  have hown : s.vm.findClass RX10 = some m.cls := findClass_of_methodNamed B.named
  have hlocks := B.notSynchronized
  subst hsz
  have hD := hD0.self (sz := s.heap.size)
  generalize hAe : va_A [(h0, Sum.inr (10, [Value.ref h1, Value.int n0_size, Value.int n0_place, Value.ref h2])), (h1, Sum.inl (cint, 120, Sum.inl f1)), (h2, Sum.inr (4, [Value.ref h3, Value.int n2_size, Value.ref h4, Value.ref h5, Value.int n2_top])), (h3, Sum.inl (cint, 128, Sum.inl f3))] s.heap.size = A at hD hZNAMES hTNAMES ⊢
  have hA : ∀ q : Nat, s.heap.size ≤ q → A q := fun q h => by rw [← hAe]; exact Or.inr h
  have hS : va_S A s.heap s.heap [] := va_S.rf
  have hP : va_P (dC, dI) vwCl [(h0, Sum.inr (10, [Value.ref h1, Value.int n0_size, Value.int n0_place, Value.ref h2])), (h1, Sum.inl (cint, 120, Sum.inl f1)), (h2, Sum.inr (4, [Value.ref h3, Value.int n2_size, Value.ref h4, Value.ref h5, Value.int n2_top])), (h3, Sum.inl (cint, 128, Sum.inl f3))] s.heap := hP
  have hl := lv_entry ([.ref h0, .int p0, .int 2]) (n := 3) (Nat.le_of_ble_eq_true rfl)
  rw [lg_entry_eq]
  generalize (lg_sl ([.ref h0, .int p0, .int 2]) ++ List.replicate (3 - (lg_sl ([.ref h0, .int p0, .int 2])).length) Slot.unset).toArray = ls at hl ⊢
  have hl : lv_has ls 3 [(0, .ref h0), (1, .int p0), (2, .int 2)] := hl
  refine lv_aload_n hx hb dX10_readSigned_0 rfl (lv_at hl 0 rfl) ?_
  refine lv_iload_n hx hb dX10_readSigned_1 rfl (lv_at hl 2 rfl) ?_
  have hPc := hP.sub (ws' := [(h0, Sum.inr (10, [Value.ref h1, Value.int n0_size, Value.int n0_place, Value.ref h2])), (h1, Sum.inl (cint, 120, Sum.inl f1)), (h2, Sum.inr (4, [Value.ref h3, Value.int n2_size, Value.ref h4, Value.ref h5, Value.int n2_top])), (h3, Sum.inl (cint, 128, Sum.inl f3))]) [0, 1, 2, 3] rfl
  have hDc := hD.sub (ws' := [(h0, Sum.inr (10, [Value.ref h1, Value.int n0_size, Value.int n0_place, Value.ref h2])), (h1, Sum.inl (cint, 120, Sum.inl f1)), (h2, Sum.inr (4, [Value.ref h3, Value.int n2_size, Value.ref h4, Value.ref h5, Value.int n2_top])), (h3, Sum.inl (cint, 128, Sum.inl f3))]) [0, 1, 2, 3] (by decide) rfl
  have hKc := hK.sub (tys' := [(cint, .int)]) [0] rfl
  have hFc := va_free (wc := [(h0, Sum.inr (10, [Value.ref h1, Value.int n0_size, Value.int n0_place, Value.ref h2])), (h1, Sum.inl (cint, 120, Sum.inl f1)), (h2, Sum.inr (4, [Value.ref h3, Value.int n2_size, Value.ref h4, Value.ref h5, Value.int n2_top])), (h3, Sum.inl (cint, 128, Sum.inl f3))]) hD hS hA [0, 1, 2, 3] rfl
  refine va_calli (va_runV (As := [.int 2]) (rest := []) ⟨hx, hb, hml, hown, hts⟩ (g_X10_readOperand_4 l dC dI h0 h1 h2 h3 h4 h5 cint s.heap.size n0_size n0_place f1 n2_size n2_top f3 tn0_size bf1 tn2_size tn2_top aNAMES) (cwV 1 hts gX10_readSigned_X10_readOperand rfl rfl rfl (by decide +kernel) ⟨Nat.le_of_ble_eq_true rfl, Nat.le_of_ble_eq_true rfl⟩) ⟨fun a U g mk q => by obtain ⟨q0, q1, qP, qK, qD, qx0, qx1⟩ := q; exact ⟨q0, q1, qP, va_K.moved (u := U) (U := U.calling g mk a) (Vm.Alike.refl U.vm) qK, qD, va_Z.moved (u := U) (U := U.calling g mk a) (Vm.Alike.refl U.vm) qx0, va_T.moved (u := U) (U := U.calling g mk a) (Vm.Alike.refl U.vm) qx1⟩, va_recv hKc hPc (ci := 10) (q0 := 0) rfl rfl, fun U hU hW => ⟨rfl, by rw [hU], by rw [hU]; exact hPc, va_K.moved hW.alike hKc, hDc.weaken (fun _ _ _ _ => trivial), by rw [hU]; exact ((hZNAMES.kept (fun a h1 h2 => hS.2.1 a h1 h2)).narrow hFc).moved hW.alike, by rw [hU]; exact ((hTNAMES.kept (fun a h1 h2 => hS.2.1 a h1 h2)).narrow hFc).moved hW.alike⟩⟩ rfl rfl hl.1 rfl (lv_room (Nat.le_of_ble_eq_true rfl)) dX10_readSigned_2 ⟨Nat.le_of_ble_eq_true rfl, Nat.le_of_ble_eq_true rfl⟩) hS (fun q _ h => hFc q h) hFc (fun r_1 u t H1 locs ht hvm hw hB hz1 hk1 hS => ?_)
  obtain ⟨y_2, y_3, f_4, by_3, hP1, hK1, hD1⟩ := hB
  rw [ht] at hP1
  have hK1 := va_K.moved hvm.symm hK1
  obtain ⟨hP, hD⟩ := va_join (wr := []) (w1 := [(h0, Sum.inr (10, [Value.ref h1, Value.int n0_size, Value.int y_2, Value.ref h2])), (h1, Sum.inl (cint, 120, Sum.inl f1)), (h2, Sum.inr (4, [Value.ref h3, Value.int y_3, Value.ref h4, Value.ref h5, Value.int n2_top])), (h3, Sum.inl (cint, 128, Sum.inl f_4))]) hP hD [0, 1, 2, 3] [] rfl rfl (by decide) (by decide) hk1 hFc hP1 hD1
  generalize H1 = H at hP hS ⊢
  have hP : va_P (dC, dI) vwCl [(h0, Sum.inr (10, [Value.ref h1, Value.int n0_size, Value.int y_2, Value.ref h2])), (h1, Sum.inl (cint, 120, Sum.inl f1)), (h2, Sum.inr (4, [Value.ref h3, Value.int y_3, Value.ref h4, Value.ref h5, Value.int n2_top])), (h3, Sum.inl (cint, 128, Sum.inl f_4))] H := hP
  have hD : va_D A [(h0, Sum.inr (10, [Value.ref h1, Value.int n0_size, Value.int y_2, Value.ref h2])), (h1, Sum.inl (cint, 120, Sum.inl f1)), (h2, Sum.inr (4, [Value.ref h3, Value.int y_3, Value.ref h4, Value.ref h5, Value.int n2_top])), (h3, Sum.inl (cint, 128, Sum.inl f_4))] := hD
  have t_1 : 0 ≤ r_1.toInt ∧ r_1.toInt ≤ 1 := hw
  refine lv_if_ne (tgt := 10) hx hb dX10_readSigned_5 (by decide) (fun c_5 => ?_) (fun c_5 => ?_)
  · have t_5 : r_1.toInt ≠ 0 := kk_ne c_5
    refine lv_aload_n hx hb dX10_readSigned_10 rfl (lv_at hl 0 rfl) ?_
    refine va_get (D := (dC, dI)) (ci := 10) (v := .ref h2) (C := RX10) (T := TX10) (N := 4) hx hb hts (fun _ h => List.mem_cons_of_mem _ (List.mem_append_left _ (List.mem_append_right _ h))) hown hK hP 0 rfl rfl 3 (by decide) (hts (.fieldLink RX10 20 "KinkStreet$Tape" "law" "LKinkStreet$Law;") (List.mem_of_getElem? (i := 1) rfl)) (fun _ h9 => h9) rfl dX10_readSigned_11 ?_
    refine lv_iload_n hx hb dX10_readSigned_14 rfl (lv_at hl 1 rfl) ?_
    refine lv_bipush (v := 33) hx hb dX10_readSigned_15 (by decide) ?_
    refine lv_icmp_ne (tgt := 25) hx hb dX10_readSigned_17 (by decide) (fun c_6 => ?_) (fun c_6 => ?_)
    · have t_6 : p0.toInt ≠ 33 := kk_ne c_6
      refine lv_bipush (v := 126) hx hb dX10_readSigned_25 (by decide) ?_
      have hPc := hP.sub (ws' := [(h2, Sum.inr (4, [Value.ref h3, Value.int y_3, Value.ref h4, Value.ref h5, Value.int n2_top])), (h3, Sum.inl (cint, 128, Sum.inl f_4))]) [2, 3] rfl
      have hDc := hD.sub (ws' := [(h2, Sum.inr (4, [Value.ref h3, Value.int y_3, Value.ref h4, Value.ref h5, Value.int n2_top])), (h3, Sum.inl (cint, 128, Sum.inl f_4))]) [2, 3] (by decide) rfl
      have hKc := hK.sub (tys' := [(cint, .int)]) [0] rfl
      have hFc := va_free (wc := [(h2, Sum.inr (4, [Value.ref h3, Value.int y_3, Value.ref h4, Value.ref h5, Value.int n2_top])), (h3, Sum.inl (cint, 128, Sum.inl f_4))]) hD hS hA [2, 3] rfl
      refine va_callv (va_runV (As := [.int 126]) (rest := []) ⟨hx, hb, hml, hown, hts⟩ (g_X4_append_0 l dC dI h2 h3 h4 h5 cint H.size 126 y_3 n2_top f_4 (by show 0 ≤ (y_3 : Int32).toInt ∧ (y_3 : Int32).toInt ≤ 128; first | decide | (constructor <;> (omega))) tn2_top) (cwV 1 hts gX10_readSigned_X4_append rfl rfl rfl (by decide +kernel) ⟨Nat.le_of_ble_eq_true rfl, Nat.le_of_ble_eq_true rfl⟩) ⟨fun a U g mk q => by obtain ⟨q0, q1, qP, qK, qD⟩ := q; exact ⟨q0, q1, qP, va_K.moved (u := U) (U := U.calling g mk a) (Vm.Alike.refl U.vm) qK, qD⟩, va_recv hKc hPc (ci := 4) (q0 := 0) rfl rfl, fun U hU hW => ⟨rfl, by rw [hU], by rw [hU]; exact hPc, va_K.moved hW.alike hKc, hDc.weaken (fun _ _ _ _ => trivial)⟩⟩ rfl rfl hl.1 rfl (lv_room (Nat.le_of_ble_eq_true rfl)) dX10_readSigned_27 ⟨Nat.le_of_ble_eq_true rfl, Nat.le_of_ble_eq_true rfl⟩) hS (fun q _ h => hFc q h) hFc (fun u t H1 locs ht hvm hw hB hz1 hk1 hS => ?_)
      obtain ⟨y_8, f_9, by_8, hP1, hK1, hD1⟩ := hB
      rw [ht] at hP1
      have hK1 := va_K.moved hvm.symm hK1
      obtain ⟨hP, hD⟩ := va_join (wr := [(h0, Sum.inr (10, [Value.ref h1, Value.int n0_size, Value.int y_2, Value.ref h2])), (h1, Sum.inl (cint, 120, Sum.inl f1))]) (w1 := [(h2, Sum.inr (4, [Value.ref h3, Value.int y_8, Value.ref h4, Value.ref h5, Value.int n2_top])), (h3, Sum.inl (cint, 128, Sum.inl f_9))]) hP hD [2, 3] [0, 1] rfl rfl (by decide) (by decide) hk1 hFc hP1 hD1
      generalize H1 = H at hP hS ⊢
      have hP : va_P (dC, dI) vwCl [(h0, Sum.inr (10, [Value.ref h1, Value.int n0_size, Value.int y_2, Value.ref h2])), (h1, Sum.inl (cint, 120, Sum.inl f1)), (h2, Sum.inr (4, [Value.ref h3, Value.int y_8, Value.ref h4, Value.ref h5, Value.int n2_top])), (h3, Sum.inl (cint, 128, Sum.inl f_9))] H := hP
      have hD : va_D A [(h0, Sum.inr (10, [Value.ref h1, Value.int n0_size, Value.int y_2, Value.ref h2])), (h1, Sum.inl (cint, 120, Sum.inl f1)), (h2, Sum.inr (4, [Value.ref h3, Value.int y_8, Value.ref h4, Value.ref h5, Value.int n2_top])), (h3, Sum.inl (cint, 128, Sum.inl f_9))] := hD
      refine lv_iconst (v := 1) hx hb dX10_readSigned_30 (by decide) ?_
      have hP9 := hP.sub (ws' := [(h0, Sum.inr (10, [Value.ref h1, Value.int n0_size, Value.int y_2, Value.ref h2])), (h1, Sum.inl (cint, 120, Sum.inl f1)), (h2, Sum.inr (4, [Value.ref h3, Value.int y_8, Value.ref h4, Value.ref h5, Value.int n2_top])), (h3, Sum.inl (cint, 128, Sum.inl f_9))]) [0, 1, 2, 3] rfl
      have hD9 := hD.sub (ws' := [(h0, Sum.inr (10, [Value.ref h1, Value.int n0_size, Value.int y_2, Value.ref h2])), (h1, Sum.inl (cint, 120, Sum.inl f1)), (h2, Sum.inr (4, [Value.ref h3, Value.int y_8, Value.ref h4, Value.ref h5, Value.int n2_top])), (h3, Sum.inl (cint, 128, Sum.inl f_9))]) [0, 1, 2, 3] (by decide) rfl
      have hK9 := hK.sub (tys' := []) [] rfl
      exact W.zret (v := 1) hx hb hr rfl (fun t ht hW => ⟨⟨1, (), rfl, (by show 0 ≤ (1 : Int32).toInt ∧ (1 : Int32).toInt ≤ 1; first | decide | (constructor <;> (omega))), y_2, y_8, f_9, (by show 0 ≤ (y_8 : Int32).toInt ∧ (y_8 : Int32).toInt ≤ 128; first | decide | (constructor <;> (omega))), by rw [ht]; exact hP9, va_K.moved hW.alike hK9, hD9⟩, hS.F ht⟩) hS.2.2 dX10_readSigned_31
    · have t_6 : p0.toInt = 33 := kk_eq c_6
      refine lv_bipush (v := 33) hx hb dX10_readSigned_20 (by decide) ?_
      refine lv_goto (tgt := 27) hx hb dX10_readSigned_22 (by decide) ?_
      have hPc := hP.sub (ws' := [(h2, Sum.inr (4, [Value.ref h3, Value.int y_3, Value.ref h4, Value.ref h5, Value.int n2_top])), (h3, Sum.inl (cint, 128, Sum.inl f_4))]) [2, 3] rfl
      have hDc := hD.sub (ws' := [(h2, Sum.inr (4, [Value.ref h3, Value.int y_3, Value.ref h4, Value.ref h5, Value.int n2_top])), (h3, Sum.inl (cint, 128, Sum.inl f_4))]) [2, 3] (by decide) rfl
      have hKc := hK.sub (tys' := [(cint, .int)]) [0] rfl
      have hFc := va_free (wc := [(h2, Sum.inr (4, [Value.ref h3, Value.int y_3, Value.ref h4, Value.ref h5, Value.int n2_top])), (h3, Sum.inl (cint, 128, Sum.inl f_4))]) hD hS hA [2, 3] rfl
      refine va_callv (va_runV (As := [.int 33]) (rest := []) ⟨hx, hb, hml, hown, hts⟩ (g_X4_append_0 l dC dI h2 h3 h4 h5 cint H.size 33 y_3 n2_top f_4 (by show 0 ≤ (y_3 : Int32).toInt ∧ (y_3 : Int32).toInt ≤ 128; first | decide | (constructor <;> (omega))) tn2_top) (cwV 1 hts gX10_readSigned_X4_append rfl rfl rfl (by decide +kernel) ⟨Nat.le_of_ble_eq_true rfl, Nat.le_of_ble_eq_true rfl⟩) ⟨fun a U g mk q => by obtain ⟨q0, q1, qP, qK, qD⟩ := q; exact ⟨q0, q1, qP, va_K.moved (u := U) (U := U.calling g mk a) (Vm.Alike.refl U.vm) qK, qD⟩, va_recv hKc hPc (ci := 4) (q0 := 0) rfl rfl, fun U hU hW => ⟨rfl, by rw [hU], by rw [hU]; exact hPc, va_K.moved hW.alike hKc, hDc.weaken (fun _ _ _ _ => trivial)⟩⟩ rfl rfl hl.1 rfl (lv_room (Nat.le_of_ble_eq_true rfl)) dX10_readSigned_27 ⟨Nat.le_of_ble_eq_true rfl, Nat.le_of_ble_eq_true rfl⟩) hS (fun q _ h => hFc q h) hFc (fun u t H1 locs ht hvm hw hB hz1 hk1 hS => ?_)
      obtain ⟨y_11, f_12, by_11, hP1, hK1, hD1⟩ := hB
      rw [ht] at hP1
      have hK1 := va_K.moved hvm.symm hK1
      obtain ⟨hP, hD⟩ := va_join (wr := [(h0, Sum.inr (10, [Value.ref h1, Value.int n0_size, Value.int y_2, Value.ref h2])), (h1, Sum.inl (cint, 120, Sum.inl f1))]) (w1 := [(h2, Sum.inr (4, [Value.ref h3, Value.int y_11, Value.ref h4, Value.ref h5, Value.int n2_top])), (h3, Sum.inl (cint, 128, Sum.inl f_12))]) hP hD [2, 3] [0, 1] rfl rfl (by decide) (by decide) hk1 hFc hP1 hD1
      generalize H1 = H at hP hS ⊢
      have hP : va_P (dC, dI) vwCl [(h0, Sum.inr (10, [Value.ref h1, Value.int n0_size, Value.int y_2, Value.ref h2])), (h1, Sum.inl (cint, 120, Sum.inl f1)), (h2, Sum.inr (4, [Value.ref h3, Value.int y_11, Value.ref h4, Value.ref h5, Value.int n2_top])), (h3, Sum.inl (cint, 128, Sum.inl f_12))] H := hP
      have hD : va_D A [(h0, Sum.inr (10, [Value.ref h1, Value.int n0_size, Value.int y_2, Value.ref h2])), (h1, Sum.inl (cint, 120, Sum.inl f1)), (h2, Sum.inr (4, [Value.ref h3, Value.int y_11, Value.ref h4, Value.ref h5, Value.int n2_top])), (h3, Sum.inl (cint, 128, Sum.inl f_12))] := hD
      refine lv_iconst (v := 1) hx hb dX10_readSigned_30 (by decide) ?_
      have hP9 := hP.sub (ws' := [(h0, Sum.inr (10, [Value.ref h1, Value.int n0_size, Value.int y_2, Value.ref h2])), (h1, Sum.inl (cint, 120, Sum.inl f1)), (h2, Sum.inr (4, [Value.ref h3, Value.int y_11, Value.ref h4, Value.ref h5, Value.int n2_top])), (h3, Sum.inl (cint, 128, Sum.inl f_12))]) [0, 1, 2, 3] rfl
      have hD9 := hD.sub (ws' := [(h0, Sum.inr (10, [Value.ref h1, Value.int n0_size, Value.int y_2, Value.ref h2])), (h1, Sum.inl (cint, 120, Sum.inl f1)), (h2, Sum.inr (4, [Value.ref h3, Value.int y_11, Value.ref h4, Value.ref h5, Value.int n2_top])), (h3, Sum.inl (cint, 128, Sum.inl f_12))]) [0, 1, 2, 3] (by decide) rfl
      have hK9 := hK.sub (tys' := []) [] rfl
      exact W.zret (v := 1) hx hb hr rfl (fun t ht hW => ⟨⟨1, (), rfl, (by show 0 ≤ (1 : Int32).toInt ∧ (1 : Int32).toInt ≤ 1; first | decide | (constructor <;> (omega))), y_2, y_11, f_12, (by show 0 ≤ (y_11 : Int32).toInt ∧ (y_11 : Int32).toInt ≤ 128; first | decide | (constructor <;> (omega))), by rw [ht]; exact hP9, va_K.moved hW.alike hK9, hD9⟩, hS.F ht⟩) hS.2.2 dX10_readSigned_31
  · have t_5 : r_1.toInt = 0 := kk_eq c_5
    refine lv_iconst (v := 0) hx hb dX10_readSigned_8 (by decide) ?_
    have hP9 := hP.sub (ws' := [(h0, Sum.inr (10, [Value.ref h1, Value.int n0_size, Value.int y_2, Value.ref h2])), (h1, Sum.inl (cint, 120, Sum.inl f1)), (h2, Sum.inr (4, [Value.ref h3, Value.int y_3, Value.ref h4, Value.ref h5, Value.int n2_top])), (h3, Sum.inl (cint, 128, Sum.inl f_4))]) [0, 1, 2, 3] rfl
    have hD9 := hD.sub (ws' := [(h0, Sum.inr (10, [Value.ref h1, Value.int n0_size, Value.int y_2, Value.ref h2])), (h1, Sum.inl (cint, 120, Sum.inl f1)), (h2, Sum.inr (4, [Value.ref h3, Value.int y_3, Value.ref h4, Value.ref h5, Value.int n2_top])), (h3, Sum.inl (cint, 128, Sum.inl f_4))]) [0, 1, 2, 3] (by decide) rfl
    have hK9 := hK.sub (tys' := []) [] rfl
    exact W.zret (v := 0) hx hb hr rfl (fun t ht hW => ⟨⟨0, (), rfl, (by show 0 ≤ (0 : Int32).toInt ∧ (0 : Int32).toInt ≤ 1; first | decide | (constructor <;> (omega))), y_2, y_3, f_4, (by show 0 ≤ (y_3 : Int32).toInt ∧ (y_3 : Int32).toInt ≤ 128; first | decide | (constructor <;> (omega))), by rw [ht]; exact hP9, va_K.moved hW.alike hK9, hD9⟩, hS.F ht⟩) hS.2.2 dX10_readSigned_9
set_option maxHeartbeats 4000000 in
set_option maxRecDepth 100000 in
theorem g_X10_readOperand_5 (l : Launch) (dC : Nat → ClassId) (dI : Nat → Nat → Nat) (h0 : Nat) (h1 : Nat) (h2 : Nat) (h3 : Nat) (h4 : Nat) (h5 : Nat) (cint : ClassId) (sz : Nat) (n0_size : Int32) (n0_place : Int32) (f1 : Nat → Int32) (n2_size : Int32) (n2_top : Int32) (f3 : Nat → Int32) (tn0_size : 0 ≤ n0_size.toInt ∧ n0_size.toInt ≤ 120) (bf1 : ∀ j, j < 120 → 0 ≤ (f1 j).toInt ∧ (f1 j).toInt ≤ 255) (tn2_size : 0 ≤ n2_size.toInt ∧ n2_size.toInt ≤ 128) (tn2_top : 0 ≤ n2_top.toInt ∧ n2_top.toInt ≤ 64) (aNAMES : Nat) : Met l yX10_readOperand wsX10_readOperand ({ frames := 42, cells := 0, slots := 0, locals := 983 }) (va_Pc [.ref h0, .int 1] (fun U => U.heap.size = sz ∧ va_P (dC, dI) vwCl [(h0, Sum.inr (10, [Value.ref h1, Value.int n0_size, Value.int n0_place, Value.ref h2])), (h1, Sum.inl (cint, 120, Sum.inl f1)), (h2, Sum.inr (4, [Value.ref h3, Value.int n2_size, Value.ref h4, Value.ref h5, Value.int n2_top])), (h3, Sum.inl (cint, 128, Sum.inl f3))] U.heap ∧ va_K (dC, dI) vwCl [(cint, .int)] U ∧ va_D (fun _ => True) [(h0, Sum.inr (10, [Value.ref h1, Value.int n0_size, Value.int n0_place, Value.ref h2])), (h1, Sum.inl (cint, 120, Sum.inl f1)), (h2, Sum.inr (4, [Value.ref h3, Value.int n2_size, Value.ref h4, Value.ref h5, Value.int n2_top])), (h3, Sum.inl (cint, 128, Sum.inl f3))] ∧ va_Z "KinkStreet$Law" "NAMES" "[C" (.ref aNAMES) (va_A [(h0, Sum.inr (10, [Value.ref h1, Value.int n0_size, Value.int n0_place, Value.ref h2])), (h1, Sum.inl (cint, 120, Sum.inl f1)), (h2, Sum.inr (4, [Value.ref h3, Value.int n2_size, Value.ref h4, Value.ref h5, Value.int n2_top])), (h3, Sum.inl (cint, 128, Sum.inl f3))] sz) U U.heap ∧ va_T .char aNAMES 8 tb_NAMES (va_A [(h0, Sum.inr (10, [Value.ref h1, Value.int n0_size, Value.int n0_place, Value.ref h2])), (h1, Sum.inl (cint, 120, Sum.inl f1)), (h2, Sum.inr (4, [Value.ref h3, Value.int n2_size, Value.ref h4, Value.ref h5, Value.int n2_top])), (h3, Sum.inl (cint, 128, Sum.inl f3))] sz) U U.heap)) (va_Qi (fun (r : Int32) (_ : Unit) => (0 ≤ r.toInt ∧ r.toInt ≤ 1)) (fun (_ : Unit) t => ∃ (m0_place : Int32) (m2_size : Int32) (g3 : Nat → Int32), (0 ≤ m2_size.toInt ∧ m2_size.toInt ≤ 128) ∧ va_P (dC, dI) vwCl [(h0, Sum.inr (10, [Value.ref h1, Value.int n0_size, Value.int m0_place, Value.ref h2])), (h1, Sum.inl (cint, 120, Sum.inl f1)), (h2, Sum.inr (4, [Value.ref h3, Value.int m2_size, Value.ref h4, Value.ref h5, Value.int n2_top])), (h3, Sum.inl (cint, 128, Sum.inl g3))] t.heap ∧ va_K (dC, dI) vwCl [] t ∧ va_D (va_A [(h0, Sum.inr (10, [Value.ref h1, Value.int n0_size, Value.int n0_place, Value.ref h2])), (h1, Sum.inl (cint, 120, Sum.inl f1)), (h2, Sum.inr (4, [Value.ref h3, Value.int n2_size, Value.ref h4, Value.ref h5, Value.int n2_top])), (h3, Sum.inl (cint, 128, Sum.inl f3))] sz) [(h0, Sum.inr (10, [Value.ref h1, Value.int n0_size, Value.int m0_place, Value.ref h2])), (h1, Sum.inl (cint, 120, Sum.inl f1)), (h2, Sum.inr (4, [Value.ref h3, Value.int m2_size, Value.ref h4, Value.ref h5, Value.int n2_top])), (h3, Sum.inl (cint, 128, Sum.inl g3))]) (va_A [(h0, Sum.inr (10, [Value.ref h1, Value.int n0_size, Value.int n0_place, Value.ref h2])), (h1, Sum.inl (cint, 120, Sum.inl f1)), (h2, Sum.inr (4, [Value.ref h3, Value.int n2_size, Value.ref h4, Value.ref h5, Value.int n2_top])), (h3, Sum.inl (cint, 128, Sum.inl f3))] sz)) 0 0 (va_A [(h0, Sum.inr (10, [Value.ref h1, Value.int n0_size, Value.int n0_place, Value.ref h2])), (h1, Sum.inl (cint, 120, Sum.inl f1)), (h2, Sum.inr (4, [Value.ref h3, Value.int n2_size, Value.ref h4, Value.ref h5, Value.int n2_top])), (h3, Sum.inl (cint, 128, Sum.inl f3))] sz) := by
  refine Met.ofW (cc := cX10_readOperand) (maxL := 4) (ret := (some .boolean)) (by decide) rfl ?_
  intro p e s m args below meth c s₁ B hml hv
  obtain ⟨rfl, hsz, hP, hK, hD0, hZNAMES, hTNAMES⟩ := hv
  have hx := B.exec
  have hb := B.bytes
  have hr := B.returns
  have hts := atoms_spec (ws := wsX10_readOperand) B.pre
  have hown : s.vm.findClass RX10 = some m.cls := findClass_of_methodNamed B.named
  have hlocks := B.notSynchronized
  subst hsz
  have hD := hD0.self (sz := s.heap.size)
  generalize hAe : va_A [(h0, Sum.inr (10, [Value.ref h1, Value.int n0_size, Value.int n0_place, Value.ref h2])), (h1, Sum.inl (cint, 120, Sum.inl f1)), (h2, Sum.inr (4, [Value.ref h3, Value.int n2_size, Value.ref h4, Value.ref h5, Value.int n2_top])), (h3, Sum.inl (cint, 128, Sum.inl f3))] s.heap.size = A at hD hZNAMES hTNAMES ⊢
  have hA : ∀ q : Nat, s.heap.size ≤ q → A q := fun q h => by rw [← hAe]; exact Or.inr h
  have hS : va_S A s.heap s.heap [] := va_S.rf
  have hP : va_P (dC, dI) vwCl [(h0, Sum.inr (10, [Value.ref h1, Value.int n0_size, Value.int n0_place, Value.ref h2])), (h1, Sum.inl (cint, 120, Sum.inl f1)), (h2, Sum.inr (4, [Value.ref h3, Value.int n2_size, Value.ref h4, Value.ref h5, Value.int n2_top])), (h3, Sum.inl (cint, 128, Sum.inl f3))] s.heap := hP
  have hl := lv_entry ([.ref h0, .int 1]) (n := 4) (Nat.le_of_ble_eq_true rfl)
  rw [lg_entry_eq]
  generalize (lg_sl ([.ref h0, .int 1]) ++ List.replicate (4 - (lg_sl ([.ref h0, .int 1])).length) Slot.unset).toArray = ls at hl ⊢
  have hl : lv_has ls 4 [(0, .ref h0), (1, .int 1)] := hl
  refine lv_aload_n hx hb dX10_readOperand_0 rfl (lv_at hl 0 rfl) ?_
  have hPc := hP.sub (ws' := [(h0, Sum.inr (10, [Value.ref h1, Value.int n0_size, Value.int n0_place, Value.ref h2])), (h1, Sum.inl (cint, 120, Sum.inl f1))]) [0, 1] rfl
  have hDc := hD.sub (ws' := [(h0, Sum.inr (10, [Value.ref h1, Value.int n0_size, Value.int n0_place, Value.ref h2])), (h1, Sum.inl (cint, 120, Sum.inl f1))]) [0, 1] (by decide) rfl
  have hKc := hK.sub (tys' := [(cint, .int)]) [0] rfl
  have hFc := va_free (wc := [(h0, Sum.inr (10, [Value.ref h1, Value.int n0_size, Value.int n0_place, Value.ref h2])), (h1, Sum.inl (cint, 120, Sum.inl f1))]) hD hS hA [0, 1] rfl
  refine va_calli (va_runV (As := []) (rest := []) ⟨hx, hb, hml, hown, hts⟩ (g_X10_next_0 l dC dI h0 h1 h2 cint s.heap.size n0_size n0_place f1 tn0_size bf1) (cwV 0 hts gX10_readOperand_X10_next rfl rfl rfl (by decide +kernel) ⟨Nat.le_of_ble_eq_true rfl, Nat.le_of_ble_eq_true rfl⟩) ⟨fun a U g mk q => by obtain ⟨q0, q1, qP, qK, qD⟩ := q; exact ⟨q0, q1, qP, va_K.moved (u := U) (U := U.calling g mk a) (Vm.Alike.refl U.vm) qK, qD⟩, va_recv hKc hPc (ci := 10) (q0 := 0) rfl rfl, fun U hU hW => ⟨rfl, by rw [hU], by rw [hU]; exact hPc, va_K.moved hW.alike hKc, hDc.weaken (fun _ _ _ _ => trivial)⟩⟩ rfl rfl hl.1 rfl (lv_room (Nat.le_of_ble_eq_true rfl)) dX10_readOperand_1 ⟨Nat.le_of_ble_eq_true rfl, Nat.le_of_ble_eq_true rfl⟩) hS (fun q _ h => hFc q h) hFc (fun r_1 u t H1 locs ht hvm hw hB hz1 hk1 hS => ?_)
  obtain ⟨hP1, hK1, hD1⟩ := hB
  rw [ht] at hP1
  have hK1 := va_K.moved hvm.symm hK1
  obtain ⟨hP, hD⟩ := va_join (wr := [(h2, Sum.inr (4, [Value.ref h3, Value.int n2_size, Value.ref h4, Value.ref h5, Value.int n2_top])), (h3, Sum.inl (cint, 128, Sum.inl f3))]) (w1 := [(h0, Sum.inr (10, [Value.ref h1, Value.int n0_size, Value.int n0_place, Value.ref h2])), (h1, Sum.inl (cint, 120, Sum.inl f1))]) hP hD [0, 1] [2, 3] rfl rfl (by decide) (by decide) hk1 hFc hP1 hD1
  generalize H1 = H at hP hS ⊢
  have hP : va_P (dC, dI) vwCl [(h2, Sum.inr (4, [Value.ref h3, Value.int n2_size, Value.ref h4, Value.ref h5, Value.int n2_top])), (h3, Sum.inl (cint, 128, Sum.inl f3)), (h0, Sum.inr (10, [Value.ref h1, Value.int n0_size, Value.int n0_place, Value.ref h2])), (h1, Sum.inl (cint, 120, Sum.inl f1))] H := hP
  have hD : va_D A [(h2, Sum.inr (4, [Value.ref h3, Value.int n2_size, Value.ref h4, Value.ref h5, Value.int n2_top])), (h3, Sum.inl (cint, 128, Sum.inl f3)), (h0, Sum.inr (10, [Value.ref h1, Value.int n0_size, Value.int n0_place, Value.ref h2])), (h1, Sum.inl (cint, 120, Sum.inl f1))] := hD
  have t_1 : (-1) ≤ r_1.toInt ∧ r_1.toInt ≤ 255 := hw
  refine lv_istore_n (lv' := [(2, .int r_1), (0, .ref h0), (1, .int 1)]) hx hb dX10_readOperand_4 rfl hl (by decide) rfl (fun ls hl => ?_)
  refine lv_iload_n hx hb dX10_readOperand_5 rfl (lv_at hl 0 rfl) ?_
  have hPc := hP.sub (ws' := []) [] rfl
  have hDc := hD.sub (ws' := []) [] (by decide) rfl
  have hKc := hK.sub (tys' := []) [] rfl
  have hFc := va_free (wc := []) hD hS hA [] rfl
  refine va_calli (va_runS (As := [.int r_1]) (rest := []) ⟨hx, hb, hml, hown, hts⟩ (g_X10_isDigit_0 l dC dI H.size r_1) (va_cwS 1 hts gX10_readOperand_X10_isDigit rfl rfl rfl (by decide +kernel) ⟨Nat.le_of_ble_eq_true rfl, Nat.le_of_ble_eq_true rfl⟩) ⟨fun a U g mk q => by obtain ⟨q0, q1, qP, qK, qD⟩ := q; exact ⟨q0, q1, qP, va_K.moved (u := U) (U := U.calling g mk a) (Vm.Alike.refl U.vm) qK, qD⟩, fun U hU hW => ⟨rfl, by rw [hU], by rw [hU]; exact hPc, va_K.moved hW.alike hKc, hDc.weaken (fun _ _ _ _ => trivial)⟩⟩ rfl rfl hl.1 rfl (lv_room (Nat.le_of_ble_eq_true rfl)) dX10_readOperand_6 ⟨Nat.le_of_ble_eq_true rfl, Nat.le_of_ble_eq_true rfl⟩) hS (fun q _ h => hFc q h) hFc (fun r_2 u t H1 locs ht hvm hw hB hz1 hk1 hS => ?_)
  obtain ⟨hP1, hK1, hD1⟩ := hB
  rw [ht] at hP1
  have hK1 := va_K.moved hvm.symm hK1
  obtain ⟨hP, hD⟩ := va_join (wr := [(h2, Sum.inr (4, [Value.ref h3, Value.int n2_size, Value.ref h4, Value.ref h5, Value.int n2_top])), (h3, Sum.inl (cint, 128, Sum.inl f3)), (h0, Sum.inr (10, [Value.ref h1, Value.int n0_size, Value.int n0_place, Value.ref h2])), (h1, Sum.inl (cint, 120, Sum.inl f1))]) (w1 := []) hP hD [] [0, 1, 2, 3] rfl rfl (by decide) (by decide) hk1 hFc hP1 hD1
  generalize H1 = H at hP hS ⊢
  have hP : va_P (dC, dI) vwCl [(h2, Sum.inr (4, [Value.ref h3, Value.int n2_size, Value.ref h4, Value.ref h5, Value.int n2_top])), (h3, Sum.inl (cint, 128, Sum.inl f3)), (h0, Sum.inr (10, [Value.ref h1, Value.int n0_size, Value.int n0_place, Value.ref h2])), (h1, Sum.inl (cint, 120, Sum.inl f1))] H := hP
  have hD : va_D A [(h2, Sum.inr (4, [Value.ref h3, Value.int n2_size, Value.ref h4, Value.ref h5, Value.int n2_top])), (h3, Sum.inl (cint, 128, Sum.inl f3)), (h0, Sum.inr (10, [Value.ref h1, Value.int n0_size, Value.int n0_place, Value.ref h2])), (h1, Sum.inl (cint, 120, Sum.inl f1))] := hD
  have t_2 : 0 ≤ r_2.toInt ∧ r_2.toInt ≤ 1 := hw
  refine lv_if_eq (tgt := 18) hx hb dX10_readOperand_9 (by decide) (fun c_3 => ?_) (fun c_3 => ?_)
  · have t_3 : r_2.toInt = 0 := kk_eq c_3
    refine lv_iload_n hx hb dX10_readOperand_18 rfl (lv_at hl 0 rfl) ?_
    have hPc := hP.sub (ws' := []) [] rfl
    have hDc := hD.sub (ws' := []) [] (by decide) rfl
    have hKc := hK.sub (tys' := []) [] rfl
    have hFc := va_free (wc := []) hD hS hA [] rfl
    refine va_calli (va_runS (As := [.int r_1]) (rest := []) ⟨hx, hb, hml, hown, hts⟩ (g_X4_nameOf_0 l dC dI H.size r_1 aNAMES) (va_cwS 1 hts gX10_readOperand_X4_nameOf rfl rfl rfl (by decide +kernel) ⟨Nat.le_of_ble_eq_true rfl, Nat.le_of_ble_eq_true rfl⟩) ⟨fun a U g mk q => by obtain ⟨q0, q1, qP, qK, qD, qx0, qx1⟩ := q; exact ⟨q0, q1, qP, va_K.moved (u := U) (U := U.calling g mk a) (Vm.Alike.refl U.vm) qK, qD, va_Z.moved (u := U) (U := U.calling g mk a) (Vm.Alike.refl U.vm) qx0, va_T.moved (u := U) (U := U.calling g mk a) (Vm.Alike.refl U.vm) qx1⟩, fun U hU hW => ⟨rfl, by rw [hU], by rw [hU]; exact hPc, va_K.moved hW.alike hKc, hDc.weaken (fun _ _ _ _ => trivial), by rw [hU]; exact ((hZNAMES.kept (fun a h1 h2 => hS.2.1 a h1 h2)).narrow hFc).moved hW.alike, by rw [hU]; exact ((hTNAMES.kept (fun a h1 h2 => hS.2.1 a h1 h2)).narrow hFc).moved hW.alike⟩⟩ rfl rfl hl.1 rfl (lv_room (Nat.le_of_ble_eq_true rfl)) dX10_readOperand_19 ⟨Nat.le_of_ble_eq_true rfl, Nat.le_of_ble_eq_true rfl⟩) hS (fun q _ h => hFc q h) hFc (fun r_4 u t H1 locs ht hvm hw hB hz1 hk1 hS => ?_)
    obtain ⟨hP1, hK1, hD1⟩ := hB
    rw [ht] at hP1
    have hK1 := va_K.moved hvm.symm hK1
    obtain ⟨hP, hD⟩ := va_join (wr := [(h2, Sum.inr (4, [Value.ref h3, Value.int n2_size, Value.ref h4, Value.ref h5, Value.int n2_top])), (h3, Sum.inl (cint, 128, Sum.inl f3)), (h0, Sum.inr (10, [Value.ref h1, Value.int n0_size, Value.int n0_place, Value.ref h2])), (h1, Sum.inl (cint, 120, Sum.inl f1))]) (w1 := []) hP hD [] [0, 1, 2, 3] rfl rfl (by decide) (by decide) hk1 hFc hP1 hD1
    generalize H1 = H at hP hS ⊢
    have hP : va_P (dC, dI) vwCl [(h2, Sum.inr (4, [Value.ref h3, Value.int n2_size, Value.ref h4, Value.ref h5, Value.int n2_top])), (h3, Sum.inl (cint, 128, Sum.inl f3)), (h0, Sum.inr (10, [Value.ref h1, Value.int n0_size, Value.int n0_place, Value.ref h2])), (h1, Sum.inl (cint, 120, Sum.inl f1))] H := hP
    have hD : va_D A [(h2, Sum.inr (4, [Value.ref h3, Value.int n2_size, Value.ref h4, Value.ref h5, Value.int n2_top])), (h3, Sum.inl (cint, 128, Sum.inl f3)), (h0, Sum.inr (10, [Value.ref h1, Value.int n0_size, Value.int n0_place, Value.ref h2])), (h1, Sum.inl (cint, 120, Sum.inl f1))] := hD
    have t_4 : (-2) ≤ r_4.toInt ∧ r_4.toInt ≤ 7 := hw
    refine lv_istore_n (lv' := [(3, .int r_4), (2, .int r_1), (0, .ref h0), (1, .int 1)]) hx hb dX10_readOperand_22 rfl hl (by decide) rfl (fun ls hl => ?_)
    refine lv_iload_n hx hb dX10_readOperand_23 rfl (lv_at hl 0 rfl) ?_
    refine lv_if_lt (tgt := 47) hx hb dX10_readOperand_24 (by decide) (fun c_5 => ?_) (fun c_5 => ?_)
    · have t_5 : r_4.toInt < 0 := kk_lt c_5
      refine lv_iload_n hx hb dX10_readOperand_47 rfl (lv_at hl 3 rfl) ?_
      refine lv_bipush (v := 6) hx hb dX10_readOperand_48 (by decide) ?_
      refine lv_icmp_ge (tgt := 71) hx hb dX10_readOperand_50 (by decide) (fun c => absurd c (by decide)) (fun _ => ?_)
      refine lv_iload_n hx hb dX10_readOperand_53 rfl (lv_at hl 1 rfl) ?_
      refine lv_bipush (v := 40) hx hb dX10_readOperand_54 (by decide) ?_
      refine lv_icmp_eq (tgt := 73) hx hb dX10_readOperand_56 (by decide) (fun c_6 => ?_) (fun c_6 => ?_)
      · have t_6 : r_1.toInt = 40 := kk_eq c_6
        refine lv_aload_n hx hb dX10_readOperand_73 rfl (lv_at hl 2 rfl) ?_
        refine lv_dup hx hb dX10_readOperand_74 rfl ?_
        refine va_get (D := (dC, dI)) (ci := 10) (v := .int n0_place) (C := RX10) (T := TX10) (N := 4) hx hb hts (fun _ h => List.mem_cons_of_mem _ (List.mem_append_left _ (List.mem_append_right _ h))) hown hK hP 2 rfl rfl 2 (by decide) (hts (.fieldLink RX10 17 "KinkStreet$Tape" "place" "I") (List.mem_of_getElem? (i := 1) rfl)) (fun _ h9 => h9) rfl dX10_readOperand_75 ?_
        refine lv_iconst (v := 1) hx hb dX10_readOperand_78 (by decide) ?_
        refine lv_iadd hx hb dX10_readOperand_79 ?_
        refine va_put (D := (dC, dI)) (ci := 10) (v := .int (n0_place + 1)) (ty := .int) (C := RX10) (T := TX10) (N := 4) hx hb hts (fun _ h => List.mem_cons_of_mem _ (List.mem_append_left _ (List.mem_append_right _ h))) tyX10 tyX10_ok nmX10 hown hK hP hD hS 2 rfl rfl 2 (by decide) (hts (.fieldLink RX10 17 "KinkStreet$Tape" "place" "I") (List.mem_of_getElem? (i := 1) rfl)) (fun _ h9 => h9) rfl (by decide +kernel) rfl rfl (Nat.le_of_ble_eq_true rfl) dX10_readOperand_80 (fun H locs hP hD hS => ?_)
        have hP : va_P (dC, dI) vwCl [(h2, Sum.inr (4, [Value.ref h3, Value.int n2_size, Value.ref h4, Value.ref h5, Value.int n2_top])), (h3, Sum.inl (cint, 128, Sum.inl f3)), (h0, Sum.inr (10, [Value.ref h1, Value.int n0_size, Value.int (n0_place + 1), Value.ref h2])), (h1, Sum.inl (cint, 120, Sum.inl f1))] H := hP
        have hD : va_D A [(h2, Sum.inr (4, [Value.ref h3, Value.int n2_size, Value.ref h4, Value.ref h5, Value.int n2_top])), (h3, Sum.inl (cint, 128, Sum.inl f3)), (h0, Sum.inr (10, [Value.ref h1, Value.int n0_size, Value.int (n0_place + 1), Value.ref h2])), (h1, Sum.inl (cint, 120, Sum.inl f1))] := hD
        refine lv_iload_n hx hb dX10_readOperand_83 rfl (lv_at hl 1 rfl) ?_
        refine lv_bipush (v := 40) hx hb dX10_readOperand_84 (by decide) ?_
        refine lv_icmp_ne (tgt := 99) hx hb dX10_readOperand_86 (by decide) (fun c_7 => ?_) (fun c_7 => ?_)
        · have t_7 : r_1.toInt ≠ 40 := kk_ne c_7
          exfalso; omega
        · have t_7 : r_1.toInt = 40 := kk_eq c_7
          refine lv_aload_n hx hb dX10_readOperand_89 rfl (lv_at hl 2 rfl) ?_
          refine lv_iload_n hx hb dX10_readOperand_90 rfl (lv_at hl 3 rfl) ?_
          refine lv_iconst (v := 1) hx hb dX10_readOperand_91 (by decide) ?_
          refine lv_iadd hx hb dX10_readOperand_92 ?_
          refine lv_topi (fun y_8 e_8 => ?_)
          obtain rfl : y_8 = 2 := e_8.trans (by decide)
          have hPc := hP.sub (ws' := [(h0, Sum.inr (10, [Value.ref h1, Value.int n0_size, Value.int (n0_place + 1), Value.ref h2])), (h1, Sum.inl (cint, 120, Sum.inl f1)), (h2, Sum.inr (4, [Value.ref h3, Value.int n2_size, Value.ref h4, Value.ref h5, Value.int n2_top])), (h3, Sum.inl (cint, 128, Sum.inl f3))]) [2, 3, 0, 1] rfl
          have hDc := hD.sub (ws' := [(h0, Sum.inr (10, [Value.ref h1, Value.int n0_size, Value.int (n0_place + 1), Value.ref h2])), (h1, Sum.inl (cint, 120, Sum.inl f1)), (h2, Sum.inr (4, [Value.ref h3, Value.int n2_size, Value.ref h4, Value.ref h5, Value.int n2_top])), (h3, Sum.inl (cint, 128, Sum.inl f3))]) [2, 3, 0, 1] (by decide) rfl
          have hKc := hK.sub (tys' := [(cint, .int)]) [0] rfl
          have hFc := va_free (wc := [(h0, Sum.inr (10, [Value.ref h1, Value.int n0_size, Value.int (n0_place + 1), Value.ref h2])), (h1, Sum.inl (cint, 120, Sum.inl f1)), (h2, Sum.inr (4, [Value.ref h3, Value.int n2_size, Value.ref h4, Value.ref h5, Value.int n2_top])), (h3, Sum.inl (cint, 128, Sum.inl f3))]) hD hS hA [2, 3, 0, 1] rfl
          refine va_calli (va_runV (As := [.int 2]) (rest := []) ⟨hx, hb, hml, hown, hts⟩ (g_X10_readInner_4 l dC dI h0 h1 h2 h3 h4 h5 cint H.size n0_size (n0_place + 1) f1 n2_size n2_top f3 tn0_size bf1 tn2_size tn2_top aNAMES) (cwV 1 hts gX10_readOperand_X10_readInner rfl rfl rfl (by decide +kernel) ⟨Nat.le_of_ble_eq_true rfl, Nat.le_of_ble_eq_true rfl⟩) ⟨fun a U g mk q => by obtain ⟨q0, q1, qP, qK, qD, qx0, qx1⟩ := q; exact ⟨q0, q1, qP, va_K.moved (u := U) (U := U.calling g mk a) (Vm.Alike.refl U.vm) qK, qD, va_Z.moved (u := U) (U := U.calling g mk a) (Vm.Alike.refl U.vm) qx0, va_T.moved (u := U) (U := U.calling g mk a) (Vm.Alike.refl U.vm) qx1⟩, va_recv hKc hPc (ci := 10) (q0 := 0) rfl rfl, fun U hU hW => ⟨rfl, by rw [hU], by rw [hU]; exact hPc, va_K.moved hW.alike hKc, hDc.weaken (fun _ _ _ _ => trivial), by rw [hU]; exact ((hZNAMES.kept (fun a h1 h2 => hS.2.1 a h1 h2)).narrow hFc).moved hW.alike, by rw [hU]; exact ((hTNAMES.kept (fun a h1 h2 => hS.2.1 a h1 h2)).narrow hFc).moved hW.alike⟩⟩ rfl rfl hl.1 rfl (lv_room (Nat.le_of_ble_eq_true rfl)) dX10_readOperand_93 ⟨Nat.le_of_ble_eq_true rfl, Nat.le_of_ble_eq_true rfl⟩) hS (fun q _ h => hFc q h) hFc (fun r_9 u t H1 locs ht hvm hw hB hz1 hk1 hS => ?_)
          obtain ⟨y_10, y_11, f_12, by_11, hP1, hK1, hD1⟩ := hB
          rw [ht] at hP1
          have hK1 := va_K.moved hvm.symm hK1
          obtain ⟨hP, hD⟩ := va_join (wr := []) (w1 := [(h0, Sum.inr (10, [Value.ref h1, Value.int n0_size, Value.int y_10, Value.ref h2])), (h1, Sum.inl (cint, 120, Sum.inl f1)), (h2, Sum.inr (4, [Value.ref h3, Value.int y_11, Value.ref h4, Value.ref h5, Value.int n2_top])), (h3, Sum.inl (cint, 128, Sum.inl f_12))]) hP hD [2, 3, 0, 1] [] rfl rfl (by decide) (by decide) hk1 hFc hP1 hD1
          generalize H1 = H at hP hS ⊢
          have hP : va_P (dC, dI) vwCl [(h0, Sum.inr (10, [Value.ref h1, Value.int n0_size, Value.int y_10, Value.ref h2])), (h1, Sum.inl (cint, 120, Sum.inl f1)), (h2, Sum.inr (4, [Value.ref h3, Value.int y_11, Value.ref h4, Value.ref h5, Value.int n2_top])), (h3, Sum.inl (cint, 128, Sum.inl f_12))] H := hP
          have hD : va_D A [(h0, Sum.inr (10, [Value.ref h1, Value.int n0_size, Value.int y_10, Value.ref h2])), (h1, Sum.inl (cint, 120, Sum.inl f1)), (h2, Sum.inr (4, [Value.ref h3, Value.int y_11, Value.ref h4, Value.ref h5, Value.int n2_top])), (h3, Sum.inl (cint, 128, Sum.inl f_12))] := hD
          have t_9 : 0 ≤ r_9.toInt ∧ r_9.toInt ≤ 1 := hw
          refine lv_goto (tgt := 107) hx hb dX10_readOperand_96 (by decide) ?_
          have hP9 := hP.sub (ws' := [(h0, Sum.inr (10, [Value.ref h1, Value.int n0_size, Value.int y_10, Value.ref h2])), (h1, Sum.inl (cint, 120, Sum.inl f1)), (h2, Sum.inr (4, [Value.ref h3, Value.int y_11, Value.ref h4, Value.ref h5, Value.int n2_top])), (h3, Sum.inl (cint, 128, Sum.inl f_12))]) [0, 1, 2, 3] rfl
          have hD9 := hD.sub (ws' := [(h0, Sum.inr (10, [Value.ref h1, Value.int n0_size, Value.int y_10, Value.ref h2])), (h1, Sum.inl (cint, 120, Sum.inl f1)), (h2, Sum.inr (4, [Value.ref h3, Value.int y_11, Value.ref h4, Value.ref h5, Value.int n2_top])), (h3, Sum.inl (cint, 128, Sum.inl f_12))]) [0, 1, 2, 3] (by decide) rfl
          have hK9 := hK.sub (tys' := []) [] rfl
          exact W.zret (v := r_9) hx hb hr (kk_nb (by show 0 ≤ (r_9 : Int32).toInt; omega) (by show (r_9 : Int32).toInt ≤ 1; omega)) (fun t ht hW => ⟨⟨r_9, (), rfl, (by show 0 ≤ (r_9 : Int32).toInt ∧ (r_9 : Int32).toInt ≤ 1; first | decide | (constructor <;> (omega))), y_10, y_11, f_12, (by show 0 ≤ (y_11 : Int32).toInt ∧ (y_11 : Int32).toInt ≤ 128; first | decide | (constructor <;> (omega))), by rw [ht]; exact hP9, va_K.moved hW.alike hK9, hD9⟩, hS.F ht⟩) hS.2.2 dX10_readOperand_107
      · have t_6 : r_1.toInt ≠ 40 := kk_ne c_6
        refine lv_iload_n hx hb dX10_readOperand_59 rfl (lv_at hl 1 rfl) ?_
        refine lv_bipush (v := 33) hx hb dX10_readOperand_60 (by decide) ?_
        refine lv_icmp_eq (tgt := 73) hx hb dX10_readOperand_62 (by decide) (fun c_13 => ?_) (fun c_13 => ?_)
        · have t_13 : r_1.toInt = 33 := kk_eq c_13
          refine lv_aload_n hx hb dX10_readOperand_73 rfl (lv_at hl 2 rfl) ?_
          refine lv_dup hx hb dX10_readOperand_74 rfl ?_
          refine va_get (D := (dC, dI)) (ci := 10) (v := .int n0_place) (C := RX10) (T := TX10) (N := 4) hx hb hts (fun _ h => List.mem_cons_of_mem _ (List.mem_append_left _ (List.mem_append_right _ h))) hown hK hP 2 rfl rfl 2 (by decide) (hts (.fieldLink RX10 17 "KinkStreet$Tape" "place" "I") (List.mem_of_getElem? (i := 1) rfl)) (fun _ h9 => h9) rfl dX10_readOperand_75 ?_
          refine lv_iconst (v := 1) hx hb dX10_readOperand_78 (by decide) ?_
          refine lv_iadd hx hb dX10_readOperand_79 ?_
          refine va_put (D := (dC, dI)) (ci := 10) (v := .int (n0_place + 1)) (ty := .int) (C := RX10) (T := TX10) (N := 4) hx hb hts (fun _ h => List.mem_cons_of_mem _ (List.mem_append_left _ (List.mem_append_right _ h))) tyX10 tyX10_ok nmX10 hown hK hP hD hS 2 rfl rfl 2 (by decide) (hts (.fieldLink RX10 17 "KinkStreet$Tape" "place" "I") (List.mem_of_getElem? (i := 1) rfl)) (fun _ h9 => h9) rfl (by decide +kernel) rfl rfl (Nat.le_of_ble_eq_true rfl) dX10_readOperand_80 (fun H locs hP hD hS => ?_)
          have hP : va_P (dC, dI) vwCl [(h2, Sum.inr (4, [Value.ref h3, Value.int n2_size, Value.ref h4, Value.ref h5, Value.int n2_top])), (h3, Sum.inl (cint, 128, Sum.inl f3)), (h0, Sum.inr (10, [Value.ref h1, Value.int n0_size, Value.int (n0_place + 1), Value.ref h2])), (h1, Sum.inl (cint, 120, Sum.inl f1))] H := hP
          have hD : va_D A [(h2, Sum.inr (4, [Value.ref h3, Value.int n2_size, Value.ref h4, Value.ref h5, Value.int n2_top])), (h3, Sum.inl (cint, 128, Sum.inl f3)), (h0, Sum.inr (10, [Value.ref h1, Value.int n0_size, Value.int (n0_place + 1), Value.ref h2])), (h1, Sum.inl (cint, 120, Sum.inl f1))] := hD
          refine lv_iload_n hx hb dX10_readOperand_83 rfl (lv_at hl 1 rfl) ?_
          refine lv_bipush (v := 40) hx hb dX10_readOperand_84 (by decide) ?_
          refine lv_icmp_ne (tgt := 99) hx hb dX10_readOperand_86 (by decide) (fun c_14 => ?_) (fun c_14 => ?_)
          · have t_14 : r_1.toInt ≠ 40 := kk_ne c_14
            refine lv_aload_n hx hb dX10_readOperand_99 rfl (lv_at hl 2 rfl) ?_
            refine lv_iload_n hx hb dX10_readOperand_100 rfl (lv_at hl 1 rfl) ?_
            refine lv_iload_n hx hb dX10_readOperand_101 rfl (lv_at hl 3 rfl) ?_
            refine lv_iconst (v := 1) hx hb dX10_readOperand_102 (by decide) ?_
            refine lv_iadd hx hb dX10_readOperand_103 ?_
            refine lv_topi (fun y_15 e_15 => ?_)
            obtain rfl : y_15 = 2 := e_15.trans (by decide)
            have hPc := hP.sub (ws' := [(h0, Sum.inr (10, [Value.ref h1, Value.int n0_size, Value.int (n0_place + 1), Value.ref h2])), (h1, Sum.inl (cint, 120, Sum.inl f1)), (h2, Sum.inr (4, [Value.ref h3, Value.int n2_size, Value.ref h4, Value.ref h5, Value.int n2_top])), (h3, Sum.inl (cint, 128, Sum.inl f3))]) [2, 3, 0, 1] rfl
            have hDc := hD.sub (ws' := [(h0, Sum.inr (10, [Value.ref h1, Value.int n0_size, Value.int (n0_place + 1), Value.ref h2])), (h1, Sum.inl (cint, 120, Sum.inl f1)), (h2, Sum.inr (4, [Value.ref h3, Value.int n2_size, Value.ref h4, Value.ref h5, Value.int n2_top])), (h3, Sum.inl (cint, 128, Sum.inl f3))]) [2, 3, 0, 1] (by decide) rfl
            have hKc := hK.sub (tys' := [(cint, .int)]) [0] rfl
            have hFc := va_free (wc := [(h0, Sum.inr (10, [Value.ref h1, Value.int n0_size, Value.int (n0_place + 1), Value.ref h2])), (h1, Sum.inl (cint, 120, Sum.inl f1)), (h2, Sum.inr (4, [Value.ref h3, Value.int n2_size, Value.ref h4, Value.ref h5, Value.int n2_top])), (h3, Sum.inl (cint, 128, Sum.inl f3))]) hD hS hA [2, 3, 0, 1] rfl
            refine va_calli (va_runV (As := [.int r_1, .int 2]) (rest := []) ⟨hx, hb, hml, hown, hts⟩ (g_X10_readSigned_4 l dC dI h0 h1 h2 h3 h4 h5 cint H.size r_1 n0_size (n0_place + 1) f1 n2_size n2_top f3 tn0_size bf1 tn2_size tn2_top aNAMES) (cwV 2 hts gX10_readOperand_X10_readSigned rfl rfl rfl (by decide +kernel) ⟨Nat.le_of_ble_eq_true rfl, Nat.le_of_ble_eq_true rfl⟩) ⟨fun a U g mk q => by obtain ⟨q0, q1, qP, qK, qD, qx0, qx1⟩ := q; exact ⟨q0, q1, qP, va_K.moved (u := U) (U := U.calling g mk a) (Vm.Alike.refl U.vm) qK, qD, va_Z.moved (u := U) (U := U.calling g mk a) (Vm.Alike.refl U.vm) qx0, va_T.moved (u := U) (U := U.calling g mk a) (Vm.Alike.refl U.vm) qx1⟩, va_recv hKc hPc (ci := 10) (q0 := 0) rfl rfl, fun U hU hW => ⟨rfl, by rw [hU], by rw [hU]; exact hPc, va_K.moved hW.alike hKc, hDc.weaken (fun _ _ _ _ => trivial), by rw [hU]; exact ((hZNAMES.kept (fun a h1 h2 => hS.2.1 a h1 h2)).narrow hFc).moved hW.alike, by rw [hU]; exact ((hTNAMES.kept (fun a h1 h2 => hS.2.1 a h1 h2)).narrow hFc).moved hW.alike⟩⟩ rfl rfl hl.1 rfl (lv_room (Nat.le_of_ble_eq_true rfl)) dX10_readOperand_104 ⟨Nat.le_of_ble_eq_true rfl, Nat.le_of_ble_eq_true rfl⟩) hS (fun q _ h => hFc q h) hFc (fun r_16 u t H1 locs ht hvm hw hB hz1 hk1 hS => ?_)
            obtain ⟨y_17, y_18, f_19, by_18, hP1, hK1, hD1⟩ := hB
            rw [ht] at hP1
            have hK1 := va_K.moved hvm.symm hK1
            obtain ⟨hP, hD⟩ := va_join (wr := []) (w1 := [(h0, Sum.inr (10, [Value.ref h1, Value.int n0_size, Value.int y_17, Value.ref h2])), (h1, Sum.inl (cint, 120, Sum.inl f1)), (h2, Sum.inr (4, [Value.ref h3, Value.int y_18, Value.ref h4, Value.ref h5, Value.int n2_top])), (h3, Sum.inl (cint, 128, Sum.inl f_19))]) hP hD [2, 3, 0, 1] [] rfl rfl (by decide) (by decide) hk1 hFc hP1 hD1
            generalize H1 = H at hP hS ⊢
            have hP : va_P (dC, dI) vwCl [(h0, Sum.inr (10, [Value.ref h1, Value.int n0_size, Value.int y_17, Value.ref h2])), (h1, Sum.inl (cint, 120, Sum.inl f1)), (h2, Sum.inr (4, [Value.ref h3, Value.int y_18, Value.ref h4, Value.ref h5, Value.int n2_top])), (h3, Sum.inl (cint, 128, Sum.inl f_19))] H := hP
            have hD : va_D A [(h0, Sum.inr (10, [Value.ref h1, Value.int n0_size, Value.int y_17, Value.ref h2])), (h1, Sum.inl (cint, 120, Sum.inl f1)), (h2, Sum.inr (4, [Value.ref h3, Value.int y_18, Value.ref h4, Value.ref h5, Value.int n2_top])), (h3, Sum.inl (cint, 128, Sum.inl f_19))] := hD
            have t_16 : 0 ≤ r_16.toInt ∧ r_16.toInt ≤ 1 := hw
            have hP9 := hP.sub (ws' := [(h0, Sum.inr (10, [Value.ref h1, Value.int n0_size, Value.int y_17, Value.ref h2])), (h1, Sum.inl (cint, 120, Sum.inl f1)), (h2, Sum.inr (4, [Value.ref h3, Value.int y_18, Value.ref h4, Value.ref h5, Value.int n2_top])), (h3, Sum.inl (cint, 128, Sum.inl f_19))]) [0, 1, 2, 3] rfl
            have hD9 := hD.sub (ws' := [(h0, Sum.inr (10, [Value.ref h1, Value.int n0_size, Value.int y_17, Value.ref h2])), (h1, Sum.inl (cint, 120, Sum.inl f1)), (h2, Sum.inr (4, [Value.ref h3, Value.int y_18, Value.ref h4, Value.ref h5, Value.int n2_top])), (h3, Sum.inl (cint, 128, Sum.inl f_19))]) [0, 1, 2, 3] (by decide) rfl
            have hK9 := hK.sub (tys' := []) [] rfl
            exact W.zret (v := r_16) hx hb hr (kk_nb (by show 0 ≤ (r_16 : Int32).toInt; omega) (by show (r_16 : Int32).toInt ≤ 1; omega)) (fun t ht hW => ⟨⟨r_16, (), rfl, (by show 0 ≤ (r_16 : Int32).toInt ∧ (r_16 : Int32).toInt ≤ 1; first | decide | (constructor <;> (omega))), y_17, y_18, f_19, (by show 0 ≤ (y_18 : Int32).toInt ∧ (y_18 : Int32).toInt ≤ 128; first | decide | (constructor <;> (omega))), by rw [ht]; exact hP9, va_K.moved hW.alike hK9, hD9⟩, hS.F ht⟩) hS.2.2 dX10_readOperand_107
          · have t_14 : r_1.toInt = 40 := kk_eq c_14
            exfalso; omega
        · have t_13 : r_1.toInt ≠ 33 := kk_ne c_13
          refine lv_iload_n hx hb dX10_readOperand_65 rfl (lv_at hl 1 rfl) ?_
          refine lv_bipush (v := 45) hx hb dX10_readOperand_66 (by decide) ?_
          refine lv_icmp_eq (tgt := 73) hx hb dX10_readOperand_68 (by decide) (fun c_20 => ?_) (fun c_20 => ?_)
          · have t_20 : r_1.toInt = 45 := kk_eq c_20
            refine lv_aload_n hx hb dX10_readOperand_73 rfl (lv_at hl 2 rfl) ?_
            refine lv_dup hx hb dX10_readOperand_74 rfl ?_
            refine va_get (D := (dC, dI)) (ci := 10) (v := .int n0_place) (C := RX10) (T := TX10) (N := 4) hx hb hts (fun _ h => List.mem_cons_of_mem _ (List.mem_append_left _ (List.mem_append_right _ h))) hown hK hP 2 rfl rfl 2 (by decide) (hts (.fieldLink RX10 17 "KinkStreet$Tape" "place" "I") (List.mem_of_getElem? (i := 1) rfl)) (fun _ h9 => h9) rfl dX10_readOperand_75 ?_
            refine lv_iconst (v := 1) hx hb dX10_readOperand_78 (by decide) ?_
            refine lv_iadd hx hb dX10_readOperand_79 ?_
            refine va_put (D := (dC, dI)) (ci := 10) (v := .int (n0_place + 1)) (ty := .int) (C := RX10) (T := TX10) (N := 4) hx hb hts (fun _ h => List.mem_cons_of_mem _ (List.mem_append_left _ (List.mem_append_right _ h))) tyX10 tyX10_ok nmX10 hown hK hP hD hS 2 rfl rfl 2 (by decide) (hts (.fieldLink RX10 17 "KinkStreet$Tape" "place" "I") (List.mem_of_getElem? (i := 1) rfl)) (fun _ h9 => h9) rfl (by decide +kernel) rfl rfl (Nat.le_of_ble_eq_true rfl) dX10_readOperand_80 (fun H locs hP hD hS => ?_)
            have hP : va_P (dC, dI) vwCl [(h2, Sum.inr (4, [Value.ref h3, Value.int n2_size, Value.ref h4, Value.ref h5, Value.int n2_top])), (h3, Sum.inl (cint, 128, Sum.inl f3)), (h0, Sum.inr (10, [Value.ref h1, Value.int n0_size, Value.int (n0_place + 1), Value.ref h2])), (h1, Sum.inl (cint, 120, Sum.inl f1))] H := hP
            have hD : va_D A [(h2, Sum.inr (4, [Value.ref h3, Value.int n2_size, Value.ref h4, Value.ref h5, Value.int n2_top])), (h3, Sum.inl (cint, 128, Sum.inl f3)), (h0, Sum.inr (10, [Value.ref h1, Value.int n0_size, Value.int (n0_place + 1), Value.ref h2])), (h1, Sum.inl (cint, 120, Sum.inl f1))] := hD
            refine lv_iload_n hx hb dX10_readOperand_83 rfl (lv_at hl 1 rfl) ?_
            refine lv_bipush (v := 40) hx hb dX10_readOperand_84 (by decide) ?_
            refine lv_icmp_ne (tgt := 99) hx hb dX10_readOperand_86 (by decide) (fun c_21 => ?_) (fun c_21 => ?_)
            · have t_21 : r_1.toInt ≠ 40 := kk_ne c_21
              refine lv_aload_n hx hb dX10_readOperand_99 rfl (lv_at hl 2 rfl) ?_
              refine lv_iload_n hx hb dX10_readOperand_100 rfl (lv_at hl 1 rfl) ?_
              refine lv_iload_n hx hb dX10_readOperand_101 rfl (lv_at hl 3 rfl) ?_
              refine lv_iconst (v := 1) hx hb dX10_readOperand_102 (by decide) ?_
              refine lv_iadd hx hb dX10_readOperand_103 ?_
              refine lv_topi (fun y_22 e_22 => ?_)
              obtain rfl : y_22 = 2 := e_22.trans (by decide)
              have hPc := hP.sub (ws' := [(h0, Sum.inr (10, [Value.ref h1, Value.int n0_size, Value.int (n0_place + 1), Value.ref h2])), (h1, Sum.inl (cint, 120, Sum.inl f1)), (h2, Sum.inr (4, [Value.ref h3, Value.int n2_size, Value.ref h4, Value.ref h5, Value.int n2_top])), (h3, Sum.inl (cint, 128, Sum.inl f3))]) [2, 3, 0, 1] rfl
              have hDc := hD.sub (ws' := [(h0, Sum.inr (10, [Value.ref h1, Value.int n0_size, Value.int (n0_place + 1), Value.ref h2])), (h1, Sum.inl (cint, 120, Sum.inl f1)), (h2, Sum.inr (4, [Value.ref h3, Value.int n2_size, Value.ref h4, Value.ref h5, Value.int n2_top])), (h3, Sum.inl (cint, 128, Sum.inl f3))]) [2, 3, 0, 1] (by decide) rfl
              have hKc := hK.sub (tys' := [(cint, .int)]) [0] rfl
              have hFc := va_free (wc := [(h0, Sum.inr (10, [Value.ref h1, Value.int n0_size, Value.int (n0_place + 1), Value.ref h2])), (h1, Sum.inl (cint, 120, Sum.inl f1)), (h2, Sum.inr (4, [Value.ref h3, Value.int n2_size, Value.ref h4, Value.ref h5, Value.int n2_top])), (h3, Sum.inl (cint, 128, Sum.inl f3))]) hD hS hA [2, 3, 0, 1] rfl
              refine va_calli (va_runV (As := [.int r_1, .int 2]) (rest := []) ⟨hx, hb, hml, hown, hts⟩ (g_X10_readSigned_4 l dC dI h0 h1 h2 h3 h4 h5 cint H.size r_1 n0_size (n0_place + 1) f1 n2_size n2_top f3 tn0_size bf1 tn2_size tn2_top aNAMES) (cwV 2 hts gX10_readOperand_X10_readSigned rfl rfl rfl (by decide +kernel) ⟨Nat.le_of_ble_eq_true rfl, Nat.le_of_ble_eq_true rfl⟩) ⟨fun a U g mk q => by obtain ⟨q0, q1, qP, qK, qD, qx0, qx1⟩ := q; exact ⟨q0, q1, qP, va_K.moved (u := U) (U := U.calling g mk a) (Vm.Alike.refl U.vm) qK, qD, va_Z.moved (u := U) (U := U.calling g mk a) (Vm.Alike.refl U.vm) qx0, va_T.moved (u := U) (U := U.calling g mk a) (Vm.Alike.refl U.vm) qx1⟩, va_recv hKc hPc (ci := 10) (q0 := 0) rfl rfl, fun U hU hW => ⟨rfl, by rw [hU], by rw [hU]; exact hPc, va_K.moved hW.alike hKc, hDc.weaken (fun _ _ _ _ => trivial), by rw [hU]; exact ((hZNAMES.kept (fun a h1 h2 => hS.2.1 a h1 h2)).narrow hFc).moved hW.alike, by rw [hU]; exact ((hTNAMES.kept (fun a h1 h2 => hS.2.1 a h1 h2)).narrow hFc).moved hW.alike⟩⟩ rfl rfl hl.1 rfl (lv_room (Nat.le_of_ble_eq_true rfl)) dX10_readOperand_104 ⟨Nat.le_of_ble_eq_true rfl, Nat.le_of_ble_eq_true rfl⟩) hS (fun q _ h => hFc q h) hFc (fun r_23 u t H1 locs ht hvm hw hB hz1 hk1 hS => ?_)
              obtain ⟨y_24, y_25, f_26, by_25, hP1, hK1, hD1⟩ := hB
              rw [ht] at hP1
              have hK1 := va_K.moved hvm.symm hK1
              obtain ⟨hP, hD⟩ := va_join (wr := []) (w1 := [(h0, Sum.inr (10, [Value.ref h1, Value.int n0_size, Value.int y_24, Value.ref h2])), (h1, Sum.inl (cint, 120, Sum.inl f1)), (h2, Sum.inr (4, [Value.ref h3, Value.int y_25, Value.ref h4, Value.ref h5, Value.int n2_top])), (h3, Sum.inl (cint, 128, Sum.inl f_26))]) hP hD [2, 3, 0, 1] [] rfl rfl (by decide) (by decide) hk1 hFc hP1 hD1
              generalize H1 = H at hP hS ⊢
              have hP : va_P (dC, dI) vwCl [(h0, Sum.inr (10, [Value.ref h1, Value.int n0_size, Value.int y_24, Value.ref h2])), (h1, Sum.inl (cint, 120, Sum.inl f1)), (h2, Sum.inr (4, [Value.ref h3, Value.int y_25, Value.ref h4, Value.ref h5, Value.int n2_top])), (h3, Sum.inl (cint, 128, Sum.inl f_26))] H := hP
              have hD : va_D A [(h0, Sum.inr (10, [Value.ref h1, Value.int n0_size, Value.int y_24, Value.ref h2])), (h1, Sum.inl (cint, 120, Sum.inl f1)), (h2, Sum.inr (4, [Value.ref h3, Value.int y_25, Value.ref h4, Value.ref h5, Value.int n2_top])), (h3, Sum.inl (cint, 128, Sum.inl f_26))] := hD
              have t_23 : 0 ≤ r_23.toInt ∧ r_23.toInt ≤ 1 := hw
              have hP9 := hP.sub (ws' := [(h0, Sum.inr (10, [Value.ref h1, Value.int n0_size, Value.int y_24, Value.ref h2])), (h1, Sum.inl (cint, 120, Sum.inl f1)), (h2, Sum.inr (4, [Value.ref h3, Value.int y_25, Value.ref h4, Value.ref h5, Value.int n2_top])), (h3, Sum.inl (cint, 128, Sum.inl f_26))]) [0, 1, 2, 3] rfl
              have hD9 := hD.sub (ws' := [(h0, Sum.inr (10, [Value.ref h1, Value.int n0_size, Value.int y_24, Value.ref h2])), (h1, Sum.inl (cint, 120, Sum.inl f1)), (h2, Sum.inr (4, [Value.ref h3, Value.int y_25, Value.ref h4, Value.ref h5, Value.int n2_top])), (h3, Sum.inl (cint, 128, Sum.inl f_26))]) [0, 1, 2, 3] (by decide) rfl
              have hK9 := hK.sub (tys' := []) [] rfl
              exact W.zret (v := r_23) hx hb hr (kk_nb (by show 0 ≤ (r_23 : Int32).toInt; omega) (by show (r_23 : Int32).toInt ≤ 1; omega)) (fun t ht hW => ⟨⟨r_23, (), rfl, (by show 0 ≤ (r_23 : Int32).toInt ∧ (r_23 : Int32).toInt ≤ 1; first | decide | (constructor <;> (omega))), y_24, y_25, f_26, (by show 0 ≤ (y_25 : Int32).toInt ∧ (y_25 : Int32).toInt ≤ 128; first | decide | (constructor <;> (omega))), by rw [ht]; exact hP9, va_K.moved hW.alike hK9, hD9⟩, hS.F ht⟩) hS.2.2 dX10_readOperand_107
            · have t_21 : r_1.toInt = 40 := kk_eq c_21
              exfalso; omega
          · have t_20 : r_1.toInt ≠ 45 := kk_ne c_20
            refine lv_iconst (v := 0) hx hb dX10_readOperand_71 (by decide) ?_
            have hP9 := hP.sub (ws' := [(h0, Sum.inr (10, [Value.ref h1, Value.int n0_size, Value.int n0_place, Value.ref h2])), (h1, Sum.inl (cint, 120, Sum.inl f1)), (h2, Sum.inr (4, [Value.ref h3, Value.int n2_size, Value.ref h4, Value.ref h5, Value.int n2_top])), (h3, Sum.inl (cint, 128, Sum.inl f3))]) [2, 3, 0, 1] rfl
            have hD9 := hD.sub (ws' := [(h0, Sum.inr (10, [Value.ref h1, Value.int n0_size, Value.int n0_place, Value.ref h2])), (h1, Sum.inl (cint, 120, Sum.inl f1)), (h2, Sum.inr (4, [Value.ref h3, Value.int n2_size, Value.ref h4, Value.ref h5, Value.int n2_top])), (h3, Sum.inl (cint, 128, Sum.inl f3))]) [2, 3, 0, 1] (by decide) rfl
            have hK9 := hK.sub (tys' := []) [] rfl
            exact W.zret (v := 0) hx hb hr rfl (fun t ht hW => ⟨⟨0, (), rfl, (by show 0 ≤ (0 : Int32).toInt ∧ (0 : Int32).toInt ≤ 1; first | decide | (constructor <;> (omega))), n0_place, n2_size, f3, tn2_size, by rw [ht]; exact hP9, va_K.moved hW.alike hK9, hD9⟩, hS.F ht⟩) hS.2.2 dX10_readOperand_72
    · have t_5 : 0 ≤ r_4.toInt := kk_nlt c_5
      refine lv_aload_n hx hb dX10_readOperand_27 rfl (lv_at hl 2 rfl) ?_
      refine lv_dup hx hb dX10_readOperand_28 rfl ?_
      refine va_get (D := (dC, dI)) (ci := 10) (v := .int n0_place) (C := RX10) (T := TX10) (N := 4) hx hb hts (fun _ h => List.mem_cons_of_mem _ (List.mem_append_left _ (List.mem_append_right _ h))) hown hK hP 2 rfl rfl 2 (by decide) (hts (.fieldLink RX10 17 "KinkStreet$Tape" "place" "I") (List.mem_of_getElem? (i := 1) rfl)) (fun _ h9 => h9) rfl dX10_readOperand_29 ?_
      refine lv_iconst (v := 1) hx hb dX10_readOperand_32 (by decide) ?_
      refine lv_iadd hx hb dX10_readOperand_33 ?_
      refine va_put (D := (dC, dI)) (ci := 10) (v := .int (n0_place + 1)) (ty := .int) (C := RX10) (T := TX10) (N := 4) hx hb hts (fun _ h => List.mem_cons_of_mem _ (List.mem_append_left _ (List.mem_append_right _ h))) tyX10 tyX10_ok nmX10 hown hK hP hD hS 2 rfl rfl 2 (by decide) (hts (.fieldLink RX10 17 "KinkStreet$Tape" "place" "I") (List.mem_of_getElem? (i := 1) rfl)) (fun _ h9 => h9) rfl (by decide +kernel) rfl rfl (Nat.le_of_ble_eq_true rfl) dX10_readOperand_34 (fun H locs hP hD hS => ?_)
      have hP : va_P (dC, dI) vwCl [(h2, Sum.inr (4, [Value.ref h3, Value.int n2_size, Value.ref h4, Value.ref h5, Value.int n2_top])), (h3, Sum.inl (cint, 128, Sum.inl f3)), (h0, Sum.inr (10, [Value.ref h1, Value.int n0_size, Value.int (n0_place + 1), Value.ref h2])), (h1, Sum.inl (cint, 120, Sum.inl f1))] H := hP
      have hD : va_D A [(h2, Sum.inr (4, [Value.ref h3, Value.int n2_size, Value.ref h4, Value.ref h5, Value.int n2_top])), (h3, Sum.inl (cint, 128, Sum.inl f3)), (h0, Sum.inr (10, [Value.ref h1, Value.int n0_size, Value.int (n0_place + 1), Value.ref h2])), (h1, Sum.inl (cint, 120, Sum.inl f1))] := hD
      refine lv_aload_n hx hb dX10_readOperand_37 rfl (lv_at hl 2 rfl) ?_
      refine va_get (D := (dC, dI)) (ci := 10) (v := .ref h2) (C := RX10) (T := TX10) (N := 4) hx hb hts (fun _ h => List.mem_cons_of_mem _ (List.mem_append_left _ (List.mem_append_right _ h))) hown hK hP 2 rfl rfl 3 (by decide) (hts (.fieldLink RX10 20 "KinkStreet$Tape" "law" "LKinkStreet$Law;") (List.mem_of_getElem? (i := 2) rfl)) (fun _ h9 => h9) rfl dX10_readOperand_38 ?_
      refine lv_iload_n hx hb dX10_readOperand_41 rfl (lv_at hl 0 rfl) ?_
      have hPc := hP.sub (ws' := [(h2, Sum.inr (4, [Value.ref h3, Value.int n2_size, Value.ref h4, Value.ref h5, Value.int n2_top])), (h3, Sum.inl (cint, 128, Sum.inl f3))]) [0, 1] rfl
      have hDc := hD.sub (ws' := [(h2, Sum.inr (4, [Value.ref h3, Value.int n2_size, Value.ref h4, Value.ref h5, Value.int n2_top])), (h3, Sum.inl (cint, 128, Sum.inl f3))]) [0, 1] (by decide) rfl
      have hKc := hK.sub (tys' := [(cint, .int)]) [0] rfl
      have hFc := va_free (wc := [(h2, Sum.inr (4, [Value.ref h3, Value.int n2_size, Value.ref h4, Value.ref h5, Value.int n2_top])), (h3, Sum.inl (cint, 128, Sum.inl f3))]) hD hS hA [0, 1] rfl
      refine va_callv (va_runV (As := [.int r_4]) (rest := []) ⟨hx, hb, hml, hown, hts⟩ (g_X4_append_0 l dC dI h2 h3 h4 h5 cint H.size r_4 n2_size n2_top f3 tn2_size tn2_top) (cwV 1 hts gX10_readOperand_X4_append rfl rfl rfl (by decide +kernel) ⟨Nat.le_of_ble_eq_true rfl, Nat.le_of_ble_eq_true rfl⟩) ⟨fun a U g mk q => by obtain ⟨q0, q1, qP, qK, qD⟩ := q; exact ⟨q0, q1, qP, va_K.moved (u := U) (U := U.calling g mk a) (Vm.Alike.refl U.vm) qK, qD⟩, va_recv hKc hPc (ci := 4) (q0 := 0) rfl rfl, fun U hU hW => ⟨rfl, by rw [hU], by rw [hU]; exact hPc, va_K.moved hW.alike hKc, hDc.weaken (fun _ _ _ _ => trivial)⟩⟩ rfl rfl hl.1 rfl (lv_room (Nat.le_of_ble_eq_true rfl)) dX10_readOperand_42 ⟨Nat.le_of_ble_eq_true rfl, Nat.le_of_ble_eq_true rfl⟩) hS (fun q _ h => hFc q h) hFc (fun u t H1 locs ht hvm hw hB hz1 hk1 hS => ?_)
      obtain ⟨y_28, f_29, by_28, hP1, hK1, hD1⟩ := hB
      rw [ht] at hP1
      have hK1 := va_K.moved hvm.symm hK1
      obtain ⟨hP, hD⟩ := va_join (wr := [(h0, Sum.inr (10, [Value.ref h1, Value.int n0_size, Value.int (n0_place + 1), Value.ref h2])), (h1, Sum.inl (cint, 120, Sum.inl f1))]) (w1 := [(h2, Sum.inr (4, [Value.ref h3, Value.int y_28, Value.ref h4, Value.ref h5, Value.int n2_top])), (h3, Sum.inl (cint, 128, Sum.inl f_29))]) hP hD [0, 1] [2, 3] rfl rfl (by decide) (by decide) hk1 hFc hP1 hD1
      generalize H1 = H at hP hS ⊢
      have hP : va_P (dC, dI) vwCl [(h0, Sum.inr (10, [Value.ref h1, Value.int n0_size, Value.int (n0_place + 1), Value.ref h2])), (h1, Sum.inl (cint, 120, Sum.inl f1)), (h2, Sum.inr (4, [Value.ref h3, Value.int y_28, Value.ref h4, Value.ref h5, Value.int n2_top])), (h3, Sum.inl (cint, 128, Sum.inl f_29))] H := hP
      have hD : va_D A [(h0, Sum.inr (10, [Value.ref h1, Value.int n0_size, Value.int (n0_place + 1), Value.ref h2])), (h1, Sum.inl (cint, 120, Sum.inl f1)), (h2, Sum.inr (4, [Value.ref h3, Value.int y_28, Value.ref h4, Value.ref h5, Value.int n2_top])), (h3, Sum.inl (cint, 128, Sum.inl f_29))] := hD
      refine lv_iconst (v := 1) hx hb dX10_readOperand_45 (by decide) ?_
      have hP9 := hP.sub (ws' := [(h0, Sum.inr (10, [Value.ref h1, Value.int n0_size, Value.int (n0_place + 1), Value.ref h2])), (h1, Sum.inl (cint, 120, Sum.inl f1)), (h2, Sum.inr (4, [Value.ref h3, Value.int y_28, Value.ref h4, Value.ref h5, Value.int n2_top])), (h3, Sum.inl (cint, 128, Sum.inl f_29))]) [0, 1, 2, 3] rfl
      have hD9 := hD.sub (ws' := [(h0, Sum.inr (10, [Value.ref h1, Value.int n0_size, Value.int (n0_place + 1), Value.ref h2])), (h1, Sum.inl (cint, 120, Sum.inl f1)), (h2, Sum.inr (4, [Value.ref h3, Value.int y_28, Value.ref h4, Value.ref h5, Value.int n2_top])), (h3, Sum.inl (cint, 128, Sum.inl f_29))]) [0, 1, 2, 3] (by decide) rfl
      have hK9 := hK.sub (tys' := []) [] rfl
      exact W.zret (v := 1) hx hb hr rfl (fun t ht hW => ⟨⟨1, (), rfl, (by show 0 ≤ (1 : Int32).toInt ∧ (1 : Int32).toInt ≤ 1; first | decide | (constructor <;> (omega))), (n0_place + 1), y_28, f_29, (by show 0 ≤ (y_28 : Int32).toInt ∧ (y_28 : Int32).toInt ≤ 128; first | decide | (constructor <;> (omega))), by rw [ht]; exact hP9, va_K.moved hW.alike hK9, hD9⟩, hS.F ht⟩) hS.2.2 dX10_readOperand_46
  · have t_3 : r_2.toInt ≠ 0 := kk_ne c_3
    refine lv_aload_n hx hb dX10_readOperand_12 rfl (lv_at hl 1 rfl) ?_
    have hPc := hP.sub (ws' := [(h0, Sum.inr (10, [Value.ref h1, Value.int n0_size, Value.int n0_place, Value.ref h2])), (h1, Sum.inl (cint, 120, Sum.inl f1)), (h2, Sum.inr (4, [Value.ref h3, Value.int n2_size, Value.ref h4, Value.ref h5, Value.int n2_top])), (h3, Sum.inl (cint, 128, Sum.inl f3))]) [2, 3, 0, 1] rfl
    have hDc := hD.sub (ws' := [(h0, Sum.inr (10, [Value.ref h1, Value.int n0_size, Value.int n0_place, Value.ref h2])), (h1, Sum.inl (cint, 120, Sum.inl f1)), (h2, Sum.inr (4, [Value.ref h3, Value.int n2_size, Value.ref h4, Value.ref h5, Value.int n2_top])), (h3, Sum.inl (cint, 128, Sum.inl f3))]) [2, 3, 0, 1] (by decide) rfl
    have hKc := hK.sub (tys' := [(cint, .int)]) [0] rfl
    have hFc := va_free (wc := [(h0, Sum.inr (10, [Value.ref h1, Value.int n0_size, Value.int n0_place, Value.ref h2])), (h1, Sum.inl (cint, 120, Sum.inl f1)), (h2, Sum.inr (4, [Value.ref h3, Value.int n2_size, Value.ref h4, Value.ref h5, Value.int n2_top])), (h3, Sum.inl (cint, 128, Sum.inl f3))]) hD hS hA [2, 3, 0, 1] rfl
    refine va_callv (va_runV (As := []) (rest := []) ⟨hx, hb, hml, hown, hts⟩ (g_X10_readNumber_0 l dC dI h0 h1 h2 h3 h4 h5 cint H.size n0_size n0_place f1 n2_size n2_top f3 tn0_size bf1 tn2_size tn2_top) (cwV 0 hts gX10_readOperand_X10_readNumber rfl rfl rfl (by decide +kernel) ⟨Nat.le_of_ble_eq_true rfl, Nat.le_of_ble_eq_true rfl⟩) ⟨fun a U g mk q => by obtain ⟨q0, q1, qP, qK, qD⟩ := q; exact ⟨q0, q1, qP, va_K.moved (u := U) (U := U.calling g mk a) (Vm.Alike.refl U.vm) qK, qD⟩, va_recv hKc hPc (ci := 10) (q0 := 0) rfl rfl, fun U hU hW => ⟨rfl, by rw [hU], by rw [hU]; exact hPc, va_K.moved hW.alike hKc, hDc.weaken (fun _ _ _ _ => trivial)⟩⟩ rfl rfl hl.1 rfl (lv_room (Nat.le_of_ble_eq_true rfl)) dX10_readOperand_13 ⟨Nat.le_of_ble_eq_true rfl, Nat.le_of_ble_eq_true rfl⟩) hS (fun q _ h => hFc q h) hFc (fun u t H1 locs ht hvm hw hB hz1 hk1 hS => ?_)
    obtain ⟨y_31, y_32, f_33, by_32, hP1, hK1, hD1⟩ := hB
    rw [ht] at hP1
    have hK1 := va_K.moved hvm.symm hK1
    obtain ⟨hP, hD⟩ := va_join (wr := []) (w1 := [(h0, Sum.inr (10, [Value.ref h1, Value.int n0_size, Value.int y_31, Value.ref h2])), (h1, Sum.inl (cint, 120, Sum.inl f1)), (h2, Sum.inr (4, [Value.ref h3, Value.int y_32, Value.ref h4, Value.ref h5, Value.int n2_top])), (h3, Sum.inl (cint, 128, Sum.inl f_33))]) hP hD [2, 3, 0, 1] [] rfl rfl (by decide) (by decide) hk1 hFc hP1 hD1
    generalize H1 = H at hP hS ⊢
    have hP : va_P (dC, dI) vwCl [(h0, Sum.inr (10, [Value.ref h1, Value.int n0_size, Value.int y_31, Value.ref h2])), (h1, Sum.inl (cint, 120, Sum.inl f1)), (h2, Sum.inr (4, [Value.ref h3, Value.int y_32, Value.ref h4, Value.ref h5, Value.int n2_top])), (h3, Sum.inl (cint, 128, Sum.inl f_33))] H := hP
    have hD : va_D A [(h0, Sum.inr (10, [Value.ref h1, Value.int n0_size, Value.int y_31, Value.ref h2])), (h1, Sum.inl (cint, 120, Sum.inl f1)), (h2, Sum.inr (4, [Value.ref h3, Value.int y_32, Value.ref h4, Value.ref h5, Value.int n2_top])), (h3, Sum.inl (cint, 128, Sum.inl f_33))] := hD
    refine lv_iconst (v := 1) hx hb dX10_readOperand_16 (by decide) ?_
    have hP9 := hP.sub (ws' := [(h0, Sum.inr (10, [Value.ref h1, Value.int n0_size, Value.int y_31, Value.ref h2])), (h1, Sum.inl (cint, 120, Sum.inl f1)), (h2, Sum.inr (4, [Value.ref h3, Value.int y_32, Value.ref h4, Value.ref h5, Value.int n2_top])), (h3, Sum.inl (cint, 128, Sum.inl f_33))]) [0, 1, 2, 3] rfl
    have hD9 := hD.sub (ws' := [(h0, Sum.inr (10, [Value.ref h1, Value.int n0_size, Value.int y_31, Value.ref h2])), (h1, Sum.inl (cint, 120, Sum.inl f1)), (h2, Sum.inr (4, [Value.ref h3, Value.int y_32, Value.ref h4, Value.ref h5, Value.int n2_top])), (h3, Sum.inl (cint, 128, Sum.inl f_33))]) [0, 1, 2, 3] (by decide) rfl
    have hK9 := hK.sub (tys' := []) [] rfl
    exact W.zret (v := 1) hx hb hr rfl (fun t ht hW => ⟨⟨1, (), rfl, (by show 0 ≤ (1 : Int32).toInt ∧ (1 : Int32).toInt ≤ 1; first | decide | (constructor <;> (omega))), y_31, y_32, f_33, (by show 0 ≤ (y_32 : Int32).toInt ∧ (y_32 : Int32).toInt ≤ 128; first | decide | (constructor <;> (omega))), by rw [ht]; exact hP9, va_K.moved hW.alike hK9, hD9⟩, hS.F ht⟩) hS.2.2 dX10_readOperand_17
set_option maxHeartbeats 4000000 in
set_option maxRecDepth 100000 in
theorem g_X10_readChain_30 (l : Launch) (dC : Nat → ClassId) (dI : Nat → Nat → Nat) (h0 : Nat) (h1 : Nat) (h2 : Nat) (h3 : Nat) (h4 : Nat) (h5 : Nat) (cint : ClassId) (sz : Nat) (n0_size : Int32) (n0_place : Int32) (f1 : Nat → Int32) (n2_size : Int32) (n2_top : Int32) (f3 : Nat → Int32) (tn0_size : 0 ≤ n0_size.toInt ∧ n0_size.toInt ≤ 120) (bf1 : ∀ j, j < 120 → 0 ≤ (f1 j).toInt ∧ (f1 j).toInt ≤ 255) (tn2_size : 0 ≤ n2_size.toInt ∧ n2_size.toInt ≤ 128) (tn2_top : 0 ≤ n2_top.toInt ∧ n2_top.toInt ≤ 64) (aNAMES : Nat) : Met l yX10_readChain wsX10_readChain ({ frames := 43, cells := 0, slots := 0, locals := 1006 }) (va_Pc [.ref h0, .int 5, .int 1] (fun U => U.heap.size = sz ∧ va_P (dC, dI) vwCl [(h0, Sum.inr (10, [Value.ref h1, Value.int n0_size, Value.int n0_place, Value.ref h2])), (h1, Sum.inl (cint, 120, Sum.inl f1)), (h2, Sum.inr (4, [Value.ref h3, Value.int n2_size, Value.ref h4, Value.ref h5, Value.int n2_top])), (h3, Sum.inl (cint, 128, Sum.inl f3))] U.heap ∧ va_K (dC, dI) vwCl [(cint, .int)] U ∧ va_D (fun _ => True) [(h0, Sum.inr (10, [Value.ref h1, Value.int n0_size, Value.int n0_place, Value.ref h2])), (h1, Sum.inl (cint, 120, Sum.inl f1)), (h2, Sum.inr (4, [Value.ref h3, Value.int n2_size, Value.ref h4, Value.ref h5, Value.int n2_top])), (h3, Sum.inl (cint, 128, Sum.inl f3))] ∧ va_Z "KinkStreet$Law" "NAMES" "[C" (.ref aNAMES) (va_A [(h0, Sum.inr (10, [Value.ref h1, Value.int n0_size, Value.int n0_place, Value.ref h2])), (h1, Sum.inl (cint, 120, Sum.inl f1)), (h2, Sum.inr (4, [Value.ref h3, Value.int n2_size, Value.ref h4, Value.ref h5, Value.int n2_top])), (h3, Sum.inl (cint, 128, Sum.inl f3))] sz) U U.heap ∧ va_T .char aNAMES 8 tb_NAMES (va_A [(h0, Sum.inr (10, [Value.ref h1, Value.int n0_size, Value.int n0_place, Value.ref h2])), (h1, Sum.inl (cint, 120, Sum.inl f1)), (h2, Sum.inr (4, [Value.ref h3, Value.int n2_size, Value.ref h4, Value.ref h5, Value.int n2_top])), (h3, Sum.inl (cint, 128, Sum.inl f3))] sz) U U.heap)) (va_Qi (fun (r : Int32) (_ : Unit) => (0 ≤ r.toInt ∧ r.toInt ≤ 1)) (fun (_ : Unit) t => ∃ (m0_place : Int32) (m2_size : Int32) (g3 : Nat → Int32), (0 ≤ m2_size.toInt ∧ m2_size.toInt ≤ 128) ∧ va_P (dC, dI) vwCl [(h0, Sum.inr (10, [Value.ref h1, Value.int n0_size, Value.int m0_place, Value.ref h2])), (h1, Sum.inl (cint, 120, Sum.inl f1)), (h2, Sum.inr (4, [Value.ref h3, Value.int m2_size, Value.ref h4, Value.ref h5, Value.int n2_top])), (h3, Sum.inl (cint, 128, Sum.inl g3))] t.heap ∧ va_K (dC, dI) vwCl [] t ∧ va_D (va_A [(h0, Sum.inr (10, [Value.ref h1, Value.int n0_size, Value.int n0_place, Value.ref h2])), (h1, Sum.inl (cint, 120, Sum.inl f1)), (h2, Sum.inr (4, [Value.ref h3, Value.int n2_size, Value.ref h4, Value.ref h5, Value.int n2_top])), (h3, Sum.inl (cint, 128, Sum.inl f3))] sz) [(h0, Sum.inr (10, [Value.ref h1, Value.int n0_size, Value.int m0_place, Value.ref h2])), (h1, Sum.inl (cint, 120, Sum.inl f1)), (h2, Sum.inr (4, [Value.ref h3, Value.int m2_size, Value.ref h4, Value.ref h5, Value.int n2_top])), (h3, Sum.inl (cint, 128, Sum.inl g3))]) (va_A [(h0, Sum.inr (10, [Value.ref h1, Value.int n0_size, Value.int n0_place, Value.ref h2])), (h1, Sum.inl (cint, 120, Sum.inl f1)), (h2, Sum.inr (4, [Value.ref h3, Value.int n2_size, Value.ref h4, Value.ref h5, Value.int n2_top])), (h3, Sum.inl (cint, 128, Sum.inl f3))] sz)) 0 0 (va_A [(h0, Sum.inr (10, [Value.ref h1, Value.int n0_size, Value.int n0_place, Value.ref h2])), (h1, Sum.inl (cint, 120, Sum.inl f1)), (h2, Sum.inr (4, [Value.ref h3, Value.int n2_size, Value.ref h4, Value.ref h5, Value.int n2_top])), (h3, Sum.inl (cint, 128, Sum.inl f3))] sz) := by
  refine Met.ofW (cc := cX10_readChain) (maxL := 5) (ret := (some .boolean)) (by decide) rfl ?_
  intro p e s m args below meth c s₁ B hml hv
  obtain ⟨rfl, hsz, hP, hK, hD0, hZNAMES, hTNAMES⟩ := hv
  have hx := B.exec
  have hb := B.bytes
  have hr := B.returns
  have hts := atoms_spec (ws := wsX10_readChain) B.pre
  have hown : s.vm.findClass RX10 = some m.cls := findClass_of_methodNamed B.named
  have hlocks := B.notSynchronized
  subst hsz
  have hD := hD0.self (sz := s.heap.size)
  generalize hAe : va_A [(h0, Sum.inr (10, [Value.ref h1, Value.int n0_size, Value.int n0_place, Value.ref h2])), (h1, Sum.inl (cint, 120, Sum.inl f1)), (h2, Sum.inr (4, [Value.ref h3, Value.int n2_size, Value.ref h4, Value.ref h5, Value.int n2_top])), (h3, Sum.inl (cint, 128, Sum.inl f3))] s.heap.size = A at hD hZNAMES hTNAMES ⊢
  have hA : ∀ q : Nat, s.heap.size ≤ q → A q := fun q h => by rw [← hAe]; exact Or.inr h
  have hS : va_S A s.heap s.heap [] := va_S.rf
  have hP : va_P (dC, dI) vwCl [(h0, Sum.inr (10, [Value.ref h1, Value.int n0_size, Value.int n0_place, Value.ref h2])), (h1, Sum.inl (cint, 120, Sum.inl f1)), (h2, Sum.inr (4, [Value.ref h3, Value.int n2_size, Value.ref h4, Value.ref h5, Value.int n2_top])), (h3, Sum.inl (cint, 128, Sum.inl f3))] s.heap := hP
  have hl := lv_entry ([.ref h0, .int 5, .int 1]) (n := 5) (Nat.le_of_ble_eq_true rfl)
  rw [lg_entry_eq]
  generalize (lg_sl ([.ref h0, .int 5, .int 1]) ++ List.replicate (5 - (lg_sl ([.ref h0, .int 5, .int 1])).length) Slot.unset).toArray = ls at hl ⊢
  have hl : lv_has ls 5 [(0, .ref h0), (1, .int 5), (2, .int 1)] := hl
  refine lv_iload_n hx hb dX10_readChain_0 rfl (lv_at hl 1 rfl) ?_
  refine lv_iconst (v := 5) hx hb dX10_readChain_1 (by decide) ?_
  refine lv_icmp_lt (tgt := 11) hx hb dX10_readChain_2 (by decide) (fun c => absurd c (by decide)) (fun _ => ?_)
  refine lv_aload_n hx hb dX10_readChain_5 rfl (lv_at hl 0 rfl) ?_
  refine lv_iload_n hx hb dX10_readChain_6 rfl (lv_at hl 2 rfl) ?_
  have hPc := hP.sub (ws' := [(h0, Sum.inr (10, [Value.ref h1, Value.int n0_size, Value.int n0_place, Value.ref h2])), (h1, Sum.inl (cint, 120, Sum.inl f1)), (h2, Sum.inr (4, [Value.ref h3, Value.int n2_size, Value.ref h4, Value.ref h5, Value.int n2_top])), (h3, Sum.inl (cint, 128, Sum.inl f3))]) [0, 1, 2, 3] rfl
  have hDc := hD.sub (ws' := [(h0, Sum.inr (10, [Value.ref h1, Value.int n0_size, Value.int n0_place, Value.ref h2])), (h1, Sum.inl (cint, 120, Sum.inl f1)), (h2, Sum.inr (4, [Value.ref h3, Value.int n2_size, Value.ref h4, Value.ref h5, Value.int n2_top])), (h3, Sum.inl (cint, 128, Sum.inl f3))]) [0, 1, 2, 3] (by decide) rfl
  have hKc := hK.sub (tys' := [(cint, .int)]) [0] rfl
  have hFc := va_free (wc := [(h0, Sum.inr (10, [Value.ref h1, Value.int n0_size, Value.int n0_place, Value.ref h2])), (h1, Sum.inl (cint, 120, Sum.inl f1)), (h2, Sum.inr (4, [Value.ref h3, Value.int n2_size, Value.ref h4, Value.ref h5, Value.int n2_top])), (h3, Sum.inl (cint, 128, Sum.inl f3))]) hD hS hA [0, 1, 2, 3] rfl
  refine va_calli (va_runV (As := [.int 1]) (rest := []) ⟨hx, hb, hml, hown, hts⟩ (g_X10_readOperand_5 l dC dI h0 h1 h2 h3 h4 h5 cint s.heap.size n0_size n0_place f1 n2_size n2_top f3 tn0_size bf1 tn2_size tn2_top aNAMES) (cwV 1 hts gX10_readChain_X10_readOperand rfl rfl rfl (by decide +kernel) ⟨Nat.le_of_ble_eq_true rfl, Nat.le_of_ble_eq_true rfl⟩) ⟨fun a U g mk q => by obtain ⟨q0, q1, qP, qK, qD, qx0, qx1⟩ := q; exact ⟨q0, q1, qP, va_K.moved (u := U) (U := U.calling g mk a) (Vm.Alike.refl U.vm) qK, qD, va_Z.moved (u := U) (U := U.calling g mk a) (Vm.Alike.refl U.vm) qx0, va_T.moved (u := U) (U := U.calling g mk a) (Vm.Alike.refl U.vm) qx1⟩, va_recv hKc hPc (ci := 10) (q0 := 0) rfl rfl, fun U hU hW => ⟨rfl, by rw [hU], by rw [hU]; exact hPc, va_K.moved hW.alike hKc, hDc.weaken (fun _ _ _ _ => trivial), by rw [hU]; exact ((hZNAMES.kept (fun a h1 h2 => hS.2.1 a h1 h2)).narrow hFc).moved hW.alike, by rw [hU]; exact ((hTNAMES.kept (fun a h1 h2 => hS.2.1 a h1 h2)).narrow hFc).moved hW.alike⟩⟩ rfl rfl hl.1 rfl (lv_room (Nat.le_of_ble_eq_true rfl)) dX10_readChain_7 ⟨Nat.le_of_ble_eq_true rfl, Nat.le_of_ble_eq_true rfl⟩) hS (fun q _ h => hFc q h) hFc (fun r_1 u t H1 locs ht hvm hw hB hz1 hk1 hS => ?_)
  obtain ⟨y_2, y_3, f_4, by_3, hP1, hK1, hD1⟩ := hB
  rw [ht] at hP1
  have hK1 := va_K.moved hvm.symm hK1
  obtain ⟨hP, hD⟩ := va_join (wr := []) (w1 := [(h0, Sum.inr (10, [Value.ref h1, Value.int n0_size, Value.int y_2, Value.ref h2])), (h1, Sum.inl (cint, 120, Sum.inl f1)), (h2, Sum.inr (4, [Value.ref h3, Value.int y_3, Value.ref h4, Value.ref h5, Value.int n2_top])), (h3, Sum.inl (cint, 128, Sum.inl f_4))]) hP hD [0, 1, 2, 3] [] rfl rfl (by decide) (by decide) hk1 hFc hP1 hD1
  generalize H1 = H at hP hS ⊢
  have hP : va_P (dC, dI) vwCl [(h0, Sum.inr (10, [Value.ref h1, Value.int n0_size, Value.int y_2, Value.ref h2])), (h1, Sum.inl (cint, 120, Sum.inl f1)), (h2, Sum.inr (4, [Value.ref h3, Value.int y_3, Value.ref h4, Value.ref h5, Value.int n2_top])), (h3, Sum.inl (cint, 128, Sum.inl f_4))] H := hP
  have hD : va_D A [(h0, Sum.inr (10, [Value.ref h1, Value.int n0_size, Value.int y_2, Value.ref h2])), (h1, Sum.inl (cint, 120, Sum.inl f1)), (h2, Sum.inr (4, [Value.ref h3, Value.int y_3, Value.ref h4, Value.ref h5, Value.int n2_top])), (h3, Sum.inl (cint, 128, Sum.inl f_4))] := hD
  have t_1 : 0 ≤ r_1.toInt ∧ r_1.toInt ≤ 1 := hw
  have hP9 := hP.sub (ws' := [(h0, Sum.inr (10, [Value.ref h1, Value.int n0_size, Value.int y_2, Value.ref h2])), (h1, Sum.inl (cint, 120, Sum.inl f1)), (h2, Sum.inr (4, [Value.ref h3, Value.int y_3, Value.ref h4, Value.ref h5, Value.int n2_top])), (h3, Sum.inl (cint, 128, Sum.inl f_4))]) [0, 1, 2, 3] rfl
  have hD9 := hD.sub (ws' := [(h0, Sum.inr (10, [Value.ref h1, Value.int n0_size, Value.int y_2, Value.ref h2])), (h1, Sum.inl (cint, 120, Sum.inl f1)), (h2, Sum.inr (4, [Value.ref h3, Value.int y_3, Value.ref h4, Value.ref h5, Value.int n2_top])), (h3, Sum.inl (cint, 128, Sum.inl f_4))]) [0, 1, 2, 3] (by decide) rfl
  have hK9 := hK.sub (tys' := []) [] rfl
  exact W.zret (v := r_1) hx hb hr (kk_nb (by show 0 ≤ (r_1 : Int32).toInt; omega) (by show (r_1 : Int32).toInt ≤ 1; omega)) (fun t ht hW => ⟨⟨r_1, (), rfl, (by show 0 ≤ (r_1 : Int32).toInt ∧ (r_1 : Int32).toInt ≤ 1; first | decide | (constructor <;> (omega))), y_2, y_3, f_4, (by show 0 ≤ (y_3 : Int32).toInt ∧ (y_3 : Int32).toInt ≤ 128; first | decide | (constructor <;> (omega))), by rw [ht]; exact hP9, va_K.moved hW.alike hK9, hD9⟩, hS.F ht⟩) hS.2.2 dX10_readChain_10
set_option maxHeartbeats 4000000 in
set_option maxRecDepth 100000 in
theorem g_X10_readChain_31 (l : Launch) (dC : Nat → ClassId) (dI : Nat → Nat → Nat) (h0 : Nat) (h1 : Nat) (h2 : Nat) (h3 : Nat) (h4 : Nat) (h5 : Nat) (cint : ClassId) (sz : Nat) (n0_size : Int32) (n0_place : Int32) (f1 : Nat → Int32) (n2_size : Int32) (n2_top : Int32) (f3 : Nat → Int32) (tn0_size : 0 ≤ n0_size.toInt ∧ n0_size.toInt ≤ 120) (bf1 : ∀ j, j < 120 → 0 ≤ (f1 j).toInt ∧ (f1 j).toInt ≤ 255) (tn2_size : 0 ≤ n2_size.toInt ∧ n2_size.toInt ≤ 128) (tn2_top : 0 ≤ n2_top.toInt ∧ n2_top.toInt ≤ 64) (aNAMES : Nat) : Met l yX10_readChain wsX10_readChain ({ frames := 44, cells := 0, slots := 0, locals := 1030 }) (va_Pc [.ref h0, .int 4, .int 1] (fun U => U.heap.size = sz ∧ va_P (dC, dI) vwCl [(h0, Sum.inr (10, [Value.ref h1, Value.int n0_size, Value.int n0_place, Value.ref h2])), (h1, Sum.inl (cint, 120, Sum.inl f1)), (h2, Sum.inr (4, [Value.ref h3, Value.int n2_size, Value.ref h4, Value.ref h5, Value.int n2_top])), (h3, Sum.inl (cint, 128, Sum.inl f3))] U.heap ∧ va_K (dC, dI) vwCl [(cint, .int)] U ∧ va_D (fun _ => True) [(h0, Sum.inr (10, [Value.ref h1, Value.int n0_size, Value.int n0_place, Value.ref h2])), (h1, Sum.inl (cint, 120, Sum.inl f1)), (h2, Sum.inr (4, [Value.ref h3, Value.int n2_size, Value.ref h4, Value.ref h5, Value.int n2_top])), (h3, Sum.inl (cint, 128, Sum.inl f3))] ∧ va_Z "KinkStreet$Law" "NAMES" "[C" (.ref aNAMES) (va_A [(h0, Sum.inr (10, [Value.ref h1, Value.int n0_size, Value.int n0_place, Value.ref h2])), (h1, Sum.inl (cint, 120, Sum.inl f1)), (h2, Sum.inr (4, [Value.ref h3, Value.int n2_size, Value.ref h4, Value.ref h5, Value.int n2_top])), (h3, Sum.inl (cint, 128, Sum.inl f3))] sz) U U.heap ∧ va_T .char aNAMES 8 tb_NAMES (va_A [(h0, Sum.inr (10, [Value.ref h1, Value.int n0_size, Value.int n0_place, Value.ref h2])), (h1, Sum.inl (cint, 120, Sum.inl f1)), (h2, Sum.inr (4, [Value.ref h3, Value.int n2_size, Value.ref h4, Value.ref h5, Value.int n2_top])), (h3, Sum.inl (cint, 128, Sum.inl f3))] sz) U U.heap)) (va_Qi (fun (r : Int32) (_ : Unit) => (0 ≤ r.toInt ∧ r.toInt ≤ 1)) (fun (_ : Unit) t => ∃ (m0_place : Int32) (m2_size : Int32) (g3 : Nat → Int32), (0 ≤ m2_size.toInt ∧ m2_size.toInt ≤ 128) ∧ va_P (dC, dI) vwCl [(h0, Sum.inr (10, [Value.ref h1, Value.int n0_size, Value.int m0_place, Value.ref h2])), (h1, Sum.inl (cint, 120, Sum.inl f1)), (h2, Sum.inr (4, [Value.ref h3, Value.int m2_size, Value.ref h4, Value.ref h5, Value.int n2_top])), (h3, Sum.inl (cint, 128, Sum.inl g3))] t.heap ∧ va_K (dC, dI) vwCl [] t ∧ va_D (va_A [(h0, Sum.inr (10, [Value.ref h1, Value.int n0_size, Value.int n0_place, Value.ref h2])), (h1, Sum.inl (cint, 120, Sum.inl f1)), (h2, Sum.inr (4, [Value.ref h3, Value.int n2_size, Value.ref h4, Value.ref h5, Value.int n2_top])), (h3, Sum.inl (cint, 128, Sum.inl f3))] sz) [(h0, Sum.inr (10, [Value.ref h1, Value.int n0_size, Value.int m0_place, Value.ref h2])), (h1, Sum.inl (cint, 120, Sum.inl f1)), (h2, Sum.inr (4, [Value.ref h3, Value.int m2_size, Value.ref h4, Value.ref h5, Value.int n2_top])), (h3, Sum.inl (cint, 128, Sum.inl g3))]) (va_A [(h0, Sum.inr (10, [Value.ref h1, Value.int n0_size, Value.int n0_place, Value.ref h2])), (h1, Sum.inl (cint, 120, Sum.inl f1)), (h2, Sum.inr (4, [Value.ref h3, Value.int n2_size, Value.ref h4, Value.ref h5, Value.int n2_top])), (h3, Sum.inl (cint, 128, Sum.inl f3))] sz)) 0 0 (va_A [(h0, Sum.inr (10, [Value.ref h1, Value.int n0_size, Value.int n0_place, Value.ref h2])), (h1, Sum.inl (cint, 120, Sum.inl f1)), (h2, Sum.inr (4, [Value.ref h3, Value.int n2_size, Value.ref h4, Value.ref h5, Value.int n2_top])), (h3, Sum.inl (cint, 128, Sum.inl f3))] sz) := by
  refine Met.ofW (cc := cX10_readChain) (maxL := 5) (ret := (some .boolean)) (by decide) rfl ?_
  intro p e s m args below meth c s₁ B hml hv
  obtain ⟨rfl, hsz, hP, hK, hD0, hZNAMES, hTNAMES⟩ := hv
  have hx := B.exec
  have hb := B.bytes
  have hr := B.returns
  have hts := atoms_spec (ws := wsX10_readChain) B.pre
  have hown : s.vm.findClass RX10 = some m.cls := findClass_of_methodNamed B.named
  have hlocks := B.notSynchronized
  subst hsz
  have hD := hD0.self (sz := s.heap.size)
  generalize hAe : va_A [(h0, Sum.inr (10, [Value.ref h1, Value.int n0_size, Value.int n0_place, Value.ref h2])), (h1, Sum.inl (cint, 120, Sum.inl f1)), (h2, Sum.inr (4, [Value.ref h3, Value.int n2_size, Value.ref h4, Value.ref h5, Value.int n2_top])), (h3, Sum.inl (cint, 128, Sum.inl f3))] s.heap.size = A at hD hZNAMES hTNAMES ⊢
  have hA : ∀ q : Nat, s.heap.size ≤ q → A q := fun q h => by rw [← hAe]; exact Or.inr h
  have hS : va_S A s.heap s.heap [] := va_S.rf
  have hP : va_P (dC, dI) vwCl [(h0, Sum.inr (10, [Value.ref h1, Value.int n0_size, Value.int n0_place, Value.ref h2])), (h1, Sum.inl (cint, 120, Sum.inl f1)), (h2, Sum.inr (4, [Value.ref h3, Value.int n2_size, Value.ref h4, Value.ref h5, Value.int n2_top])), (h3, Sum.inl (cint, 128, Sum.inl f3))] s.heap := hP
  have hl := lv_entry ([.ref h0, .int 4, .int 1]) (n := 5) (Nat.le_of_ble_eq_true rfl)
  rw [lg_entry_eq]
  generalize (lg_sl ([.ref h0, .int 4, .int 1]) ++ List.replicate (5 - (lg_sl ([.ref h0, .int 4, .int 1])).length) Slot.unset).toArray = ls at hl ⊢
  have hl : lv_has ls 5 [(0, .ref h0), (1, .int 4), (2, .int 1)] := hl
  refine lv_iload_n hx hb dX10_readChain_0 rfl (lv_at hl 1 rfl) ?_
  refine lv_iconst (v := 5) hx hb dX10_readChain_1 (by decide) ?_
  refine lv_icmp_lt (tgt := 11) hx hb dX10_readChain_2 (by decide) (fun _ => ?_) (fun c => absurd c (by decide))
  refine lv_aload_n hx hb dX10_readChain_11 rfl (lv_at hl 0 rfl) ?_
  refine lv_iload_n hx hb dX10_readChain_12 rfl (lv_at hl 1 rfl) ?_
  refine lv_iconst (v := 1) hx hb dX10_readChain_13 (by decide) ?_
  refine lv_iadd hx hb dX10_readChain_14 ?_
  refine lv_topi (fun y_1 e_1 => ?_)
  obtain rfl : y_1 = 5 := e_1.trans (by decide)
  refine lv_iload_n hx hb dX10_readChain_15 rfl (lv_at hl 2 rfl) ?_
  have hPc := hP.sub (ws' := [(h0, Sum.inr (10, [Value.ref h1, Value.int n0_size, Value.int n0_place, Value.ref h2])), (h1, Sum.inl (cint, 120, Sum.inl f1)), (h2, Sum.inr (4, [Value.ref h3, Value.int n2_size, Value.ref h4, Value.ref h5, Value.int n2_top])), (h3, Sum.inl (cint, 128, Sum.inl f3))]) [0, 1, 2, 3] rfl
  have hDc := hD.sub (ws' := [(h0, Sum.inr (10, [Value.ref h1, Value.int n0_size, Value.int n0_place, Value.ref h2])), (h1, Sum.inl (cint, 120, Sum.inl f1)), (h2, Sum.inr (4, [Value.ref h3, Value.int n2_size, Value.ref h4, Value.ref h5, Value.int n2_top])), (h3, Sum.inl (cint, 128, Sum.inl f3))]) [0, 1, 2, 3] (by decide) rfl
  have hKc := hK.sub (tys' := [(cint, .int)]) [0] rfl
  have hFc := va_free (wc := [(h0, Sum.inr (10, [Value.ref h1, Value.int n0_size, Value.int n0_place, Value.ref h2])), (h1, Sum.inl (cint, 120, Sum.inl f1)), (h2, Sum.inr (4, [Value.ref h3, Value.int n2_size, Value.ref h4, Value.ref h5, Value.int n2_top])), (h3, Sum.inl (cint, 128, Sum.inl f3))]) hD hS hA [0, 1, 2, 3] rfl
  refine va_calli (va_runV (As := [.int 5, .int 1]) (rest := []) ⟨hx, hb, hml, hown, hts⟩ (g_X10_readChain_30 l dC dI h0 h1 h2 h3 h4 h5 cint s.heap.size n0_size n0_place f1 n2_size n2_top f3 tn0_size bf1 tn2_size tn2_top aNAMES) (cwV 2 hts gX10_readChain_X10_readChain rfl rfl rfl (by decide +kernel) ⟨Nat.le_of_ble_eq_true rfl, Nat.le_of_ble_eq_true rfl⟩) ⟨fun a U g mk q => by obtain ⟨q0, q1, qP, qK, qD, qx0, qx1⟩ := q; exact ⟨q0, q1, qP, va_K.moved (u := U) (U := U.calling g mk a) (Vm.Alike.refl U.vm) qK, qD, va_Z.moved (u := U) (U := U.calling g mk a) (Vm.Alike.refl U.vm) qx0, va_T.moved (u := U) (U := U.calling g mk a) (Vm.Alike.refl U.vm) qx1⟩, va_recv hKc hPc (ci := 10) (q0 := 0) rfl rfl, fun U hU hW => ⟨rfl, by rw [hU], by rw [hU]; exact hPc, va_K.moved hW.alike hKc, hDc.weaken (fun _ _ _ _ => trivial), by rw [hU]; exact ((hZNAMES.kept (fun a h1 h2 => hS.2.1 a h1 h2)).narrow hFc).moved hW.alike, by rw [hU]; exact ((hTNAMES.kept (fun a h1 h2 => hS.2.1 a h1 h2)).narrow hFc).moved hW.alike⟩⟩ rfl rfl hl.1 rfl (lv_room (Nat.le_of_ble_eq_true rfl)) dX10_readChain_16 ⟨Nat.le_of_ble_eq_true rfl, Nat.le_of_ble_eq_true rfl⟩) hS (fun q _ h => hFc q h) hFc (fun r_2 u t H1 locs ht hvm hw hB hz1 hk1 hS => ?_)
  obtain ⟨y_3, y_4, f_5, by_4, hP1, hK1, hD1⟩ := hB
  rw [ht] at hP1
  have hK1 := va_K.moved hvm.symm hK1
  obtain ⟨hP, hD⟩ := va_join (wr := []) (w1 := [(h0, Sum.inr (10, [Value.ref h1, Value.int n0_size, Value.int y_3, Value.ref h2])), (h1, Sum.inl (cint, 120, Sum.inl f1)), (h2, Sum.inr (4, [Value.ref h3, Value.int y_4, Value.ref h4, Value.ref h5, Value.int n2_top])), (h3, Sum.inl (cint, 128, Sum.inl f_5))]) hP hD [0, 1, 2, 3] [] rfl rfl (by decide) (by decide) hk1 hFc hP1 hD1
  generalize H1 = H at hP hS ⊢
  have hP : va_P (dC, dI) vwCl [(h0, Sum.inr (10, [Value.ref h1, Value.int n0_size, Value.int y_3, Value.ref h2])), (h1, Sum.inl (cint, 120, Sum.inl f1)), (h2, Sum.inr (4, [Value.ref h3, Value.int y_4, Value.ref h4, Value.ref h5, Value.int n2_top])), (h3, Sum.inl (cint, 128, Sum.inl f_5))] H := hP
  have hD : va_D A [(h0, Sum.inr (10, [Value.ref h1, Value.int n0_size, Value.int y_3, Value.ref h2])), (h1, Sum.inl (cint, 120, Sum.inl f1)), (h2, Sum.inr (4, [Value.ref h3, Value.int y_4, Value.ref h4, Value.ref h5, Value.int n2_top])), (h3, Sum.inl (cint, 128, Sum.inl f_5))] := hD
  have t_2 : 0 ≤ r_2.toInt ∧ r_2.toInt ≤ 1 := hw
  refine lv_if_ne (tgt := 24) hx hb dX10_readChain_19 (by decide) (fun c_6 => ?_) (fun c_6 => ?_)
  · have t_6 : r_2.toInt ≠ 0 := kk_ne c_6
    refine lv_iconst (v := 0) hx hb dX10_readChain_24 (by decide) ?_
    refine lv_istore_n (lv' := [(3, .int 0), (0, .ref h0), (1, .int 4), (2, .int 1)]) hx hb dX10_readChain_25 rfl hl (by decide) rfl (fun ls hl => ?_)
    refine kk_loop (σ := Int32 × Int32 × Int32 × (Nat → Int32)) (fun x H locs ls => (0 ≤ x.1.toInt ∧ x.1.toInt ≤ 120) ∧ (0 ≤ x.2.2.1.toInt ∧ x.2.2.1.toInt ≤ 128) ∧ va_P (dC, dI) vwCl [(h0, Sum.inr (10, [Value.ref h1, Value.int n0_size, Value.int x.2.1, Value.ref h2])), (h1, Sum.inl (cint, 120, Sum.inl f1)), (h2, Sum.inr (4, [Value.ref h3, Value.int x.2.2.1, Value.ref h4, Value.ref h5, Value.int n2_top])), (h3, Sum.inl (cint, 128, Sum.inl x.2.2.2))] H ∧ va_D A [(h0, Sum.inr (10, [Value.ref h1, Value.int n0_size, Value.int x.2.1, Value.ref h2])), (h1, Sum.inl (cint, 120, Sum.inl f1)), (h2, Sum.inr (4, [Value.ref h3, Value.int x.2.2.1, Value.ref h4, Value.ref h5, Value.int n2_top])), (h3, Sum.inl (cint, 128, Sum.inl x.2.2.2))] ∧ va_S A s.heap H locs ∧ lv_has ls 5 [(3, .int x.1), (0, .ref h0), (1, .int 4), (2, .int 1)]) (fun x => ((120 : Int) - x.1.toInt).toNat) ?_ (0, y_3, y_4, f_5) _ _ _ ⟨(by show 0 ≤ (0 : Int32).toInt ∧ (0 : Int32).toInt ≤ 120; first | decide | (constructor <;> (omega))), (by show 0 ≤ (y_4 : Int32).toInt ∧ (y_4 : Int32).toInt ≤ 128; first | decide | (constructor <;> (omega))), hP, hD, hS, hl⟩
    rintro ⟨i_7_0, i_7_1, i_7_2, f_7_3⟩ H locs ls ⟨t_7_0, t_7_2, hP, hD, hS, hl⟩ ih_7
    have t_7_0 : (0 ≤ i_7_0.toInt ∧ i_7_0.toInt ≤ 120) := t_7_0
    have t_7_2 : (0 ≤ i_7_2.toInt ∧ i_7_2.toInt ≤ 128) := t_7_2
    have hl : lv_has ls 5 [(3, .int i_7_0), (0, .ref h0), (1, .int 4), (2, .int 1)] := hl
    have hP : va_P (dC, dI) vwCl [(h0, Sum.inr (10, [Value.ref h1, Value.int n0_size, Value.int i_7_1, Value.ref h2])), (h1, Sum.inl (cint, 120, Sum.inl f1)), (h2, Sum.inr (4, [Value.ref h3, Value.int i_7_2, Value.ref h4, Value.ref h5, Value.int n2_top])), (h3, Sum.inl (cint, 128, Sum.inl f_7_3))] H := hP
    have hD : va_D A [(h0, Sum.inr (10, [Value.ref h1, Value.int n0_size, Value.int i_7_1, Value.ref h2])), (h1, Sum.inl (cint, 120, Sum.inl f1)), (h2, Sum.inr (4, [Value.ref h3, Value.int i_7_2, Value.ref h4, Value.ref h5, Value.int n2_top])), (h3, Sum.inl (cint, 128, Sum.inl f_7_3))] := hD
    refine lv_iload_n hx hb dX10_readChain_26 rfl (lv_at hl 0 rfl) ?_
    refine lv_bipush (v := 120) hx hb dX10_readChain_27 (by decide) ?_
    refine lv_icmp_ge (tgt := 94) hx hb dX10_readChain_29 (by decide) (fun c_119 => ?_) (fun c_119 => ?_)
    · have t_119 : 120 ≤ i_7_0.toInt := kk_le c_119
      refine lv_iconst (v := 1) hx hb dX10_readChain_94 (by decide) ?_
      have hP9 := hP.sub (ws' := [(h0, Sum.inr (10, [Value.ref h1, Value.int n0_size, Value.int i_7_1, Value.ref h2])), (h1, Sum.inl (cint, 120, Sum.inl f1)), (h2, Sum.inr (4, [Value.ref h3, Value.int i_7_2, Value.ref h4, Value.ref h5, Value.int n2_top])), (h3, Sum.inl (cint, 128, Sum.inl f_7_3))]) [0, 1, 2, 3] rfl
      have hD9 := hD.sub (ws' := [(h0, Sum.inr (10, [Value.ref h1, Value.int n0_size, Value.int i_7_1, Value.ref h2])), (h1, Sum.inl (cint, 120, Sum.inl f1)), (h2, Sum.inr (4, [Value.ref h3, Value.int i_7_2, Value.ref h4, Value.ref h5, Value.int n2_top])), (h3, Sum.inl (cint, 128, Sum.inl f_7_3))]) [0, 1, 2, 3] (by decide) rfl
      have hK9 := hK.sub (tys' := []) [] rfl
      exact W.zret (v := 1) hx hb hr rfl (fun t ht hW => ⟨⟨1, (), rfl, (by show 0 ≤ (1 : Int32).toInt ∧ (1 : Int32).toInt ≤ 1; first | decide | (constructor <;> (omega))), i_7_1, i_7_2, f_7_3, (by show 0 ≤ (i_7_2 : Int32).toInt ∧ (i_7_2 : Int32).toInt ≤ 128; first | decide | (constructor <;> (omega))), by rw [ht]; exact hP9, va_K.moved hW.alike hK9, hD9⟩, hS.F ht⟩) hS.2.2 dX10_readChain_95
    · have t_119 : i_7_0.toInt < 120 := kk_nle c_119
      refine lv_iload_n hx hb dX10_readChain_32 rfl (lv_at hl 2 rfl) ?_
      refine lv_aload_n hx hb dX10_readChain_33 rfl (lv_at hl 1 rfl) ?_
      have hPc := hP.sub (ws' := [(h0, Sum.inr (10, [Value.ref h1, Value.int n0_size, Value.int i_7_1, Value.ref h2])), (h1, Sum.inl (cint, 120, Sum.inl f1))]) [0, 1] rfl
      have hDc := hD.sub (ws' := [(h0, Sum.inr (10, [Value.ref h1, Value.int n0_size, Value.int i_7_1, Value.ref h2])), (h1, Sum.inl (cint, 120, Sum.inl f1))]) [0, 1] (by decide) rfl
      have hKc := hK.sub (tys' := [(cint, .int)]) [0] rfl
      have hFc := va_free (wc := [(h0, Sum.inr (10, [Value.ref h1, Value.int n0_size, Value.int i_7_1, Value.ref h2])), (h1, Sum.inl (cint, 120, Sum.inl f1))]) hD hS hA [0, 1] rfl
      refine va_calli (va_runV (As := []) (rest := [.int 4]) ⟨hx, hb, hml, hown, hts⟩ (g_X10_next_0 l dC dI h0 h1 h2 cint H.size n0_size i_7_1 f1 tn0_size bf1) (cwV 0 hts gX10_readChain_X10_next rfl rfl rfl (by decide +kernel) ⟨Nat.le_of_ble_eq_true rfl, Nat.le_of_ble_eq_true rfl⟩) ⟨fun a U g mk q => by obtain ⟨q0, q1, qP, qK, qD⟩ := q; exact ⟨q0, q1, qP, va_K.moved (u := U) (U := U.calling g mk a) (Vm.Alike.refl U.vm) qK, qD⟩, va_recv hKc hPc (ci := 10) (q0 := 0) rfl rfl, fun U hU hW => ⟨rfl, by rw [hU], by rw [hU]; exact hPc, va_K.moved hW.alike hKc, hDc.weaken (fun _ _ _ _ => trivial)⟩⟩ rfl rfl hl.1 rfl (lv_room (Nat.le_of_ble_eq_true rfl)) dX10_readChain_34 ⟨Nat.le_of_ble_eq_true rfl, Nat.le_of_ble_eq_true rfl⟩) hS (fun q _ h => hFc q h) hFc (fun r_120 u t H1 locs ht hvm hw hB hz1 hk1 hS => ?_)
      obtain ⟨hP1, hK1, hD1⟩ := hB
      rw [ht] at hP1
      have hK1 := va_K.moved hvm.symm hK1
      obtain ⟨hP, hD⟩ := va_join (wr := [(h2, Sum.inr (4, [Value.ref h3, Value.int i_7_2, Value.ref h4, Value.ref h5, Value.int n2_top])), (h3, Sum.inl (cint, 128, Sum.inl f_7_3))]) (w1 := [(h0, Sum.inr (10, [Value.ref h1, Value.int n0_size, Value.int i_7_1, Value.ref h2])), (h1, Sum.inl (cint, 120, Sum.inl f1))]) hP hD [0, 1] [2, 3] rfl rfl (by decide) (by decide) hk1 hFc hP1 hD1
      generalize H1 = H at hP hS ⊢
      have hP : va_P (dC, dI) vwCl [(h2, Sum.inr (4, [Value.ref h3, Value.int i_7_2, Value.ref h4, Value.ref h5, Value.int n2_top])), (h3, Sum.inl (cint, 128, Sum.inl f_7_3)), (h0, Sum.inr (10, [Value.ref h1, Value.int n0_size, Value.int i_7_1, Value.ref h2])), (h1, Sum.inl (cint, 120, Sum.inl f1))] H := hP
      have hD : va_D A [(h2, Sum.inr (4, [Value.ref h3, Value.int i_7_2, Value.ref h4, Value.ref h5, Value.int n2_top])), (h3, Sum.inl (cint, 128, Sum.inl f_7_3)), (h0, Sum.inr (10, [Value.ref h1, Value.int n0_size, Value.int i_7_1, Value.ref h2])), (h1, Sum.inl (cint, 120, Sum.inl f1))] := hD
      have t_120 : (-1) ≤ r_120.toInt ∧ r_120.toInt ≤ 255 := hw
      have hPc := hP.sub (ws' := []) [] rfl
      have hDc := hD.sub (ws' := []) [] (by decide) rfl
      have hKc := hK.sub (tys' := []) [] rfl
      have hFc := va_free (wc := []) hD hS hA [] rfl
      refine va_calli (va_runS (As := [.int 4, .int r_120]) (rest := []) ⟨hx, hb, hml, hown, hts⟩ (g_X10_joins_0 l dC dI H.size r_120) (va_cwS 2 hts gX10_readChain_X10_joins rfl rfl rfl (by decide +kernel) ⟨Nat.le_of_ble_eq_true rfl, Nat.le_of_ble_eq_true rfl⟩) ⟨fun a U g mk q => by obtain ⟨q0, q1, qP, qK, qD⟩ := q; exact ⟨q0, q1, qP, va_K.moved (u := U) (U := U.calling g mk a) (Vm.Alike.refl U.vm) qK, qD⟩, fun U hU hW => ⟨rfl, by rw [hU], by rw [hU]; exact hPc, va_K.moved hW.alike hKc, hDc.weaken (fun _ _ _ _ => trivial)⟩⟩ rfl rfl hl.1 rfl (lv_room (Nat.le_of_ble_eq_true rfl)) dX10_readChain_37 ⟨Nat.le_of_ble_eq_true rfl, Nat.le_of_ble_eq_true rfl⟩) hS (fun q _ h => hFc q h) hFc (fun r_121 u t H1 locs ht hvm hw hB hz1 hk1 hS => ?_)
      obtain ⟨hP1, hK1, hD1⟩ := hB
      rw [ht] at hP1
      have hK1 := va_K.moved hvm.symm hK1
      obtain ⟨hP, hD⟩ := va_join (wr := [(h2, Sum.inr (4, [Value.ref h3, Value.int i_7_2, Value.ref h4, Value.ref h5, Value.int n2_top])), (h3, Sum.inl (cint, 128, Sum.inl f_7_3)), (h0, Sum.inr (10, [Value.ref h1, Value.int n0_size, Value.int i_7_1, Value.ref h2])), (h1, Sum.inl (cint, 120, Sum.inl f1))]) (w1 := []) hP hD [] [0, 1, 2, 3] rfl rfl (by decide) (by decide) hk1 hFc hP1 hD1
      generalize H1 = H at hP hS ⊢
      have hP : va_P (dC, dI) vwCl [(h2, Sum.inr (4, [Value.ref h3, Value.int i_7_2, Value.ref h4, Value.ref h5, Value.int n2_top])), (h3, Sum.inl (cint, 128, Sum.inl f_7_3)), (h0, Sum.inr (10, [Value.ref h1, Value.int n0_size, Value.int i_7_1, Value.ref h2])), (h1, Sum.inl (cint, 120, Sum.inl f1))] H := hP
      have hD : va_D A [(h2, Sum.inr (4, [Value.ref h3, Value.int i_7_2, Value.ref h4, Value.ref h5, Value.int n2_top])), (h3, Sum.inl (cint, 128, Sum.inl f_7_3)), (h0, Sum.inr (10, [Value.ref h1, Value.int n0_size, Value.int i_7_1, Value.ref h2])), (h1, Sum.inl (cint, 120, Sum.inl f1))] := hD
      have t_121 : 0 ≤ r_121.toInt ∧ r_121.toInt ≤ 1 := hw
      refine lv_if_eq (tgt := 94) hx hb dX10_readChain_40 (by decide) (fun c_122 => ?_) (fun c_122 => ?_)
      · have t_122 : r_121.toInt = 0 := kk_eq c_122
        refine lv_iconst (v := 1) hx hb dX10_readChain_94 (by decide) ?_
        have hP9 := hP.sub (ws' := [(h0, Sum.inr (10, [Value.ref h1, Value.int n0_size, Value.int i_7_1, Value.ref h2])), (h1, Sum.inl (cint, 120, Sum.inl f1)), (h2, Sum.inr (4, [Value.ref h3, Value.int i_7_2, Value.ref h4, Value.ref h5, Value.int n2_top])), (h3, Sum.inl (cint, 128, Sum.inl f_7_3))]) [2, 3, 0, 1] rfl
        have hD9 := hD.sub (ws' := [(h0, Sum.inr (10, [Value.ref h1, Value.int n0_size, Value.int i_7_1, Value.ref h2])), (h1, Sum.inl (cint, 120, Sum.inl f1)), (h2, Sum.inr (4, [Value.ref h3, Value.int i_7_2, Value.ref h4, Value.ref h5, Value.int n2_top])), (h3, Sum.inl (cint, 128, Sum.inl f_7_3))]) [2, 3, 0, 1] (by decide) rfl
        have hK9 := hK.sub (tys' := []) [] rfl
        exact W.zret (v := 1) hx hb hr rfl (fun t ht hW => ⟨⟨1, (), rfl, (by show 0 ≤ (1 : Int32).toInt ∧ (1 : Int32).toInt ≤ 1; first | decide | (constructor <;> (omega))), i_7_1, i_7_2, f_7_3, (by show 0 ≤ (i_7_2 : Int32).toInt ∧ (i_7_2 : Int32).toInt ≤ 128; first | decide | (constructor <;> (omega))), by rw [ht]; exact hP9, va_K.moved hW.alike hK9, hD9⟩, hS.F ht⟩) hS.2.2 dX10_readChain_95
      · have t_122 : r_121.toInt ≠ 0 := kk_ne c_122
        refine lv_aload_n hx hb dX10_readChain_43 rfl (lv_at hl 1 rfl) ?_
        have hPc := hP.sub (ws' := [(h0, Sum.inr (10, [Value.ref h1, Value.int n0_size, Value.int i_7_1, Value.ref h2])), (h1, Sum.inl (cint, 120, Sum.inl f1))]) [2, 3] rfl
        have hDc := hD.sub (ws' := [(h0, Sum.inr (10, [Value.ref h1, Value.int n0_size, Value.int i_7_1, Value.ref h2])), (h1, Sum.inl (cint, 120, Sum.inl f1))]) [2, 3] (by decide) rfl
        have hKc := hK.sub (tys' := [(cint, .int)]) [0] rfl
        have hFc := va_free (wc := [(h0, Sum.inr (10, [Value.ref h1, Value.int n0_size, Value.int i_7_1, Value.ref h2])), (h1, Sum.inl (cint, 120, Sum.inl f1))]) hD hS hA [2, 3] rfl
        refine va_calli (va_runV (As := []) (rest := []) ⟨hx, hb, hml, hown, hts⟩ (g_X10_next_0 l dC dI h0 h1 h2 cint H.size n0_size i_7_1 f1 tn0_size bf1) (cwV 0 hts gX10_readChain_X10_next rfl rfl rfl (by decide +kernel) ⟨Nat.le_of_ble_eq_true rfl, Nat.le_of_ble_eq_true rfl⟩) ⟨fun a U g mk q => by obtain ⟨q0, q1, qP, qK, qD⟩ := q; exact ⟨q0, q1, qP, va_K.moved (u := U) (U := U.calling g mk a) (Vm.Alike.refl U.vm) qK, qD⟩, va_recv hKc hPc (ci := 10) (q0 := 0) rfl rfl, fun U hU hW => ⟨rfl, by rw [hU], by rw [hU]; exact hPc, va_K.moved hW.alike hKc, hDc.weaken (fun _ _ _ _ => trivial)⟩⟩ rfl rfl hl.1 rfl (lv_room (Nat.le_of_ble_eq_true rfl)) dX10_readChain_44 ⟨Nat.le_of_ble_eq_true rfl, Nat.le_of_ble_eq_true rfl⟩) hS (fun q _ h => hFc q h) hFc (fun r_123 u t H1 locs ht hvm hw hB hz1 hk1 hS => ?_)
        obtain ⟨hP1, hK1, hD1⟩ := hB
        rw [ht] at hP1
        have hK1 := va_K.moved hvm.symm hK1
        obtain ⟨hP, hD⟩ := va_join (wr := [(h2, Sum.inr (4, [Value.ref h3, Value.int i_7_2, Value.ref h4, Value.ref h5, Value.int n2_top])), (h3, Sum.inl (cint, 128, Sum.inl f_7_3))]) (w1 := [(h0, Sum.inr (10, [Value.ref h1, Value.int n0_size, Value.int i_7_1, Value.ref h2])), (h1, Sum.inl (cint, 120, Sum.inl f1))]) hP hD [2, 3] [0, 1] rfl rfl (by decide) (by decide) hk1 hFc hP1 hD1
        generalize H1 = H at hP hS ⊢
        have hP : va_P (dC, dI) vwCl [(h2, Sum.inr (4, [Value.ref h3, Value.int i_7_2, Value.ref h4, Value.ref h5, Value.int n2_top])), (h3, Sum.inl (cint, 128, Sum.inl f_7_3)), (h0, Sum.inr (10, [Value.ref h1, Value.int n0_size, Value.int i_7_1, Value.ref h2])), (h1, Sum.inl (cint, 120, Sum.inl f1))] H := hP
        have hD : va_D A [(h2, Sum.inr (4, [Value.ref h3, Value.int i_7_2, Value.ref h4, Value.ref h5, Value.int n2_top])), (h3, Sum.inl (cint, 128, Sum.inl f_7_3)), (h0, Sum.inr (10, [Value.ref h1, Value.int n0_size, Value.int i_7_1, Value.ref h2])), (h1, Sum.inl (cint, 120, Sum.inl f1))] := hD
        have t_123 : (-1) ≤ r_123.toInt ∧ r_123.toInt ≤ 255 := hw
        refine lv_istore (lv' := [(4, .int r_123), (3, .int i_7_0), (0, .ref h0), (1, .int 4), (2, .int 1)]) hx hb dX10_readChain_47 hl (by decide) rfl (fun ls hl => ?_)
        refine lv_aload_n hx hb dX10_readChain_49 rfl (lv_at hl 2 rfl) ?_
        refine lv_dup hx hb dX10_readChain_50 rfl ?_
        refine va_get (D := (dC, dI)) (ci := 10) (v := .int i_7_1) (C := RX10) (T := TX10) (N := 4) hx hb hts (fun _ h => List.mem_cons_of_mem _ (List.mem_append_left _ (List.mem_append_right _ h))) hown hK hP 2 rfl rfl 2 (by decide) (hts (.fieldLink RX10 17 "KinkStreet$Tape" "place" "I") (List.mem_of_getElem? (i := 1) rfl)) (fun _ h9 => h9) rfl dX10_readChain_51 ?_
        refine lv_iconst (v := 1) hx hb dX10_readChain_54 (by decide) ?_
        refine lv_iadd hx hb dX10_readChain_55 ?_
        refine va_put (D := (dC, dI)) (ci := 10) (v := .int (i_7_1 + 1)) (ty := .int) (C := RX10) (T := TX10) (N := 4) hx hb hts (fun _ h => List.mem_cons_of_mem _ (List.mem_append_left _ (List.mem_append_right _ h))) tyX10 tyX10_ok nmX10 hown hK hP hD hS 2 rfl rfl 2 (by decide) (hts (.fieldLink RX10 17 "KinkStreet$Tape" "place" "I") (List.mem_of_getElem? (i := 1) rfl)) (fun _ h9 => h9) rfl (by decide +kernel) rfl rfl (Nat.le_of_ble_eq_true rfl) dX10_readChain_56 (fun H locs hP hD hS => ?_)
        have hP : va_P (dC, dI) vwCl [(h2, Sum.inr (4, [Value.ref h3, Value.int i_7_2, Value.ref h4, Value.ref h5, Value.int n2_top])), (h3, Sum.inl (cint, 128, Sum.inl f_7_3)), (h0, Sum.inr (10, [Value.ref h1, Value.int n0_size, Value.int (i_7_1 + 1), Value.ref h2])), (h1, Sum.inl (cint, 120, Sum.inl f1))] H := hP
        have hD : va_D A [(h2, Sum.inr (4, [Value.ref h3, Value.int i_7_2, Value.ref h4, Value.ref h5, Value.int n2_top])), (h3, Sum.inl (cint, 128, Sum.inl f_7_3)), (h0, Sum.inr (10, [Value.ref h1, Value.int n0_size, Value.int (i_7_1 + 1), Value.ref h2])), (h1, Sum.inl (cint, 120, Sum.inl f1))] := hD
        refine lv_aload_n hx hb dX10_readChain_59 rfl (lv_at hl 2 rfl) ?_
        refine lv_iload_n hx hb dX10_readChain_60 rfl (lv_at hl 3 rfl) ?_
        refine lv_iconst (v := 1) hx hb dX10_readChain_61 (by decide) ?_
        refine lv_iadd hx hb dX10_readChain_62 ?_
        refine lv_topi (fun y_124 e_124 => ?_)
        obtain rfl : y_124 = 5 := e_124.trans (by decide)
        refine lv_iload_n hx hb dX10_readChain_63 rfl (lv_at hl 4 rfl) ?_
        have hPc := hP.sub (ws' := [(h0, Sum.inr (10, [Value.ref h1, Value.int n0_size, Value.int (i_7_1 + 1), Value.ref h2])), (h1, Sum.inl (cint, 120, Sum.inl f1)), (h2, Sum.inr (4, [Value.ref h3, Value.int i_7_2, Value.ref h4, Value.ref h5, Value.int n2_top])), (h3, Sum.inl (cint, 128, Sum.inl f_7_3))]) [2, 3, 0, 1] rfl
        have hDc := hD.sub (ws' := [(h0, Sum.inr (10, [Value.ref h1, Value.int n0_size, Value.int (i_7_1 + 1), Value.ref h2])), (h1, Sum.inl (cint, 120, Sum.inl f1)), (h2, Sum.inr (4, [Value.ref h3, Value.int i_7_2, Value.ref h4, Value.ref h5, Value.int n2_top])), (h3, Sum.inl (cint, 128, Sum.inl f_7_3))]) [2, 3, 0, 1] (by decide) rfl
        have hKc := hK.sub (tys' := [(cint, .int)]) [0] rfl
        have hFc := va_free (wc := [(h0, Sum.inr (10, [Value.ref h1, Value.int n0_size, Value.int (i_7_1 + 1), Value.ref h2])), (h1, Sum.inl (cint, 120, Sum.inl f1)), (h2, Sum.inr (4, [Value.ref h3, Value.int i_7_2, Value.ref h4, Value.ref h5, Value.int n2_top])), (h3, Sum.inl (cint, 128, Sum.inl f_7_3))]) hD hS hA [2, 3, 0, 1] rfl
        refine va_calli (va_runV (As := [.int 5, .int 1]) (rest := []) ⟨hx, hb, hml, hown, hts⟩ (g_X10_readChain_30 l dC dI h0 h1 h2 h3 h4 h5 cint H.size n0_size (i_7_1 + 1) f1 i_7_2 n2_top f_7_3 tn0_size bf1 (by show 0 ≤ (i_7_2 : Int32).toInt ∧ (i_7_2 : Int32).toInt ≤ 128; first | decide | (constructor <;> (omega))) tn2_top aNAMES) (cwV 2 hts gX10_readChain_X10_readChain rfl rfl rfl (by decide +kernel) ⟨Nat.le_of_ble_eq_true rfl, Nat.le_of_ble_eq_true rfl⟩) ⟨fun a U g mk q => by obtain ⟨q0, q1, qP, qK, qD, qx0, qx1⟩ := q; exact ⟨q0, q1, qP, va_K.moved (u := U) (U := U.calling g mk a) (Vm.Alike.refl U.vm) qK, qD, va_Z.moved (u := U) (U := U.calling g mk a) (Vm.Alike.refl U.vm) qx0, va_T.moved (u := U) (U := U.calling g mk a) (Vm.Alike.refl U.vm) qx1⟩, va_recv hKc hPc (ci := 10) (q0 := 0) rfl rfl, fun U hU hW => ⟨rfl, by rw [hU], by rw [hU]; exact hPc, va_K.moved hW.alike hKc, hDc.weaken (fun _ _ _ _ => trivial), by rw [hU]; exact ((hZNAMES.kept (fun a h1 h2 => hS.2.1 a h1 h2)).narrow hFc).moved hW.alike, by rw [hU]; exact ((hTNAMES.kept (fun a h1 h2 => hS.2.1 a h1 h2)).narrow hFc).moved hW.alike⟩⟩ rfl rfl hl.1 rfl (lv_room (Nat.le_of_ble_eq_true rfl)) dX10_readChain_64 ⟨Nat.le_of_ble_eq_true rfl, Nat.le_of_ble_eq_true rfl⟩) hS (fun q _ h => hFc q h) hFc (fun r_125 u t H1 locs ht hvm hw hB hz1 hk1 hS => ?_)
        obtain ⟨y_126, y_127, f_128, by_127, hP1, hK1, hD1⟩ := hB
        rw [ht] at hP1
        have hK1 := va_K.moved hvm.symm hK1
        obtain ⟨hP, hD⟩ := va_join (wr := []) (w1 := [(h0, Sum.inr (10, [Value.ref h1, Value.int n0_size, Value.int y_126, Value.ref h2])), (h1, Sum.inl (cint, 120, Sum.inl f1)), (h2, Sum.inr (4, [Value.ref h3, Value.int y_127, Value.ref h4, Value.ref h5, Value.int n2_top])), (h3, Sum.inl (cint, 128, Sum.inl f_128))]) hP hD [2, 3, 0, 1] [] rfl rfl (by decide) (by decide) hk1 hFc hP1 hD1
        generalize H1 = H at hP hS ⊢
        have hP : va_P (dC, dI) vwCl [(h0, Sum.inr (10, [Value.ref h1, Value.int n0_size, Value.int y_126, Value.ref h2])), (h1, Sum.inl (cint, 120, Sum.inl f1)), (h2, Sum.inr (4, [Value.ref h3, Value.int y_127, Value.ref h4, Value.ref h5, Value.int n2_top])), (h3, Sum.inl (cint, 128, Sum.inl f_128))] H := hP
        have hD : va_D A [(h0, Sum.inr (10, [Value.ref h1, Value.int n0_size, Value.int y_126, Value.ref h2])), (h1, Sum.inl (cint, 120, Sum.inl f1)), (h2, Sum.inr (4, [Value.ref h3, Value.int y_127, Value.ref h4, Value.ref h5, Value.int n2_top])), (h3, Sum.inl (cint, 128, Sum.inl f_128))] := hD
        have t_125 : 0 ≤ r_125.toInt ∧ r_125.toInt ≤ 1 := hw
        refine lv_if_ne (tgt := 72) hx hb dX10_readChain_67 (by decide) (fun c_129 => ?_) (fun c_129 => ?_)
        · have t_129 : r_125.toInt ≠ 0 := kk_ne c_129
          refine lv_aload_n hx hb dX10_readChain_72 rfl (lv_at hl 2 rfl) ?_
          refine va_get (D := (dC, dI)) (ci := 10) (v := .ref h2) (C := RX10) (T := TX10) (N := 4) hx hb hts (fun _ h => List.mem_cons_of_mem _ (List.mem_append_left _ (List.mem_append_right _ h))) hown hK hP 0 rfl rfl 3 (by decide) (hts (.fieldLink RX10 20 "KinkStreet$Tape" "law" "LKinkStreet$Law;") (List.mem_of_getElem? (i := 2) rfl)) (fun _ h9 => h9) rfl dX10_readChain_73 ?_
          refine lv_iload hx hb dX10_readChain_76 (lv_at hl 0 rfl) ?_
          have hPc := hP.sub (ws' := [(h2, Sum.inr (4, [Value.ref h3, Value.int y_127, Value.ref h4, Value.ref h5, Value.int n2_top])), (h3, Sum.inl (cint, 128, Sum.inl f_128))]) [2, 3] rfl
          have hDc := hD.sub (ws' := [(h2, Sum.inr (4, [Value.ref h3, Value.int y_127, Value.ref h4, Value.ref h5, Value.int n2_top])), (h3, Sum.inl (cint, 128, Sum.inl f_128))]) [2, 3] (by decide) rfl
          have hKc := hK.sub (tys' := [(cint, .int)]) [0] rfl
          have hFc := va_free (wc := [(h2, Sum.inr (4, [Value.ref h3, Value.int y_127, Value.ref h4, Value.ref h5, Value.int n2_top])), (h3, Sum.inl (cint, 128, Sum.inl f_128))]) hD hS hA [2, 3] rfl
          refine va_callv (va_runV (As := [.int r_123]) (rest := []) ⟨hx, hb, hml, hown, hts⟩ (g_X4_append_0 l dC dI h2 h3 h4 h5 cint H.size r_123 y_127 n2_top f_128 (by show 0 ≤ (y_127 : Int32).toInt ∧ (y_127 : Int32).toInt ≤ 128; first | decide | (constructor <;> (omega))) tn2_top) (cwV 1 hts gX10_readChain_X4_append rfl rfl rfl (by decide +kernel) ⟨Nat.le_of_ble_eq_true rfl, Nat.le_of_ble_eq_true rfl⟩) ⟨fun a U g mk q => by obtain ⟨q0, q1, qP, qK, qD⟩ := q; exact ⟨q0, q1, qP, va_K.moved (u := U) (U := U.calling g mk a) (Vm.Alike.refl U.vm) qK, qD⟩, va_recv hKc hPc (ci := 4) (q0 := 0) rfl rfl, fun U hU hW => ⟨rfl, by rw [hU], by rw [hU]; exact hPc, va_K.moved hW.alike hKc, hDc.weaken (fun _ _ _ _ => trivial)⟩⟩ rfl rfl hl.1 rfl (lv_room (Nat.le_of_ble_eq_true rfl)) dX10_readChain_78 ⟨Nat.le_of_ble_eq_true rfl, Nat.le_of_ble_eq_true rfl⟩) hS (fun q _ h => hFc q h) hFc (fun u t H1 locs ht hvm hw hB hz1 hk1 hS => ?_)
          obtain ⟨y_131, f_132, by_131, hP1, hK1, hD1⟩ := hB
          rw [ht] at hP1
          have hK1 := va_K.moved hvm.symm hK1
          obtain ⟨hP, hD⟩ := va_join (wr := [(h0, Sum.inr (10, [Value.ref h1, Value.int n0_size, Value.int y_126, Value.ref h2])), (h1, Sum.inl (cint, 120, Sum.inl f1))]) (w1 := [(h2, Sum.inr (4, [Value.ref h3, Value.int y_131, Value.ref h4, Value.ref h5, Value.int n2_top])), (h3, Sum.inl (cint, 128, Sum.inl f_132))]) hP hD [2, 3] [0, 1] rfl rfl (by decide) (by decide) hk1 hFc hP1 hD1
          generalize H1 = H at hP hS ⊢
          have hP : va_P (dC, dI) vwCl [(h0, Sum.inr (10, [Value.ref h1, Value.int n0_size, Value.int y_126, Value.ref h2])), (h1, Sum.inl (cint, 120, Sum.inl f1)), (h2, Sum.inr (4, [Value.ref h3, Value.int y_131, Value.ref h4, Value.ref h5, Value.int n2_top])), (h3, Sum.inl (cint, 128, Sum.inl f_132))] H := hP
          have hD : va_D A [(h0, Sum.inr (10, [Value.ref h1, Value.int n0_size, Value.int y_126, Value.ref h2])), (h1, Sum.inl (cint, 120, Sum.inl f1)), (h2, Sum.inr (4, [Value.ref h3, Value.int y_131, Value.ref h4, Value.ref h5, Value.int n2_top])), (h3, Sum.inl (cint, 128, Sum.inl f_132))] := hD
          refine lv_iload_n hx hb dX10_readChain_81 rfl (lv_at hl 3 rfl) ?_
          refine lv_iconst (v := 2) hx hb dX10_readChain_82 (by decide) ?_
          refine lv_icmp_ne (tgt := 88) hx hb dX10_readChain_83 (by decide) (fun _ => ?_) (fun c => absurd c (by decide))
          refine lv_iinc (v := (i_7_0 + 1)) (lv' := [(3, .int (i_7_0 + 1)), (4, .int r_123), (0, .ref h0), (1, .int 4), (2, .int 1)]) hx hb dX10_readChain_88 hl (k := 1) rfl (by first | rfl | decide) (by decide) rfl (fun ls hl => ?_)
          refine lv_goto (tgt := 26) hx hb dX10_readChain_91 (by decide) ?_
          exact ih_7 ((i_7_0 + 1), y_126, y_131, f_132) _ _ _ (by show ((120 : Int) - ((i_7_0 + 1)).toInt).toNat < ((120 : Int) - i_7_0.toInt).toNat; have := kk_add2 (x := i_7_0) (y := 1) (a := i_7_0.toInt) (b := 1) rfl rfl (by omega) (by omega); exact kk_mu (by omega) (by omega)) ⟨(by show 0 ≤ ((i_7_0 + 1) : Int32).toInt ∧ ((i_7_0 + 1) : Int32).toInt ≤ 120; first | decide | (constructor <;> (have := kk_add2 (x := i_7_0) (y := 1) (a := i_7_0.toInt) (b := 1) rfl rfl (by omega) (by omega); omega))), (by show 0 ≤ (y_131 : Int32).toInt ∧ (y_131 : Int32).toInt ≤ 128; first | decide | (constructor <;> (have := kk_add2 (x := i_7_0) (y := 1) (a := i_7_0.toInt) (b := 1) rfl rfl (by omega) (by omega); omega))), hP, hD, hS, lv_sub hl [0, 2, 3, 4] rfl⟩
        · have t_129 : r_125.toInt = 0 := kk_eq c_129
          refine lv_iconst (v := 0) hx hb dX10_readChain_70 (by decide) ?_
          have hP9 := hP.sub (ws' := [(h0, Sum.inr (10, [Value.ref h1, Value.int n0_size, Value.int y_126, Value.ref h2])), (h1, Sum.inl (cint, 120, Sum.inl f1)), (h2, Sum.inr (4, [Value.ref h3, Value.int y_127, Value.ref h4, Value.ref h5, Value.int n2_top])), (h3, Sum.inl (cint, 128, Sum.inl f_128))]) [0, 1, 2, 3] rfl
          have hD9 := hD.sub (ws' := [(h0, Sum.inr (10, [Value.ref h1, Value.int n0_size, Value.int y_126, Value.ref h2])), (h1, Sum.inl (cint, 120, Sum.inl f1)), (h2, Sum.inr (4, [Value.ref h3, Value.int y_127, Value.ref h4, Value.ref h5, Value.int n2_top])), (h3, Sum.inl (cint, 128, Sum.inl f_128))]) [0, 1, 2, 3] (by decide) rfl
          have hK9 := hK.sub (tys' := []) [] rfl
          exact W.zret (v := 0) hx hb hr rfl (fun t ht hW => ⟨⟨0, (), rfl, (by show 0 ≤ (0 : Int32).toInt ∧ (0 : Int32).toInt ≤ 1; first | decide | (constructor <;> (omega))), y_126, y_127, f_128, (by show 0 ≤ (y_127 : Int32).toInt ∧ (y_127 : Int32).toInt ≤ 128; first | decide | (constructor <;> (omega))), by rw [ht]; exact hP9, va_K.moved hW.alike hK9, hD9⟩, hS.F ht⟩) hS.2.2 dX10_readChain_71
  · have t_6 : r_2.toInt = 0 := kk_eq c_6
    refine lv_iconst (v := 0) hx hb dX10_readChain_22 (by decide) ?_
    have hP9 := hP.sub (ws' := [(h0, Sum.inr (10, [Value.ref h1, Value.int n0_size, Value.int y_3, Value.ref h2])), (h1, Sum.inl (cint, 120, Sum.inl f1)), (h2, Sum.inr (4, [Value.ref h3, Value.int y_4, Value.ref h4, Value.ref h5, Value.int n2_top])), (h3, Sum.inl (cint, 128, Sum.inl f_5))]) [0, 1, 2, 3] rfl
    have hD9 := hD.sub (ws' := [(h0, Sum.inr (10, [Value.ref h1, Value.int n0_size, Value.int y_3, Value.ref h2])), (h1, Sum.inl (cint, 120, Sum.inl f1)), (h2, Sum.inr (4, [Value.ref h3, Value.int y_4, Value.ref h4, Value.ref h5, Value.int n2_top])), (h3, Sum.inl (cint, 128, Sum.inl f_5))]) [0, 1, 2, 3] (by decide) rfl
    have hK9 := hK.sub (tys' := []) [] rfl
    exact W.zret (v := 0) hx hb hr rfl (fun t ht hW => ⟨⟨0, (), rfl, (by show 0 ≤ (0 : Int32).toInt ∧ (0 : Int32).toInt ≤ 1; first | decide | (constructor <;> (omega))), y_3, y_4, f_5, (by show 0 ≤ (y_4 : Int32).toInt ∧ (y_4 : Int32).toInt ≤ 128; first | decide | (constructor <;> (omega))), by rw [ht]; exact hP9, va_K.moved hW.alike hK9, hD9⟩, hS.F ht⟩) hS.2.2 dX10_readChain_23
set_option maxHeartbeats 4000000 in
set_option maxRecDepth 100000 in
theorem g_X10_readChain_32 (l : Launch) (dC : Nat → ClassId) (dI : Nat → Nat → Nat) (h0 : Nat) (h1 : Nat) (h2 : Nat) (h3 : Nat) (h4 : Nat) (h5 : Nat) (cint : ClassId) (sz : Nat) (n0_size : Int32) (n0_place : Int32) (f1 : Nat → Int32) (n2_size : Int32) (n2_top : Int32) (f3 : Nat → Int32) (tn0_size : 0 ≤ n0_size.toInt ∧ n0_size.toInt ≤ 120) (bf1 : ∀ j, j < 120 → 0 ≤ (f1 j).toInt ∧ (f1 j).toInt ≤ 255) (tn2_size : 0 ≤ n2_size.toInt ∧ n2_size.toInt ≤ 128) (tn2_top : 0 ≤ n2_top.toInt ∧ n2_top.toInt ≤ 64) (aNAMES : Nat) : Met l yX10_readChain wsX10_readChain ({ frames := 45, cells := 0, slots := 0, locals := 1054 }) (va_Pc [.ref h0, .int 3, .int 1] (fun U => U.heap.size = sz ∧ va_P (dC, dI) vwCl [(h0, Sum.inr (10, [Value.ref h1, Value.int n0_size, Value.int n0_place, Value.ref h2])), (h1, Sum.inl (cint, 120, Sum.inl f1)), (h2, Sum.inr (4, [Value.ref h3, Value.int n2_size, Value.ref h4, Value.ref h5, Value.int n2_top])), (h3, Sum.inl (cint, 128, Sum.inl f3))] U.heap ∧ va_K (dC, dI) vwCl [(cint, .int)] U ∧ va_D (fun _ => True) [(h0, Sum.inr (10, [Value.ref h1, Value.int n0_size, Value.int n0_place, Value.ref h2])), (h1, Sum.inl (cint, 120, Sum.inl f1)), (h2, Sum.inr (4, [Value.ref h3, Value.int n2_size, Value.ref h4, Value.ref h5, Value.int n2_top])), (h3, Sum.inl (cint, 128, Sum.inl f3))] ∧ va_Z "KinkStreet$Law" "NAMES" "[C" (.ref aNAMES) (va_A [(h0, Sum.inr (10, [Value.ref h1, Value.int n0_size, Value.int n0_place, Value.ref h2])), (h1, Sum.inl (cint, 120, Sum.inl f1)), (h2, Sum.inr (4, [Value.ref h3, Value.int n2_size, Value.ref h4, Value.ref h5, Value.int n2_top])), (h3, Sum.inl (cint, 128, Sum.inl f3))] sz) U U.heap ∧ va_T .char aNAMES 8 tb_NAMES (va_A [(h0, Sum.inr (10, [Value.ref h1, Value.int n0_size, Value.int n0_place, Value.ref h2])), (h1, Sum.inl (cint, 120, Sum.inl f1)), (h2, Sum.inr (4, [Value.ref h3, Value.int n2_size, Value.ref h4, Value.ref h5, Value.int n2_top])), (h3, Sum.inl (cint, 128, Sum.inl f3))] sz) U U.heap)) (va_Qi (fun (r : Int32) (_ : Unit) => (0 ≤ r.toInt ∧ r.toInt ≤ 1)) (fun (_ : Unit) t => ∃ (m0_place : Int32) (m2_size : Int32) (g3 : Nat → Int32), (0 ≤ m2_size.toInt ∧ m2_size.toInt ≤ 128) ∧ va_P (dC, dI) vwCl [(h0, Sum.inr (10, [Value.ref h1, Value.int n0_size, Value.int m0_place, Value.ref h2])), (h1, Sum.inl (cint, 120, Sum.inl f1)), (h2, Sum.inr (4, [Value.ref h3, Value.int m2_size, Value.ref h4, Value.ref h5, Value.int n2_top])), (h3, Sum.inl (cint, 128, Sum.inl g3))] t.heap ∧ va_K (dC, dI) vwCl [] t ∧ va_D (va_A [(h0, Sum.inr (10, [Value.ref h1, Value.int n0_size, Value.int n0_place, Value.ref h2])), (h1, Sum.inl (cint, 120, Sum.inl f1)), (h2, Sum.inr (4, [Value.ref h3, Value.int n2_size, Value.ref h4, Value.ref h5, Value.int n2_top])), (h3, Sum.inl (cint, 128, Sum.inl f3))] sz) [(h0, Sum.inr (10, [Value.ref h1, Value.int n0_size, Value.int m0_place, Value.ref h2])), (h1, Sum.inl (cint, 120, Sum.inl f1)), (h2, Sum.inr (4, [Value.ref h3, Value.int m2_size, Value.ref h4, Value.ref h5, Value.int n2_top])), (h3, Sum.inl (cint, 128, Sum.inl g3))]) (va_A [(h0, Sum.inr (10, [Value.ref h1, Value.int n0_size, Value.int n0_place, Value.ref h2])), (h1, Sum.inl (cint, 120, Sum.inl f1)), (h2, Sum.inr (4, [Value.ref h3, Value.int n2_size, Value.ref h4, Value.ref h5, Value.int n2_top])), (h3, Sum.inl (cint, 128, Sum.inl f3))] sz)) 0 0 (va_A [(h0, Sum.inr (10, [Value.ref h1, Value.int n0_size, Value.int n0_place, Value.ref h2])), (h1, Sum.inl (cint, 120, Sum.inl f1)), (h2, Sum.inr (4, [Value.ref h3, Value.int n2_size, Value.ref h4, Value.ref h5, Value.int n2_top])), (h3, Sum.inl (cint, 128, Sum.inl f3))] sz) := by
  refine Met.ofW (cc := cX10_readChain) (maxL := 5) (ret := (some .boolean)) (by decide) rfl ?_
  intro p e s m args below meth c s₁ B hml hv
  obtain ⟨rfl, hsz, hP, hK, hD0, hZNAMES, hTNAMES⟩ := hv
  have hx := B.exec
  have hb := B.bytes
  have hr := B.returns
  have hts := atoms_spec (ws := wsX10_readChain) B.pre
  have hown : s.vm.findClass RX10 = some m.cls := findClass_of_methodNamed B.named
  have hlocks := B.notSynchronized
  subst hsz
  have hD := hD0.self (sz := s.heap.size)
  generalize hAe : va_A [(h0, Sum.inr (10, [Value.ref h1, Value.int n0_size, Value.int n0_place, Value.ref h2])), (h1, Sum.inl (cint, 120, Sum.inl f1)), (h2, Sum.inr (4, [Value.ref h3, Value.int n2_size, Value.ref h4, Value.ref h5, Value.int n2_top])), (h3, Sum.inl (cint, 128, Sum.inl f3))] s.heap.size = A at hD hZNAMES hTNAMES ⊢
  have hA : ∀ q : Nat, s.heap.size ≤ q → A q := fun q h => by rw [← hAe]; exact Or.inr h
  have hS : va_S A s.heap s.heap [] := va_S.rf
  have hP : va_P (dC, dI) vwCl [(h0, Sum.inr (10, [Value.ref h1, Value.int n0_size, Value.int n0_place, Value.ref h2])), (h1, Sum.inl (cint, 120, Sum.inl f1)), (h2, Sum.inr (4, [Value.ref h3, Value.int n2_size, Value.ref h4, Value.ref h5, Value.int n2_top])), (h3, Sum.inl (cint, 128, Sum.inl f3))] s.heap := hP
  have hl := lv_entry ([.ref h0, .int 3, .int 1]) (n := 5) (Nat.le_of_ble_eq_true rfl)
  rw [lg_entry_eq]
  generalize (lg_sl ([.ref h0, .int 3, .int 1]) ++ List.replicate (5 - (lg_sl ([.ref h0, .int 3, .int 1])).length) Slot.unset).toArray = ls at hl ⊢
  have hl : lv_has ls 5 [(0, .ref h0), (1, .int 3), (2, .int 1)] := hl
  refine lv_iload_n hx hb dX10_readChain_0 rfl (lv_at hl 1 rfl) ?_
  refine lv_iconst (v := 5) hx hb dX10_readChain_1 (by decide) ?_
  refine lv_icmp_lt (tgt := 11) hx hb dX10_readChain_2 (by decide) (fun _ => ?_) (fun c => absurd c (by decide))
  refine lv_aload_n hx hb dX10_readChain_11 rfl (lv_at hl 0 rfl) ?_
  refine lv_iload_n hx hb dX10_readChain_12 rfl (lv_at hl 1 rfl) ?_
  refine lv_iconst (v := 1) hx hb dX10_readChain_13 (by decide) ?_
  refine lv_iadd hx hb dX10_readChain_14 ?_
  refine lv_topi (fun y_1 e_1 => ?_)
  obtain rfl : y_1 = 4 := e_1.trans (by decide)
  refine lv_iload_n hx hb dX10_readChain_15 rfl (lv_at hl 2 rfl) ?_
  have hPc := hP.sub (ws' := [(h0, Sum.inr (10, [Value.ref h1, Value.int n0_size, Value.int n0_place, Value.ref h2])), (h1, Sum.inl (cint, 120, Sum.inl f1)), (h2, Sum.inr (4, [Value.ref h3, Value.int n2_size, Value.ref h4, Value.ref h5, Value.int n2_top])), (h3, Sum.inl (cint, 128, Sum.inl f3))]) [0, 1, 2, 3] rfl
  have hDc := hD.sub (ws' := [(h0, Sum.inr (10, [Value.ref h1, Value.int n0_size, Value.int n0_place, Value.ref h2])), (h1, Sum.inl (cint, 120, Sum.inl f1)), (h2, Sum.inr (4, [Value.ref h3, Value.int n2_size, Value.ref h4, Value.ref h5, Value.int n2_top])), (h3, Sum.inl (cint, 128, Sum.inl f3))]) [0, 1, 2, 3] (by decide) rfl
  have hKc := hK.sub (tys' := [(cint, .int)]) [0] rfl
  have hFc := va_free (wc := [(h0, Sum.inr (10, [Value.ref h1, Value.int n0_size, Value.int n0_place, Value.ref h2])), (h1, Sum.inl (cint, 120, Sum.inl f1)), (h2, Sum.inr (4, [Value.ref h3, Value.int n2_size, Value.ref h4, Value.ref h5, Value.int n2_top])), (h3, Sum.inl (cint, 128, Sum.inl f3))]) hD hS hA [0, 1, 2, 3] rfl
  refine va_calli (va_runV (As := [.int 4, .int 1]) (rest := []) ⟨hx, hb, hml, hown, hts⟩ (g_X10_readChain_31 l dC dI h0 h1 h2 h3 h4 h5 cint s.heap.size n0_size n0_place f1 n2_size n2_top f3 tn0_size bf1 tn2_size tn2_top aNAMES) (cwV 2 hts gX10_readChain_X10_readChain rfl rfl rfl (by decide +kernel) ⟨Nat.le_of_ble_eq_true rfl, Nat.le_of_ble_eq_true rfl⟩) ⟨fun a U g mk q => by obtain ⟨q0, q1, qP, qK, qD, qx0, qx1⟩ := q; exact ⟨q0, q1, qP, va_K.moved (u := U) (U := U.calling g mk a) (Vm.Alike.refl U.vm) qK, qD, va_Z.moved (u := U) (U := U.calling g mk a) (Vm.Alike.refl U.vm) qx0, va_T.moved (u := U) (U := U.calling g mk a) (Vm.Alike.refl U.vm) qx1⟩, va_recv hKc hPc (ci := 10) (q0 := 0) rfl rfl, fun U hU hW => ⟨rfl, by rw [hU], by rw [hU]; exact hPc, va_K.moved hW.alike hKc, hDc.weaken (fun _ _ _ _ => trivial), by rw [hU]; exact ((hZNAMES.kept (fun a h1 h2 => hS.2.1 a h1 h2)).narrow hFc).moved hW.alike, by rw [hU]; exact ((hTNAMES.kept (fun a h1 h2 => hS.2.1 a h1 h2)).narrow hFc).moved hW.alike⟩⟩ rfl rfl hl.1 rfl (lv_room (Nat.le_of_ble_eq_true rfl)) dX10_readChain_16 ⟨Nat.le_of_ble_eq_true rfl, Nat.le_of_ble_eq_true rfl⟩) hS (fun q _ h => hFc q h) hFc (fun r_2 u t H1 locs ht hvm hw hB hz1 hk1 hS => ?_)
  obtain ⟨y_3, y_4, f_5, by_4, hP1, hK1, hD1⟩ := hB
  rw [ht] at hP1
  have hK1 := va_K.moved hvm.symm hK1
  obtain ⟨hP, hD⟩ := va_join (wr := []) (w1 := [(h0, Sum.inr (10, [Value.ref h1, Value.int n0_size, Value.int y_3, Value.ref h2])), (h1, Sum.inl (cint, 120, Sum.inl f1)), (h2, Sum.inr (4, [Value.ref h3, Value.int y_4, Value.ref h4, Value.ref h5, Value.int n2_top])), (h3, Sum.inl (cint, 128, Sum.inl f_5))]) hP hD [0, 1, 2, 3] [] rfl rfl (by decide) (by decide) hk1 hFc hP1 hD1
  generalize H1 = H at hP hS ⊢
  have hP : va_P (dC, dI) vwCl [(h0, Sum.inr (10, [Value.ref h1, Value.int n0_size, Value.int y_3, Value.ref h2])), (h1, Sum.inl (cint, 120, Sum.inl f1)), (h2, Sum.inr (4, [Value.ref h3, Value.int y_4, Value.ref h4, Value.ref h5, Value.int n2_top])), (h3, Sum.inl (cint, 128, Sum.inl f_5))] H := hP
  have hD : va_D A [(h0, Sum.inr (10, [Value.ref h1, Value.int n0_size, Value.int y_3, Value.ref h2])), (h1, Sum.inl (cint, 120, Sum.inl f1)), (h2, Sum.inr (4, [Value.ref h3, Value.int y_4, Value.ref h4, Value.ref h5, Value.int n2_top])), (h3, Sum.inl (cint, 128, Sum.inl f_5))] := hD
  have t_2 : 0 ≤ r_2.toInt ∧ r_2.toInt ≤ 1 := hw
  refine lv_if_ne (tgt := 24) hx hb dX10_readChain_19 (by decide) (fun c_6 => ?_) (fun c_6 => ?_)
  · have t_6 : r_2.toInt ≠ 0 := kk_ne c_6
    refine lv_iconst (v := 0) hx hb dX10_readChain_24 (by decide) ?_
    refine lv_istore_n (lv' := [(3, .int 0), (0, .ref h0), (1, .int 3), (2, .int 1)]) hx hb dX10_readChain_25 rfl hl (by decide) rfl (fun ls hl => ?_)
    refine kk_loop (σ := Int32 × Int32 × Int32 × (Nat → Int32)) (fun x H locs ls => (0 ≤ x.1.toInt ∧ x.1.toInt ≤ 120) ∧ (0 ≤ x.2.2.1.toInt ∧ x.2.2.1.toInt ≤ 128) ∧ va_P (dC, dI) vwCl [(h0, Sum.inr (10, [Value.ref h1, Value.int n0_size, Value.int x.2.1, Value.ref h2])), (h1, Sum.inl (cint, 120, Sum.inl f1)), (h2, Sum.inr (4, [Value.ref h3, Value.int x.2.2.1, Value.ref h4, Value.ref h5, Value.int n2_top])), (h3, Sum.inl (cint, 128, Sum.inl x.2.2.2))] H ∧ va_D A [(h0, Sum.inr (10, [Value.ref h1, Value.int n0_size, Value.int x.2.1, Value.ref h2])), (h1, Sum.inl (cint, 120, Sum.inl f1)), (h2, Sum.inr (4, [Value.ref h3, Value.int x.2.2.1, Value.ref h4, Value.ref h5, Value.int n2_top])), (h3, Sum.inl (cint, 128, Sum.inl x.2.2.2))] ∧ va_S A s.heap H locs ∧ lv_has ls 5 [(3, .int x.1), (0, .ref h0), (1, .int 3), (2, .int 1)]) (fun x => ((120 : Int) - x.1.toInt).toNat) ?_ (0, y_3, y_4, f_5) _ _ _ ⟨(by show 0 ≤ (0 : Int32).toInt ∧ (0 : Int32).toInt ≤ 120; first | decide | (constructor <;> (omega))), (by show 0 ≤ (y_4 : Int32).toInt ∧ (y_4 : Int32).toInt ≤ 128; first | decide | (constructor <;> (omega))), hP, hD, hS, hl⟩
    rintro ⟨i_7_0, i_7_1, i_7_2, f_7_3⟩ H locs ls ⟨t_7_0, t_7_2, hP, hD, hS, hl⟩ ih_7
    have t_7_0 : (0 ≤ i_7_0.toInt ∧ i_7_0.toInt ≤ 120) := t_7_0
    have t_7_2 : (0 ≤ i_7_2.toInt ∧ i_7_2.toInt ≤ 128) := t_7_2
    have hl : lv_has ls 5 [(3, .int i_7_0), (0, .ref h0), (1, .int 3), (2, .int 1)] := hl
    have hP : va_P (dC, dI) vwCl [(h0, Sum.inr (10, [Value.ref h1, Value.int n0_size, Value.int i_7_1, Value.ref h2])), (h1, Sum.inl (cint, 120, Sum.inl f1)), (h2, Sum.inr (4, [Value.ref h3, Value.int i_7_2, Value.ref h4, Value.ref h5, Value.int n2_top])), (h3, Sum.inl (cint, 128, Sum.inl f_7_3))] H := hP
    have hD : va_D A [(h0, Sum.inr (10, [Value.ref h1, Value.int n0_size, Value.int i_7_1, Value.ref h2])), (h1, Sum.inl (cint, 120, Sum.inl f1)), (h2, Sum.inr (4, [Value.ref h3, Value.int i_7_2, Value.ref h4, Value.ref h5, Value.int n2_top])), (h3, Sum.inl (cint, 128, Sum.inl f_7_3))] := hD
    refine lv_iload_n hx hb dX10_readChain_26 rfl (lv_at hl 0 rfl) ?_
    refine lv_bipush (v := 120) hx hb dX10_readChain_27 (by decide) ?_
    refine lv_icmp_ge (tgt := 94) hx hb dX10_readChain_29 (by decide) (fun c_119 => ?_) (fun c_119 => ?_)
    · have t_119 : 120 ≤ i_7_0.toInt := kk_le c_119
      refine lv_iconst (v := 1) hx hb dX10_readChain_94 (by decide) ?_
      have hP9 := hP.sub (ws' := [(h0, Sum.inr (10, [Value.ref h1, Value.int n0_size, Value.int i_7_1, Value.ref h2])), (h1, Sum.inl (cint, 120, Sum.inl f1)), (h2, Sum.inr (4, [Value.ref h3, Value.int i_7_2, Value.ref h4, Value.ref h5, Value.int n2_top])), (h3, Sum.inl (cint, 128, Sum.inl f_7_3))]) [0, 1, 2, 3] rfl
      have hD9 := hD.sub (ws' := [(h0, Sum.inr (10, [Value.ref h1, Value.int n0_size, Value.int i_7_1, Value.ref h2])), (h1, Sum.inl (cint, 120, Sum.inl f1)), (h2, Sum.inr (4, [Value.ref h3, Value.int i_7_2, Value.ref h4, Value.ref h5, Value.int n2_top])), (h3, Sum.inl (cint, 128, Sum.inl f_7_3))]) [0, 1, 2, 3] (by decide) rfl
      have hK9 := hK.sub (tys' := []) [] rfl
      exact W.zret (v := 1) hx hb hr rfl (fun t ht hW => ⟨⟨1, (), rfl, (by show 0 ≤ (1 : Int32).toInt ∧ (1 : Int32).toInt ≤ 1; first | decide | (constructor <;> (omega))), i_7_1, i_7_2, f_7_3, (by show 0 ≤ (i_7_2 : Int32).toInt ∧ (i_7_2 : Int32).toInt ≤ 128; first | decide | (constructor <;> (omega))), by rw [ht]; exact hP9, va_K.moved hW.alike hK9, hD9⟩, hS.F ht⟩) hS.2.2 dX10_readChain_95
    · have t_119 : i_7_0.toInt < 120 := kk_nle c_119
      refine lv_iload_n hx hb dX10_readChain_32 rfl (lv_at hl 2 rfl) ?_
      refine lv_aload_n hx hb dX10_readChain_33 rfl (lv_at hl 1 rfl) ?_
      have hPc := hP.sub (ws' := [(h0, Sum.inr (10, [Value.ref h1, Value.int n0_size, Value.int i_7_1, Value.ref h2])), (h1, Sum.inl (cint, 120, Sum.inl f1))]) [0, 1] rfl
      have hDc := hD.sub (ws' := [(h0, Sum.inr (10, [Value.ref h1, Value.int n0_size, Value.int i_7_1, Value.ref h2])), (h1, Sum.inl (cint, 120, Sum.inl f1))]) [0, 1] (by decide) rfl
      have hKc := hK.sub (tys' := [(cint, .int)]) [0] rfl
      have hFc := va_free (wc := [(h0, Sum.inr (10, [Value.ref h1, Value.int n0_size, Value.int i_7_1, Value.ref h2])), (h1, Sum.inl (cint, 120, Sum.inl f1))]) hD hS hA [0, 1] rfl
      refine va_calli (va_runV (As := []) (rest := [.int 3]) ⟨hx, hb, hml, hown, hts⟩ (g_X10_next_0 l dC dI h0 h1 h2 cint H.size n0_size i_7_1 f1 tn0_size bf1) (cwV 0 hts gX10_readChain_X10_next rfl rfl rfl (by decide +kernel) ⟨Nat.le_of_ble_eq_true rfl, Nat.le_of_ble_eq_true rfl⟩) ⟨fun a U g mk q => by obtain ⟨q0, q1, qP, qK, qD⟩ := q; exact ⟨q0, q1, qP, va_K.moved (u := U) (U := U.calling g mk a) (Vm.Alike.refl U.vm) qK, qD⟩, va_recv hKc hPc (ci := 10) (q0 := 0) rfl rfl, fun U hU hW => ⟨rfl, by rw [hU], by rw [hU]; exact hPc, va_K.moved hW.alike hKc, hDc.weaken (fun _ _ _ _ => trivial)⟩⟩ rfl rfl hl.1 rfl (lv_room (Nat.le_of_ble_eq_true rfl)) dX10_readChain_34 ⟨Nat.le_of_ble_eq_true rfl, Nat.le_of_ble_eq_true rfl⟩) hS (fun q _ h => hFc q h) hFc (fun r_120 u t H1 locs ht hvm hw hB hz1 hk1 hS => ?_)
      obtain ⟨hP1, hK1, hD1⟩ := hB
      rw [ht] at hP1
      have hK1 := va_K.moved hvm.symm hK1
      obtain ⟨hP, hD⟩ := va_join (wr := [(h2, Sum.inr (4, [Value.ref h3, Value.int i_7_2, Value.ref h4, Value.ref h5, Value.int n2_top])), (h3, Sum.inl (cint, 128, Sum.inl f_7_3))]) (w1 := [(h0, Sum.inr (10, [Value.ref h1, Value.int n0_size, Value.int i_7_1, Value.ref h2])), (h1, Sum.inl (cint, 120, Sum.inl f1))]) hP hD [0, 1] [2, 3] rfl rfl (by decide) (by decide) hk1 hFc hP1 hD1
      generalize H1 = H at hP hS ⊢
      have hP : va_P (dC, dI) vwCl [(h2, Sum.inr (4, [Value.ref h3, Value.int i_7_2, Value.ref h4, Value.ref h5, Value.int n2_top])), (h3, Sum.inl (cint, 128, Sum.inl f_7_3)), (h0, Sum.inr (10, [Value.ref h1, Value.int n0_size, Value.int i_7_1, Value.ref h2])), (h1, Sum.inl (cint, 120, Sum.inl f1))] H := hP
      have hD : va_D A [(h2, Sum.inr (4, [Value.ref h3, Value.int i_7_2, Value.ref h4, Value.ref h5, Value.int n2_top])), (h3, Sum.inl (cint, 128, Sum.inl f_7_3)), (h0, Sum.inr (10, [Value.ref h1, Value.int n0_size, Value.int i_7_1, Value.ref h2])), (h1, Sum.inl (cint, 120, Sum.inl f1))] := hD
      have t_120 : (-1) ≤ r_120.toInt ∧ r_120.toInt ≤ 255 := hw
      have hPc := hP.sub (ws' := []) [] rfl
      have hDc := hD.sub (ws' := []) [] (by decide) rfl
      have hKc := hK.sub (tys' := []) [] rfl
      have hFc := va_free (wc := []) hD hS hA [] rfl
      refine va_calli (va_runS (As := [.int 3, .int r_120]) (rest := []) ⟨hx, hb, hml, hown, hts⟩ (g_X10_joins_1 l dC dI H.size r_120) (va_cwS 2 hts gX10_readChain_X10_joins rfl rfl rfl (by decide +kernel) ⟨Nat.le_of_ble_eq_true rfl, Nat.le_of_ble_eq_true rfl⟩) ⟨fun a U g mk q => by obtain ⟨q0, q1, qP, qK, qD⟩ := q; exact ⟨q0, q1, qP, va_K.moved (u := U) (U := U.calling g mk a) (Vm.Alike.refl U.vm) qK, qD⟩, fun U hU hW => ⟨rfl, by rw [hU], by rw [hU]; exact hPc, va_K.moved hW.alike hKc, hDc.weaken (fun _ _ _ _ => trivial)⟩⟩ rfl rfl hl.1 rfl (lv_room (Nat.le_of_ble_eq_true rfl)) dX10_readChain_37 ⟨Nat.le_of_ble_eq_true rfl, Nat.le_of_ble_eq_true rfl⟩) hS (fun q _ h => hFc q h) hFc (fun r_121 u t H1 locs ht hvm hw hB hz1 hk1 hS => ?_)
      obtain ⟨hP1, hK1, hD1⟩ := hB
      rw [ht] at hP1
      have hK1 := va_K.moved hvm.symm hK1
      obtain ⟨hP, hD⟩ := va_join (wr := [(h2, Sum.inr (4, [Value.ref h3, Value.int i_7_2, Value.ref h4, Value.ref h5, Value.int n2_top])), (h3, Sum.inl (cint, 128, Sum.inl f_7_3)), (h0, Sum.inr (10, [Value.ref h1, Value.int n0_size, Value.int i_7_1, Value.ref h2])), (h1, Sum.inl (cint, 120, Sum.inl f1))]) (w1 := []) hP hD [] [0, 1, 2, 3] rfl rfl (by decide) (by decide) hk1 hFc hP1 hD1
      generalize H1 = H at hP hS ⊢
      have hP : va_P (dC, dI) vwCl [(h2, Sum.inr (4, [Value.ref h3, Value.int i_7_2, Value.ref h4, Value.ref h5, Value.int n2_top])), (h3, Sum.inl (cint, 128, Sum.inl f_7_3)), (h0, Sum.inr (10, [Value.ref h1, Value.int n0_size, Value.int i_7_1, Value.ref h2])), (h1, Sum.inl (cint, 120, Sum.inl f1))] H := hP
      have hD : va_D A [(h2, Sum.inr (4, [Value.ref h3, Value.int i_7_2, Value.ref h4, Value.ref h5, Value.int n2_top])), (h3, Sum.inl (cint, 128, Sum.inl f_7_3)), (h0, Sum.inr (10, [Value.ref h1, Value.int n0_size, Value.int i_7_1, Value.ref h2])), (h1, Sum.inl (cint, 120, Sum.inl f1))] := hD
      have t_121 : 0 ≤ r_121.toInt ∧ r_121.toInt ≤ 1 := hw
      refine lv_if_eq (tgt := 94) hx hb dX10_readChain_40 (by decide) (fun c_122 => ?_) (fun c_122 => ?_)
      · have t_122 : r_121.toInt = 0 := kk_eq c_122
        refine lv_iconst (v := 1) hx hb dX10_readChain_94 (by decide) ?_
        have hP9 := hP.sub (ws' := [(h0, Sum.inr (10, [Value.ref h1, Value.int n0_size, Value.int i_7_1, Value.ref h2])), (h1, Sum.inl (cint, 120, Sum.inl f1)), (h2, Sum.inr (4, [Value.ref h3, Value.int i_7_2, Value.ref h4, Value.ref h5, Value.int n2_top])), (h3, Sum.inl (cint, 128, Sum.inl f_7_3))]) [2, 3, 0, 1] rfl
        have hD9 := hD.sub (ws' := [(h0, Sum.inr (10, [Value.ref h1, Value.int n0_size, Value.int i_7_1, Value.ref h2])), (h1, Sum.inl (cint, 120, Sum.inl f1)), (h2, Sum.inr (4, [Value.ref h3, Value.int i_7_2, Value.ref h4, Value.ref h5, Value.int n2_top])), (h3, Sum.inl (cint, 128, Sum.inl f_7_3))]) [2, 3, 0, 1] (by decide) rfl
        have hK9 := hK.sub (tys' := []) [] rfl
        exact W.zret (v := 1) hx hb hr rfl (fun t ht hW => ⟨⟨1, (), rfl, (by show 0 ≤ (1 : Int32).toInt ∧ (1 : Int32).toInt ≤ 1; first | decide | (constructor <;> (omega))), i_7_1, i_7_2, f_7_3, (by show 0 ≤ (i_7_2 : Int32).toInt ∧ (i_7_2 : Int32).toInt ≤ 128; first | decide | (constructor <;> (omega))), by rw [ht]; exact hP9, va_K.moved hW.alike hK9, hD9⟩, hS.F ht⟩) hS.2.2 dX10_readChain_95
      · have t_122 : r_121.toInt ≠ 0 := kk_ne c_122
        refine lv_aload_n hx hb dX10_readChain_43 rfl (lv_at hl 1 rfl) ?_
        have hPc := hP.sub (ws' := [(h0, Sum.inr (10, [Value.ref h1, Value.int n0_size, Value.int i_7_1, Value.ref h2])), (h1, Sum.inl (cint, 120, Sum.inl f1))]) [2, 3] rfl
        have hDc := hD.sub (ws' := [(h0, Sum.inr (10, [Value.ref h1, Value.int n0_size, Value.int i_7_1, Value.ref h2])), (h1, Sum.inl (cint, 120, Sum.inl f1))]) [2, 3] (by decide) rfl
        have hKc := hK.sub (tys' := [(cint, .int)]) [0] rfl
        have hFc := va_free (wc := [(h0, Sum.inr (10, [Value.ref h1, Value.int n0_size, Value.int i_7_1, Value.ref h2])), (h1, Sum.inl (cint, 120, Sum.inl f1))]) hD hS hA [2, 3] rfl
        refine va_calli (va_runV (As := []) (rest := []) ⟨hx, hb, hml, hown, hts⟩ (g_X10_next_0 l dC dI h0 h1 h2 cint H.size n0_size i_7_1 f1 tn0_size bf1) (cwV 0 hts gX10_readChain_X10_next rfl rfl rfl (by decide +kernel) ⟨Nat.le_of_ble_eq_true rfl, Nat.le_of_ble_eq_true rfl⟩) ⟨fun a U g mk q => by obtain ⟨q0, q1, qP, qK, qD⟩ := q; exact ⟨q0, q1, qP, va_K.moved (u := U) (U := U.calling g mk a) (Vm.Alike.refl U.vm) qK, qD⟩, va_recv hKc hPc (ci := 10) (q0 := 0) rfl rfl, fun U hU hW => ⟨rfl, by rw [hU], by rw [hU]; exact hPc, va_K.moved hW.alike hKc, hDc.weaken (fun _ _ _ _ => trivial)⟩⟩ rfl rfl hl.1 rfl (lv_room (Nat.le_of_ble_eq_true rfl)) dX10_readChain_44 ⟨Nat.le_of_ble_eq_true rfl, Nat.le_of_ble_eq_true rfl⟩) hS (fun q _ h => hFc q h) hFc (fun r_123 u t H1 locs ht hvm hw hB hz1 hk1 hS => ?_)
        obtain ⟨hP1, hK1, hD1⟩ := hB
        rw [ht] at hP1
        have hK1 := va_K.moved hvm.symm hK1
        obtain ⟨hP, hD⟩ := va_join (wr := [(h2, Sum.inr (4, [Value.ref h3, Value.int i_7_2, Value.ref h4, Value.ref h5, Value.int n2_top])), (h3, Sum.inl (cint, 128, Sum.inl f_7_3))]) (w1 := [(h0, Sum.inr (10, [Value.ref h1, Value.int n0_size, Value.int i_7_1, Value.ref h2])), (h1, Sum.inl (cint, 120, Sum.inl f1))]) hP hD [2, 3] [0, 1] rfl rfl (by decide) (by decide) hk1 hFc hP1 hD1
        generalize H1 = H at hP hS ⊢
        have hP : va_P (dC, dI) vwCl [(h2, Sum.inr (4, [Value.ref h3, Value.int i_7_2, Value.ref h4, Value.ref h5, Value.int n2_top])), (h3, Sum.inl (cint, 128, Sum.inl f_7_3)), (h0, Sum.inr (10, [Value.ref h1, Value.int n0_size, Value.int i_7_1, Value.ref h2])), (h1, Sum.inl (cint, 120, Sum.inl f1))] H := hP
        have hD : va_D A [(h2, Sum.inr (4, [Value.ref h3, Value.int i_7_2, Value.ref h4, Value.ref h5, Value.int n2_top])), (h3, Sum.inl (cint, 128, Sum.inl f_7_3)), (h0, Sum.inr (10, [Value.ref h1, Value.int n0_size, Value.int i_7_1, Value.ref h2])), (h1, Sum.inl (cint, 120, Sum.inl f1))] := hD
        have t_123 : (-1) ≤ r_123.toInt ∧ r_123.toInt ≤ 255 := hw
        refine lv_istore (lv' := [(4, .int r_123), (3, .int i_7_0), (0, .ref h0), (1, .int 3), (2, .int 1)]) hx hb dX10_readChain_47 hl (by decide) rfl (fun ls hl => ?_)
        refine lv_aload_n hx hb dX10_readChain_49 rfl (lv_at hl 2 rfl) ?_
        refine lv_dup hx hb dX10_readChain_50 rfl ?_
        refine va_get (D := (dC, dI)) (ci := 10) (v := .int i_7_1) (C := RX10) (T := TX10) (N := 4) hx hb hts (fun _ h => List.mem_cons_of_mem _ (List.mem_append_left _ (List.mem_append_right _ h))) hown hK hP 2 rfl rfl 2 (by decide) (hts (.fieldLink RX10 17 "KinkStreet$Tape" "place" "I") (List.mem_of_getElem? (i := 1) rfl)) (fun _ h9 => h9) rfl dX10_readChain_51 ?_
        refine lv_iconst (v := 1) hx hb dX10_readChain_54 (by decide) ?_
        refine lv_iadd hx hb dX10_readChain_55 ?_
        refine va_put (D := (dC, dI)) (ci := 10) (v := .int (i_7_1 + 1)) (ty := .int) (C := RX10) (T := TX10) (N := 4) hx hb hts (fun _ h => List.mem_cons_of_mem _ (List.mem_append_left _ (List.mem_append_right _ h))) tyX10 tyX10_ok nmX10 hown hK hP hD hS 2 rfl rfl 2 (by decide) (hts (.fieldLink RX10 17 "KinkStreet$Tape" "place" "I") (List.mem_of_getElem? (i := 1) rfl)) (fun _ h9 => h9) rfl (by decide +kernel) rfl rfl (Nat.le_of_ble_eq_true rfl) dX10_readChain_56 (fun H locs hP hD hS => ?_)
        have hP : va_P (dC, dI) vwCl [(h2, Sum.inr (4, [Value.ref h3, Value.int i_7_2, Value.ref h4, Value.ref h5, Value.int n2_top])), (h3, Sum.inl (cint, 128, Sum.inl f_7_3)), (h0, Sum.inr (10, [Value.ref h1, Value.int n0_size, Value.int (i_7_1 + 1), Value.ref h2])), (h1, Sum.inl (cint, 120, Sum.inl f1))] H := hP
        have hD : va_D A [(h2, Sum.inr (4, [Value.ref h3, Value.int i_7_2, Value.ref h4, Value.ref h5, Value.int n2_top])), (h3, Sum.inl (cint, 128, Sum.inl f_7_3)), (h0, Sum.inr (10, [Value.ref h1, Value.int n0_size, Value.int (i_7_1 + 1), Value.ref h2])), (h1, Sum.inl (cint, 120, Sum.inl f1))] := hD
        refine lv_aload_n hx hb dX10_readChain_59 rfl (lv_at hl 2 rfl) ?_
        refine lv_iload_n hx hb dX10_readChain_60 rfl (lv_at hl 3 rfl) ?_
        refine lv_iconst (v := 1) hx hb dX10_readChain_61 (by decide) ?_
        refine lv_iadd hx hb dX10_readChain_62 ?_
        refine lv_topi (fun y_124 e_124 => ?_)
        obtain rfl : y_124 = 4 := e_124.trans (by decide)
        refine lv_iload_n hx hb dX10_readChain_63 rfl (lv_at hl 4 rfl) ?_
        have hPc := hP.sub (ws' := [(h0, Sum.inr (10, [Value.ref h1, Value.int n0_size, Value.int (i_7_1 + 1), Value.ref h2])), (h1, Sum.inl (cint, 120, Sum.inl f1)), (h2, Sum.inr (4, [Value.ref h3, Value.int i_7_2, Value.ref h4, Value.ref h5, Value.int n2_top])), (h3, Sum.inl (cint, 128, Sum.inl f_7_3))]) [2, 3, 0, 1] rfl
        have hDc := hD.sub (ws' := [(h0, Sum.inr (10, [Value.ref h1, Value.int n0_size, Value.int (i_7_1 + 1), Value.ref h2])), (h1, Sum.inl (cint, 120, Sum.inl f1)), (h2, Sum.inr (4, [Value.ref h3, Value.int i_7_2, Value.ref h4, Value.ref h5, Value.int n2_top])), (h3, Sum.inl (cint, 128, Sum.inl f_7_3))]) [2, 3, 0, 1] (by decide) rfl
        have hKc := hK.sub (tys' := [(cint, .int)]) [0] rfl
        have hFc := va_free (wc := [(h0, Sum.inr (10, [Value.ref h1, Value.int n0_size, Value.int (i_7_1 + 1), Value.ref h2])), (h1, Sum.inl (cint, 120, Sum.inl f1)), (h2, Sum.inr (4, [Value.ref h3, Value.int i_7_2, Value.ref h4, Value.ref h5, Value.int n2_top])), (h3, Sum.inl (cint, 128, Sum.inl f_7_3))]) hD hS hA [2, 3, 0, 1] rfl
        refine va_calli (va_runV (As := [.int 4, .int 1]) (rest := []) ⟨hx, hb, hml, hown, hts⟩ (g_X10_readChain_31 l dC dI h0 h1 h2 h3 h4 h5 cint H.size n0_size (i_7_1 + 1) f1 i_7_2 n2_top f_7_3 tn0_size bf1 (by show 0 ≤ (i_7_2 : Int32).toInt ∧ (i_7_2 : Int32).toInt ≤ 128; first | decide | (constructor <;> (omega))) tn2_top aNAMES) (cwV 2 hts gX10_readChain_X10_readChain rfl rfl rfl (by decide +kernel) ⟨Nat.le_of_ble_eq_true rfl, Nat.le_of_ble_eq_true rfl⟩) ⟨fun a U g mk q => by obtain ⟨q0, q1, qP, qK, qD, qx0, qx1⟩ := q; exact ⟨q0, q1, qP, va_K.moved (u := U) (U := U.calling g mk a) (Vm.Alike.refl U.vm) qK, qD, va_Z.moved (u := U) (U := U.calling g mk a) (Vm.Alike.refl U.vm) qx0, va_T.moved (u := U) (U := U.calling g mk a) (Vm.Alike.refl U.vm) qx1⟩, va_recv hKc hPc (ci := 10) (q0 := 0) rfl rfl, fun U hU hW => ⟨rfl, by rw [hU], by rw [hU]; exact hPc, va_K.moved hW.alike hKc, hDc.weaken (fun _ _ _ _ => trivial), by rw [hU]; exact ((hZNAMES.kept (fun a h1 h2 => hS.2.1 a h1 h2)).narrow hFc).moved hW.alike, by rw [hU]; exact ((hTNAMES.kept (fun a h1 h2 => hS.2.1 a h1 h2)).narrow hFc).moved hW.alike⟩⟩ rfl rfl hl.1 rfl (lv_room (Nat.le_of_ble_eq_true rfl)) dX10_readChain_64 ⟨Nat.le_of_ble_eq_true rfl, Nat.le_of_ble_eq_true rfl⟩) hS (fun q _ h => hFc q h) hFc (fun r_125 u t H1 locs ht hvm hw hB hz1 hk1 hS => ?_)
        obtain ⟨y_126, y_127, f_128, by_127, hP1, hK1, hD1⟩ := hB
        rw [ht] at hP1
        have hK1 := va_K.moved hvm.symm hK1
        obtain ⟨hP, hD⟩ := va_join (wr := []) (w1 := [(h0, Sum.inr (10, [Value.ref h1, Value.int n0_size, Value.int y_126, Value.ref h2])), (h1, Sum.inl (cint, 120, Sum.inl f1)), (h2, Sum.inr (4, [Value.ref h3, Value.int y_127, Value.ref h4, Value.ref h5, Value.int n2_top])), (h3, Sum.inl (cint, 128, Sum.inl f_128))]) hP hD [2, 3, 0, 1] [] rfl rfl (by decide) (by decide) hk1 hFc hP1 hD1
        generalize H1 = H at hP hS ⊢
        have hP : va_P (dC, dI) vwCl [(h0, Sum.inr (10, [Value.ref h1, Value.int n0_size, Value.int y_126, Value.ref h2])), (h1, Sum.inl (cint, 120, Sum.inl f1)), (h2, Sum.inr (4, [Value.ref h3, Value.int y_127, Value.ref h4, Value.ref h5, Value.int n2_top])), (h3, Sum.inl (cint, 128, Sum.inl f_128))] H := hP
        have hD : va_D A [(h0, Sum.inr (10, [Value.ref h1, Value.int n0_size, Value.int y_126, Value.ref h2])), (h1, Sum.inl (cint, 120, Sum.inl f1)), (h2, Sum.inr (4, [Value.ref h3, Value.int y_127, Value.ref h4, Value.ref h5, Value.int n2_top])), (h3, Sum.inl (cint, 128, Sum.inl f_128))] := hD
        have t_125 : 0 ≤ r_125.toInt ∧ r_125.toInt ≤ 1 := hw
        refine lv_if_ne (tgt := 72) hx hb dX10_readChain_67 (by decide) (fun c_129 => ?_) (fun c_129 => ?_)
        · have t_129 : r_125.toInt ≠ 0 := kk_ne c_129
          refine lv_aload_n hx hb dX10_readChain_72 rfl (lv_at hl 2 rfl) ?_
          refine va_get (D := (dC, dI)) (ci := 10) (v := .ref h2) (C := RX10) (T := TX10) (N := 4) hx hb hts (fun _ h => List.mem_cons_of_mem _ (List.mem_append_left _ (List.mem_append_right _ h))) hown hK hP 0 rfl rfl 3 (by decide) (hts (.fieldLink RX10 20 "KinkStreet$Tape" "law" "LKinkStreet$Law;") (List.mem_of_getElem? (i := 2) rfl)) (fun _ h9 => h9) rfl dX10_readChain_73 ?_
          refine lv_iload hx hb dX10_readChain_76 (lv_at hl 0 rfl) ?_
          have hPc := hP.sub (ws' := [(h2, Sum.inr (4, [Value.ref h3, Value.int y_127, Value.ref h4, Value.ref h5, Value.int n2_top])), (h3, Sum.inl (cint, 128, Sum.inl f_128))]) [2, 3] rfl
          have hDc := hD.sub (ws' := [(h2, Sum.inr (4, [Value.ref h3, Value.int y_127, Value.ref h4, Value.ref h5, Value.int n2_top])), (h3, Sum.inl (cint, 128, Sum.inl f_128))]) [2, 3] (by decide) rfl
          have hKc := hK.sub (tys' := [(cint, .int)]) [0] rfl
          have hFc := va_free (wc := [(h2, Sum.inr (4, [Value.ref h3, Value.int y_127, Value.ref h4, Value.ref h5, Value.int n2_top])), (h3, Sum.inl (cint, 128, Sum.inl f_128))]) hD hS hA [2, 3] rfl
          refine va_callv (va_runV (As := [.int r_123]) (rest := []) ⟨hx, hb, hml, hown, hts⟩ (g_X4_append_0 l dC dI h2 h3 h4 h5 cint H.size r_123 y_127 n2_top f_128 (by show 0 ≤ (y_127 : Int32).toInt ∧ (y_127 : Int32).toInt ≤ 128; first | decide | (constructor <;> (omega))) tn2_top) (cwV 1 hts gX10_readChain_X4_append rfl rfl rfl (by decide +kernel) ⟨Nat.le_of_ble_eq_true rfl, Nat.le_of_ble_eq_true rfl⟩) ⟨fun a U g mk q => by obtain ⟨q0, q1, qP, qK, qD⟩ := q; exact ⟨q0, q1, qP, va_K.moved (u := U) (U := U.calling g mk a) (Vm.Alike.refl U.vm) qK, qD⟩, va_recv hKc hPc (ci := 4) (q0 := 0) rfl rfl, fun U hU hW => ⟨rfl, by rw [hU], by rw [hU]; exact hPc, va_K.moved hW.alike hKc, hDc.weaken (fun _ _ _ _ => trivial)⟩⟩ rfl rfl hl.1 rfl (lv_room (Nat.le_of_ble_eq_true rfl)) dX10_readChain_78 ⟨Nat.le_of_ble_eq_true rfl, Nat.le_of_ble_eq_true rfl⟩) hS (fun q _ h => hFc q h) hFc (fun u t H1 locs ht hvm hw hB hz1 hk1 hS => ?_)
          obtain ⟨y_131, f_132, by_131, hP1, hK1, hD1⟩ := hB
          rw [ht] at hP1
          have hK1 := va_K.moved hvm.symm hK1
          obtain ⟨hP, hD⟩ := va_join (wr := [(h0, Sum.inr (10, [Value.ref h1, Value.int n0_size, Value.int y_126, Value.ref h2])), (h1, Sum.inl (cint, 120, Sum.inl f1))]) (w1 := [(h2, Sum.inr (4, [Value.ref h3, Value.int y_131, Value.ref h4, Value.ref h5, Value.int n2_top])), (h3, Sum.inl (cint, 128, Sum.inl f_132))]) hP hD [2, 3] [0, 1] rfl rfl (by decide) (by decide) hk1 hFc hP1 hD1
          generalize H1 = H at hP hS ⊢
          have hP : va_P (dC, dI) vwCl [(h0, Sum.inr (10, [Value.ref h1, Value.int n0_size, Value.int y_126, Value.ref h2])), (h1, Sum.inl (cint, 120, Sum.inl f1)), (h2, Sum.inr (4, [Value.ref h3, Value.int y_131, Value.ref h4, Value.ref h5, Value.int n2_top])), (h3, Sum.inl (cint, 128, Sum.inl f_132))] H := hP
          have hD : va_D A [(h0, Sum.inr (10, [Value.ref h1, Value.int n0_size, Value.int y_126, Value.ref h2])), (h1, Sum.inl (cint, 120, Sum.inl f1)), (h2, Sum.inr (4, [Value.ref h3, Value.int y_131, Value.ref h4, Value.ref h5, Value.int n2_top])), (h3, Sum.inl (cint, 128, Sum.inl f_132))] := hD
          refine lv_iload_n hx hb dX10_readChain_81 rfl (lv_at hl 3 rfl) ?_
          refine lv_iconst (v := 2) hx hb dX10_readChain_82 (by decide) ?_
          refine lv_icmp_ne (tgt := 88) hx hb dX10_readChain_83 (by decide) (fun _ => ?_) (fun c => absurd c (by decide))
          refine lv_iinc (v := (i_7_0 + 1)) (lv' := [(3, .int (i_7_0 + 1)), (4, .int r_123), (0, .ref h0), (1, .int 3), (2, .int 1)]) hx hb dX10_readChain_88 hl (k := 1) rfl (by first | rfl | decide) (by decide) rfl (fun ls hl => ?_)
          refine lv_goto (tgt := 26) hx hb dX10_readChain_91 (by decide) ?_
          exact ih_7 ((i_7_0 + 1), y_126, y_131, f_132) _ _ _ (by show ((120 : Int) - ((i_7_0 + 1)).toInt).toNat < ((120 : Int) - i_7_0.toInt).toNat; have := kk_add2 (x := i_7_0) (y := 1) (a := i_7_0.toInt) (b := 1) rfl rfl (by omega) (by omega); exact kk_mu (by omega) (by omega)) ⟨(by show 0 ≤ ((i_7_0 + 1) : Int32).toInt ∧ ((i_7_0 + 1) : Int32).toInt ≤ 120; first | decide | (constructor <;> (have := kk_add2 (x := i_7_0) (y := 1) (a := i_7_0.toInt) (b := 1) rfl rfl (by omega) (by omega); omega))), (by show 0 ≤ (y_131 : Int32).toInt ∧ (y_131 : Int32).toInt ≤ 128; first | decide | (constructor <;> (have := kk_add2 (x := i_7_0) (y := 1) (a := i_7_0.toInt) (b := 1) rfl rfl (by omega) (by omega); omega))), hP, hD, hS, lv_sub hl [0, 2, 3, 4] rfl⟩
        · have t_129 : r_125.toInt = 0 := kk_eq c_129
          refine lv_iconst (v := 0) hx hb dX10_readChain_70 (by decide) ?_
          have hP9 := hP.sub (ws' := [(h0, Sum.inr (10, [Value.ref h1, Value.int n0_size, Value.int y_126, Value.ref h2])), (h1, Sum.inl (cint, 120, Sum.inl f1)), (h2, Sum.inr (4, [Value.ref h3, Value.int y_127, Value.ref h4, Value.ref h5, Value.int n2_top])), (h3, Sum.inl (cint, 128, Sum.inl f_128))]) [0, 1, 2, 3] rfl
          have hD9 := hD.sub (ws' := [(h0, Sum.inr (10, [Value.ref h1, Value.int n0_size, Value.int y_126, Value.ref h2])), (h1, Sum.inl (cint, 120, Sum.inl f1)), (h2, Sum.inr (4, [Value.ref h3, Value.int y_127, Value.ref h4, Value.ref h5, Value.int n2_top])), (h3, Sum.inl (cint, 128, Sum.inl f_128))]) [0, 1, 2, 3] (by decide) rfl
          have hK9 := hK.sub (tys' := []) [] rfl
          exact W.zret (v := 0) hx hb hr rfl (fun t ht hW => ⟨⟨0, (), rfl, (by show 0 ≤ (0 : Int32).toInt ∧ (0 : Int32).toInt ≤ 1; first | decide | (constructor <;> (omega))), y_126, y_127, f_128, (by show 0 ≤ (y_127 : Int32).toInt ∧ (y_127 : Int32).toInt ≤ 128; first | decide | (constructor <;> (omega))), by rw [ht]; exact hP9, va_K.moved hW.alike hK9, hD9⟩, hS.F ht⟩) hS.2.2 dX10_readChain_71
  · have t_6 : r_2.toInt = 0 := kk_eq c_6
    refine lv_iconst (v := 0) hx hb dX10_readChain_22 (by decide) ?_
    have hP9 := hP.sub (ws' := [(h0, Sum.inr (10, [Value.ref h1, Value.int n0_size, Value.int y_3, Value.ref h2])), (h1, Sum.inl (cint, 120, Sum.inl f1)), (h2, Sum.inr (4, [Value.ref h3, Value.int y_4, Value.ref h4, Value.ref h5, Value.int n2_top])), (h3, Sum.inl (cint, 128, Sum.inl f_5))]) [0, 1, 2, 3] rfl
    have hD9 := hD.sub (ws' := [(h0, Sum.inr (10, [Value.ref h1, Value.int n0_size, Value.int y_3, Value.ref h2])), (h1, Sum.inl (cint, 120, Sum.inl f1)), (h2, Sum.inr (4, [Value.ref h3, Value.int y_4, Value.ref h4, Value.ref h5, Value.int n2_top])), (h3, Sum.inl (cint, 128, Sum.inl f_5))]) [0, 1, 2, 3] (by decide) rfl
    have hK9 := hK.sub (tys' := []) [] rfl
    exact W.zret (v := 0) hx hb hr rfl (fun t ht hW => ⟨⟨0, (), rfl, (by show 0 ≤ (0 : Int32).toInt ∧ (0 : Int32).toInt ≤ 1; first | decide | (constructor <;> (omega))), y_3, y_4, f_5, (by show 0 ≤ (y_4 : Int32).toInt ∧ (y_4 : Int32).toInt ≤ 128; first | decide | (constructor <;> (omega))), by rw [ht]; exact hP9, va_K.moved hW.alike hK9, hD9⟩, hS.F ht⟩) hS.2.2 dX10_readChain_23
set_option maxHeartbeats 4000000 in
set_option maxRecDepth 100000 in
theorem g_X10_readChain_33 (l : Launch) (dC : Nat → ClassId) (dI : Nat → Nat → Nat) (h0 : Nat) (h1 : Nat) (h2 : Nat) (h3 : Nat) (h4 : Nat) (h5 : Nat) (cint : ClassId) (sz : Nat) (n0_size : Int32) (n0_place : Int32) (f1 : Nat → Int32) (n2_size : Int32) (n2_top : Int32) (f3 : Nat → Int32) (tn0_size : 0 ≤ n0_size.toInt ∧ n0_size.toInt ≤ 120) (bf1 : ∀ j, j < 120 → 0 ≤ (f1 j).toInt ∧ (f1 j).toInt ≤ 255) (tn2_size : 0 ≤ n2_size.toInt ∧ n2_size.toInt ≤ 128) (tn2_top : 0 ≤ n2_top.toInt ∧ n2_top.toInt ≤ 64) (aNAMES : Nat) : Met l yX10_readChain wsX10_readChain ({ frames := 46, cells := 0, slots := 0, locals := 1078 }) (va_Pc [.ref h0, .int 2, .int 1] (fun U => U.heap.size = sz ∧ va_P (dC, dI) vwCl [(h0, Sum.inr (10, [Value.ref h1, Value.int n0_size, Value.int n0_place, Value.ref h2])), (h1, Sum.inl (cint, 120, Sum.inl f1)), (h2, Sum.inr (4, [Value.ref h3, Value.int n2_size, Value.ref h4, Value.ref h5, Value.int n2_top])), (h3, Sum.inl (cint, 128, Sum.inl f3))] U.heap ∧ va_K (dC, dI) vwCl [(cint, .int)] U ∧ va_D (fun _ => True) [(h0, Sum.inr (10, [Value.ref h1, Value.int n0_size, Value.int n0_place, Value.ref h2])), (h1, Sum.inl (cint, 120, Sum.inl f1)), (h2, Sum.inr (4, [Value.ref h3, Value.int n2_size, Value.ref h4, Value.ref h5, Value.int n2_top])), (h3, Sum.inl (cint, 128, Sum.inl f3))] ∧ va_Z "KinkStreet$Law" "NAMES" "[C" (.ref aNAMES) (va_A [(h0, Sum.inr (10, [Value.ref h1, Value.int n0_size, Value.int n0_place, Value.ref h2])), (h1, Sum.inl (cint, 120, Sum.inl f1)), (h2, Sum.inr (4, [Value.ref h3, Value.int n2_size, Value.ref h4, Value.ref h5, Value.int n2_top])), (h3, Sum.inl (cint, 128, Sum.inl f3))] sz) U U.heap ∧ va_T .char aNAMES 8 tb_NAMES (va_A [(h0, Sum.inr (10, [Value.ref h1, Value.int n0_size, Value.int n0_place, Value.ref h2])), (h1, Sum.inl (cint, 120, Sum.inl f1)), (h2, Sum.inr (4, [Value.ref h3, Value.int n2_size, Value.ref h4, Value.ref h5, Value.int n2_top])), (h3, Sum.inl (cint, 128, Sum.inl f3))] sz) U U.heap)) (va_Qi (fun (r : Int32) (_ : Unit) => (0 ≤ r.toInt ∧ r.toInt ≤ 1)) (fun (_ : Unit) t => ∃ (m0_place : Int32) (m2_size : Int32) (g3 : Nat → Int32), (0 ≤ m2_size.toInt ∧ m2_size.toInt ≤ 128) ∧ va_P (dC, dI) vwCl [(h0, Sum.inr (10, [Value.ref h1, Value.int n0_size, Value.int m0_place, Value.ref h2])), (h1, Sum.inl (cint, 120, Sum.inl f1)), (h2, Sum.inr (4, [Value.ref h3, Value.int m2_size, Value.ref h4, Value.ref h5, Value.int n2_top])), (h3, Sum.inl (cint, 128, Sum.inl g3))] t.heap ∧ va_K (dC, dI) vwCl [] t ∧ va_D (va_A [(h0, Sum.inr (10, [Value.ref h1, Value.int n0_size, Value.int n0_place, Value.ref h2])), (h1, Sum.inl (cint, 120, Sum.inl f1)), (h2, Sum.inr (4, [Value.ref h3, Value.int n2_size, Value.ref h4, Value.ref h5, Value.int n2_top])), (h3, Sum.inl (cint, 128, Sum.inl f3))] sz) [(h0, Sum.inr (10, [Value.ref h1, Value.int n0_size, Value.int m0_place, Value.ref h2])), (h1, Sum.inl (cint, 120, Sum.inl f1)), (h2, Sum.inr (4, [Value.ref h3, Value.int m2_size, Value.ref h4, Value.ref h5, Value.int n2_top])), (h3, Sum.inl (cint, 128, Sum.inl g3))]) (va_A [(h0, Sum.inr (10, [Value.ref h1, Value.int n0_size, Value.int n0_place, Value.ref h2])), (h1, Sum.inl (cint, 120, Sum.inl f1)), (h2, Sum.inr (4, [Value.ref h3, Value.int n2_size, Value.ref h4, Value.ref h5, Value.int n2_top])), (h3, Sum.inl (cint, 128, Sum.inl f3))] sz)) 0 0 (va_A [(h0, Sum.inr (10, [Value.ref h1, Value.int n0_size, Value.int n0_place, Value.ref h2])), (h1, Sum.inl (cint, 120, Sum.inl f1)), (h2, Sum.inr (4, [Value.ref h3, Value.int n2_size, Value.ref h4, Value.ref h5, Value.int n2_top])), (h3, Sum.inl (cint, 128, Sum.inl f3))] sz) := by
  refine Met.ofW (cc := cX10_readChain) (maxL := 5) (ret := (some .boolean)) (by decide) rfl ?_
  intro p e s m args below meth c s₁ B hml hv
  obtain ⟨rfl, hsz, hP, hK, hD0, hZNAMES, hTNAMES⟩ := hv
  have hx := B.exec
  have hb := B.bytes
  have hr := B.returns
  have hts := atoms_spec (ws := wsX10_readChain) B.pre
  have hown : s.vm.findClass RX10 = some m.cls := findClass_of_methodNamed B.named
  have hlocks := B.notSynchronized
  subst hsz
  have hD := hD0.self (sz := s.heap.size)
  generalize hAe : va_A [(h0, Sum.inr (10, [Value.ref h1, Value.int n0_size, Value.int n0_place, Value.ref h2])), (h1, Sum.inl (cint, 120, Sum.inl f1)), (h2, Sum.inr (4, [Value.ref h3, Value.int n2_size, Value.ref h4, Value.ref h5, Value.int n2_top])), (h3, Sum.inl (cint, 128, Sum.inl f3))] s.heap.size = A at hD hZNAMES hTNAMES ⊢
  have hA : ∀ q : Nat, s.heap.size ≤ q → A q := fun q h => by rw [← hAe]; exact Or.inr h
  have hS : va_S A s.heap s.heap [] := va_S.rf
  have hP : va_P (dC, dI) vwCl [(h0, Sum.inr (10, [Value.ref h1, Value.int n0_size, Value.int n0_place, Value.ref h2])), (h1, Sum.inl (cint, 120, Sum.inl f1)), (h2, Sum.inr (4, [Value.ref h3, Value.int n2_size, Value.ref h4, Value.ref h5, Value.int n2_top])), (h3, Sum.inl (cint, 128, Sum.inl f3))] s.heap := hP
  have hl := lv_entry ([.ref h0, .int 2, .int 1]) (n := 5) (Nat.le_of_ble_eq_true rfl)
  rw [lg_entry_eq]
  generalize (lg_sl ([.ref h0, .int 2, .int 1]) ++ List.replicate (5 - (lg_sl ([.ref h0, .int 2, .int 1])).length) Slot.unset).toArray = ls at hl ⊢
  have hl : lv_has ls 5 [(0, .ref h0), (1, .int 2), (2, .int 1)] := hl
  refine lv_iload_n hx hb dX10_readChain_0 rfl (lv_at hl 1 rfl) ?_
  refine lv_iconst (v := 5) hx hb dX10_readChain_1 (by decide) ?_
  refine lv_icmp_lt (tgt := 11) hx hb dX10_readChain_2 (by decide) (fun _ => ?_) (fun c => absurd c (by decide))
  refine lv_aload_n hx hb dX10_readChain_11 rfl (lv_at hl 0 rfl) ?_
  refine lv_iload_n hx hb dX10_readChain_12 rfl (lv_at hl 1 rfl) ?_
  refine lv_iconst (v := 1) hx hb dX10_readChain_13 (by decide) ?_
  refine lv_iadd hx hb dX10_readChain_14 ?_
  refine lv_topi (fun y_1 e_1 => ?_)
  obtain rfl : y_1 = 3 := e_1.trans (by decide)
  refine lv_iload_n hx hb dX10_readChain_15 rfl (lv_at hl 2 rfl) ?_
  have hPc := hP.sub (ws' := [(h0, Sum.inr (10, [Value.ref h1, Value.int n0_size, Value.int n0_place, Value.ref h2])), (h1, Sum.inl (cint, 120, Sum.inl f1)), (h2, Sum.inr (4, [Value.ref h3, Value.int n2_size, Value.ref h4, Value.ref h5, Value.int n2_top])), (h3, Sum.inl (cint, 128, Sum.inl f3))]) [0, 1, 2, 3] rfl
  have hDc := hD.sub (ws' := [(h0, Sum.inr (10, [Value.ref h1, Value.int n0_size, Value.int n0_place, Value.ref h2])), (h1, Sum.inl (cint, 120, Sum.inl f1)), (h2, Sum.inr (4, [Value.ref h3, Value.int n2_size, Value.ref h4, Value.ref h5, Value.int n2_top])), (h3, Sum.inl (cint, 128, Sum.inl f3))]) [0, 1, 2, 3] (by decide) rfl
  have hKc := hK.sub (tys' := [(cint, .int)]) [0] rfl
  have hFc := va_free (wc := [(h0, Sum.inr (10, [Value.ref h1, Value.int n0_size, Value.int n0_place, Value.ref h2])), (h1, Sum.inl (cint, 120, Sum.inl f1)), (h2, Sum.inr (4, [Value.ref h3, Value.int n2_size, Value.ref h4, Value.ref h5, Value.int n2_top])), (h3, Sum.inl (cint, 128, Sum.inl f3))]) hD hS hA [0, 1, 2, 3] rfl
  refine va_calli (va_runV (As := [.int 3, .int 1]) (rest := []) ⟨hx, hb, hml, hown, hts⟩ (g_X10_readChain_32 l dC dI h0 h1 h2 h3 h4 h5 cint s.heap.size n0_size n0_place f1 n2_size n2_top f3 tn0_size bf1 tn2_size tn2_top aNAMES) (cwV 2 hts gX10_readChain_X10_readChain rfl rfl rfl (by decide +kernel) ⟨Nat.le_of_ble_eq_true rfl, Nat.le_of_ble_eq_true rfl⟩) ⟨fun a U g mk q => by obtain ⟨q0, q1, qP, qK, qD, qx0, qx1⟩ := q; exact ⟨q0, q1, qP, va_K.moved (u := U) (U := U.calling g mk a) (Vm.Alike.refl U.vm) qK, qD, va_Z.moved (u := U) (U := U.calling g mk a) (Vm.Alike.refl U.vm) qx0, va_T.moved (u := U) (U := U.calling g mk a) (Vm.Alike.refl U.vm) qx1⟩, va_recv hKc hPc (ci := 10) (q0 := 0) rfl rfl, fun U hU hW => ⟨rfl, by rw [hU], by rw [hU]; exact hPc, va_K.moved hW.alike hKc, hDc.weaken (fun _ _ _ _ => trivial), by rw [hU]; exact ((hZNAMES.kept (fun a h1 h2 => hS.2.1 a h1 h2)).narrow hFc).moved hW.alike, by rw [hU]; exact ((hTNAMES.kept (fun a h1 h2 => hS.2.1 a h1 h2)).narrow hFc).moved hW.alike⟩⟩ rfl rfl hl.1 rfl (lv_room (Nat.le_of_ble_eq_true rfl)) dX10_readChain_16 ⟨Nat.le_of_ble_eq_true rfl, Nat.le_of_ble_eq_true rfl⟩) hS (fun q _ h => hFc q h) hFc (fun r_2 u t H1 locs ht hvm hw hB hz1 hk1 hS => ?_)
  obtain ⟨y_3, y_4, f_5, by_4, hP1, hK1, hD1⟩ := hB
  rw [ht] at hP1
  have hK1 := va_K.moved hvm.symm hK1
  obtain ⟨hP, hD⟩ := va_join (wr := []) (w1 := [(h0, Sum.inr (10, [Value.ref h1, Value.int n0_size, Value.int y_3, Value.ref h2])), (h1, Sum.inl (cint, 120, Sum.inl f1)), (h2, Sum.inr (4, [Value.ref h3, Value.int y_4, Value.ref h4, Value.ref h5, Value.int n2_top])), (h3, Sum.inl (cint, 128, Sum.inl f_5))]) hP hD [0, 1, 2, 3] [] rfl rfl (by decide) (by decide) hk1 hFc hP1 hD1
  generalize H1 = H at hP hS ⊢
  have hP : va_P (dC, dI) vwCl [(h0, Sum.inr (10, [Value.ref h1, Value.int n0_size, Value.int y_3, Value.ref h2])), (h1, Sum.inl (cint, 120, Sum.inl f1)), (h2, Sum.inr (4, [Value.ref h3, Value.int y_4, Value.ref h4, Value.ref h5, Value.int n2_top])), (h3, Sum.inl (cint, 128, Sum.inl f_5))] H := hP
  have hD : va_D A [(h0, Sum.inr (10, [Value.ref h1, Value.int n0_size, Value.int y_3, Value.ref h2])), (h1, Sum.inl (cint, 120, Sum.inl f1)), (h2, Sum.inr (4, [Value.ref h3, Value.int y_4, Value.ref h4, Value.ref h5, Value.int n2_top])), (h3, Sum.inl (cint, 128, Sum.inl f_5))] := hD
  have t_2 : 0 ≤ r_2.toInt ∧ r_2.toInt ≤ 1 := hw
  refine lv_if_ne (tgt := 24) hx hb dX10_readChain_19 (by decide) (fun c_6 => ?_) (fun c_6 => ?_)
  · have t_6 : r_2.toInt ≠ 0 := kk_ne c_6
    refine lv_iconst (v := 0) hx hb dX10_readChain_24 (by decide) ?_
    refine lv_istore_n (lv' := [(3, .int 0), (0, .ref h0), (1, .int 2), (2, .int 1)]) hx hb dX10_readChain_25 rfl hl (by decide) rfl (fun ls hl => ?_)
    refine kk_loop (σ := Unit) (fun x H locs ls => va_P (dC, dI) vwCl [(h0, Sum.inr (10, [Value.ref h1, Value.int n0_size, Value.int y_3, Value.ref h2])), (h1, Sum.inl (cint, 120, Sum.inl f1)), (h2, Sum.inr (4, [Value.ref h3, Value.int y_4, Value.ref h4, Value.ref h5, Value.int n2_top])), (h3, Sum.inl (cint, 128, Sum.inl f_5))] H ∧ va_D A [(h0, Sum.inr (10, [Value.ref h1, Value.int n0_size, Value.int y_3, Value.ref h2])), (h1, Sum.inl (cint, 120, Sum.inl f1)), (h2, Sum.inr (4, [Value.ref h3, Value.int y_4, Value.ref h4, Value.ref h5, Value.int n2_top])), (h3, Sum.inl (cint, 128, Sum.inl f_5))] ∧ va_S A s.heap H locs ∧ lv_has ls 5 [(3, .int 0), (0, .ref h0), (1, .int 2), (2, .int 1)]) (fun x => 0) ?_ () _ _ _ ⟨hP, hD, hS, hl⟩
    rintro _ H locs ls ⟨hP, hD, hS, hl⟩ ih_7
    have hl : lv_has ls 5 [(3, .int 0), (0, .ref h0), (1, .int 2), (2, .int 1)] := hl
    have hP : va_P (dC, dI) vwCl [(h0, Sum.inr (10, [Value.ref h1, Value.int n0_size, Value.int y_3, Value.ref h2])), (h1, Sum.inl (cint, 120, Sum.inl f1)), (h2, Sum.inr (4, [Value.ref h3, Value.int y_4, Value.ref h4, Value.ref h5, Value.int n2_top])), (h3, Sum.inl (cint, 128, Sum.inl f_5))] H := hP
    have hD : va_D A [(h0, Sum.inr (10, [Value.ref h1, Value.int n0_size, Value.int y_3, Value.ref h2])), (h1, Sum.inl (cint, 120, Sum.inl f1)), (h2, Sum.inr (4, [Value.ref h3, Value.int y_4, Value.ref h4, Value.ref h5, Value.int n2_top])), (h3, Sum.inl (cint, 128, Sum.inl f_5))] := hD
    refine lv_iload_n hx hb dX10_readChain_26 rfl (lv_at hl 0 rfl) ?_
    refine lv_bipush (v := 120) hx hb dX10_readChain_27 (by decide) ?_
    refine lv_icmp_ge (tgt := 94) hx hb dX10_readChain_29 (by decide) (fun c => absurd c (by decide)) (fun _ => ?_)
    refine lv_iload_n hx hb dX10_readChain_32 rfl (lv_at hl 2 rfl) ?_
    refine lv_aload_n hx hb dX10_readChain_33 rfl (lv_at hl 1 rfl) ?_
    have hPc := hP.sub (ws' := [(h0, Sum.inr (10, [Value.ref h1, Value.int n0_size, Value.int y_3, Value.ref h2])), (h1, Sum.inl (cint, 120, Sum.inl f1))]) [0, 1] rfl
    have hDc := hD.sub (ws' := [(h0, Sum.inr (10, [Value.ref h1, Value.int n0_size, Value.int y_3, Value.ref h2])), (h1, Sum.inl (cint, 120, Sum.inl f1))]) [0, 1] (by decide) rfl
    have hKc := hK.sub (tys' := [(cint, .int)]) [0] rfl
    have hFc := va_free (wc := [(h0, Sum.inr (10, [Value.ref h1, Value.int n0_size, Value.int y_3, Value.ref h2])), (h1, Sum.inl (cint, 120, Sum.inl f1))]) hD hS hA [0, 1] rfl
    refine va_calli (va_runV (As := []) (rest := [.int 2]) ⟨hx, hb, hml, hown, hts⟩ (g_X10_next_0 l dC dI h0 h1 h2 cint H.size n0_size y_3 f1 tn0_size bf1) (cwV 0 hts gX10_readChain_X10_next rfl rfl rfl (by decide +kernel) ⟨Nat.le_of_ble_eq_true rfl, Nat.le_of_ble_eq_true rfl⟩) ⟨fun a U g mk q => by obtain ⟨q0, q1, qP, qK, qD⟩ := q; exact ⟨q0, q1, qP, va_K.moved (u := U) (U := U.calling g mk a) (Vm.Alike.refl U.vm) qK, qD⟩, va_recv hKc hPc (ci := 10) (q0 := 0) rfl rfl, fun U hU hW => ⟨rfl, by rw [hU], by rw [hU]; exact hPc, va_K.moved hW.alike hKc, hDc.weaken (fun _ _ _ _ => trivial)⟩⟩ rfl rfl hl.1 rfl (lv_room (Nat.le_of_ble_eq_true rfl)) dX10_readChain_34 ⟨Nat.le_of_ble_eq_true rfl, Nat.le_of_ble_eq_true rfl⟩) hS (fun q _ h => hFc q h) hFc (fun r_47 u t H1 locs ht hvm hw hB hz1 hk1 hS => ?_)
    obtain ⟨hP1, hK1, hD1⟩ := hB
    rw [ht] at hP1
    have hK1 := va_K.moved hvm.symm hK1
    obtain ⟨hP, hD⟩ := va_join (wr := [(h2, Sum.inr (4, [Value.ref h3, Value.int y_4, Value.ref h4, Value.ref h5, Value.int n2_top])), (h3, Sum.inl (cint, 128, Sum.inl f_5))]) (w1 := [(h0, Sum.inr (10, [Value.ref h1, Value.int n0_size, Value.int y_3, Value.ref h2])), (h1, Sum.inl (cint, 120, Sum.inl f1))]) hP hD [0, 1] [2, 3] rfl rfl (by decide) (by decide) hk1 hFc hP1 hD1
    generalize H1 = H at hP hS ⊢
    have hP : va_P (dC, dI) vwCl [(h2, Sum.inr (4, [Value.ref h3, Value.int y_4, Value.ref h4, Value.ref h5, Value.int n2_top])), (h3, Sum.inl (cint, 128, Sum.inl f_5)), (h0, Sum.inr (10, [Value.ref h1, Value.int n0_size, Value.int y_3, Value.ref h2])), (h1, Sum.inl (cint, 120, Sum.inl f1))] H := hP
    have hD : va_D A [(h2, Sum.inr (4, [Value.ref h3, Value.int y_4, Value.ref h4, Value.ref h5, Value.int n2_top])), (h3, Sum.inl (cint, 128, Sum.inl f_5)), (h0, Sum.inr (10, [Value.ref h1, Value.int n0_size, Value.int y_3, Value.ref h2])), (h1, Sum.inl (cint, 120, Sum.inl f1))] := hD
    have t_47 : (-1) ≤ r_47.toInt ∧ r_47.toInt ≤ 255 := hw
    have hPc := hP.sub (ws' := []) [] rfl
    have hDc := hD.sub (ws' := []) [] (by decide) rfl
    have hKc := hK.sub (tys' := []) [] rfl
    have hFc := va_free (wc := []) hD hS hA [] rfl
    refine va_calli (va_runS (As := [.int 2, .int r_47]) (rest := []) ⟨hx, hb, hml, hown, hts⟩ (g_X10_joins_2 l dC dI H.size r_47) (va_cwS 2 hts gX10_readChain_X10_joins rfl rfl rfl (by decide +kernel) ⟨Nat.le_of_ble_eq_true rfl, Nat.le_of_ble_eq_true rfl⟩) ⟨fun a U g mk q => by obtain ⟨q0, q1, qP, qK, qD⟩ := q; exact ⟨q0, q1, qP, va_K.moved (u := U) (U := U.calling g mk a) (Vm.Alike.refl U.vm) qK, qD⟩, fun U hU hW => ⟨rfl, by rw [hU], by rw [hU]; exact hPc, va_K.moved hW.alike hKc, hDc.weaken (fun _ _ _ _ => trivial)⟩⟩ rfl rfl hl.1 rfl (lv_room (Nat.le_of_ble_eq_true rfl)) dX10_readChain_37 ⟨Nat.le_of_ble_eq_true rfl, Nat.le_of_ble_eq_true rfl⟩) hS (fun q _ h => hFc q h) hFc (fun r_48 u t H1 locs ht hvm hw hB hz1 hk1 hS => ?_)
    obtain ⟨hP1, hK1, hD1⟩ := hB
    rw [ht] at hP1
    have hK1 := va_K.moved hvm.symm hK1
    obtain ⟨hP, hD⟩ := va_join (wr := [(h2, Sum.inr (4, [Value.ref h3, Value.int y_4, Value.ref h4, Value.ref h5, Value.int n2_top])), (h3, Sum.inl (cint, 128, Sum.inl f_5)), (h0, Sum.inr (10, [Value.ref h1, Value.int n0_size, Value.int y_3, Value.ref h2])), (h1, Sum.inl (cint, 120, Sum.inl f1))]) (w1 := []) hP hD [] [0, 1, 2, 3] rfl rfl (by decide) (by decide) hk1 hFc hP1 hD1
    generalize H1 = H at hP hS ⊢
    have hP : va_P (dC, dI) vwCl [(h2, Sum.inr (4, [Value.ref h3, Value.int y_4, Value.ref h4, Value.ref h5, Value.int n2_top])), (h3, Sum.inl (cint, 128, Sum.inl f_5)), (h0, Sum.inr (10, [Value.ref h1, Value.int n0_size, Value.int y_3, Value.ref h2])), (h1, Sum.inl (cint, 120, Sum.inl f1))] H := hP
    have hD : va_D A [(h2, Sum.inr (4, [Value.ref h3, Value.int y_4, Value.ref h4, Value.ref h5, Value.int n2_top])), (h3, Sum.inl (cint, 128, Sum.inl f_5)), (h0, Sum.inr (10, [Value.ref h1, Value.int n0_size, Value.int y_3, Value.ref h2])), (h1, Sum.inl (cint, 120, Sum.inl f1))] := hD
    have t_48 : 0 ≤ r_48.toInt ∧ r_48.toInt ≤ 1 := hw
    refine lv_if_eq (tgt := 94) hx hb dX10_readChain_40 (by decide) (fun c_49 => ?_) (fun c_49 => ?_)
    · have t_49 : r_48.toInt = 0 := kk_eq c_49
      refine lv_iconst (v := 1) hx hb dX10_readChain_94 (by decide) ?_
      have hP9 := hP.sub (ws' := [(h0, Sum.inr (10, [Value.ref h1, Value.int n0_size, Value.int y_3, Value.ref h2])), (h1, Sum.inl (cint, 120, Sum.inl f1)), (h2, Sum.inr (4, [Value.ref h3, Value.int y_4, Value.ref h4, Value.ref h5, Value.int n2_top])), (h3, Sum.inl (cint, 128, Sum.inl f_5))]) [2, 3, 0, 1] rfl
      have hD9 := hD.sub (ws' := [(h0, Sum.inr (10, [Value.ref h1, Value.int n0_size, Value.int y_3, Value.ref h2])), (h1, Sum.inl (cint, 120, Sum.inl f1)), (h2, Sum.inr (4, [Value.ref h3, Value.int y_4, Value.ref h4, Value.ref h5, Value.int n2_top])), (h3, Sum.inl (cint, 128, Sum.inl f_5))]) [2, 3, 0, 1] (by decide) rfl
      have hK9 := hK.sub (tys' := []) [] rfl
      exact W.zret (v := 1) hx hb hr rfl (fun t ht hW => ⟨⟨1, (), rfl, (by show 0 ≤ (1 : Int32).toInt ∧ (1 : Int32).toInt ≤ 1; first | decide | (constructor <;> (omega))), y_3, y_4, f_5, (by show 0 ≤ (y_4 : Int32).toInt ∧ (y_4 : Int32).toInt ≤ 128; first | decide | (constructor <;> (omega))), by rw [ht]; exact hP9, va_K.moved hW.alike hK9, hD9⟩, hS.F ht⟩) hS.2.2 dX10_readChain_95
    · have t_49 : r_48.toInt ≠ 0 := kk_ne c_49
      refine lv_aload_n hx hb dX10_readChain_43 rfl (lv_at hl 1 rfl) ?_
      have hPc := hP.sub (ws' := [(h0, Sum.inr (10, [Value.ref h1, Value.int n0_size, Value.int y_3, Value.ref h2])), (h1, Sum.inl (cint, 120, Sum.inl f1))]) [2, 3] rfl
      have hDc := hD.sub (ws' := [(h0, Sum.inr (10, [Value.ref h1, Value.int n0_size, Value.int y_3, Value.ref h2])), (h1, Sum.inl (cint, 120, Sum.inl f1))]) [2, 3] (by decide) rfl
      have hKc := hK.sub (tys' := [(cint, .int)]) [0] rfl
      have hFc := va_free (wc := [(h0, Sum.inr (10, [Value.ref h1, Value.int n0_size, Value.int y_3, Value.ref h2])), (h1, Sum.inl (cint, 120, Sum.inl f1))]) hD hS hA [2, 3] rfl
      refine va_calli (va_runV (As := []) (rest := []) ⟨hx, hb, hml, hown, hts⟩ (g_X10_next_0 l dC dI h0 h1 h2 cint H.size n0_size y_3 f1 tn0_size bf1) (cwV 0 hts gX10_readChain_X10_next rfl rfl rfl (by decide +kernel) ⟨Nat.le_of_ble_eq_true rfl, Nat.le_of_ble_eq_true rfl⟩) ⟨fun a U g mk q => by obtain ⟨q0, q1, qP, qK, qD⟩ := q; exact ⟨q0, q1, qP, va_K.moved (u := U) (U := U.calling g mk a) (Vm.Alike.refl U.vm) qK, qD⟩, va_recv hKc hPc (ci := 10) (q0 := 0) rfl rfl, fun U hU hW => ⟨rfl, by rw [hU], by rw [hU]; exact hPc, va_K.moved hW.alike hKc, hDc.weaken (fun _ _ _ _ => trivial)⟩⟩ rfl rfl hl.1 rfl (lv_room (Nat.le_of_ble_eq_true rfl)) dX10_readChain_44 ⟨Nat.le_of_ble_eq_true rfl, Nat.le_of_ble_eq_true rfl⟩) hS (fun q _ h => hFc q h) hFc (fun r_50 u t H1 locs ht hvm hw hB hz1 hk1 hS => ?_)
      obtain ⟨hP1, hK1, hD1⟩ := hB
      rw [ht] at hP1
      have hK1 := va_K.moved hvm.symm hK1
      obtain ⟨hP, hD⟩ := va_join (wr := [(h2, Sum.inr (4, [Value.ref h3, Value.int y_4, Value.ref h4, Value.ref h5, Value.int n2_top])), (h3, Sum.inl (cint, 128, Sum.inl f_5))]) (w1 := [(h0, Sum.inr (10, [Value.ref h1, Value.int n0_size, Value.int y_3, Value.ref h2])), (h1, Sum.inl (cint, 120, Sum.inl f1))]) hP hD [2, 3] [0, 1] rfl rfl (by decide) (by decide) hk1 hFc hP1 hD1
      generalize H1 = H at hP hS ⊢
      have hP : va_P (dC, dI) vwCl [(h2, Sum.inr (4, [Value.ref h3, Value.int y_4, Value.ref h4, Value.ref h5, Value.int n2_top])), (h3, Sum.inl (cint, 128, Sum.inl f_5)), (h0, Sum.inr (10, [Value.ref h1, Value.int n0_size, Value.int y_3, Value.ref h2])), (h1, Sum.inl (cint, 120, Sum.inl f1))] H := hP
      have hD : va_D A [(h2, Sum.inr (4, [Value.ref h3, Value.int y_4, Value.ref h4, Value.ref h5, Value.int n2_top])), (h3, Sum.inl (cint, 128, Sum.inl f_5)), (h0, Sum.inr (10, [Value.ref h1, Value.int n0_size, Value.int y_3, Value.ref h2])), (h1, Sum.inl (cint, 120, Sum.inl f1))] := hD
      have t_50 : (-1) ≤ r_50.toInt ∧ r_50.toInt ≤ 255 := hw
      refine lv_istore (lv' := [(4, .int r_50), (3, .int 0), (0, .ref h0), (1, .int 2), (2, .int 1)]) hx hb dX10_readChain_47 hl (by decide) rfl (fun ls hl => ?_)
      refine lv_aload_n hx hb dX10_readChain_49 rfl (lv_at hl 2 rfl) ?_
      refine lv_dup hx hb dX10_readChain_50 rfl ?_
      refine va_get (D := (dC, dI)) (ci := 10) (v := .int y_3) (C := RX10) (T := TX10) (N := 4) hx hb hts (fun _ h => List.mem_cons_of_mem _ (List.mem_append_left _ (List.mem_append_right _ h))) hown hK hP 2 rfl rfl 2 (by decide) (hts (.fieldLink RX10 17 "KinkStreet$Tape" "place" "I") (List.mem_of_getElem? (i := 1) rfl)) (fun _ h9 => h9) rfl dX10_readChain_51 ?_
      refine lv_iconst (v := 1) hx hb dX10_readChain_54 (by decide) ?_
      refine lv_iadd hx hb dX10_readChain_55 ?_
      refine va_put (D := (dC, dI)) (ci := 10) (v := .int (y_3 + 1)) (ty := .int) (C := RX10) (T := TX10) (N := 4) hx hb hts (fun _ h => List.mem_cons_of_mem _ (List.mem_append_left _ (List.mem_append_right _ h))) tyX10 tyX10_ok nmX10 hown hK hP hD hS 2 rfl rfl 2 (by decide) (hts (.fieldLink RX10 17 "KinkStreet$Tape" "place" "I") (List.mem_of_getElem? (i := 1) rfl)) (fun _ h9 => h9) rfl (by decide +kernel) rfl rfl (Nat.le_of_ble_eq_true rfl) dX10_readChain_56 (fun H locs hP hD hS => ?_)
      have hP : va_P (dC, dI) vwCl [(h2, Sum.inr (4, [Value.ref h3, Value.int y_4, Value.ref h4, Value.ref h5, Value.int n2_top])), (h3, Sum.inl (cint, 128, Sum.inl f_5)), (h0, Sum.inr (10, [Value.ref h1, Value.int n0_size, Value.int (y_3 + 1), Value.ref h2])), (h1, Sum.inl (cint, 120, Sum.inl f1))] H := hP
      have hD : va_D A [(h2, Sum.inr (4, [Value.ref h3, Value.int y_4, Value.ref h4, Value.ref h5, Value.int n2_top])), (h3, Sum.inl (cint, 128, Sum.inl f_5)), (h0, Sum.inr (10, [Value.ref h1, Value.int n0_size, Value.int (y_3 + 1), Value.ref h2])), (h1, Sum.inl (cint, 120, Sum.inl f1))] := hD
      refine lv_aload_n hx hb dX10_readChain_59 rfl (lv_at hl 2 rfl) ?_
      refine lv_iload_n hx hb dX10_readChain_60 rfl (lv_at hl 3 rfl) ?_
      refine lv_iconst (v := 1) hx hb dX10_readChain_61 (by decide) ?_
      refine lv_iadd hx hb dX10_readChain_62 ?_
      refine lv_topi (fun y_51 e_51 => ?_)
      obtain rfl : y_51 = 3 := e_51.trans (by decide)
      refine lv_iload_n hx hb dX10_readChain_63 rfl (lv_at hl 4 rfl) ?_
      have hPc := hP.sub (ws' := [(h0, Sum.inr (10, [Value.ref h1, Value.int n0_size, Value.int (y_3 + 1), Value.ref h2])), (h1, Sum.inl (cint, 120, Sum.inl f1)), (h2, Sum.inr (4, [Value.ref h3, Value.int y_4, Value.ref h4, Value.ref h5, Value.int n2_top])), (h3, Sum.inl (cint, 128, Sum.inl f_5))]) [2, 3, 0, 1] rfl
      have hDc := hD.sub (ws' := [(h0, Sum.inr (10, [Value.ref h1, Value.int n0_size, Value.int (y_3 + 1), Value.ref h2])), (h1, Sum.inl (cint, 120, Sum.inl f1)), (h2, Sum.inr (4, [Value.ref h3, Value.int y_4, Value.ref h4, Value.ref h5, Value.int n2_top])), (h3, Sum.inl (cint, 128, Sum.inl f_5))]) [2, 3, 0, 1] (by decide) rfl
      have hKc := hK.sub (tys' := [(cint, .int)]) [0] rfl
      have hFc := va_free (wc := [(h0, Sum.inr (10, [Value.ref h1, Value.int n0_size, Value.int (y_3 + 1), Value.ref h2])), (h1, Sum.inl (cint, 120, Sum.inl f1)), (h2, Sum.inr (4, [Value.ref h3, Value.int y_4, Value.ref h4, Value.ref h5, Value.int n2_top])), (h3, Sum.inl (cint, 128, Sum.inl f_5))]) hD hS hA [2, 3, 0, 1] rfl
      refine va_calli (va_runV (As := [.int 3, .int 1]) (rest := []) ⟨hx, hb, hml, hown, hts⟩ (g_X10_readChain_32 l dC dI h0 h1 h2 h3 h4 h5 cint H.size n0_size (y_3 + 1) f1 y_4 n2_top f_5 tn0_size bf1 (by show 0 ≤ (y_4 : Int32).toInt ∧ (y_4 : Int32).toInt ≤ 128; first | decide | (constructor <;> (omega))) tn2_top aNAMES) (cwV 2 hts gX10_readChain_X10_readChain rfl rfl rfl (by decide +kernel) ⟨Nat.le_of_ble_eq_true rfl, Nat.le_of_ble_eq_true rfl⟩) ⟨fun a U g mk q => by obtain ⟨q0, q1, qP, qK, qD, qx0, qx1⟩ := q; exact ⟨q0, q1, qP, va_K.moved (u := U) (U := U.calling g mk a) (Vm.Alike.refl U.vm) qK, qD, va_Z.moved (u := U) (U := U.calling g mk a) (Vm.Alike.refl U.vm) qx0, va_T.moved (u := U) (U := U.calling g mk a) (Vm.Alike.refl U.vm) qx1⟩, va_recv hKc hPc (ci := 10) (q0 := 0) rfl rfl, fun U hU hW => ⟨rfl, by rw [hU], by rw [hU]; exact hPc, va_K.moved hW.alike hKc, hDc.weaken (fun _ _ _ _ => trivial), by rw [hU]; exact ((hZNAMES.kept (fun a h1 h2 => hS.2.1 a h1 h2)).narrow hFc).moved hW.alike, by rw [hU]; exact ((hTNAMES.kept (fun a h1 h2 => hS.2.1 a h1 h2)).narrow hFc).moved hW.alike⟩⟩ rfl rfl hl.1 rfl (lv_room (Nat.le_of_ble_eq_true rfl)) dX10_readChain_64 ⟨Nat.le_of_ble_eq_true rfl, Nat.le_of_ble_eq_true rfl⟩) hS (fun q _ h => hFc q h) hFc (fun r_52 u t H1 locs ht hvm hw hB hz1 hk1 hS => ?_)
      obtain ⟨y_53, y_54, f_55, by_54, hP1, hK1, hD1⟩ := hB
      rw [ht] at hP1
      have hK1 := va_K.moved hvm.symm hK1
      obtain ⟨hP, hD⟩ := va_join (wr := []) (w1 := [(h0, Sum.inr (10, [Value.ref h1, Value.int n0_size, Value.int y_53, Value.ref h2])), (h1, Sum.inl (cint, 120, Sum.inl f1)), (h2, Sum.inr (4, [Value.ref h3, Value.int y_54, Value.ref h4, Value.ref h5, Value.int n2_top])), (h3, Sum.inl (cint, 128, Sum.inl f_55))]) hP hD [2, 3, 0, 1] [] rfl rfl (by decide) (by decide) hk1 hFc hP1 hD1
      generalize H1 = H at hP hS ⊢
      have hP : va_P (dC, dI) vwCl [(h0, Sum.inr (10, [Value.ref h1, Value.int n0_size, Value.int y_53, Value.ref h2])), (h1, Sum.inl (cint, 120, Sum.inl f1)), (h2, Sum.inr (4, [Value.ref h3, Value.int y_54, Value.ref h4, Value.ref h5, Value.int n2_top])), (h3, Sum.inl (cint, 128, Sum.inl f_55))] H := hP
      have hD : va_D A [(h0, Sum.inr (10, [Value.ref h1, Value.int n0_size, Value.int y_53, Value.ref h2])), (h1, Sum.inl (cint, 120, Sum.inl f1)), (h2, Sum.inr (4, [Value.ref h3, Value.int y_54, Value.ref h4, Value.ref h5, Value.int n2_top])), (h3, Sum.inl (cint, 128, Sum.inl f_55))] := hD
      have t_52 : 0 ≤ r_52.toInt ∧ r_52.toInt ≤ 1 := hw
      refine lv_if_ne (tgt := 72) hx hb dX10_readChain_67 (by decide) (fun c_56 => ?_) (fun c_56 => ?_)
      · have t_56 : r_52.toInt ≠ 0 := kk_ne c_56
        refine lv_aload_n hx hb dX10_readChain_72 rfl (lv_at hl 2 rfl) ?_
        refine va_get (D := (dC, dI)) (ci := 10) (v := .ref h2) (C := RX10) (T := TX10) (N := 4) hx hb hts (fun _ h => List.mem_cons_of_mem _ (List.mem_append_left _ (List.mem_append_right _ h))) hown hK hP 0 rfl rfl 3 (by decide) (hts (.fieldLink RX10 20 "KinkStreet$Tape" "law" "LKinkStreet$Law;") (List.mem_of_getElem? (i := 2) rfl)) (fun _ h9 => h9) rfl dX10_readChain_73 ?_
        refine lv_iload hx hb dX10_readChain_76 (lv_at hl 0 rfl) ?_
        have hPc := hP.sub (ws' := [(h2, Sum.inr (4, [Value.ref h3, Value.int y_54, Value.ref h4, Value.ref h5, Value.int n2_top])), (h3, Sum.inl (cint, 128, Sum.inl f_55))]) [2, 3] rfl
        have hDc := hD.sub (ws' := [(h2, Sum.inr (4, [Value.ref h3, Value.int y_54, Value.ref h4, Value.ref h5, Value.int n2_top])), (h3, Sum.inl (cint, 128, Sum.inl f_55))]) [2, 3] (by decide) rfl
        have hKc := hK.sub (tys' := [(cint, .int)]) [0] rfl
        have hFc := va_free (wc := [(h2, Sum.inr (4, [Value.ref h3, Value.int y_54, Value.ref h4, Value.ref h5, Value.int n2_top])), (h3, Sum.inl (cint, 128, Sum.inl f_55))]) hD hS hA [2, 3] rfl
        refine va_callv (va_runV (As := [.int r_50]) (rest := []) ⟨hx, hb, hml, hown, hts⟩ (g_X4_append_0 l dC dI h2 h3 h4 h5 cint H.size r_50 y_54 n2_top f_55 (by show 0 ≤ (y_54 : Int32).toInt ∧ (y_54 : Int32).toInt ≤ 128; first | decide | (constructor <;> (omega))) tn2_top) (cwV 1 hts gX10_readChain_X4_append rfl rfl rfl (by decide +kernel) ⟨Nat.le_of_ble_eq_true rfl, Nat.le_of_ble_eq_true rfl⟩) ⟨fun a U g mk q => by obtain ⟨q0, q1, qP, qK, qD⟩ := q; exact ⟨q0, q1, qP, va_K.moved (u := U) (U := U.calling g mk a) (Vm.Alike.refl U.vm) qK, qD⟩, va_recv hKc hPc (ci := 4) (q0 := 0) rfl rfl, fun U hU hW => ⟨rfl, by rw [hU], by rw [hU]; exact hPc, va_K.moved hW.alike hKc, hDc.weaken (fun _ _ _ _ => trivial)⟩⟩ rfl rfl hl.1 rfl (lv_room (Nat.le_of_ble_eq_true rfl)) dX10_readChain_78 ⟨Nat.le_of_ble_eq_true rfl, Nat.le_of_ble_eq_true rfl⟩) hS (fun q _ h => hFc q h) hFc (fun u t H1 locs ht hvm hw hB hz1 hk1 hS => ?_)
        obtain ⟨y_58, f_59, by_58, hP1, hK1, hD1⟩ := hB
        rw [ht] at hP1
        have hK1 := va_K.moved hvm.symm hK1
        obtain ⟨hP, hD⟩ := va_join (wr := [(h0, Sum.inr (10, [Value.ref h1, Value.int n0_size, Value.int y_53, Value.ref h2])), (h1, Sum.inl (cint, 120, Sum.inl f1))]) (w1 := [(h2, Sum.inr (4, [Value.ref h3, Value.int y_58, Value.ref h4, Value.ref h5, Value.int n2_top])), (h3, Sum.inl (cint, 128, Sum.inl f_59))]) hP hD [2, 3] [0, 1] rfl rfl (by decide) (by decide) hk1 hFc hP1 hD1
        generalize H1 = H at hP hS ⊢
        have hP : va_P (dC, dI) vwCl [(h0, Sum.inr (10, [Value.ref h1, Value.int n0_size, Value.int y_53, Value.ref h2])), (h1, Sum.inl (cint, 120, Sum.inl f1)), (h2, Sum.inr (4, [Value.ref h3, Value.int y_58, Value.ref h4, Value.ref h5, Value.int n2_top])), (h3, Sum.inl (cint, 128, Sum.inl f_59))] H := hP
        have hD : va_D A [(h0, Sum.inr (10, [Value.ref h1, Value.int n0_size, Value.int y_53, Value.ref h2])), (h1, Sum.inl (cint, 120, Sum.inl f1)), (h2, Sum.inr (4, [Value.ref h3, Value.int y_58, Value.ref h4, Value.ref h5, Value.int n2_top])), (h3, Sum.inl (cint, 128, Sum.inl f_59))] := hD
        refine lv_iload_n hx hb dX10_readChain_81 rfl (lv_at hl 3 rfl) ?_
        refine lv_iconst (v := 2) hx hb dX10_readChain_82 (by decide) ?_
        refine lv_icmp_ne (tgt := 88) hx hb dX10_readChain_83 (by decide) (fun c => absurd c (by decide)) (fun _ => ?_)
        refine lv_iconst (v := 1) hx hb dX10_readChain_86 (by decide) ?_
        have hP9 := hP.sub (ws' := [(h0, Sum.inr (10, [Value.ref h1, Value.int n0_size, Value.int y_53, Value.ref h2])), (h1, Sum.inl (cint, 120, Sum.inl f1)), (h2, Sum.inr (4, [Value.ref h3, Value.int y_58, Value.ref h4, Value.ref h5, Value.int n2_top])), (h3, Sum.inl (cint, 128, Sum.inl f_59))]) [0, 1, 2, 3] rfl
        have hD9 := hD.sub (ws' := [(h0, Sum.inr (10, [Value.ref h1, Value.int n0_size, Value.int y_53, Value.ref h2])), (h1, Sum.inl (cint, 120, Sum.inl f1)), (h2, Sum.inr (4, [Value.ref h3, Value.int y_58, Value.ref h4, Value.ref h5, Value.int n2_top])), (h3, Sum.inl (cint, 128, Sum.inl f_59))]) [0, 1, 2, 3] (by decide) rfl
        have hK9 := hK.sub (tys' := []) [] rfl
        exact W.zret (v := 1) hx hb hr rfl (fun t ht hW => ⟨⟨1, (), rfl, (by show 0 ≤ (1 : Int32).toInt ∧ (1 : Int32).toInt ≤ 1; first | decide | (constructor <;> (omega))), y_53, y_58, f_59, (by show 0 ≤ (y_58 : Int32).toInt ∧ (y_58 : Int32).toInt ≤ 128; first | decide | (constructor <;> (omega))), by rw [ht]; exact hP9, va_K.moved hW.alike hK9, hD9⟩, hS.F ht⟩) hS.2.2 dX10_readChain_87
      · have t_56 : r_52.toInt = 0 := kk_eq c_56
        refine lv_iconst (v := 0) hx hb dX10_readChain_70 (by decide) ?_
        have hP9 := hP.sub (ws' := [(h0, Sum.inr (10, [Value.ref h1, Value.int n0_size, Value.int y_53, Value.ref h2])), (h1, Sum.inl (cint, 120, Sum.inl f1)), (h2, Sum.inr (4, [Value.ref h3, Value.int y_54, Value.ref h4, Value.ref h5, Value.int n2_top])), (h3, Sum.inl (cint, 128, Sum.inl f_55))]) [0, 1, 2, 3] rfl
        have hD9 := hD.sub (ws' := [(h0, Sum.inr (10, [Value.ref h1, Value.int n0_size, Value.int y_53, Value.ref h2])), (h1, Sum.inl (cint, 120, Sum.inl f1)), (h2, Sum.inr (4, [Value.ref h3, Value.int y_54, Value.ref h4, Value.ref h5, Value.int n2_top])), (h3, Sum.inl (cint, 128, Sum.inl f_55))]) [0, 1, 2, 3] (by decide) rfl
        have hK9 := hK.sub (tys' := []) [] rfl
        exact W.zret (v := 0) hx hb hr rfl (fun t ht hW => ⟨⟨0, (), rfl, (by show 0 ≤ (0 : Int32).toInt ∧ (0 : Int32).toInt ≤ 1; first | decide | (constructor <;> (omega))), y_53, y_54, f_55, (by show 0 ≤ (y_54 : Int32).toInt ∧ (y_54 : Int32).toInt ≤ 128; first | decide | (constructor <;> (omega))), by rw [ht]; exact hP9, va_K.moved hW.alike hK9, hD9⟩, hS.F ht⟩) hS.2.2 dX10_readChain_71
  · have t_6 : r_2.toInt = 0 := kk_eq c_6
    refine lv_iconst (v := 0) hx hb dX10_readChain_22 (by decide) ?_
    have hP9 := hP.sub (ws' := [(h0, Sum.inr (10, [Value.ref h1, Value.int n0_size, Value.int y_3, Value.ref h2])), (h1, Sum.inl (cint, 120, Sum.inl f1)), (h2, Sum.inr (4, [Value.ref h3, Value.int y_4, Value.ref h4, Value.ref h5, Value.int n2_top])), (h3, Sum.inl (cint, 128, Sum.inl f_5))]) [0, 1, 2, 3] rfl
    have hD9 := hD.sub (ws' := [(h0, Sum.inr (10, [Value.ref h1, Value.int n0_size, Value.int y_3, Value.ref h2])), (h1, Sum.inl (cint, 120, Sum.inl f1)), (h2, Sum.inr (4, [Value.ref h3, Value.int y_4, Value.ref h4, Value.ref h5, Value.int n2_top])), (h3, Sum.inl (cint, 128, Sum.inl f_5))]) [0, 1, 2, 3] (by decide) rfl
    have hK9 := hK.sub (tys' := []) [] rfl
    exact W.zret (v := 0) hx hb hr rfl (fun t ht hW => ⟨⟨0, (), rfl, (by show 0 ≤ (0 : Int32).toInt ∧ (0 : Int32).toInt ≤ 1; first | decide | (constructor <;> (omega))), y_3, y_4, f_5, (by show 0 ≤ (y_4 : Int32).toInt ∧ (y_4 : Int32).toInt ≤ 128; first | decide | (constructor <;> (omega))), by rw [ht]; exact hP9, va_K.moved hW.alike hK9, hD9⟩, hS.F ht⟩) hS.2.2 dX10_readChain_23
set_option maxHeartbeats 4000000 in
set_option maxRecDepth 100000 in
theorem g_X10_readChain_34 (l : Launch) (dC : Nat → ClassId) (dI : Nat → Nat → Nat) (h0 : Nat) (h1 : Nat) (h2 : Nat) (h3 : Nat) (h4 : Nat) (h5 : Nat) (cint : ClassId) (sz : Nat) (n0_size : Int32) (n0_place : Int32) (f1 : Nat → Int32) (n2_size : Int32) (n2_top : Int32) (f3 : Nat → Int32) (tn0_size : 0 ≤ n0_size.toInt ∧ n0_size.toInt ≤ 120) (bf1 : ∀ j, j < 120 → 0 ≤ (f1 j).toInt ∧ (f1 j).toInt ≤ 255) (tn2_size : 0 ≤ n2_size.toInt ∧ n2_size.toInt ≤ 128) (tn2_top : 0 ≤ n2_top.toInt ∧ n2_top.toInt ≤ 64) (aNAMES : Nat) : Met l yX10_readChain wsX10_readChain ({ frames := 47, cells := 0, slots := 0, locals := 1102 }) (va_Pc [.ref h0, .int 1, .int 1] (fun U => U.heap.size = sz ∧ va_P (dC, dI) vwCl [(h0, Sum.inr (10, [Value.ref h1, Value.int n0_size, Value.int n0_place, Value.ref h2])), (h1, Sum.inl (cint, 120, Sum.inl f1)), (h2, Sum.inr (4, [Value.ref h3, Value.int n2_size, Value.ref h4, Value.ref h5, Value.int n2_top])), (h3, Sum.inl (cint, 128, Sum.inl f3))] U.heap ∧ va_K (dC, dI) vwCl [(cint, .int)] U ∧ va_D (fun _ => True) [(h0, Sum.inr (10, [Value.ref h1, Value.int n0_size, Value.int n0_place, Value.ref h2])), (h1, Sum.inl (cint, 120, Sum.inl f1)), (h2, Sum.inr (4, [Value.ref h3, Value.int n2_size, Value.ref h4, Value.ref h5, Value.int n2_top])), (h3, Sum.inl (cint, 128, Sum.inl f3))] ∧ va_Z "KinkStreet$Law" "NAMES" "[C" (.ref aNAMES) (va_A [(h0, Sum.inr (10, [Value.ref h1, Value.int n0_size, Value.int n0_place, Value.ref h2])), (h1, Sum.inl (cint, 120, Sum.inl f1)), (h2, Sum.inr (4, [Value.ref h3, Value.int n2_size, Value.ref h4, Value.ref h5, Value.int n2_top])), (h3, Sum.inl (cint, 128, Sum.inl f3))] sz) U U.heap ∧ va_T .char aNAMES 8 tb_NAMES (va_A [(h0, Sum.inr (10, [Value.ref h1, Value.int n0_size, Value.int n0_place, Value.ref h2])), (h1, Sum.inl (cint, 120, Sum.inl f1)), (h2, Sum.inr (4, [Value.ref h3, Value.int n2_size, Value.ref h4, Value.ref h5, Value.int n2_top])), (h3, Sum.inl (cint, 128, Sum.inl f3))] sz) U U.heap)) (va_Qi (fun (r : Int32) (_ : Unit) => (0 ≤ r.toInt ∧ r.toInt ≤ 1)) (fun (_ : Unit) t => ∃ (m0_place : Int32) (m2_size : Int32) (g3 : Nat → Int32), (0 ≤ m2_size.toInt ∧ m2_size.toInt ≤ 128) ∧ va_P (dC, dI) vwCl [(h0, Sum.inr (10, [Value.ref h1, Value.int n0_size, Value.int m0_place, Value.ref h2])), (h1, Sum.inl (cint, 120, Sum.inl f1)), (h2, Sum.inr (4, [Value.ref h3, Value.int m2_size, Value.ref h4, Value.ref h5, Value.int n2_top])), (h3, Sum.inl (cint, 128, Sum.inl g3))] t.heap ∧ va_K (dC, dI) vwCl [] t ∧ va_D (va_A [(h0, Sum.inr (10, [Value.ref h1, Value.int n0_size, Value.int n0_place, Value.ref h2])), (h1, Sum.inl (cint, 120, Sum.inl f1)), (h2, Sum.inr (4, [Value.ref h3, Value.int n2_size, Value.ref h4, Value.ref h5, Value.int n2_top])), (h3, Sum.inl (cint, 128, Sum.inl f3))] sz) [(h0, Sum.inr (10, [Value.ref h1, Value.int n0_size, Value.int m0_place, Value.ref h2])), (h1, Sum.inl (cint, 120, Sum.inl f1)), (h2, Sum.inr (4, [Value.ref h3, Value.int m2_size, Value.ref h4, Value.ref h5, Value.int n2_top])), (h3, Sum.inl (cint, 128, Sum.inl g3))]) (va_A [(h0, Sum.inr (10, [Value.ref h1, Value.int n0_size, Value.int n0_place, Value.ref h2])), (h1, Sum.inl (cint, 120, Sum.inl f1)), (h2, Sum.inr (4, [Value.ref h3, Value.int n2_size, Value.ref h4, Value.ref h5, Value.int n2_top])), (h3, Sum.inl (cint, 128, Sum.inl f3))] sz)) 0 0 (va_A [(h0, Sum.inr (10, [Value.ref h1, Value.int n0_size, Value.int n0_place, Value.ref h2])), (h1, Sum.inl (cint, 120, Sum.inl f1)), (h2, Sum.inr (4, [Value.ref h3, Value.int n2_size, Value.ref h4, Value.ref h5, Value.int n2_top])), (h3, Sum.inl (cint, 128, Sum.inl f3))] sz) := by
  refine Met.ofW (cc := cX10_readChain) (maxL := 5) (ret := (some .boolean)) (by decide) rfl ?_
  intro p e s m args below meth c s₁ B hml hv
  obtain ⟨rfl, hsz, hP, hK, hD0, hZNAMES, hTNAMES⟩ := hv
  have hx := B.exec
  have hb := B.bytes
  have hr := B.returns
  have hts := atoms_spec (ws := wsX10_readChain) B.pre
  have hown : s.vm.findClass RX10 = some m.cls := findClass_of_methodNamed B.named
  have hlocks := B.notSynchronized
  subst hsz
  have hD := hD0.self (sz := s.heap.size)
  generalize hAe : va_A [(h0, Sum.inr (10, [Value.ref h1, Value.int n0_size, Value.int n0_place, Value.ref h2])), (h1, Sum.inl (cint, 120, Sum.inl f1)), (h2, Sum.inr (4, [Value.ref h3, Value.int n2_size, Value.ref h4, Value.ref h5, Value.int n2_top])), (h3, Sum.inl (cint, 128, Sum.inl f3))] s.heap.size = A at hD hZNAMES hTNAMES ⊢
  have hA : ∀ q : Nat, s.heap.size ≤ q → A q := fun q h => by rw [← hAe]; exact Or.inr h
  have hS : va_S A s.heap s.heap [] := va_S.rf
  have hP : va_P (dC, dI) vwCl [(h0, Sum.inr (10, [Value.ref h1, Value.int n0_size, Value.int n0_place, Value.ref h2])), (h1, Sum.inl (cint, 120, Sum.inl f1)), (h2, Sum.inr (4, [Value.ref h3, Value.int n2_size, Value.ref h4, Value.ref h5, Value.int n2_top])), (h3, Sum.inl (cint, 128, Sum.inl f3))] s.heap := hP
  have hl := lv_entry ([.ref h0, .int 1, .int 1]) (n := 5) (Nat.le_of_ble_eq_true rfl)
  rw [lg_entry_eq]
  generalize (lg_sl ([.ref h0, .int 1, .int 1]) ++ List.replicate (5 - (lg_sl ([.ref h0, .int 1, .int 1])).length) Slot.unset).toArray = ls at hl ⊢
  have hl : lv_has ls 5 [(0, .ref h0), (1, .int 1), (2, .int 1)] := hl
  refine lv_iload_n hx hb dX10_readChain_0 rfl (lv_at hl 1 rfl) ?_
  refine lv_iconst (v := 5) hx hb dX10_readChain_1 (by decide) ?_
  refine lv_icmp_lt (tgt := 11) hx hb dX10_readChain_2 (by decide) (fun _ => ?_) (fun c => absurd c (by decide))
  refine lv_aload_n hx hb dX10_readChain_11 rfl (lv_at hl 0 rfl) ?_
  refine lv_iload_n hx hb dX10_readChain_12 rfl (lv_at hl 1 rfl) ?_
  refine lv_iconst (v := 1) hx hb dX10_readChain_13 (by decide) ?_
  refine lv_iadd hx hb dX10_readChain_14 ?_
  refine lv_topi (fun y_1 e_1 => ?_)
  obtain rfl : y_1 = 2 := e_1.trans (by decide)
  refine lv_iload_n hx hb dX10_readChain_15 rfl (lv_at hl 2 rfl) ?_
  have hPc := hP.sub (ws' := [(h0, Sum.inr (10, [Value.ref h1, Value.int n0_size, Value.int n0_place, Value.ref h2])), (h1, Sum.inl (cint, 120, Sum.inl f1)), (h2, Sum.inr (4, [Value.ref h3, Value.int n2_size, Value.ref h4, Value.ref h5, Value.int n2_top])), (h3, Sum.inl (cint, 128, Sum.inl f3))]) [0, 1, 2, 3] rfl
  have hDc := hD.sub (ws' := [(h0, Sum.inr (10, [Value.ref h1, Value.int n0_size, Value.int n0_place, Value.ref h2])), (h1, Sum.inl (cint, 120, Sum.inl f1)), (h2, Sum.inr (4, [Value.ref h3, Value.int n2_size, Value.ref h4, Value.ref h5, Value.int n2_top])), (h3, Sum.inl (cint, 128, Sum.inl f3))]) [0, 1, 2, 3] (by decide) rfl
  have hKc := hK.sub (tys' := [(cint, .int)]) [0] rfl
  have hFc := va_free (wc := [(h0, Sum.inr (10, [Value.ref h1, Value.int n0_size, Value.int n0_place, Value.ref h2])), (h1, Sum.inl (cint, 120, Sum.inl f1)), (h2, Sum.inr (4, [Value.ref h3, Value.int n2_size, Value.ref h4, Value.ref h5, Value.int n2_top])), (h3, Sum.inl (cint, 128, Sum.inl f3))]) hD hS hA [0, 1, 2, 3] rfl
  refine va_calli (va_runV (As := [.int 2, .int 1]) (rest := []) ⟨hx, hb, hml, hown, hts⟩ (g_X10_readChain_33 l dC dI h0 h1 h2 h3 h4 h5 cint s.heap.size n0_size n0_place f1 n2_size n2_top f3 tn0_size bf1 tn2_size tn2_top aNAMES) (cwV 2 hts gX10_readChain_X10_readChain rfl rfl rfl (by decide +kernel) ⟨Nat.le_of_ble_eq_true rfl, Nat.le_of_ble_eq_true rfl⟩) ⟨fun a U g mk q => by obtain ⟨q0, q1, qP, qK, qD, qx0, qx1⟩ := q; exact ⟨q0, q1, qP, va_K.moved (u := U) (U := U.calling g mk a) (Vm.Alike.refl U.vm) qK, qD, va_Z.moved (u := U) (U := U.calling g mk a) (Vm.Alike.refl U.vm) qx0, va_T.moved (u := U) (U := U.calling g mk a) (Vm.Alike.refl U.vm) qx1⟩, va_recv hKc hPc (ci := 10) (q0 := 0) rfl rfl, fun U hU hW => ⟨rfl, by rw [hU], by rw [hU]; exact hPc, va_K.moved hW.alike hKc, hDc.weaken (fun _ _ _ _ => trivial), by rw [hU]; exact ((hZNAMES.kept (fun a h1 h2 => hS.2.1 a h1 h2)).narrow hFc).moved hW.alike, by rw [hU]; exact ((hTNAMES.kept (fun a h1 h2 => hS.2.1 a h1 h2)).narrow hFc).moved hW.alike⟩⟩ rfl rfl hl.1 rfl (lv_room (Nat.le_of_ble_eq_true rfl)) dX10_readChain_16 ⟨Nat.le_of_ble_eq_true rfl, Nat.le_of_ble_eq_true rfl⟩) hS (fun q _ h => hFc q h) hFc (fun r_2 u t H1 locs ht hvm hw hB hz1 hk1 hS => ?_)
  obtain ⟨y_3, y_4, f_5, by_4, hP1, hK1, hD1⟩ := hB
  rw [ht] at hP1
  have hK1 := va_K.moved hvm.symm hK1
  obtain ⟨hP, hD⟩ := va_join (wr := []) (w1 := [(h0, Sum.inr (10, [Value.ref h1, Value.int n0_size, Value.int y_3, Value.ref h2])), (h1, Sum.inl (cint, 120, Sum.inl f1)), (h2, Sum.inr (4, [Value.ref h3, Value.int y_4, Value.ref h4, Value.ref h5, Value.int n2_top])), (h3, Sum.inl (cint, 128, Sum.inl f_5))]) hP hD [0, 1, 2, 3] [] rfl rfl (by decide) (by decide) hk1 hFc hP1 hD1
  generalize H1 = H at hP hS ⊢
  have hP : va_P (dC, dI) vwCl [(h0, Sum.inr (10, [Value.ref h1, Value.int n0_size, Value.int y_3, Value.ref h2])), (h1, Sum.inl (cint, 120, Sum.inl f1)), (h2, Sum.inr (4, [Value.ref h3, Value.int y_4, Value.ref h4, Value.ref h5, Value.int n2_top])), (h3, Sum.inl (cint, 128, Sum.inl f_5))] H := hP
  have hD : va_D A [(h0, Sum.inr (10, [Value.ref h1, Value.int n0_size, Value.int y_3, Value.ref h2])), (h1, Sum.inl (cint, 120, Sum.inl f1)), (h2, Sum.inr (4, [Value.ref h3, Value.int y_4, Value.ref h4, Value.ref h5, Value.int n2_top])), (h3, Sum.inl (cint, 128, Sum.inl f_5))] := hD
  have t_2 : 0 ≤ r_2.toInt ∧ r_2.toInt ≤ 1 := hw
  refine lv_if_ne (tgt := 24) hx hb dX10_readChain_19 (by decide) (fun c_6 => ?_) (fun c_6 => ?_)
  · have t_6 : r_2.toInt ≠ 0 := kk_ne c_6
    refine lv_iconst (v := 0) hx hb dX10_readChain_24 (by decide) ?_
    refine lv_istore_n (lv' := [(3, .int 0), (0, .ref h0), (1, .int 1), (2, .int 1)]) hx hb dX10_readChain_25 rfl hl (by decide) rfl (fun ls hl => ?_)
    refine kk_loop (σ := Int32 × Int32 × Int32 × (Nat → Int32)) (fun x H locs ls => (0 ≤ x.1.toInt ∧ x.1.toInt ≤ 120) ∧ (0 ≤ x.2.2.1.toInt ∧ x.2.2.1.toInt ≤ 128) ∧ va_P (dC, dI) vwCl [(h0, Sum.inr (10, [Value.ref h1, Value.int n0_size, Value.int x.2.1, Value.ref h2])), (h1, Sum.inl (cint, 120, Sum.inl f1)), (h2, Sum.inr (4, [Value.ref h3, Value.int x.2.2.1, Value.ref h4, Value.ref h5, Value.int n2_top])), (h3, Sum.inl (cint, 128, Sum.inl x.2.2.2))] H ∧ va_D A [(h0, Sum.inr (10, [Value.ref h1, Value.int n0_size, Value.int x.2.1, Value.ref h2])), (h1, Sum.inl (cint, 120, Sum.inl f1)), (h2, Sum.inr (4, [Value.ref h3, Value.int x.2.2.1, Value.ref h4, Value.ref h5, Value.int n2_top])), (h3, Sum.inl (cint, 128, Sum.inl x.2.2.2))] ∧ va_S A s.heap H locs ∧ lv_has ls 5 [(3, .int x.1), (0, .ref h0), (1, .int 1), (2, .int 1)]) (fun x => ((120 : Int) - x.1.toInt).toNat) ?_ (0, y_3, y_4, f_5) _ _ _ ⟨(by show 0 ≤ (0 : Int32).toInt ∧ (0 : Int32).toInt ≤ 120; first | decide | (constructor <;> (omega))), (by show 0 ≤ (y_4 : Int32).toInt ∧ (y_4 : Int32).toInt ≤ 128; first | decide | (constructor <;> (omega))), hP, hD, hS, hl⟩
    rintro ⟨i_7_0, i_7_1, i_7_2, f_7_3⟩ H locs ls ⟨t_7_0, t_7_2, hP, hD, hS, hl⟩ ih_7
    have t_7_0 : (0 ≤ i_7_0.toInt ∧ i_7_0.toInt ≤ 120) := t_7_0
    have t_7_2 : (0 ≤ i_7_2.toInt ∧ i_7_2.toInt ≤ 128) := t_7_2
    have hl : lv_has ls 5 [(3, .int i_7_0), (0, .ref h0), (1, .int 1), (2, .int 1)] := hl
    have hP : va_P (dC, dI) vwCl [(h0, Sum.inr (10, [Value.ref h1, Value.int n0_size, Value.int i_7_1, Value.ref h2])), (h1, Sum.inl (cint, 120, Sum.inl f1)), (h2, Sum.inr (4, [Value.ref h3, Value.int i_7_2, Value.ref h4, Value.ref h5, Value.int n2_top])), (h3, Sum.inl (cint, 128, Sum.inl f_7_3))] H := hP
    have hD : va_D A [(h0, Sum.inr (10, [Value.ref h1, Value.int n0_size, Value.int i_7_1, Value.ref h2])), (h1, Sum.inl (cint, 120, Sum.inl f1)), (h2, Sum.inr (4, [Value.ref h3, Value.int i_7_2, Value.ref h4, Value.ref h5, Value.int n2_top])), (h3, Sum.inl (cint, 128, Sum.inl f_7_3))] := hD
    refine lv_iload_n hx hb dX10_readChain_26 rfl (lv_at hl 0 rfl) ?_
    refine lv_bipush (v := 120) hx hb dX10_readChain_27 (by decide) ?_
    refine lv_icmp_ge (tgt := 94) hx hb dX10_readChain_29 (by decide) (fun c_119 => ?_) (fun c_119 => ?_)
    · have t_119 : 120 ≤ i_7_0.toInt := kk_le c_119
      refine lv_iconst (v := 1) hx hb dX10_readChain_94 (by decide) ?_
      have hP9 := hP.sub (ws' := [(h0, Sum.inr (10, [Value.ref h1, Value.int n0_size, Value.int i_7_1, Value.ref h2])), (h1, Sum.inl (cint, 120, Sum.inl f1)), (h2, Sum.inr (4, [Value.ref h3, Value.int i_7_2, Value.ref h4, Value.ref h5, Value.int n2_top])), (h3, Sum.inl (cint, 128, Sum.inl f_7_3))]) [0, 1, 2, 3] rfl
      have hD9 := hD.sub (ws' := [(h0, Sum.inr (10, [Value.ref h1, Value.int n0_size, Value.int i_7_1, Value.ref h2])), (h1, Sum.inl (cint, 120, Sum.inl f1)), (h2, Sum.inr (4, [Value.ref h3, Value.int i_7_2, Value.ref h4, Value.ref h5, Value.int n2_top])), (h3, Sum.inl (cint, 128, Sum.inl f_7_3))]) [0, 1, 2, 3] (by decide) rfl
      have hK9 := hK.sub (tys' := []) [] rfl
      exact W.zret (v := 1) hx hb hr rfl (fun t ht hW => ⟨⟨1, (), rfl, (by show 0 ≤ (1 : Int32).toInt ∧ (1 : Int32).toInt ≤ 1; first | decide | (constructor <;> (omega))), i_7_1, i_7_2, f_7_3, (by show 0 ≤ (i_7_2 : Int32).toInt ∧ (i_7_2 : Int32).toInt ≤ 128; first | decide | (constructor <;> (omega))), by rw [ht]; exact hP9, va_K.moved hW.alike hK9, hD9⟩, hS.F ht⟩) hS.2.2 dX10_readChain_95
    · have t_119 : i_7_0.toInt < 120 := kk_nle c_119
      refine lv_iload_n hx hb dX10_readChain_32 rfl (lv_at hl 2 rfl) ?_
      refine lv_aload_n hx hb dX10_readChain_33 rfl (lv_at hl 1 rfl) ?_
      have hPc := hP.sub (ws' := [(h0, Sum.inr (10, [Value.ref h1, Value.int n0_size, Value.int i_7_1, Value.ref h2])), (h1, Sum.inl (cint, 120, Sum.inl f1))]) [0, 1] rfl
      have hDc := hD.sub (ws' := [(h0, Sum.inr (10, [Value.ref h1, Value.int n0_size, Value.int i_7_1, Value.ref h2])), (h1, Sum.inl (cint, 120, Sum.inl f1))]) [0, 1] (by decide) rfl
      have hKc := hK.sub (tys' := [(cint, .int)]) [0] rfl
      have hFc := va_free (wc := [(h0, Sum.inr (10, [Value.ref h1, Value.int n0_size, Value.int i_7_1, Value.ref h2])), (h1, Sum.inl (cint, 120, Sum.inl f1))]) hD hS hA [0, 1] rfl
      refine va_calli (va_runV (As := []) (rest := [.int 1]) ⟨hx, hb, hml, hown, hts⟩ (g_X10_next_0 l dC dI h0 h1 h2 cint H.size n0_size i_7_1 f1 tn0_size bf1) (cwV 0 hts gX10_readChain_X10_next rfl rfl rfl (by decide +kernel) ⟨Nat.le_of_ble_eq_true rfl, Nat.le_of_ble_eq_true rfl⟩) ⟨fun a U g mk q => by obtain ⟨q0, q1, qP, qK, qD⟩ := q; exact ⟨q0, q1, qP, va_K.moved (u := U) (U := U.calling g mk a) (Vm.Alike.refl U.vm) qK, qD⟩, va_recv hKc hPc (ci := 10) (q0 := 0) rfl rfl, fun U hU hW => ⟨rfl, by rw [hU], by rw [hU]; exact hPc, va_K.moved hW.alike hKc, hDc.weaken (fun _ _ _ _ => trivial)⟩⟩ rfl rfl hl.1 rfl (lv_room (Nat.le_of_ble_eq_true rfl)) dX10_readChain_34 ⟨Nat.le_of_ble_eq_true rfl, Nat.le_of_ble_eq_true rfl⟩) hS (fun q _ h => hFc q h) hFc (fun r_120 u t H1 locs ht hvm hw hB hz1 hk1 hS => ?_)
      obtain ⟨hP1, hK1, hD1⟩ := hB
      rw [ht] at hP1
      have hK1 := va_K.moved hvm.symm hK1
      obtain ⟨hP, hD⟩ := va_join (wr := [(h2, Sum.inr (4, [Value.ref h3, Value.int i_7_2, Value.ref h4, Value.ref h5, Value.int n2_top])), (h3, Sum.inl (cint, 128, Sum.inl f_7_3))]) (w1 := [(h0, Sum.inr (10, [Value.ref h1, Value.int n0_size, Value.int i_7_1, Value.ref h2])), (h1, Sum.inl (cint, 120, Sum.inl f1))]) hP hD [0, 1] [2, 3] rfl rfl (by decide) (by decide) hk1 hFc hP1 hD1
      generalize H1 = H at hP hS ⊢
      have hP : va_P (dC, dI) vwCl [(h2, Sum.inr (4, [Value.ref h3, Value.int i_7_2, Value.ref h4, Value.ref h5, Value.int n2_top])), (h3, Sum.inl (cint, 128, Sum.inl f_7_3)), (h0, Sum.inr (10, [Value.ref h1, Value.int n0_size, Value.int i_7_1, Value.ref h2])), (h1, Sum.inl (cint, 120, Sum.inl f1))] H := hP
      have hD : va_D A [(h2, Sum.inr (4, [Value.ref h3, Value.int i_7_2, Value.ref h4, Value.ref h5, Value.int n2_top])), (h3, Sum.inl (cint, 128, Sum.inl f_7_3)), (h0, Sum.inr (10, [Value.ref h1, Value.int n0_size, Value.int i_7_1, Value.ref h2])), (h1, Sum.inl (cint, 120, Sum.inl f1))] := hD
      have t_120 : (-1) ≤ r_120.toInt ∧ r_120.toInt ≤ 255 := hw
      have hPc := hP.sub (ws' := []) [] rfl
      have hDc := hD.sub (ws' := []) [] (by decide) rfl
      have hKc := hK.sub (tys' := []) [] rfl
      have hFc := va_free (wc := []) hD hS hA [] rfl
      refine va_calli (va_runS (As := [.int 1, .int r_120]) (rest := []) ⟨hx, hb, hml, hown, hts⟩ (g_X10_joins_3 l dC dI H.size r_120) (va_cwS 2 hts gX10_readChain_X10_joins rfl rfl rfl (by decide +kernel) ⟨Nat.le_of_ble_eq_true rfl, Nat.le_of_ble_eq_true rfl⟩) ⟨fun a U g mk q => by obtain ⟨q0, q1, qP, qK, qD⟩ := q; exact ⟨q0, q1, qP, va_K.moved (u := U) (U := U.calling g mk a) (Vm.Alike.refl U.vm) qK, qD⟩, fun U hU hW => ⟨rfl, by rw [hU], by rw [hU]; exact hPc, va_K.moved hW.alike hKc, hDc.weaken (fun _ _ _ _ => trivial)⟩⟩ rfl rfl hl.1 rfl (lv_room (Nat.le_of_ble_eq_true rfl)) dX10_readChain_37 ⟨Nat.le_of_ble_eq_true rfl, Nat.le_of_ble_eq_true rfl⟩) hS (fun q _ h => hFc q h) hFc (fun r_121 u t H1 locs ht hvm hw hB hz1 hk1 hS => ?_)
      obtain ⟨hP1, hK1, hD1⟩ := hB
      rw [ht] at hP1
      have hK1 := va_K.moved hvm.symm hK1
      obtain ⟨hP, hD⟩ := va_join (wr := [(h2, Sum.inr (4, [Value.ref h3, Value.int i_7_2, Value.ref h4, Value.ref h5, Value.int n2_top])), (h3, Sum.inl (cint, 128, Sum.inl f_7_3)), (h0, Sum.inr (10, [Value.ref h1, Value.int n0_size, Value.int i_7_1, Value.ref h2])), (h1, Sum.inl (cint, 120, Sum.inl f1))]) (w1 := []) hP hD [] [0, 1, 2, 3] rfl rfl (by decide) (by decide) hk1 hFc hP1 hD1
      generalize H1 = H at hP hS ⊢
      have hP : va_P (dC, dI) vwCl [(h2, Sum.inr (4, [Value.ref h3, Value.int i_7_2, Value.ref h4, Value.ref h5, Value.int n2_top])), (h3, Sum.inl (cint, 128, Sum.inl f_7_3)), (h0, Sum.inr (10, [Value.ref h1, Value.int n0_size, Value.int i_7_1, Value.ref h2])), (h1, Sum.inl (cint, 120, Sum.inl f1))] H := hP
      have hD : va_D A [(h2, Sum.inr (4, [Value.ref h3, Value.int i_7_2, Value.ref h4, Value.ref h5, Value.int n2_top])), (h3, Sum.inl (cint, 128, Sum.inl f_7_3)), (h0, Sum.inr (10, [Value.ref h1, Value.int n0_size, Value.int i_7_1, Value.ref h2])), (h1, Sum.inl (cint, 120, Sum.inl f1))] := hD
      have t_121 : 0 ≤ r_121.toInt ∧ r_121.toInt ≤ 1 := hw
      refine lv_if_eq (tgt := 94) hx hb dX10_readChain_40 (by decide) (fun c_122 => ?_) (fun c_122 => ?_)
      · have t_122 : r_121.toInt = 0 := kk_eq c_122
        refine lv_iconst (v := 1) hx hb dX10_readChain_94 (by decide) ?_
        have hP9 := hP.sub (ws' := [(h0, Sum.inr (10, [Value.ref h1, Value.int n0_size, Value.int i_7_1, Value.ref h2])), (h1, Sum.inl (cint, 120, Sum.inl f1)), (h2, Sum.inr (4, [Value.ref h3, Value.int i_7_2, Value.ref h4, Value.ref h5, Value.int n2_top])), (h3, Sum.inl (cint, 128, Sum.inl f_7_3))]) [2, 3, 0, 1] rfl
        have hD9 := hD.sub (ws' := [(h0, Sum.inr (10, [Value.ref h1, Value.int n0_size, Value.int i_7_1, Value.ref h2])), (h1, Sum.inl (cint, 120, Sum.inl f1)), (h2, Sum.inr (4, [Value.ref h3, Value.int i_7_2, Value.ref h4, Value.ref h5, Value.int n2_top])), (h3, Sum.inl (cint, 128, Sum.inl f_7_3))]) [2, 3, 0, 1] (by decide) rfl
        have hK9 := hK.sub (tys' := []) [] rfl
        exact W.zret (v := 1) hx hb hr rfl (fun t ht hW => ⟨⟨1, (), rfl, (by show 0 ≤ (1 : Int32).toInt ∧ (1 : Int32).toInt ≤ 1; first | decide | (constructor <;> (omega))), i_7_1, i_7_2, f_7_3, (by show 0 ≤ (i_7_2 : Int32).toInt ∧ (i_7_2 : Int32).toInt ≤ 128; first | decide | (constructor <;> (omega))), by rw [ht]; exact hP9, va_K.moved hW.alike hK9, hD9⟩, hS.F ht⟩) hS.2.2 dX10_readChain_95
      · have t_122 : r_121.toInt ≠ 0 := kk_ne c_122
        refine lv_aload_n hx hb dX10_readChain_43 rfl (lv_at hl 1 rfl) ?_
        have hPc := hP.sub (ws' := [(h0, Sum.inr (10, [Value.ref h1, Value.int n0_size, Value.int i_7_1, Value.ref h2])), (h1, Sum.inl (cint, 120, Sum.inl f1))]) [2, 3] rfl
        have hDc := hD.sub (ws' := [(h0, Sum.inr (10, [Value.ref h1, Value.int n0_size, Value.int i_7_1, Value.ref h2])), (h1, Sum.inl (cint, 120, Sum.inl f1))]) [2, 3] (by decide) rfl
        have hKc := hK.sub (tys' := [(cint, .int)]) [0] rfl
        have hFc := va_free (wc := [(h0, Sum.inr (10, [Value.ref h1, Value.int n0_size, Value.int i_7_1, Value.ref h2])), (h1, Sum.inl (cint, 120, Sum.inl f1))]) hD hS hA [2, 3] rfl
        refine va_calli (va_runV (As := []) (rest := []) ⟨hx, hb, hml, hown, hts⟩ (g_X10_next_0 l dC dI h0 h1 h2 cint H.size n0_size i_7_1 f1 tn0_size bf1) (cwV 0 hts gX10_readChain_X10_next rfl rfl rfl (by decide +kernel) ⟨Nat.le_of_ble_eq_true rfl, Nat.le_of_ble_eq_true rfl⟩) ⟨fun a U g mk q => by obtain ⟨q0, q1, qP, qK, qD⟩ := q; exact ⟨q0, q1, qP, va_K.moved (u := U) (U := U.calling g mk a) (Vm.Alike.refl U.vm) qK, qD⟩, va_recv hKc hPc (ci := 10) (q0 := 0) rfl rfl, fun U hU hW => ⟨rfl, by rw [hU], by rw [hU]; exact hPc, va_K.moved hW.alike hKc, hDc.weaken (fun _ _ _ _ => trivial)⟩⟩ rfl rfl hl.1 rfl (lv_room (Nat.le_of_ble_eq_true rfl)) dX10_readChain_44 ⟨Nat.le_of_ble_eq_true rfl, Nat.le_of_ble_eq_true rfl⟩) hS (fun q _ h => hFc q h) hFc (fun r_123 u t H1 locs ht hvm hw hB hz1 hk1 hS => ?_)
        obtain ⟨hP1, hK1, hD1⟩ := hB
        rw [ht] at hP1
        have hK1 := va_K.moved hvm.symm hK1
        obtain ⟨hP, hD⟩ := va_join (wr := [(h2, Sum.inr (4, [Value.ref h3, Value.int i_7_2, Value.ref h4, Value.ref h5, Value.int n2_top])), (h3, Sum.inl (cint, 128, Sum.inl f_7_3))]) (w1 := [(h0, Sum.inr (10, [Value.ref h1, Value.int n0_size, Value.int i_7_1, Value.ref h2])), (h1, Sum.inl (cint, 120, Sum.inl f1))]) hP hD [2, 3] [0, 1] rfl rfl (by decide) (by decide) hk1 hFc hP1 hD1
        generalize H1 = H at hP hS ⊢
        have hP : va_P (dC, dI) vwCl [(h2, Sum.inr (4, [Value.ref h3, Value.int i_7_2, Value.ref h4, Value.ref h5, Value.int n2_top])), (h3, Sum.inl (cint, 128, Sum.inl f_7_3)), (h0, Sum.inr (10, [Value.ref h1, Value.int n0_size, Value.int i_7_1, Value.ref h2])), (h1, Sum.inl (cint, 120, Sum.inl f1))] H := hP
        have hD : va_D A [(h2, Sum.inr (4, [Value.ref h3, Value.int i_7_2, Value.ref h4, Value.ref h5, Value.int n2_top])), (h3, Sum.inl (cint, 128, Sum.inl f_7_3)), (h0, Sum.inr (10, [Value.ref h1, Value.int n0_size, Value.int i_7_1, Value.ref h2])), (h1, Sum.inl (cint, 120, Sum.inl f1))] := hD
        have t_123 : (-1) ≤ r_123.toInt ∧ r_123.toInt ≤ 255 := hw
        refine lv_istore (lv' := [(4, .int r_123), (3, .int i_7_0), (0, .ref h0), (1, .int 1), (2, .int 1)]) hx hb dX10_readChain_47 hl (by decide) rfl (fun ls hl => ?_)
        refine lv_aload_n hx hb dX10_readChain_49 rfl (lv_at hl 2 rfl) ?_
        refine lv_dup hx hb dX10_readChain_50 rfl ?_
        refine va_get (D := (dC, dI)) (ci := 10) (v := .int i_7_1) (C := RX10) (T := TX10) (N := 4) hx hb hts (fun _ h => List.mem_cons_of_mem _ (List.mem_append_left _ (List.mem_append_right _ h))) hown hK hP 2 rfl rfl 2 (by decide) (hts (.fieldLink RX10 17 "KinkStreet$Tape" "place" "I") (List.mem_of_getElem? (i := 1) rfl)) (fun _ h9 => h9) rfl dX10_readChain_51 ?_
        refine lv_iconst (v := 1) hx hb dX10_readChain_54 (by decide) ?_
        refine lv_iadd hx hb dX10_readChain_55 ?_
        refine va_put (D := (dC, dI)) (ci := 10) (v := .int (i_7_1 + 1)) (ty := .int) (C := RX10) (T := TX10) (N := 4) hx hb hts (fun _ h => List.mem_cons_of_mem _ (List.mem_append_left _ (List.mem_append_right _ h))) tyX10 tyX10_ok nmX10 hown hK hP hD hS 2 rfl rfl 2 (by decide) (hts (.fieldLink RX10 17 "KinkStreet$Tape" "place" "I") (List.mem_of_getElem? (i := 1) rfl)) (fun _ h9 => h9) rfl (by decide +kernel) rfl rfl (Nat.le_of_ble_eq_true rfl) dX10_readChain_56 (fun H locs hP hD hS => ?_)
        have hP : va_P (dC, dI) vwCl [(h2, Sum.inr (4, [Value.ref h3, Value.int i_7_2, Value.ref h4, Value.ref h5, Value.int n2_top])), (h3, Sum.inl (cint, 128, Sum.inl f_7_3)), (h0, Sum.inr (10, [Value.ref h1, Value.int n0_size, Value.int (i_7_1 + 1), Value.ref h2])), (h1, Sum.inl (cint, 120, Sum.inl f1))] H := hP
        have hD : va_D A [(h2, Sum.inr (4, [Value.ref h3, Value.int i_7_2, Value.ref h4, Value.ref h5, Value.int n2_top])), (h3, Sum.inl (cint, 128, Sum.inl f_7_3)), (h0, Sum.inr (10, [Value.ref h1, Value.int n0_size, Value.int (i_7_1 + 1), Value.ref h2])), (h1, Sum.inl (cint, 120, Sum.inl f1))] := hD
        refine lv_aload_n hx hb dX10_readChain_59 rfl (lv_at hl 2 rfl) ?_
        refine lv_iload_n hx hb dX10_readChain_60 rfl (lv_at hl 3 rfl) ?_
        refine lv_iconst (v := 1) hx hb dX10_readChain_61 (by decide) ?_
        refine lv_iadd hx hb dX10_readChain_62 ?_
        refine lv_topi (fun y_124 e_124 => ?_)
        obtain rfl : y_124 = 2 := e_124.trans (by decide)
        refine lv_iload_n hx hb dX10_readChain_63 rfl (lv_at hl 4 rfl) ?_
        have hPc := hP.sub (ws' := [(h0, Sum.inr (10, [Value.ref h1, Value.int n0_size, Value.int (i_7_1 + 1), Value.ref h2])), (h1, Sum.inl (cint, 120, Sum.inl f1)), (h2, Sum.inr (4, [Value.ref h3, Value.int i_7_2, Value.ref h4, Value.ref h5, Value.int n2_top])), (h3, Sum.inl (cint, 128, Sum.inl f_7_3))]) [2, 3, 0, 1] rfl
        have hDc := hD.sub (ws' := [(h0, Sum.inr (10, [Value.ref h1, Value.int n0_size, Value.int (i_7_1 + 1), Value.ref h2])), (h1, Sum.inl (cint, 120, Sum.inl f1)), (h2, Sum.inr (4, [Value.ref h3, Value.int i_7_2, Value.ref h4, Value.ref h5, Value.int n2_top])), (h3, Sum.inl (cint, 128, Sum.inl f_7_3))]) [2, 3, 0, 1] (by decide) rfl
        have hKc := hK.sub (tys' := [(cint, .int)]) [0] rfl
        have hFc := va_free (wc := [(h0, Sum.inr (10, [Value.ref h1, Value.int n0_size, Value.int (i_7_1 + 1), Value.ref h2])), (h1, Sum.inl (cint, 120, Sum.inl f1)), (h2, Sum.inr (4, [Value.ref h3, Value.int i_7_2, Value.ref h4, Value.ref h5, Value.int n2_top])), (h3, Sum.inl (cint, 128, Sum.inl f_7_3))]) hD hS hA [2, 3, 0, 1] rfl
        refine va_calli (va_runV (As := [.int 2, .int 1]) (rest := []) ⟨hx, hb, hml, hown, hts⟩ (g_X10_readChain_33 l dC dI h0 h1 h2 h3 h4 h5 cint H.size n0_size (i_7_1 + 1) f1 i_7_2 n2_top f_7_3 tn0_size bf1 (by show 0 ≤ (i_7_2 : Int32).toInt ∧ (i_7_2 : Int32).toInt ≤ 128; first | decide | (constructor <;> (omega))) tn2_top aNAMES) (cwV 2 hts gX10_readChain_X10_readChain rfl rfl rfl (by decide +kernel) ⟨Nat.le_of_ble_eq_true rfl, Nat.le_of_ble_eq_true rfl⟩) ⟨fun a U g mk q => by obtain ⟨q0, q1, qP, qK, qD, qx0, qx1⟩ := q; exact ⟨q0, q1, qP, va_K.moved (u := U) (U := U.calling g mk a) (Vm.Alike.refl U.vm) qK, qD, va_Z.moved (u := U) (U := U.calling g mk a) (Vm.Alike.refl U.vm) qx0, va_T.moved (u := U) (U := U.calling g mk a) (Vm.Alike.refl U.vm) qx1⟩, va_recv hKc hPc (ci := 10) (q0 := 0) rfl rfl, fun U hU hW => ⟨rfl, by rw [hU], by rw [hU]; exact hPc, va_K.moved hW.alike hKc, hDc.weaken (fun _ _ _ _ => trivial), by rw [hU]; exact ((hZNAMES.kept (fun a h1 h2 => hS.2.1 a h1 h2)).narrow hFc).moved hW.alike, by rw [hU]; exact ((hTNAMES.kept (fun a h1 h2 => hS.2.1 a h1 h2)).narrow hFc).moved hW.alike⟩⟩ rfl rfl hl.1 rfl (lv_room (Nat.le_of_ble_eq_true rfl)) dX10_readChain_64 ⟨Nat.le_of_ble_eq_true rfl, Nat.le_of_ble_eq_true rfl⟩) hS (fun q _ h => hFc q h) hFc (fun r_125 u t H1 locs ht hvm hw hB hz1 hk1 hS => ?_)
        obtain ⟨y_126, y_127, f_128, by_127, hP1, hK1, hD1⟩ := hB
        rw [ht] at hP1
        have hK1 := va_K.moved hvm.symm hK1
        obtain ⟨hP, hD⟩ := va_join (wr := []) (w1 := [(h0, Sum.inr (10, [Value.ref h1, Value.int n0_size, Value.int y_126, Value.ref h2])), (h1, Sum.inl (cint, 120, Sum.inl f1)), (h2, Sum.inr (4, [Value.ref h3, Value.int y_127, Value.ref h4, Value.ref h5, Value.int n2_top])), (h3, Sum.inl (cint, 128, Sum.inl f_128))]) hP hD [2, 3, 0, 1] [] rfl rfl (by decide) (by decide) hk1 hFc hP1 hD1
        generalize H1 = H at hP hS ⊢
        have hP : va_P (dC, dI) vwCl [(h0, Sum.inr (10, [Value.ref h1, Value.int n0_size, Value.int y_126, Value.ref h2])), (h1, Sum.inl (cint, 120, Sum.inl f1)), (h2, Sum.inr (4, [Value.ref h3, Value.int y_127, Value.ref h4, Value.ref h5, Value.int n2_top])), (h3, Sum.inl (cint, 128, Sum.inl f_128))] H := hP
        have hD : va_D A [(h0, Sum.inr (10, [Value.ref h1, Value.int n0_size, Value.int y_126, Value.ref h2])), (h1, Sum.inl (cint, 120, Sum.inl f1)), (h2, Sum.inr (4, [Value.ref h3, Value.int y_127, Value.ref h4, Value.ref h5, Value.int n2_top])), (h3, Sum.inl (cint, 128, Sum.inl f_128))] := hD
        have t_125 : 0 ≤ r_125.toInt ∧ r_125.toInt ≤ 1 := hw
        refine lv_if_ne (tgt := 72) hx hb dX10_readChain_67 (by decide) (fun c_129 => ?_) (fun c_129 => ?_)
        · have t_129 : r_125.toInt ≠ 0 := kk_ne c_129
          refine lv_aload_n hx hb dX10_readChain_72 rfl (lv_at hl 2 rfl) ?_
          refine va_get (D := (dC, dI)) (ci := 10) (v := .ref h2) (C := RX10) (T := TX10) (N := 4) hx hb hts (fun _ h => List.mem_cons_of_mem _ (List.mem_append_left _ (List.mem_append_right _ h))) hown hK hP 0 rfl rfl 3 (by decide) (hts (.fieldLink RX10 20 "KinkStreet$Tape" "law" "LKinkStreet$Law;") (List.mem_of_getElem? (i := 2) rfl)) (fun _ h9 => h9) rfl dX10_readChain_73 ?_
          refine lv_iload hx hb dX10_readChain_76 (lv_at hl 0 rfl) ?_
          have hPc := hP.sub (ws' := [(h2, Sum.inr (4, [Value.ref h3, Value.int y_127, Value.ref h4, Value.ref h5, Value.int n2_top])), (h3, Sum.inl (cint, 128, Sum.inl f_128))]) [2, 3] rfl
          have hDc := hD.sub (ws' := [(h2, Sum.inr (4, [Value.ref h3, Value.int y_127, Value.ref h4, Value.ref h5, Value.int n2_top])), (h3, Sum.inl (cint, 128, Sum.inl f_128))]) [2, 3] (by decide) rfl
          have hKc := hK.sub (tys' := [(cint, .int)]) [0] rfl
          have hFc := va_free (wc := [(h2, Sum.inr (4, [Value.ref h3, Value.int y_127, Value.ref h4, Value.ref h5, Value.int n2_top])), (h3, Sum.inl (cint, 128, Sum.inl f_128))]) hD hS hA [2, 3] rfl
          refine va_callv (va_runV (As := [.int r_123]) (rest := []) ⟨hx, hb, hml, hown, hts⟩ (g_X4_append_0 l dC dI h2 h3 h4 h5 cint H.size r_123 y_127 n2_top f_128 (by show 0 ≤ (y_127 : Int32).toInt ∧ (y_127 : Int32).toInt ≤ 128; first | decide | (constructor <;> (omega))) tn2_top) (cwV 1 hts gX10_readChain_X4_append rfl rfl rfl (by decide +kernel) ⟨Nat.le_of_ble_eq_true rfl, Nat.le_of_ble_eq_true rfl⟩) ⟨fun a U g mk q => by obtain ⟨q0, q1, qP, qK, qD⟩ := q; exact ⟨q0, q1, qP, va_K.moved (u := U) (U := U.calling g mk a) (Vm.Alike.refl U.vm) qK, qD⟩, va_recv hKc hPc (ci := 4) (q0 := 0) rfl rfl, fun U hU hW => ⟨rfl, by rw [hU], by rw [hU]; exact hPc, va_K.moved hW.alike hKc, hDc.weaken (fun _ _ _ _ => trivial)⟩⟩ rfl rfl hl.1 rfl (lv_room (Nat.le_of_ble_eq_true rfl)) dX10_readChain_78 ⟨Nat.le_of_ble_eq_true rfl, Nat.le_of_ble_eq_true rfl⟩) hS (fun q _ h => hFc q h) hFc (fun u t H1 locs ht hvm hw hB hz1 hk1 hS => ?_)
          obtain ⟨y_131, f_132, by_131, hP1, hK1, hD1⟩ := hB
          rw [ht] at hP1
          have hK1 := va_K.moved hvm.symm hK1
          obtain ⟨hP, hD⟩ := va_join (wr := [(h0, Sum.inr (10, [Value.ref h1, Value.int n0_size, Value.int y_126, Value.ref h2])), (h1, Sum.inl (cint, 120, Sum.inl f1))]) (w1 := [(h2, Sum.inr (4, [Value.ref h3, Value.int y_131, Value.ref h4, Value.ref h5, Value.int n2_top])), (h3, Sum.inl (cint, 128, Sum.inl f_132))]) hP hD [2, 3] [0, 1] rfl rfl (by decide) (by decide) hk1 hFc hP1 hD1
          generalize H1 = H at hP hS ⊢
          have hP : va_P (dC, dI) vwCl [(h0, Sum.inr (10, [Value.ref h1, Value.int n0_size, Value.int y_126, Value.ref h2])), (h1, Sum.inl (cint, 120, Sum.inl f1)), (h2, Sum.inr (4, [Value.ref h3, Value.int y_131, Value.ref h4, Value.ref h5, Value.int n2_top])), (h3, Sum.inl (cint, 128, Sum.inl f_132))] H := hP
          have hD : va_D A [(h0, Sum.inr (10, [Value.ref h1, Value.int n0_size, Value.int y_126, Value.ref h2])), (h1, Sum.inl (cint, 120, Sum.inl f1)), (h2, Sum.inr (4, [Value.ref h3, Value.int y_131, Value.ref h4, Value.ref h5, Value.int n2_top])), (h3, Sum.inl (cint, 128, Sum.inl f_132))] := hD
          refine lv_iload_n hx hb dX10_readChain_81 rfl (lv_at hl 3 rfl) ?_
          refine lv_iconst (v := 2) hx hb dX10_readChain_82 (by decide) ?_
          refine lv_icmp_ne (tgt := 88) hx hb dX10_readChain_83 (by decide) (fun _ => ?_) (fun c => absurd c (by decide))
          refine lv_iinc (v := (i_7_0 + 1)) (lv' := [(3, .int (i_7_0 + 1)), (4, .int r_123), (0, .ref h0), (1, .int 1), (2, .int 1)]) hx hb dX10_readChain_88 hl (k := 1) rfl (by first | rfl | decide) (by decide) rfl (fun ls hl => ?_)
          refine lv_goto (tgt := 26) hx hb dX10_readChain_91 (by decide) ?_
          exact ih_7 ((i_7_0 + 1), y_126, y_131, f_132) _ _ _ (by show ((120 : Int) - ((i_7_0 + 1)).toInt).toNat < ((120 : Int) - i_7_0.toInt).toNat; have := kk_add2 (x := i_7_0) (y := 1) (a := i_7_0.toInt) (b := 1) rfl rfl (by omega) (by omega); exact kk_mu (by omega) (by omega)) ⟨(by show 0 ≤ ((i_7_0 + 1) : Int32).toInt ∧ ((i_7_0 + 1) : Int32).toInt ≤ 120; first | decide | (constructor <;> (have := kk_add2 (x := i_7_0) (y := 1) (a := i_7_0.toInt) (b := 1) rfl rfl (by omega) (by omega); omega))), (by show 0 ≤ (y_131 : Int32).toInt ∧ (y_131 : Int32).toInt ≤ 128; first | decide | (constructor <;> (have := kk_add2 (x := i_7_0) (y := 1) (a := i_7_0.toInt) (b := 1) rfl rfl (by omega) (by omega); omega))), hP, hD, hS, lv_sub hl [0, 2, 3, 4] rfl⟩
        · have t_129 : r_125.toInt = 0 := kk_eq c_129
          refine lv_iconst (v := 0) hx hb dX10_readChain_70 (by decide) ?_
          have hP9 := hP.sub (ws' := [(h0, Sum.inr (10, [Value.ref h1, Value.int n0_size, Value.int y_126, Value.ref h2])), (h1, Sum.inl (cint, 120, Sum.inl f1)), (h2, Sum.inr (4, [Value.ref h3, Value.int y_127, Value.ref h4, Value.ref h5, Value.int n2_top])), (h3, Sum.inl (cint, 128, Sum.inl f_128))]) [0, 1, 2, 3] rfl
          have hD9 := hD.sub (ws' := [(h0, Sum.inr (10, [Value.ref h1, Value.int n0_size, Value.int y_126, Value.ref h2])), (h1, Sum.inl (cint, 120, Sum.inl f1)), (h2, Sum.inr (4, [Value.ref h3, Value.int y_127, Value.ref h4, Value.ref h5, Value.int n2_top])), (h3, Sum.inl (cint, 128, Sum.inl f_128))]) [0, 1, 2, 3] (by decide) rfl
          have hK9 := hK.sub (tys' := []) [] rfl
          exact W.zret (v := 0) hx hb hr rfl (fun t ht hW => ⟨⟨0, (), rfl, (by show 0 ≤ (0 : Int32).toInt ∧ (0 : Int32).toInt ≤ 1; first | decide | (constructor <;> (omega))), y_126, y_127, f_128, (by show 0 ≤ (y_127 : Int32).toInt ∧ (y_127 : Int32).toInt ≤ 128; first | decide | (constructor <;> (omega))), by rw [ht]; exact hP9, va_K.moved hW.alike hK9, hD9⟩, hS.F ht⟩) hS.2.2 dX10_readChain_71
  · have t_6 : r_2.toInt = 0 := kk_eq c_6
    refine lv_iconst (v := 0) hx hb dX10_readChain_22 (by decide) ?_
    have hP9 := hP.sub (ws' := [(h0, Sum.inr (10, [Value.ref h1, Value.int n0_size, Value.int y_3, Value.ref h2])), (h1, Sum.inl (cint, 120, Sum.inl f1)), (h2, Sum.inr (4, [Value.ref h3, Value.int y_4, Value.ref h4, Value.ref h5, Value.int n2_top])), (h3, Sum.inl (cint, 128, Sum.inl f_5))]) [0, 1, 2, 3] rfl
    have hD9 := hD.sub (ws' := [(h0, Sum.inr (10, [Value.ref h1, Value.int n0_size, Value.int y_3, Value.ref h2])), (h1, Sum.inl (cint, 120, Sum.inl f1)), (h2, Sum.inr (4, [Value.ref h3, Value.int y_4, Value.ref h4, Value.ref h5, Value.int n2_top])), (h3, Sum.inl (cint, 128, Sum.inl f_5))]) [0, 1, 2, 3] (by decide) rfl
    have hK9 := hK.sub (tys' := []) [] rfl
    exact W.zret (v := 0) hx hb hr rfl (fun t ht hW => ⟨⟨0, (), rfl, (by show 0 ≤ (0 : Int32).toInt ∧ (0 : Int32).toInt ≤ 1; first | decide | (constructor <;> (omega))), y_3, y_4, f_5, (by show 0 ≤ (y_4 : Int32).toInt ∧ (y_4 : Int32).toInt ≤ 128; first | decide | (constructor <;> (omega))), by rw [ht]; exact hP9, va_K.moved hW.alike hK9, hD9⟩, hS.F ht⟩) hS.2.2 dX10_readChain_23
set_option maxHeartbeats 4000000 in
set_option maxRecDepth 100000 in
theorem g_X10_readChain_35 (l : Launch) (dC : Nat → ClassId) (dI : Nat → Nat → Nat) (h0 : Nat) (h1 : Nat) (h2 : Nat) (h3 : Nat) (h4 : Nat) (h5 : Nat) (cint : ClassId) (sz : Nat) (n0_size : Int32) (n0_place : Int32) (f1 : Nat → Int32) (n2_size : Int32) (n2_top : Int32) (f3 : Nat → Int32) (tn0_size : 0 ≤ n0_size.toInt ∧ n0_size.toInt ≤ 120) (bf1 : ∀ j, j < 120 → 0 ≤ (f1 j).toInt ∧ (f1 j).toInt ≤ 255) (tn2_size : 0 ≤ n2_size.toInt ∧ n2_size.toInt ≤ 128) (tn2_top : 0 ≤ n2_top.toInt ∧ n2_top.toInt ≤ 64) (aNAMES : Nat) : Met l yX10_readChain wsX10_readChain ({ frames := 48, cells := 0, slots := 0, locals := 1126 }) (va_Pc [.ref h0, .int 0, .int 1] (fun U => U.heap.size = sz ∧ va_P (dC, dI) vwCl [(h0, Sum.inr (10, [Value.ref h1, Value.int n0_size, Value.int n0_place, Value.ref h2])), (h1, Sum.inl (cint, 120, Sum.inl f1)), (h2, Sum.inr (4, [Value.ref h3, Value.int n2_size, Value.ref h4, Value.ref h5, Value.int n2_top])), (h3, Sum.inl (cint, 128, Sum.inl f3))] U.heap ∧ va_K (dC, dI) vwCl [(cint, .int)] U ∧ va_D (fun _ => True) [(h0, Sum.inr (10, [Value.ref h1, Value.int n0_size, Value.int n0_place, Value.ref h2])), (h1, Sum.inl (cint, 120, Sum.inl f1)), (h2, Sum.inr (4, [Value.ref h3, Value.int n2_size, Value.ref h4, Value.ref h5, Value.int n2_top])), (h3, Sum.inl (cint, 128, Sum.inl f3))] ∧ va_Z "KinkStreet$Law" "NAMES" "[C" (.ref aNAMES) (va_A [(h0, Sum.inr (10, [Value.ref h1, Value.int n0_size, Value.int n0_place, Value.ref h2])), (h1, Sum.inl (cint, 120, Sum.inl f1)), (h2, Sum.inr (4, [Value.ref h3, Value.int n2_size, Value.ref h4, Value.ref h5, Value.int n2_top])), (h3, Sum.inl (cint, 128, Sum.inl f3))] sz) U U.heap ∧ va_T .char aNAMES 8 tb_NAMES (va_A [(h0, Sum.inr (10, [Value.ref h1, Value.int n0_size, Value.int n0_place, Value.ref h2])), (h1, Sum.inl (cint, 120, Sum.inl f1)), (h2, Sum.inr (4, [Value.ref h3, Value.int n2_size, Value.ref h4, Value.ref h5, Value.int n2_top])), (h3, Sum.inl (cint, 128, Sum.inl f3))] sz) U U.heap)) (va_Qi (fun (r : Int32) (_ : Unit) => (0 ≤ r.toInt ∧ r.toInt ≤ 1)) (fun (_ : Unit) t => ∃ (m0_place : Int32) (m2_size : Int32) (g3 : Nat → Int32), (0 ≤ m2_size.toInt ∧ m2_size.toInt ≤ 128) ∧ va_P (dC, dI) vwCl [(h0, Sum.inr (10, [Value.ref h1, Value.int n0_size, Value.int m0_place, Value.ref h2])), (h1, Sum.inl (cint, 120, Sum.inl f1)), (h2, Sum.inr (4, [Value.ref h3, Value.int m2_size, Value.ref h4, Value.ref h5, Value.int n2_top])), (h3, Sum.inl (cint, 128, Sum.inl g3))] t.heap ∧ va_K (dC, dI) vwCl [] t ∧ va_D (va_A [(h0, Sum.inr (10, [Value.ref h1, Value.int n0_size, Value.int n0_place, Value.ref h2])), (h1, Sum.inl (cint, 120, Sum.inl f1)), (h2, Sum.inr (4, [Value.ref h3, Value.int n2_size, Value.ref h4, Value.ref h5, Value.int n2_top])), (h3, Sum.inl (cint, 128, Sum.inl f3))] sz) [(h0, Sum.inr (10, [Value.ref h1, Value.int n0_size, Value.int m0_place, Value.ref h2])), (h1, Sum.inl (cint, 120, Sum.inl f1)), (h2, Sum.inr (4, [Value.ref h3, Value.int m2_size, Value.ref h4, Value.ref h5, Value.int n2_top])), (h3, Sum.inl (cint, 128, Sum.inl g3))]) (va_A [(h0, Sum.inr (10, [Value.ref h1, Value.int n0_size, Value.int n0_place, Value.ref h2])), (h1, Sum.inl (cint, 120, Sum.inl f1)), (h2, Sum.inr (4, [Value.ref h3, Value.int n2_size, Value.ref h4, Value.ref h5, Value.int n2_top])), (h3, Sum.inl (cint, 128, Sum.inl f3))] sz)) 0 0 (va_A [(h0, Sum.inr (10, [Value.ref h1, Value.int n0_size, Value.int n0_place, Value.ref h2])), (h1, Sum.inl (cint, 120, Sum.inl f1)), (h2, Sum.inr (4, [Value.ref h3, Value.int n2_size, Value.ref h4, Value.ref h5, Value.int n2_top])), (h3, Sum.inl (cint, 128, Sum.inl f3))] sz) := by
  refine Met.ofW (cc := cX10_readChain) (maxL := 5) (ret := (some .boolean)) (by decide) rfl ?_
  intro p e s m args below meth c s₁ B hml hv
  obtain ⟨rfl, hsz, hP, hK, hD0, hZNAMES, hTNAMES⟩ := hv
  have hx := B.exec
  have hb := B.bytes
  have hr := B.returns
  have hts := atoms_spec (ws := wsX10_readChain) B.pre
  have hown : s.vm.findClass RX10 = some m.cls := findClass_of_methodNamed B.named
  have hlocks := B.notSynchronized
  subst hsz
  have hD := hD0.self (sz := s.heap.size)
  generalize hAe : va_A [(h0, Sum.inr (10, [Value.ref h1, Value.int n0_size, Value.int n0_place, Value.ref h2])), (h1, Sum.inl (cint, 120, Sum.inl f1)), (h2, Sum.inr (4, [Value.ref h3, Value.int n2_size, Value.ref h4, Value.ref h5, Value.int n2_top])), (h3, Sum.inl (cint, 128, Sum.inl f3))] s.heap.size = A at hD hZNAMES hTNAMES ⊢
  have hA : ∀ q : Nat, s.heap.size ≤ q → A q := fun q h => by rw [← hAe]; exact Or.inr h
  have hS : va_S A s.heap s.heap [] := va_S.rf
  have hP : va_P (dC, dI) vwCl [(h0, Sum.inr (10, [Value.ref h1, Value.int n0_size, Value.int n0_place, Value.ref h2])), (h1, Sum.inl (cint, 120, Sum.inl f1)), (h2, Sum.inr (4, [Value.ref h3, Value.int n2_size, Value.ref h4, Value.ref h5, Value.int n2_top])), (h3, Sum.inl (cint, 128, Sum.inl f3))] s.heap := hP
  have hl := lv_entry ([.ref h0, .int 0, .int 1]) (n := 5) (Nat.le_of_ble_eq_true rfl)
  rw [lg_entry_eq]
  generalize (lg_sl ([.ref h0, .int 0, .int 1]) ++ List.replicate (5 - (lg_sl ([.ref h0, .int 0, .int 1])).length) Slot.unset).toArray = ls at hl ⊢
  have hl : lv_has ls 5 [(0, .ref h0), (1, .int 0), (2, .int 1)] := hl
  refine lv_iload_n hx hb dX10_readChain_0 rfl (lv_at hl 1 rfl) ?_
  refine lv_iconst (v := 5) hx hb dX10_readChain_1 (by decide) ?_
  refine lv_icmp_lt (tgt := 11) hx hb dX10_readChain_2 (by decide) (fun _ => ?_) (fun c => absurd c (by decide))
  refine lv_aload_n hx hb dX10_readChain_11 rfl (lv_at hl 0 rfl) ?_
  refine lv_iload_n hx hb dX10_readChain_12 rfl (lv_at hl 1 rfl) ?_
  refine lv_iconst (v := 1) hx hb dX10_readChain_13 (by decide) ?_
  refine lv_iadd hx hb dX10_readChain_14 ?_
  refine lv_topi (fun y_1 e_1 => ?_)
  obtain rfl : y_1 = 1 := e_1.trans (by decide)
  refine lv_iload_n hx hb dX10_readChain_15 rfl (lv_at hl 2 rfl) ?_
  have hPc := hP.sub (ws' := [(h0, Sum.inr (10, [Value.ref h1, Value.int n0_size, Value.int n0_place, Value.ref h2])), (h1, Sum.inl (cint, 120, Sum.inl f1)), (h2, Sum.inr (4, [Value.ref h3, Value.int n2_size, Value.ref h4, Value.ref h5, Value.int n2_top])), (h3, Sum.inl (cint, 128, Sum.inl f3))]) [0, 1, 2, 3] rfl
  have hDc := hD.sub (ws' := [(h0, Sum.inr (10, [Value.ref h1, Value.int n0_size, Value.int n0_place, Value.ref h2])), (h1, Sum.inl (cint, 120, Sum.inl f1)), (h2, Sum.inr (4, [Value.ref h3, Value.int n2_size, Value.ref h4, Value.ref h5, Value.int n2_top])), (h3, Sum.inl (cint, 128, Sum.inl f3))]) [0, 1, 2, 3] (by decide) rfl
  have hKc := hK.sub (tys' := [(cint, .int)]) [0] rfl
  have hFc := va_free (wc := [(h0, Sum.inr (10, [Value.ref h1, Value.int n0_size, Value.int n0_place, Value.ref h2])), (h1, Sum.inl (cint, 120, Sum.inl f1)), (h2, Sum.inr (4, [Value.ref h3, Value.int n2_size, Value.ref h4, Value.ref h5, Value.int n2_top])), (h3, Sum.inl (cint, 128, Sum.inl f3))]) hD hS hA [0, 1, 2, 3] rfl
  refine va_calli (va_runV (As := [.int 1, .int 1]) (rest := []) ⟨hx, hb, hml, hown, hts⟩ (g_X10_readChain_34 l dC dI h0 h1 h2 h3 h4 h5 cint s.heap.size n0_size n0_place f1 n2_size n2_top f3 tn0_size bf1 tn2_size tn2_top aNAMES) (cwV 2 hts gX10_readChain_X10_readChain rfl rfl rfl (by decide +kernel) ⟨Nat.le_of_ble_eq_true rfl, Nat.le_of_ble_eq_true rfl⟩) ⟨fun a U g mk q => by obtain ⟨q0, q1, qP, qK, qD, qx0, qx1⟩ := q; exact ⟨q0, q1, qP, va_K.moved (u := U) (U := U.calling g mk a) (Vm.Alike.refl U.vm) qK, qD, va_Z.moved (u := U) (U := U.calling g mk a) (Vm.Alike.refl U.vm) qx0, va_T.moved (u := U) (U := U.calling g mk a) (Vm.Alike.refl U.vm) qx1⟩, va_recv hKc hPc (ci := 10) (q0 := 0) rfl rfl, fun U hU hW => ⟨rfl, by rw [hU], by rw [hU]; exact hPc, va_K.moved hW.alike hKc, hDc.weaken (fun _ _ _ _ => trivial), by rw [hU]; exact ((hZNAMES.kept (fun a h1 h2 => hS.2.1 a h1 h2)).narrow hFc).moved hW.alike, by rw [hU]; exact ((hTNAMES.kept (fun a h1 h2 => hS.2.1 a h1 h2)).narrow hFc).moved hW.alike⟩⟩ rfl rfl hl.1 rfl (lv_room (Nat.le_of_ble_eq_true rfl)) dX10_readChain_16 ⟨Nat.le_of_ble_eq_true rfl, Nat.le_of_ble_eq_true rfl⟩) hS (fun q _ h => hFc q h) hFc (fun r_2 u t H1 locs ht hvm hw hB hz1 hk1 hS => ?_)
  obtain ⟨y_3, y_4, f_5, by_4, hP1, hK1, hD1⟩ := hB
  rw [ht] at hP1
  have hK1 := va_K.moved hvm.symm hK1
  obtain ⟨hP, hD⟩ := va_join (wr := []) (w1 := [(h0, Sum.inr (10, [Value.ref h1, Value.int n0_size, Value.int y_3, Value.ref h2])), (h1, Sum.inl (cint, 120, Sum.inl f1)), (h2, Sum.inr (4, [Value.ref h3, Value.int y_4, Value.ref h4, Value.ref h5, Value.int n2_top])), (h3, Sum.inl (cint, 128, Sum.inl f_5))]) hP hD [0, 1, 2, 3] [] rfl rfl (by decide) (by decide) hk1 hFc hP1 hD1
  generalize H1 = H at hP hS ⊢
  have hP : va_P (dC, dI) vwCl [(h0, Sum.inr (10, [Value.ref h1, Value.int n0_size, Value.int y_3, Value.ref h2])), (h1, Sum.inl (cint, 120, Sum.inl f1)), (h2, Sum.inr (4, [Value.ref h3, Value.int y_4, Value.ref h4, Value.ref h5, Value.int n2_top])), (h3, Sum.inl (cint, 128, Sum.inl f_5))] H := hP
  have hD : va_D A [(h0, Sum.inr (10, [Value.ref h1, Value.int n0_size, Value.int y_3, Value.ref h2])), (h1, Sum.inl (cint, 120, Sum.inl f1)), (h2, Sum.inr (4, [Value.ref h3, Value.int y_4, Value.ref h4, Value.ref h5, Value.int n2_top])), (h3, Sum.inl (cint, 128, Sum.inl f_5))] := hD
  have t_2 : 0 ≤ r_2.toInt ∧ r_2.toInt ≤ 1 := hw
  refine lv_if_ne (tgt := 24) hx hb dX10_readChain_19 (by decide) (fun c_6 => ?_) (fun c_6 => ?_)
  · have t_6 : r_2.toInt ≠ 0 := kk_ne c_6
    refine lv_iconst (v := 0) hx hb dX10_readChain_24 (by decide) ?_
    refine lv_istore_n (lv' := [(3, .int 0), (0, .ref h0), (1, .int 0), (2, .int 1)]) hx hb dX10_readChain_25 rfl hl (by decide) rfl (fun ls hl => ?_)
    refine kk_loop (σ := Int32 × Int32 × Int32 × (Nat → Int32)) (fun x H locs ls => (0 ≤ x.1.toInt ∧ x.1.toInt ≤ 120) ∧ (0 ≤ x.2.2.1.toInt ∧ x.2.2.1.toInt ≤ 128) ∧ va_P (dC, dI) vwCl [(h0, Sum.inr (10, [Value.ref h1, Value.int n0_size, Value.int x.2.1, Value.ref h2])), (h1, Sum.inl (cint, 120, Sum.inl f1)), (h2, Sum.inr (4, [Value.ref h3, Value.int x.2.2.1, Value.ref h4, Value.ref h5, Value.int n2_top])), (h3, Sum.inl (cint, 128, Sum.inl x.2.2.2))] H ∧ va_D A [(h0, Sum.inr (10, [Value.ref h1, Value.int n0_size, Value.int x.2.1, Value.ref h2])), (h1, Sum.inl (cint, 120, Sum.inl f1)), (h2, Sum.inr (4, [Value.ref h3, Value.int x.2.2.1, Value.ref h4, Value.ref h5, Value.int n2_top])), (h3, Sum.inl (cint, 128, Sum.inl x.2.2.2))] ∧ va_S A s.heap H locs ∧ lv_has ls 5 [(3, .int x.1), (0, .ref h0), (1, .int 0), (2, .int 1)]) (fun x => ((120 : Int) - x.1.toInt).toNat) ?_ (0, y_3, y_4, f_5) _ _ _ ⟨(by show 0 ≤ (0 : Int32).toInt ∧ (0 : Int32).toInt ≤ 120; first | decide | (constructor <;> (omega))), (by show 0 ≤ (y_4 : Int32).toInt ∧ (y_4 : Int32).toInt ≤ 128; first | decide | (constructor <;> (omega))), hP, hD, hS, hl⟩
    rintro ⟨i_7_0, i_7_1, i_7_2, f_7_3⟩ H locs ls ⟨t_7_0, t_7_2, hP, hD, hS, hl⟩ ih_7
    have t_7_0 : (0 ≤ i_7_0.toInt ∧ i_7_0.toInt ≤ 120) := t_7_0
    have t_7_2 : (0 ≤ i_7_2.toInt ∧ i_7_2.toInt ≤ 128) := t_7_2
    have hl : lv_has ls 5 [(3, .int i_7_0), (0, .ref h0), (1, .int 0), (2, .int 1)] := hl
    have hP : va_P (dC, dI) vwCl [(h0, Sum.inr (10, [Value.ref h1, Value.int n0_size, Value.int i_7_1, Value.ref h2])), (h1, Sum.inl (cint, 120, Sum.inl f1)), (h2, Sum.inr (4, [Value.ref h3, Value.int i_7_2, Value.ref h4, Value.ref h5, Value.int n2_top])), (h3, Sum.inl (cint, 128, Sum.inl f_7_3))] H := hP
    have hD : va_D A [(h0, Sum.inr (10, [Value.ref h1, Value.int n0_size, Value.int i_7_1, Value.ref h2])), (h1, Sum.inl (cint, 120, Sum.inl f1)), (h2, Sum.inr (4, [Value.ref h3, Value.int i_7_2, Value.ref h4, Value.ref h5, Value.int n2_top])), (h3, Sum.inl (cint, 128, Sum.inl f_7_3))] := hD
    refine lv_iload_n hx hb dX10_readChain_26 rfl (lv_at hl 0 rfl) ?_
    refine lv_bipush (v := 120) hx hb dX10_readChain_27 (by decide) ?_
    refine lv_icmp_ge (tgt := 94) hx hb dX10_readChain_29 (by decide) (fun c_119 => ?_) (fun c_119 => ?_)
    · have t_119 : 120 ≤ i_7_0.toInt := kk_le c_119
      refine lv_iconst (v := 1) hx hb dX10_readChain_94 (by decide) ?_
      have hP9 := hP.sub (ws' := [(h0, Sum.inr (10, [Value.ref h1, Value.int n0_size, Value.int i_7_1, Value.ref h2])), (h1, Sum.inl (cint, 120, Sum.inl f1)), (h2, Sum.inr (4, [Value.ref h3, Value.int i_7_2, Value.ref h4, Value.ref h5, Value.int n2_top])), (h3, Sum.inl (cint, 128, Sum.inl f_7_3))]) [0, 1, 2, 3] rfl
      have hD9 := hD.sub (ws' := [(h0, Sum.inr (10, [Value.ref h1, Value.int n0_size, Value.int i_7_1, Value.ref h2])), (h1, Sum.inl (cint, 120, Sum.inl f1)), (h2, Sum.inr (4, [Value.ref h3, Value.int i_7_2, Value.ref h4, Value.ref h5, Value.int n2_top])), (h3, Sum.inl (cint, 128, Sum.inl f_7_3))]) [0, 1, 2, 3] (by decide) rfl
      have hK9 := hK.sub (tys' := []) [] rfl
      exact W.zret (v := 1) hx hb hr rfl (fun t ht hW => ⟨⟨1, (), rfl, (by show 0 ≤ (1 : Int32).toInt ∧ (1 : Int32).toInt ≤ 1; first | decide | (constructor <;> (omega))), i_7_1, i_7_2, f_7_3, (by show 0 ≤ (i_7_2 : Int32).toInt ∧ (i_7_2 : Int32).toInt ≤ 128; first | decide | (constructor <;> (omega))), by rw [ht]; exact hP9, va_K.moved hW.alike hK9, hD9⟩, hS.F ht⟩) hS.2.2 dX10_readChain_95
    · have t_119 : i_7_0.toInt < 120 := kk_nle c_119
      refine lv_iload_n hx hb dX10_readChain_32 rfl (lv_at hl 2 rfl) ?_
      refine lv_aload_n hx hb dX10_readChain_33 rfl (lv_at hl 1 rfl) ?_
      have hPc := hP.sub (ws' := [(h0, Sum.inr (10, [Value.ref h1, Value.int n0_size, Value.int i_7_1, Value.ref h2])), (h1, Sum.inl (cint, 120, Sum.inl f1))]) [0, 1] rfl
      have hDc := hD.sub (ws' := [(h0, Sum.inr (10, [Value.ref h1, Value.int n0_size, Value.int i_7_1, Value.ref h2])), (h1, Sum.inl (cint, 120, Sum.inl f1))]) [0, 1] (by decide) rfl
      have hKc := hK.sub (tys' := [(cint, .int)]) [0] rfl
      have hFc := va_free (wc := [(h0, Sum.inr (10, [Value.ref h1, Value.int n0_size, Value.int i_7_1, Value.ref h2])), (h1, Sum.inl (cint, 120, Sum.inl f1))]) hD hS hA [0, 1] rfl
      refine va_calli (va_runV (As := []) (rest := [.int 0]) ⟨hx, hb, hml, hown, hts⟩ (g_X10_next_0 l dC dI h0 h1 h2 cint H.size n0_size i_7_1 f1 tn0_size bf1) (cwV 0 hts gX10_readChain_X10_next rfl rfl rfl (by decide +kernel) ⟨Nat.le_of_ble_eq_true rfl, Nat.le_of_ble_eq_true rfl⟩) ⟨fun a U g mk q => by obtain ⟨q0, q1, qP, qK, qD⟩ := q; exact ⟨q0, q1, qP, va_K.moved (u := U) (U := U.calling g mk a) (Vm.Alike.refl U.vm) qK, qD⟩, va_recv hKc hPc (ci := 10) (q0 := 0) rfl rfl, fun U hU hW => ⟨rfl, by rw [hU], by rw [hU]; exact hPc, va_K.moved hW.alike hKc, hDc.weaken (fun _ _ _ _ => trivial)⟩⟩ rfl rfl hl.1 rfl (lv_room (Nat.le_of_ble_eq_true rfl)) dX10_readChain_34 ⟨Nat.le_of_ble_eq_true rfl, Nat.le_of_ble_eq_true rfl⟩) hS (fun q _ h => hFc q h) hFc (fun r_120 u t H1 locs ht hvm hw hB hz1 hk1 hS => ?_)
      obtain ⟨hP1, hK1, hD1⟩ := hB
      rw [ht] at hP1
      have hK1 := va_K.moved hvm.symm hK1
      obtain ⟨hP, hD⟩ := va_join (wr := [(h2, Sum.inr (4, [Value.ref h3, Value.int i_7_2, Value.ref h4, Value.ref h5, Value.int n2_top])), (h3, Sum.inl (cint, 128, Sum.inl f_7_3))]) (w1 := [(h0, Sum.inr (10, [Value.ref h1, Value.int n0_size, Value.int i_7_1, Value.ref h2])), (h1, Sum.inl (cint, 120, Sum.inl f1))]) hP hD [0, 1] [2, 3] rfl rfl (by decide) (by decide) hk1 hFc hP1 hD1
      generalize H1 = H at hP hS ⊢
      have hP : va_P (dC, dI) vwCl [(h2, Sum.inr (4, [Value.ref h3, Value.int i_7_2, Value.ref h4, Value.ref h5, Value.int n2_top])), (h3, Sum.inl (cint, 128, Sum.inl f_7_3)), (h0, Sum.inr (10, [Value.ref h1, Value.int n0_size, Value.int i_7_1, Value.ref h2])), (h1, Sum.inl (cint, 120, Sum.inl f1))] H := hP
      have hD : va_D A [(h2, Sum.inr (4, [Value.ref h3, Value.int i_7_2, Value.ref h4, Value.ref h5, Value.int n2_top])), (h3, Sum.inl (cint, 128, Sum.inl f_7_3)), (h0, Sum.inr (10, [Value.ref h1, Value.int n0_size, Value.int i_7_1, Value.ref h2])), (h1, Sum.inl (cint, 120, Sum.inl f1))] := hD
      have t_120 : (-1) ≤ r_120.toInt ∧ r_120.toInt ≤ 255 := hw
      have hPc := hP.sub (ws' := []) [] rfl
      have hDc := hD.sub (ws' := []) [] (by decide) rfl
      have hKc := hK.sub (tys' := []) [] rfl
      have hFc := va_free (wc := []) hD hS hA [] rfl
      refine va_calli (va_runS (As := [.int 0, .int r_120]) (rest := []) ⟨hx, hb, hml, hown, hts⟩ (g_X10_joins_4 l dC dI H.size r_120) (va_cwS 2 hts gX10_readChain_X10_joins rfl rfl rfl (by decide +kernel) ⟨Nat.le_of_ble_eq_true rfl, Nat.le_of_ble_eq_true rfl⟩) ⟨fun a U g mk q => by obtain ⟨q0, q1, qP, qK, qD⟩ := q; exact ⟨q0, q1, qP, va_K.moved (u := U) (U := U.calling g mk a) (Vm.Alike.refl U.vm) qK, qD⟩, fun U hU hW => ⟨rfl, by rw [hU], by rw [hU]; exact hPc, va_K.moved hW.alike hKc, hDc.weaken (fun _ _ _ _ => trivial)⟩⟩ rfl rfl hl.1 rfl (lv_room (Nat.le_of_ble_eq_true rfl)) dX10_readChain_37 ⟨Nat.le_of_ble_eq_true rfl, Nat.le_of_ble_eq_true rfl⟩) hS (fun q _ h => hFc q h) hFc (fun r_121 u t H1 locs ht hvm hw hB hz1 hk1 hS => ?_)
      obtain ⟨hP1, hK1, hD1⟩ := hB
      rw [ht] at hP1
      have hK1 := va_K.moved hvm.symm hK1
      obtain ⟨hP, hD⟩ := va_join (wr := [(h2, Sum.inr (4, [Value.ref h3, Value.int i_7_2, Value.ref h4, Value.ref h5, Value.int n2_top])), (h3, Sum.inl (cint, 128, Sum.inl f_7_3)), (h0, Sum.inr (10, [Value.ref h1, Value.int n0_size, Value.int i_7_1, Value.ref h2])), (h1, Sum.inl (cint, 120, Sum.inl f1))]) (w1 := []) hP hD [] [0, 1, 2, 3] rfl rfl (by decide) (by decide) hk1 hFc hP1 hD1
      generalize H1 = H at hP hS ⊢
      have hP : va_P (dC, dI) vwCl [(h2, Sum.inr (4, [Value.ref h3, Value.int i_7_2, Value.ref h4, Value.ref h5, Value.int n2_top])), (h3, Sum.inl (cint, 128, Sum.inl f_7_3)), (h0, Sum.inr (10, [Value.ref h1, Value.int n0_size, Value.int i_7_1, Value.ref h2])), (h1, Sum.inl (cint, 120, Sum.inl f1))] H := hP
      have hD : va_D A [(h2, Sum.inr (4, [Value.ref h3, Value.int i_7_2, Value.ref h4, Value.ref h5, Value.int n2_top])), (h3, Sum.inl (cint, 128, Sum.inl f_7_3)), (h0, Sum.inr (10, [Value.ref h1, Value.int n0_size, Value.int i_7_1, Value.ref h2])), (h1, Sum.inl (cint, 120, Sum.inl f1))] := hD
      have t_121 : 0 ≤ r_121.toInt ∧ r_121.toInt ≤ 1 := hw
      refine lv_if_eq (tgt := 94) hx hb dX10_readChain_40 (by decide) (fun c_122 => ?_) (fun c_122 => ?_)
      · have t_122 : r_121.toInt = 0 := kk_eq c_122
        refine lv_iconst (v := 1) hx hb dX10_readChain_94 (by decide) ?_
        have hP9 := hP.sub (ws' := [(h0, Sum.inr (10, [Value.ref h1, Value.int n0_size, Value.int i_7_1, Value.ref h2])), (h1, Sum.inl (cint, 120, Sum.inl f1)), (h2, Sum.inr (4, [Value.ref h3, Value.int i_7_2, Value.ref h4, Value.ref h5, Value.int n2_top])), (h3, Sum.inl (cint, 128, Sum.inl f_7_3))]) [2, 3, 0, 1] rfl
        have hD9 := hD.sub (ws' := [(h0, Sum.inr (10, [Value.ref h1, Value.int n0_size, Value.int i_7_1, Value.ref h2])), (h1, Sum.inl (cint, 120, Sum.inl f1)), (h2, Sum.inr (4, [Value.ref h3, Value.int i_7_2, Value.ref h4, Value.ref h5, Value.int n2_top])), (h3, Sum.inl (cint, 128, Sum.inl f_7_3))]) [2, 3, 0, 1] (by decide) rfl
        have hK9 := hK.sub (tys' := []) [] rfl
        exact W.zret (v := 1) hx hb hr rfl (fun t ht hW => ⟨⟨1, (), rfl, (by show 0 ≤ (1 : Int32).toInt ∧ (1 : Int32).toInt ≤ 1; first | decide | (constructor <;> (omega))), i_7_1, i_7_2, f_7_3, (by show 0 ≤ (i_7_2 : Int32).toInt ∧ (i_7_2 : Int32).toInt ≤ 128; first | decide | (constructor <;> (omega))), by rw [ht]; exact hP9, va_K.moved hW.alike hK9, hD9⟩, hS.F ht⟩) hS.2.2 dX10_readChain_95
      · have t_122 : r_121.toInt ≠ 0 := kk_ne c_122
        refine lv_aload_n hx hb dX10_readChain_43 rfl (lv_at hl 1 rfl) ?_
        have hPc := hP.sub (ws' := [(h0, Sum.inr (10, [Value.ref h1, Value.int n0_size, Value.int i_7_1, Value.ref h2])), (h1, Sum.inl (cint, 120, Sum.inl f1))]) [2, 3] rfl
        have hDc := hD.sub (ws' := [(h0, Sum.inr (10, [Value.ref h1, Value.int n0_size, Value.int i_7_1, Value.ref h2])), (h1, Sum.inl (cint, 120, Sum.inl f1))]) [2, 3] (by decide) rfl
        have hKc := hK.sub (tys' := [(cint, .int)]) [0] rfl
        have hFc := va_free (wc := [(h0, Sum.inr (10, [Value.ref h1, Value.int n0_size, Value.int i_7_1, Value.ref h2])), (h1, Sum.inl (cint, 120, Sum.inl f1))]) hD hS hA [2, 3] rfl
        refine va_calli (va_runV (As := []) (rest := []) ⟨hx, hb, hml, hown, hts⟩ (g_X10_next_0 l dC dI h0 h1 h2 cint H.size n0_size i_7_1 f1 tn0_size bf1) (cwV 0 hts gX10_readChain_X10_next rfl rfl rfl (by decide +kernel) ⟨Nat.le_of_ble_eq_true rfl, Nat.le_of_ble_eq_true rfl⟩) ⟨fun a U g mk q => by obtain ⟨q0, q1, qP, qK, qD⟩ := q; exact ⟨q0, q1, qP, va_K.moved (u := U) (U := U.calling g mk a) (Vm.Alike.refl U.vm) qK, qD⟩, va_recv hKc hPc (ci := 10) (q0 := 0) rfl rfl, fun U hU hW => ⟨rfl, by rw [hU], by rw [hU]; exact hPc, va_K.moved hW.alike hKc, hDc.weaken (fun _ _ _ _ => trivial)⟩⟩ rfl rfl hl.1 rfl (lv_room (Nat.le_of_ble_eq_true rfl)) dX10_readChain_44 ⟨Nat.le_of_ble_eq_true rfl, Nat.le_of_ble_eq_true rfl⟩) hS (fun q _ h => hFc q h) hFc (fun r_123 u t H1 locs ht hvm hw hB hz1 hk1 hS => ?_)
        obtain ⟨hP1, hK1, hD1⟩ := hB
        rw [ht] at hP1
        have hK1 := va_K.moved hvm.symm hK1
        obtain ⟨hP, hD⟩ := va_join (wr := [(h2, Sum.inr (4, [Value.ref h3, Value.int i_7_2, Value.ref h4, Value.ref h5, Value.int n2_top])), (h3, Sum.inl (cint, 128, Sum.inl f_7_3))]) (w1 := [(h0, Sum.inr (10, [Value.ref h1, Value.int n0_size, Value.int i_7_1, Value.ref h2])), (h1, Sum.inl (cint, 120, Sum.inl f1))]) hP hD [2, 3] [0, 1] rfl rfl (by decide) (by decide) hk1 hFc hP1 hD1
        generalize H1 = H at hP hS ⊢
        have hP : va_P (dC, dI) vwCl [(h2, Sum.inr (4, [Value.ref h3, Value.int i_7_2, Value.ref h4, Value.ref h5, Value.int n2_top])), (h3, Sum.inl (cint, 128, Sum.inl f_7_3)), (h0, Sum.inr (10, [Value.ref h1, Value.int n0_size, Value.int i_7_1, Value.ref h2])), (h1, Sum.inl (cint, 120, Sum.inl f1))] H := hP
        have hD : va_D A [(h2, Sum.inr (4, [Value.ref h3, Value.int i_7_2, Value.ref h4, Value.ref h5, Value.int n2_top])), (h3, Sum.inl (cint, 128, Sum.inl f_7_3)), (h0, Sum.inr (10, [Value.ref h1, Value.int n0_size, Value.int i_7_1, Value.ref h2])), (h1, Sum.inl (cint, 120, Sum.inl f1))] := hD
        have t_123 : (-1) ≤ r_123.toInt ∧ r_123.toInt ≤ 255 := hw
        refine lv_istore (lv' := [(4, .int r_123), (3, .int i_7_0), (0, .ref h0), (1, .int 0), (2, .int 1)]) hx hb dX10_readChain_47 hl (by decide) rfl (fun ls hl => ?_)
        refine lv_aload_n hx hb dX10_readChain_49 rfl (lv_at hl 2 rfl) ?_
        refine lv_dup hx hb dX10_readChain_50 rfl ?_
        refine va_get (D := (dC, dI)) (ci := 10) (v := .int i_7_1) (C := RX10) (T := TX10) (N := 4) hx hb hts (fun _ h => List.mem_cons_of_mem _ (List.mem_append_left _ (List.mem_append_right _ h))) hown hK hP 2 rfl rfl 2 (by decide) (hts (.fieldLink RX10 17 "KinkStreet$Tape" "place" "I") (List.mem_of_getElem? (i := 1) rfl)) (fun _ h9 => h9) rfl dX10_readChain_51 ?_
        refine lv_iconst (v := 1) hx hb dX10_readChain_54 (by decide) ?_
        refine lv_iadd hx hb dX10_readChain_55 ?_
        refine va_put (D := (dC, dI)) (ci := 10) (v := .int (i_7_1 + 1)) (ty := .int) (C := RX10) (T := TX10) (N := 4) hx hb hts (fun _ h => List.mem_cons_of_mem _ (List.mem_append_left _ (List.mem_append_right _ h))) tyX10 tyX10_ok nmX10 hown hK hP hD hS 2 rfl rfl 2 (by decide) (hts (.fieldLink RX10 17 "KinkStreet$Tape" "place" "I") (List.mem_of_getElem? (i := 1) rfl)) (fun _ h9 => h9) rfl (by decide +kernel) rfl rfl (Nat.le_of_ble_eq_true rfl) dX10_readChain_56 (fun H locs hP hD hS => ?_)
        have hP : va_P (dC, dI) vwCl [(h2, Sum.inr (4, [Value.ref h3, Value.int i_7_2, Value.ref h4, Value.ref h5, Value.int n2_top])), (h3, Sum.inl (cint, 128, Sum.inl f_7_3)), (h0, Sum.inr (10, [Value.ref h1, Value.int n0_size, Value.int (i_7_1 + 1), Value.ref h2])), (h1, Sum.inl (cint, 120, Sum.inl f1))] H := hP
        have hD : va_D A [(h2, Sum.inr (4, [Value.ref h3, Value.int i_7_2, Value.ref h4, Value.ref h5, Value.int n2_top])), (h3, Sum.inl (cint, 128, Sum.inl f_7_3)), (h0, Sum.inr (10, [Value.ref h1, Value.int n0_size, Value.int (i_7_1 + 1), Value.ref h2])), (h1, Sum.inl (cint, 120, Sum.inl f1))] := hD
        refine lv_aload_n hx hb dX10_readChain_59 rfl (lv_at hl 2 rfl) ?_
        refine lv_iload_n hx hb dX10_readChain_60 rfl (lv_at hl 3 rfl) ?_
        refine lv_iconst (v := 1) hx hb dX10_readChain_61 (by decide) ?_
        refine lv_iadd hx hb dX10_readChain_62 ?_
        refine lv_topi (fun y_124 e_124 => ?_)
        obtain rfl : y_124 = 1 := e_124.trans (by decide)
        refine lv_iload_n hx hb dX10_readChain_63 rfl (lv_at hl 4 rfl) ?_
        have hPc := hP.sub (ws' := [(h0, Sum.inr (10, [Value.ref h1, Value.int n0_size, Value.int (i_7_1 + 1), Value.ref h2])), (h1, Sum.inl (cint, 120, Sum.inl f1)), (h2, Sum.inr (4, [Value.ref h3, Value.int i_7_2, Value.ref h4, Value.ref h5, Value.int n2_top])), (h3, Sum.inl (cint, 128, Sum.inl f_7_3))]) [2, 3, 0, 1] rfl
        have hDc := hD.sub (ws' := [(h0, Sum.inr (10, [Value.ref h1, Value.int n0_size, Value.int (i_7_1 + 1), Value.ref h2])), (h1, Sum.inl (cint, 120, Sum.inl f1)), (h2, Sum.inr (4, [Value.ref h3, Value.int i_7_2, Value.ref h4, Value.ref h5, Value.int n2_top])), (h3, Sum.inl (cint, 128, Sum.inl f_7_3))]) [2, 3, 0, 1] (by decide) rfl
        have hKc := hK.sub (tys' := [(cint, .int)]) [0] rfl
        have hFc := va_free (wc := [(h0, Sum.inr (10, [Value.ref h1, Value.int n0_size, Value.int (i_7_1 + 1), Value.ref h2])), (h1, Sum.inl (cint, 120, Sum.inl f1)), (h2, Sum.inr (4, [Value.ref h3, Value.int i_7_2, Value.ref h4, Value.ref h5, Value.int n2_top])), (h3, Sum.inl (cint, 128, Sum.inl f_7_3))]) hD hS hA [2, 3, 0, 1] rfl
        refine va_calli (va_runV (As := [.int 1, .int 1]) (rest := []) ⟨hx, hb, hml, hown, hts⟩ (g_X10_readChain_34 l dC dI h0 h1 h2 h3 h4 h5 cint H.size n0_size (i_7_1 + 1) f1 i_7_2 n2_top f_7_3 tn0_size bf1 (by show 0 ≤ (i_7_2 : Int32).toInt ∧ (i_7_2 : Int32).toInt ≤ 128; first | decide | (constructor <;> (omega))) tn2_top aNAMES) (cwV 2 hts gX10_readChain_X10_readChain rfl rfl rfl (by decide +kernel) ⟨Nat.le_of_ble_eq_true rfl, Nat.le_of_ble_eq_true rfl⟩) ⟨fun a U g mk q => by obtain ⟨q0, q1, qP, qK, qD, qx0, qx1⟩ := q; exact ⟨q0, q1, qP, va_K.moved (u := U) (U := U.calling g mk a) (Vm.Alike.refl U.vm) qK, qD, va_Z.moved (u := U) (U := U.calling g mk a) (Vm.Alike.refl U.vm) qx0, va_T.moved (u := U) (U := U.calling g mk a) (Vm.Alike.refl U.vm) qx1⟩, va_recv hKc hPc (ci := 10) (q0 := 0) rfl rfl, fun U hU hW => ⟨rfl, by rw [hU], by rw [hU]; exact hPc, va_K.moved hW.alike hKc, hDc.weaken (fun _ _ _ _ => trivial), by rw [hU]; exact ((hZNAMES.kept (fun a h1 h2 => hS.2.1 a h1 h2)).narrow hFc).moved hW.alike, by rw [hU]; exact ((hTNAMES.kept (fun a h1 h2 => hS.2.1 a h1 h2)).narrow hFc).moved hW.alike⟩⟩ rfl rfl hl.1 rfl (lv_room (Nat.le_of_ble_eq_true rfl)) dX10_readChain_64 ⟨Nat.le_of_ble_eq_true rfl, Nat.le_of_ble_eq_true rfl⟩) hS (fun q _ h => hFc q h) hFc (fun r_125 u t H1 locs ht hvm hw hB hz1 hk1 hS => ?_)
        obtain ⟨y_126, y_127, f_128, by_127, hP1, hK1, hD1⟩ := hB
        rw [ht] at hP1
        have hK1 := va_K.moved hvm.symm hK1
        obtain ⟨hP, hD⟩ := va_join (wr := []) (w1 := [(h0, Sum.inr (10, [Value.ref h1, Value.int n0_size, Value.int y_126, Value.ref h2])), (h1, Sum.inl (cint, 120, Sum.inl f1)), (h2, Sum.inr (4, [Value.ref h3, Value.int y_127, Value.ref h4, Value.ref h5, Value.int n2_top])), (h3, Sum.inl (cint, 128, Sum.inl f_128))]) hP hD [2, 3, 0, 1] [] rfl rfl (by decide) (by decide) hk1 hFc hP1 hD1
        generalize H1 = H at hP hS ⊢
        have hP : va_P (dC, dI) vwCl [(h0, Sum.inr (10, [Value.ref h1, Value.int n0_size, Value.int y_126, Value.ref h2])), (h1, Sum.inl (cint, 120, Sum.inl f1)), (h2, Sum.inr (4, [Value.ref h3, Value.int y_127, Value.ref h4, Value.ref h5, Value.int n2_top])), (h3, Sum.inl (cint, 128, Sum.inl f_128))] H := hP
        have hD : va_D A [(h0, Sum.inr (10, [Value.ref h1, Value.int n0_size, Value.int y_126, Value.ref h2])), (h1, Sum.inl (cint, 120, Sum.inl f1)), (h2, Sum.inr (4, [Value.ref h3, Value.int y_127, Value.ref h4, Value.ref h5, Value.int n2_top])), (h3, Sum.inl (cint, 128, Sum.inl f_128))] := hD
        have t_125 : 0 ≤ r_125.toInt ∧ r_125.toInt ≤ 1 := hw
        refine lv_if_ne (tgt := 72) hx hb dX10_readChain_67 (by decide) (fun c_129 => ?_) (fun c_129 => ?_)
        · have t_129 : r_125.toInt ≠ 0 := kk_ne c_129
          refine lv_aload_n hx hb dX10_readChain_72 rfl (lv_at hl 2 rfl) ?_
          refine va_get (D := (dC, dI)) (ci := 10) (v := .ref h2) (C := RX10) (T := TX10) (N := 4) hx hb hts (fun _ h => List.mem_cons_of_mem _ (List.mem_append_left _ (List.mem_append_right _ h))) hown hK hP 0 rfl rfl 3 (by decide) (hts (.fieldLink RX10 20 "KinkStreet$Tape" "law" "LKinkStreet$Law;") (List.mem_of_getElem? (i := 2) rfl)) (fun _ h9 => h9) rfl dX10_readChain_73 ?_
          refine lv_iload hx hb dX10_readChain_76 (lv_at hl 0 rfl) ?_
          have hPc := hP.sub (ws' := [(h2, Sum.inr (4, [Value.ref h3, Value.int y_127, Value.ref h4, Value.ref h5, Value.int n2_top])), (h3, Sum.inl (cint, 128, Sum.inl f_128))]) [2, 3] rfl
          have hDc := hD.sub (ws' := [(h2, Sum.inr (4, [Value.ref h3, Value.int y_127, Value.ref h4, Value.ref h5, Value.int n2_top])), (h3, Sum.inl (cint, 128, Sum.inl f_128))]) [2, 3] (by decide) rfl
          have hKc := hK.sub (tys' := [(cint, .int)]) [0] rfl
          have hFc := va_free (wc := [(h2, Sum.inr (4, [Value.ref h3, Value.int y_127, Value.ref h4, Value.ref h5, Value.int n2_top])), (h3, Sum.inl (cint, 128, Sum.inl f_128))]) hD hS hA [2, 3] rfl
          refine va_callv (va_runV (As := [.int r_123]) (rest := []) ⟨hx, hb, hml, hown, hts⟩ (g_X4_append_0 l dC dI h2 h3 h4 h5 cint H.size r_123 y_127 n2_top f_128 (by show 0 ≤ (y_127 : Int32).toInt ∧ (y_127 : Int32).toInt ≤ 128; first | decide | (constructor <;> (omega))) tn2_top) (cwV 1 hts gX10_readChain_X4_append rfl rfl rfl (by decide +kernel) ⟨Nat.le_of_ble_eq_true rfl, Nat.le_of_ble_eq_true rfl⟩) ⟨fun a U g mk q => by obtain ⟨q0, q1, qP, qK, qD⟩ := q; exact ⟨q0, q1, qP, va_K.moved (u := U) (U := U.calling g mk a) (Vm.Alike.refl U.vm) qK, qD⟩, va_recv hKc hPc (ci := 4) (q0 := 0) rfl rfl, fun U hU hW => ⟨rfl, by rw [hU], by rw [hU]; exact hPc, va_K.moved hW.alike hKc, hDc.weaken (fun _ _ _ _ => trivial)⟩⟩ rfl rfl hl.1 rfl (lv_room (Nat.le_of_ble_eq_true rfl)) dX10_readChain_78 ⟨Nat.le_of_ble_eq_true rfl, Nat.le_of_ble_eq_true rfl⟩) hS (fun q _ h => hFc q h) hFc (fun u t H1 locs ht hvm hw hB hz1 hk1 hS => ?_)
          obtain ⟨y_131, f_132, by_131, hP1, hK1, hD1⟩ := hB
          rw [ht] at hP1
          have hK1 := va_K.moved hvm.symm hK1
          obtain ⟨hP, hD⟩ := va_join (wr := [(h0, Sum.inr (10, [Value.ref h1, Value.int n0_size, Value.int y_126, Value.ref h2])), (h1, Sum.inl (cint, 120, Sum.inl f1))]) (w1 := [(h2, Sum.inr (4, [Value.ref h3, Value.int y_131, Value.ref h4, Value.ref h5, Value.int n2_top])), (h3, Sum.inl (cint, 128, Sum.inl f_132))]) hP hD [2, 3] [0, 1] rfl rfl (by decide) (by decide) hk1 hFc hP1 hD1
          generalize H1 = H at hP hS ⊢
          have hP : va_P (dC, dI) vwCl [(h0, Sum.inr (10, [Value.ref h1, Value.int n0_size, Value.int y_126, Value.ref h2])), (h1, Sum.inl (cint, 120, Sum.inl f1)), (h2, Sum.inr (4, [Value.ref h3, Value.int y_131, Value.ref h4, Value.ref h5, Value.int n2_top])), (h3, Sum.inl (cint, 128, Sum.inl f_132))] H := hP
          have hD : va_D A [(h0, Sum.inr (10, [Value.ref h1, Value.int n0_size, Value.int y_126, Value.ref h2])), (h1, Sum.inl (cint, 120, Sum.inl f1)), (h2, Sum.inr (4, [Value.ref h3, Value.int y_131, Value.ref h4, Value.ref h5, Value.int n2_top])), (h3, Sum.inl (cint, 128, Sum.inl f_132))] := hD
          refine lv_iload_n hx hb dX10_readChain_81 rfl (lv_at hl 3 rfl) ?_
          refine lv_iconst (v := 2) hx hb dX10_readChain_82 (by decide) ?_
          refine lv_icmp_ne (tgt := 88) hx hb dX10_readChain_83 (by decide) (fun _ => ?_) (fun c => absurd c (by decide))
          refine lv_iinc (v := (i_7_0 + 1)) (lv' := [(3, .int (i_7_0 + 1)), (4, .int r_123), (0, .ref h0), (1, .int 0), (2, .int 1)]) hx hb dX10_readChain_88 hl (k := 1) rfl (by first | rfl | decide) (by decide) rfl (fun ls hl => ?_)
          refine lv_goto (tgt := 26) hx hb dX10_readChain_91 (by decide) ?_
          exact ih_7 ((i_7_0 + 1), y_126, y_131, f_132) _ _ _ (by show ((120 : Int) - ((i_7_0 + 1)).toInt).toNat < ((120 : Int) - i_7_0.toInt).toNat; have := kk_add2 (x := i_7_0) (y := 1) (a := i_7_0.toInt) (b := 1) rfl rfl (by omega) (by omega); exact kk_mu (by omega) (by omega)) ⟨(by show 0 ≤ ((i_7_0 + 1) : Int32).toInt ∧ ((i_7_0 + 1) : Int32).toInt ≤ 120; first | decide | (constructor <;> (have := kk_add2 (x := i_7_0) (y := 1) (a := i_7_0.toInt) (b := 1) rfl rfl (by omega) (by omega); omega))), (by show 0 ≤ (y_131 : Int32).toInt ∧ (y_131 : Int32).toInt ≤ 128; first | decide | (constructor <;> (have := kk_add2 (x := i_7_0) (y := 1) (a := i_7_0.toInt) (b := 1) rfl rfl (by omega) (by omega); omega))), hP, hD, hS, lv_sub hl [0, 2, 3, 4] rfl⟩
        · have t_129 : r_125.toInt = 0 := kk_eq c_129
          refine lv_iconst (v := 0) hx hb dX10_readChain_70 (by decide) ?_
          have hP9 := hP.sub (ws' := [(h0, Sum.inr (10, [Value.ref h1, Value.int n0_size, Value.int y_126, Value.ref h2])), (h1, Sum.inl (cint, 120, Sum.inl f1)), (h2, Sum.inr (4, [Value.ref h3, Value.int y_127, Value.ref h4, Value.ref h5, Value.int n2_top])), (h3, Sum.inl (cint, 128, Sum.inl f_128))]) [0, 1, 2, 3] rfl
          have hD9 := hD.sub (ws' := [(h0, Sum.inr (10, [Value.ref h1, Value.int n0_size, Value.int y_126, Value.ref h2])), (h1, Sum.inl (cint, 120, Sum.inl f1)), (h2, Sum.inr (4, [Value.ref h3, Value.int y_127, Value.ref h4, Value.ref h5, Value.int n2_top])), (h3, Sum.inl (cint, 128, Sum.inl f_128))]) [0, 1, 2, 3] (by decide) rfl
          have hK9 := hK.sub (tys' := []) [] rfl
          exact W.zret (v := 0) hx hb hr rfl (fun t ht hW => ⟨⟨0, (), rfl, (by show 0 ≤ (0 : Int32).toInt ∧ (0 : Int32).toInt ≤ 1; first | decide | (constructor <;> (omega))), y_126, y_127, f_128, (by show 0 ≤ (y_127 : Int32).toInt ∧ (y_127 : Int32).toInt ≤ 128; first | decide | (constructor <;> (omega))), by rw [ht]; exact hP9, va_K.moved hW.alike hK9, hD9⟩, hS.F ht⟩) hS.2.2 dX10_readChain_71
  · have t_6 : r_2.toInt = 0 := kk_eq c_6
    refine lv_iconst (v := 0) hx hb dX10_readChain_22 (by decide) ?_
    have hP9 := hP.sub (ws' := [(h0, Sum.inr (10, [Value.ref h1, Value.int n0_size, Value.int y_3, Value.ref h2])), (h1, Sum.inl (cint, 120, Sum.inl f1)), (h2, Sum.inr (4, [Value.ref h3, Value.int y_4, Value.ref h4, Value.ref h5, Value.int n2_top])), (h3, Sum.inl (cint, 128, Sum.inl f_5))]) [0, 1, 2, 3] rfl
    have hD9 := hD.sub (ws' := [(h0, Sum.inr (10, [Value.ref h1, Value.int n0_size, Value.int y_3, Value.ref h2])), (h1, Sum.inl (cint, 120, Sum.inl f1)), (h2, Sum.inr (4, [Value.ref h3, Value.int y_4, Value.ref h4, Value.ref h5, Value.int n2_top])), (h3, Sum.inl (cint, 128, Sum.inl f_5))]) [0, 1, 2, 3] (by decide) rfl
    have hK9 := hK.sub (tys' := []) [] rfl
    exact W.zret (v := 0) hx hb hr rfl (fun t ht hW => ⟨⟨0, (), rfl, (by show 0 ≤ (0 : Int32).toInt ∧ (0 : Int32).toInt ≤ 1; first | decide | (constructor <;> (omega))), y_3, y_4, f_5, (by show 0 ≤ (y_4 : Int32).toInt ∧ (y_4 : Int32).toInt ≤ 128; first | decide | (constructor <;> (omega))), by rw [ht]; exact hP9, va_K.moved hW.alike hK9, hD9⟩, hS.F ht⟩) hS.2.2 dX10_readChain_23
set_option maxHeartbeats 4000000 in
set_option maxRecDepth 100000 in
theorem g_X10_readInner_5 (l : Launch) (dC : Nat → ClassId) (dI : Nat → Nat → Nat) (h0 : Nat) (h1 : Nat) (h2 : Nat) (h3 : Nat) (h4 : Nat) (h5 : Nat) (cint : ClassId) (sz : Nat) (n0_size : Int32) (n0_place : Int32) (f1 : Nat → Int32) (n2_size : Int32) (n2_top : Int32) (f3 : Nat → Int32) (tn0_size : 0 ≤ n0_size.toInt ∧ n0_size.toInt ≤ 120) (bf1 : ∀ j, j < 120 → 0 ≤ (f1 j).toInt ∧ (f1 j).toInt ≤ 255) (tn2_size : 0 ≤ n2_size.toInt ∧ n2_size.toInt ≤ 128) (tn2_top : 0 ≤ n2_top.toInt ∧ n2_top.toInt ≤ 64) (aNAMES : Nat) : Met l yX10_readInner wsX10_readInner ({ frames := 49, cells := 0, slots := 0, locals := 1150 }) (va_Pc [.ref h0, .int 1] (fun U => U.heap.size = sz ∧ va_P (dC, dI) vwCl [(h0, Sum.inr (10, [Value.ref h1, Value.int n0_size, Value.int n0_place, Value.ref h2])), (h1, Sum.inl (cint, 120, Sum.inl f1)), (h2, Sum.inr (4, [Value.ref h3, Value.int n2_size, Value.ref h4, Value.ref h5, Value.int n2_top])), (h3, Sum.inl (cint, 128, Sum.inl f3))] U.heap ∧ va_K (dC, dI) vwCl [(cint, .int)] U ∧ va_D (fun _ => True) [(h0, Sum.inr (10, [Value.ref h1, Value.int n0_size, Value.int n0_place, Value.ref h2])), (h1, Sum.inl (cint, 120, Sum.inl f1)), (h2, Sum.inr (4, [Value.ref h3, Value.int n2_size, Value.ref h4, Value.ref h5, Value.int n2_top])), (h3, Sum.inl (cint, 128, Sum.inl f3))] ∧ va_Z "KinkStreet$Law" "NAMES" "[C" (.ref aNAMES) (va_A [(h0, Sum.inr (10, [Value.ref h1, Value.int n0_size, Value.int n0_place, Value.ref h2])), (h1, Sum.inl (cint, 120, Sum.inl f1)), (h2, Sum.inr (4, [Value.ref h3, Value.int n2_size, Value.ref h4, Value.ref h5, Value.int n2_top])), (h3, Sum.inl (cint, 128, Sum.inl f3))] sz) U U.heap ∧ va_T .char aNAMES 8 tb_NAMES (va_A [(h0, Sum.inr (10, [Value.ref h1, Value.int n0_size, Value.int n0_place, Value.ref h2])), (h1, Sum.inl (cint, 120, Sum.inl f1)), (h2, Sum.inr (4, [Value.ref h3, Value.int n2_size, Value.ref h4, Value.ref h5, Value.int n2_top])), (h3, Sum.inl (cint, 128, Sum.inl f3))] sz) U U.heap)) (va_Qi (fun (r : Int32) (_ : Unit) => (0 ≤ r.toInt ∧ r.toInt ≤ 1)) (fun (_ : Unit) t => ∃ (m0_place : Int32) (m2_size : Int32) (g3 : Nat → Int32), (0 ≤ m2_size.toInt ∧ m2_size.toInt ≤ 128) ∧ va_P (dC, dI) vwCl [(h0, Sum.inr (10, [Value.ref h1, Value.int n0_size, Value.int m0_place, Value.ref h2])), (h1, Sum.inl (cint, 120, Sum.inl f1)), (h2, Sum.inr (4, [Value.ref h3, Value.int m2_size, Value.ref h4, Value.ref h5, Value.int n2_top])), (h3, Sum.inl (cint, 128, Sum.inl g3))] t.heap ∧ va_K (dC, dI) vwCl [] t ∧ va_D (va_A [(h0, Sum.inr (10, [Value.ref h1, Value.int n0_size, Value.int n0_place, Value.ref h2])), (h1, Sum.inl (cint, 120, Sum.inl f1)), (h2, Sum.inr (4, [Value.ref h3, Value.int n2_size, Value.ref h4, Value.ref h5, Value.int n2_top])), (h3, Sum.inl (cint, 128, Sum.inl f3))] sz) [(h0, Sum.inr (10, [Value.ref h1, Value.int n0_size, Value.int m0_place, Value.ref h2])), (h1, Sum.inl (cint, 120, Sum.inl f1)), (h2, Sum.inr (4, [Value.ref h3, Value.int m2_size, Value.ref h4, Value.ref h5, Value.int n2_top])), (h3, Sum.inl (cint, 128, Sum.inl g3))]) (va_A [(h0, Sum.inr (10, [Value.ref h1, Value.int n0_size, Value.int n0_place, Value.ref h2])), (h1, Sum.inl (cint, 120, Sum.inl f1)), (h2, Sum.inr (4, [Value.ref h3, Value.int n2_size, Value.ref h4, Value.ref h5, Value.int n2_top])), (h3, Sum.inl (cint, 128, Sum.inl f3))] sz)) 0 0 (va_A [(h0, Sum.inr (10, [Value.ref h1, Value.int n0_size, Value.int n0_place, Value.ref h2])), (h1, Sum.inl (cint, 120, Sum.inl f1)), (h2, Sum.inr (4, [Value.ref h3, Value.int n2_size, Value.ref h4, Value.ref h5, Value.int n2_top])), (h3, Sum.inl (cint, 128, Sum.inl f3))] sz) := by
  refine Met.ofW (cc := cX10_readInner) (maxL := 2) (ret := (some .boolean)) (by decide) rfl ?_
  intro p e s m args below meth c s₁ B hml hv
  obtain ⟨rfl, hsz, hP, hK, hD0, hZNAMES, hTNAMES⟩ := hv
  have hx := B.exec
  have hb := B.bytes
  have hr := B.returns
  have hts := atoms_spec (ws := wsX10_readInner) B.pre
  have hown : s.vm.findClass RX10 = some m.cls := findClass_of_methodNamed B.named
  have hlocks := B.notSynchronized
  subst hsz
  have hD := hD0.self (sz := s.heap.size)
  generalize hAe : va_A [(h0, Sum.inr (10, [Value.ref h1, Value.int n0_size, Value.int n0_place, Value.ref h2])), (h1, Sum.inl (cint, 120, Sum.inl f1)), (h2, Sum.inr (4, [Value.ref h3, Value.int n2_size, Value.ref h4, Value.ref h5, Value.int n2_top])), (h3, Sum.inl (cint, 128, Sum.inl f3))] s.heap.size = A at hD hZNAMES hTNAMES ⊢
  have hA : ∀ q : Nat, s.heap.size ≤ q → A q := fun q h => by rw [← hAe]; exact Or.inr h
  have hS : va_S A s.heap s.heap [] := va_S.rf
  have hP : va_P (dC, dI) vwCl [(h0, Sum.inr (10, [Value.ref h1, Value.int n0_size, Value.int n0_place, Value.ref h2])), (h1, Sum.inl (cint, 120, Sum.inl f1)), (h2, Sum.inr (4, [Value.ref h3, Value.int n2_size, Value.ref h4, Value.ref h5, Value.int n2_top])), (h3, Sum.inl (cint, 128, Sum.inl f3))] s.heap := hP
  have hl := lv_entry ([.ref h0, .int 1]) (n := 2) (Nat.le_of_ble_eq_true rfl)
  rw [lg_entry_eq]
  generalize (lg_sl ([.ref h0, .int 1]) ++ List.replicate (2 - (lg_sl ([.ref h0, .int 1])).length) Slot.unset).toArray = ls at hl ⊢
  have hl : lv_has ls 2 [(0, .ref h0), (1, .int 1)] := hl
  refine lv_aload_n hx hb dX10_readInner_0 rfl (lv_at hl 0 rfl) ?_
  refine lv_iconst (v := 0) hx hb dX10_readInner_1 (by decide) ?_
  refine lv_iload_n hx hb dX10_readInner_2 rfl (lv_at hl 1 rfl) ?_
  have hPc := hP.sub (ws' := [(h0, Sum.inr (10, [Value.ref h1, Value.int n0_size, Value.int n0_place, Value.ref h2])), (h1, Sum.inl (cint, 120, Sum.inl f1)), (h2, Sum.inr (4, [Value.ref h3, Value.int n2_size, Value.ref h4, Value.ref h5, Value.int n2_top])), (h3, Sum.inl (cint, 128, Sum.inl f3))]) [0, 1, 2, 3] rfl
  have hDc := hD.sub (ws' := [(h0, Sum.inr (10, [Value.ref h1, Value.int n0_size, Value.int n0_place, Value.ref h2])), (h1, Sum.inl (cint, 120, Sum.inl f1)), (h2, Sum.inr (4, [Value.ref h3, Value.int n2_size, Value.ref h4, Value.ref h5, Value.int n2_top])), (h3, Sum.inl (cint, 128, Sum.inl f3))]) [0, 1, 2, 3] (by decide) rfl
  have hKc := hK.sub (tys' := [(cint, .int)]) [0] rfl
  have hFc := va_free (wc := [(h0, Sum.inr (10, [Value.ref h1, Value.int n0_size, Value.int n0_place, Value.ref h2])), (h1, Sum.inl (cint, 120, Sum.inl f1)), (h2, Sum.inr (4, [Value.ref h3, Value.int n2_size, Value.ref h4, Value.ref h5, Value.int n2_top])), (h3, Sum.inl (cint, 128, Sum.inl f3))]) hD hS hA [0, 1, 2, 3] rfl
  refine va_calli (va_runV (As := [.int 0, .int 1]) (rest := []) ⟨hx, hb, hml, hown, hts⟩ (g_X10_readChain_35 l dC dI h0 h1 h2 h3 h4 h5 cint s.heap.size n0_size n0_place f1 n2_size n2_top f3 tn0_size bf1 tn2_size tn2_top aNAMES) (cwV 2 hts gX10_readInner_X10_readChain rfl rfl rfl (by decide +kernel) ⟨Nat.le_of_ble_eq_true rfl, Nat.le_of_ble_eq_true rfl⟩) ⟨fun a U g mk q => by obtain ⟨q0, q1, qP, qK, qD, qx0, qx1⟩ := q; exact ⟨q0, q1, qP, va_K.moved (u := U) (U := U.calling g mk a) (Vm.Alike.refl U.vm) qK, qD, va_Z.moved (u := U) (U := U.calling g mk a) (Vm.Alike.refl U.vm) qx0, va_T.moved (u := U) (U := U.calling g mk a) (Vm.Alike.refl U.vm) qx1⟩, va_recv hKc hPc (ci := 10) (q0 := 0) rfl rfl, fun U hU hW => ⟨rfl, by rw [hU], by rw [hU]; exact hPc, va_K.moved hW.alike hKc, hDc.weaken (fun _ _ _ _ => trivial), by rw [hU]; exact ((hZNAMES.kept (fun a h1 h2 => hS.2.1 a h1 h2)).narrow hFc).moved hW.alike, by rw [hU]; exact ((hTNAMES.kept (fun a h1 h2 => hS.2.1 a h1 h2)).narrow hFc).moved hW.alike⟩⟩ rfl rfl hl.1 rfl (lv_room (Nat.le_of_ble_eq_true rfl)) dX10_readInner_3 ⟨Nat.le_of_ble_eq_true rfl, Nat.le_of_ble_eq_true rfl⟩) hS (fun q _ h => hFc q h) hFc (fun r_1 u t H1 locs ht hvm hw hB hz1 hk1 hS => ?_)
  obtain ⟨y_2, y_3, f_4, by_3, hP1, hK1, hD1⟩ := hB
  rw [ht] at hP1
  have hK1 := va_K.moved hvm.symm hK1
  obtain ⟨hP, hD⟩ := va_join (wr := []) (w1 := [(h0, Sum.inr (10, [Value.ref h1, Value.int n0_size, Value.int y_2, Value.ref h2])), (h1, Sum.inl (cint, 120, Sum.inl f1)), (h2, Sum.inr (4, [Value.ref h3, Value.int y_3, Value.ref h4, Value.ref h5, Value.int n2_top])), (h3, Sum.inl (cint, 128, Sum.inl f_4))]) hP hD [0, 1, 2, 3] [] rfl rfl (by decide) (by decide) hk1 hFc hP1 hD1
  generalize H1 = H at hP hS ⊢
  have hP : va_P (dC, dI) vwCl [(h0, Sum.inr (10, [Value.ref h1, Value.int n0_size, Value.int y_2, Value.ref h2])), (h1, Sum.inl (cint, 120, Sum.inl f1)), (h2, Sum.inr (4, [Value.ref h3, Value.int y_3, Value.ref h4, Value.ref h5, Value.int n2_top])), (h3, Sum.inl (cint, 128, Sum.inl f_4))] H := hP
  have hD : va_D A [(h0, Sum.inr (10, [Value.ref h1, Value.int n0_size, Value.int y_2, Value.ref h2])), (h1, Sum.inl (cint, 120, Sum.inl f1)), (h2, Sum.inr (4, [Value.ref h3, Value.int y_3, Value.ref h4, Value.ref h5, Value.int n2_top])), (h3, Sum.inl (cint, 128, Sum.inl f_4))] := hD
  have t_1 : 0 ≤ r_1.toInt ∧ r_1.toInt ≤ 1 := hw
  refine lv_if_eq (tgt := 18) hx hb dX10_readInner_6 (by decide) (fun c_5 => ?_) (fun c_5 => ?_)
  · have t_5 : r_1.toInt = 0 := kk_eq c_5
    refine lv_iconst (v := 0) hx hb dX10_readInner_18 (by decide) ?_
    have hP9 := hP.sub (ws' := [(h0, Sum.inr (10, [Value.ref h1, Value.int n0_size, Value.int y_2, Value.ref h2])), (h1, Sum.inl (cint, 120, Sum.inl f1)), (h2, Sum.inr (4, [Value.ref h3, Value.int y_3, Value.ref h4, Value.ref h5, Value.int n2_top])), (h3, Sum.inl (cint, 128, Sum.inl f_4))]) [0, 1, 2, 3] rfl
    have hD9 := hD.sub (ws' := [(h0, Sum.inr (10, [Value.ref h1, Value.int n0_size, Value.int y_2, Value.ref h2])), (h1, Sum.inl (cint, 120, Sum.inl f1)), (h2, Sum.inr (4, [Value.ref h3, Value.int y_3, Value.ref h4, Value.ref h5, Value.int n2_top])), (h3, Sum.inl (cint, 128, Sum.inl f_4))]) [0, 1, 2, 3] (by decide) rfl
    have hK9 := hK.sub (tys' := []) [] rfl
    exact W.zret (v := 0) hx hb hr rfl (fun t ht hW => ⟨⟨0, (), rfl, (by show 0 ≤ (0 : Int32).toInt ∧ (0 : Int32).toInt ≤ 1; first | decide | (constructor <;> (omega))), y_2, y_3, f_4, (by show 0 ≤ (y_3 : Int32).toInt ∧ (y_3 : Int32).toInt ≤ 128; first | decide | (constructor <;> (omega))), by rw [ht]; exact hP9, va_K.moved hW.alike hK9, hD9⟩, hS.F ht⟩) hS.2.2 dX10_readInner_19
  · have t_5 : r_1.toInt ≠ 0 := kk_ne c_5
    refine lv_aload_n hx hb dX10_readInner_9 rfl (lv_at hl 0 rfl) ?_
    have hPc := hP.sub (ws' := [(h0, Sum.inr (10, [Value.ref h1, Value.int n0_size, Value.int y_2, Value.ref h2])), (h1, Sum.inl (cint, 120, Sum.inl f1))]) [0, 1] rfl
    have hDc := hD.sub (ws' := [(h0, Sum.inr (10, [Value.ref h1, Value.int n0_size, Value.int y_2, Value.ref h2])), (h1, Sum.inl (cint, 120, Sum.inl f1))]) [0, 1] (by decide) rfl
    have hKc := hK.sub (tys' := [(cint, .int)]) [0] rfl
    have hFc := va_free (wc := [(h0, Sum.inr (10, [Value.ref h1, Value.int n0_size, Value.int y_2, Value.ref h2])), (h1, Sum.inl (cint, 120, Sum.inl f1))]) hD hS hA [0, 1] rfl
    refine va_calli (va_runV (As := []) (rest := []) ⟨hx, hb, hml, hown, hts⟩ (g_X10_next_0 l dC dI h0 h1 h2 cint H.size n0_size y_2 f1 tn0_size bf1) (cwV 0 hts gX10_readInner_X10_next rfl rfl rfl (by decide +kernel) ⟨Nat.le_of_ble_eq_true rfl, Nat.le_of_ble_eq_true rfl⟩) ⟨fun a U g mk q => by obtain ⟨q0, q1, qP, qK, qD⟩ := q; exact ⟨q0, q1, qP, va_K.moved (u := U) (U := U.calling g mk a) (Vm.Alike.refl U.vm) qK, qD⟩, va_recv hKc hPc (ci := 10) (q0 := 0) rfl rfl, fun U hU hW => ⟨rfl, by rw [hU], by rw [hU]; exact hPc, va_K.moved hW.alike hKc, hDc.weaken (fun _ _ _ _ => trivial)⟩⟩ rfl rfl hl.1 rfl (lv_room (Nat.le_of_ble_eq_true rfl)) dX10_readInner_10 ⟨Nat.le_of_ble_eq_true rfl, Nat.le_of_ble_eq_true rfl⟩) hS (fun q _ h => hFc q h) hFc (fun r_6 u t H1 locs ht hvm hw hB hz1 hk1 hS => ?_)
    obtain ⟨hP1, hK1, hD1⟩ := hB
    rw [ht] at hP1
    have hK1 := va_K.moved hvm.symm hK1
    obtain ⟨hP, hD⟩ := va_join (wr := [(h2, Sum.inr (4, [Value.ref h3, Value.int y_3, Value.ref h4, Value.ref h5, Value.int n2_top])), (h3, Sum.inl (cint, 128, Sum.inl f_4))]) (w1 := [(h0, Sum.inr (10, [Value.ref h1, Value.int n0_size, Value.int y_2, Value.ref h2])), (h1, Sum.inl (cint, 120, Sum.inl f1))]) hP hD [0, 1] [2, 3] rfl rfl (by decide) (by decide) hk1 hFc hP1 hD1
    generalize H1 = H at hP hS ⊢
    have hP : va_P (dC, dI) vwCl [(h2, Sum.inr (4, [Value.ref h3, Value.int y_3, Value.ref h4, Value.ref h5, Value.int n2_top])), (h3, Sum.inl (cint, 128, Sum.inl f_4)), (h0, Sum.inr (10, [Value.ref h1, Value.int n0_size, Value.int y_2, Value.ref h2])), (h1, Sum.inl (cint, 120, Sum.inl f1))] H := hP
    have hD : va_D A [(h2, Sum.inr (4, [Value.ref h3, Value.int y_3, Value.ref h4, Value.ref h5, Value.int n2_top])), (h3, Sum.inl (cint, 128, Sum.inl f_4)), (h0, Sum.inr (10, [Value.ref h1, Value.int n0_size, Value.int y_2, Value.ref h2])), (h1, Sum.inl (cint, 120, Sum.inl f1))] := hD
    have t_6 : (-1) ≤ r_6.toInt ∧ r_6.toInt ≤ 255 := hw
    refine lv_bipush (v := 41) hx hb dX10_readInner_13 (by decide) ?_
    refine lv_icmp_eq (tgt := 20) hx hb dX10_readInner_15 (by decide) (fun c_7 => ?_) (fun c_7 => ?_)
    · have t_7 : r_6.toInt = 41 := kk_eq c_7
      refine lv_aload_n hx hb dX10_readInner_20 rfl (lv_at hl 0 rfl) ?_
      refine lv_dup hx hb dX10_readInner_21 rfl ?_
      refine va_get (D := (dC, dI)) (ci := 10) (v := .int y_2) (C := RX10) (T := TX10) (N := 4) hx hb hts (fun _ h => List.mem_cons_of_mem _ (List.mem_append_left _ (List.mem_append_right _ h))) hown hK hP 2 rfl rfl 2 (by decide) (hts (.fieldLink RX10 17 "KinkStreet$Tape" "place" "I") (List.mem_of_getElem? (i := 1) rfl)) (fun _ h9 => h9) rfl dX10_readInner_22 ?_
      refine lv_iconst (v := 1) hx hb dX10_readInner_25 (by decide) ?_
      refine lv_iadd hx hb dX10_readInner_26 ?_
      refine va_put (D := (dC, dI)) (ci := 10) (v := .int (y_2 + 1)) (ty := .int) (C := RX10) (T := TX10) (N := 4) hx hb hts (fun _ h => List.mem_cons_of_mem _ (List.mem_append_left _ (List.mem_append_right _ h))) tyX10 tyX10_ok nmX10 hown hK hP hD hS 2 rfl rfl 2 (by decide) (hts (.fieldLink RX10 17 "KinkStreet$Tape" "place" "I") (List.mem_of_getElem? (i := 1) rfl)) (fun _ h9 => h9) rfl (by decide +kernel) rfl rfl (Nat.le_of_ble_eq_true rfl) dX10_readInner_27 (fun H locs hP hD hS => ?_)
      have hP : va_P (dC, dI) vwCl [(h2, Sum.inr (4, [Value.ref h3, Value.int y_3, Value.ref h4, Value.ref h5, Value.int n2_top])), (h3, Sum.inl (cint, 128, Sum.inl f_4)), (h0, Sum.inr (10, [Value.ref h1, Value.int n0_size, Value.int (y_2 + 1), Value.ref h2])), (h1, Sum.inl (cint, 120, Sum.inl f1))] H := hP
      have hD : va_D A [(h2, Sum.inr (4, [Value.ref h3, Value.int y_3, Value.ref h4, Value.ref h5, Value.int n2_top])), (h3, Sum.inl (cint, 128, Sum.inl f_4)), (h0, Sum.inr (10, [Value.ref h1, Value.int n0_size, Value.int (y_2 + 1), Value.ref h2])), (h1, Sum.inl (cint, 120, Sum.inl f1))] := hD
      refine lv_iconst (v := 1) hx hb dX10_readInner_30 (by decide) ?_
      have hP9 := hP.sub (ws' := [(h0, Sum.inr (10, [Value.ref h1, Value.int n0_size, Value.int (y_2 + 1), Value.ref h2])), (h1, Sum.inl (cint, 120, Sum.inl f1)), (h2, Sum.inr (4, [Value.ref h3, Value.int y_3, Value.ref h4, Value.ref h5, Value.int n2_top])), (h3, Sum.inl (cint, 128, Sum.inl f_4))]) [2, 3, 0, 1] rfl
      have hD9 := hD.sub (ws' := [(h0, Sum.inr (10, [Value.ref h1, Value.int n0_size, Value.int (y_2 + 1), Value.ref h2])), (h1, Sum.inl (cint, 120, Sum.inl f1)), (h2, Sum.inr (4, [Value.ref h3, Value.int y_3, Value.ref h4, Value.ref h5, Value.int n2_top])), (h3, Sum.inl (cint, 128, Sum.inl f_4))]) [2, 3, 0, 1] (by decide) rfl
      have hK9 := hK.sub (tys' := []) [] rfl
      exact W.zret (v := 1) hx hb hr rfl (fun t ht hW => ⟨⟨1, (), rfl, (by show 0 ≤ (1 : Int32).toInt ∧ (1 : Int32).toInt ≤ 1; first | decide | (constructor <;> (omega))), (y_2 + 1), y_3, f_4, (by show 0 ≤ (y_3 : Int32).toInt ∧ (y_3 : Int32).toInt ≤ 128; first | decide | (constructor <;> (omega))), by rw [ht]; exact hP9, va_K.moved hW.alike hK9, hD9⟩, hS.F ht⟩) hS.2.2 dX10_readInner_31
    · have t_7 : r_6.toInt ≠ 41 := kk_ne c_7
      refine lv_iconst (v := 0) hx hb dX10_readInner_18 (by decide) ?_
      have hP9 := hP.sub (ws' := [(h0, Sum.inr (10, [Value.ref h1, Value.int n0_size, Value.int y_2, Value.ref h2])), (h1, Sum.inl (cint, 120, Sum.inl f1)), (h2, Sum.inr (4, [Value.ref h3, Value.int y_3, Value.ref h4, Value.ref h5, Value.int n2_top])), (h3, Sum.inl (cint, 128, Sum.inl f_4))]) [2, 3, 0, 1] rfl
      have hD9 := hD.sub (ws' := [(h0, Sum.inr (10, [Value.ref h1, Value.int n0_size, Value.int y_2, Value.ref h2])), (h1, Sum.inl (cint, 120, Sum.inl f1)), (h2, Sum.inr (4, [Value.ref h3, Value.int y_3, Value.ref h4, Value.ref h5, Value.int n2_top])), (h3, Sum.inl (cint, 128, Sum.inl f_4))]) [2, 3, 0, 1] (by decide) rfl
      have hK9 := hK.sub (tys' := []) [] rfl
      exact W.zret (v := 0) hx hb hr rfl (fun t ht hW => ⟨⟨0, (), rfl, (by show 0 ≤ (0 : Int32).toInt ∧ (0 : Int32).toInt ≤ 1; first | decide | (constructor <;> (omega))), y_2, y_3, f_4, (by show 0 ≤ (y_3 : Int32).toInt ∧ (y_3 : Int32).toInt ≤ 128; first | decide | (constructor <;> (omega))), by rw [ht]; exact hP9, va_K.moved hW.alike hK9, hD9⟩, hS.F ht⟩) hS.2.2 dX10_readInner_19
set_option maxHeartbeats 4000000 in
set_option maxRecDepth 100000 in
theorem g_X10_readSigned_5 (l : Launch) (dC : Nat → ClassId) (dI : Nat → Nat → Nat) (h0 : Nat) (h1 : Nat) (h2 : Nat) (h3 : Nat) (h4 : Nat) (h5 : Nat) (cint : ClassId) (sz : Nat) (p0 : Int32) (n0_size : Int32) (n0_place : Int32) (f1 : Nat → Int32) (n2_size : Int32) (n2_top : Int32) (f3 : Nat → Int32) (tn0_size : 0 ≤ n0_size.toInt ∧ n0_size.toInt ≤ 120) (bf1 : ∀ j, j < 120 → 0 ≤ (f1 j).toInt ∧ (f1 j).toInt ≤ 255) (tn2_size : 0 ≤ n2_size.toInt ∧ n2_size.toInt ≤ 128) (tn2_top : 0 ≤ n2_top.toInt ∧ n2_top.toInt ≤ 64) (aNAMES : Nat) : Met l yX10_readSigned wsX10_readSigned ({ frames := 43, cells := 0, slots := 0, locals := 1006 }) (va_Pc [.ref h0, .int p0, .int 1] (fun U => U.heap.size = sz ∧ va_P (dC, dI) vwCl [(h0, Sum.inr (10, [Value.ref h1, Value.int n0_size, Value.int n0_place, Value.ref h2])), (h1, Sum.inl (cint, 120, Sum.inl f1)), (h2, Sum.inr (4, [Value.ref h3, Value.int n2_size, Value.ref h4, Value.ref h5, Value.int n2_top])), (h3, Sum.inl (cint, 128, Sum.inl f3))] U.heap ∧ va_K (dC, dI) vwCl [(cint, .int)] U ∧ va_D (fun _ => True) [(h0, Sum.inr (10, [Value.ref h1, Value.int n0_size, Value.int n0_place, Value.ref h2])), (h1, Sum.inl (cint, 120, Sum.inl f1)), (h2, Sum.inr (4, [Value.ref h3, Value.int n2_size, Value.ref h4, Value.ref h5, Value.int n2_top])), (h3, Sum.inl (cint, 128, Sum.inl f3))] ∧ va_Z "KinkStreet$Law" "NAMES" "[C" (.ref aNAMES) (va_A [(h0, Sum.inr (10, [Value.ref h1, Value.int n0_size, Value.int n0_place, Value.ref h2])), (h1, Sum.inl (cint, 120, Sum.inl f1)), (h2, Sum.inr (4, [Value.ref h3, Value.int n2_size, Value.ref h4, Value.ref h5, Value.int n2_top])), (h3, Sum.inl (cint, 128, Sum.inl f3))] sz) U U.heap ∧ va_T .char aNAMES 8 tb_NAMES (va_A [(h0, Sum.inr (10, [Value.ref h1, Value.int n0_size, Value.int n0_place, Value.ref h2])), (h1, Sum.inl (cint, 120, Sum.inl f1)), (h2, Sum.inr (4, [Value.ref h3, Value.int n2_size, Value.ref h4, Value.ref h5, Value.int n2_top])), (h3, Sum.inl (cint, 128, Sum.inl f3))] sz) U U.heap)) (va_Qi (fun (r : Int32) (_ : Unit) => (0 ≤ r.toInt ∧ r.toInt ≤ 1)) (fun (_ : Unit) t => ∃ (m0_place : Int32) (m2_size : Int32) (g3 : Nat → Int32), (0 ≤ m2_size.toInt ∧ m2_size.toInt ≤ 128) ∧ va_P (dC, dI) vwCl [(h0, Sum.inr (10, [Value.ref h1, Value.int n0_size, Value.int m0_place, Value.ref h2])), (h1, Sum.inl (cint, 120, Sum.inl f1)), (h2, Sum.inr (4, [Value.ref h3, Value.int m2_size, Value.ref h4, Value.ref h5, Value.int n2_top])), (h3, Sum.inl (cint, 128, Sum.inl g3))] t.heap ∧ va_K (dC, dI) vwCl [] t ∧ va_D (va_A [(h0, Sum.inr (10, [Value.ref h1, Value.int n0_size, Value.int n0_place, Value.ref h2])), (h1, Sum.inl (cint, 120, Sum.inl f1)), (h2, Sum.inr (4, [Value.ref h3, Value.int n2_size, Value.ref h4, Value.ref h5, Value.int n2_top])), (h3, Sum.inl (cint, 128, Sum.inl f3))] sz) [(h0, Sum.inr (10, [Value.ref h1, Value.int n0_size, Value.int m0_place, Value.ref h2])), (h1, Sum.inl (cint, 120, Sum.inl f1)), (h2, Sum.inr (4, [Value.ref h3, Value.int m2_size, Value.ref h4, Value.ref h5, Value.int n2_top])), (h3, Sum.inl (cint, 128, Sum.inl g3))]) (va_A [(h0, Sum.inr (10, [Value.ref h1, Value.int n0_size, Value.int n0_place, Value.ref h2])), (h1, Sum.inl (cint, 120, Sum.inl f1)), (h2, Sum.inr (4, [Value.ref h3, Value.int n2_size, Value.ref h4, Value.ref h5, Value.int n2_top])), (h3, Sum.inl (cint, 128, Sum.inl f3))] sz)) 0 0 (va_A [(h0, Sum.inr (10, [Value.ref h1, Value.int n0_size, Value.int n0_place, Value.ref h2])), (h1, Sum.inl (cint, 120, Sum.inl f1)), (h2, Sum.inr (4, [Value.ref h3, Value.int n2_size, Value.ref h4, Value.ref h5, Value.int n2_top])), (h3, Sum.inl (cint, 128, Sum.inl f3))] sz) := by
  refine Met.ofW (cc := cX10_readSigned) (maxL := 3) (ret := (some .boolean)) (by decide) rfl ?_
  intro p e s m args below meth c s₁ B hml hv
  obtain ⟨rfl, hsz, hP, hK, hD0, hZNAMES, hTNAMES⟩ := hv
  have hx := B.exec
  have hb := B.bytes
  have hr := B.returns
  have hts := atoms_spec (ws := wsX10_readSigned) B.pre
  have hown : s.vm.findClass RX10 = some m.cls := findClass_of_methodNamed B.named
  have hlocks := B.notSynchronized
  subst hsz
  have hD := hD0.self (sz := s.heap.size)
  generalize hAe : va_A [(h0, Sum.inr (10, [Value.ref h1, Value.int n0_size, Value.int n0_place, Value.ref h2])), (h1, Sum.inl (cint, 120, Sum.inl f1)), (h2, Sum.inr (4, [Value.ref h3, Value.int n2_size, Value.ref h4, Value.ref h5, Value.int n2_top])), (h3, Sum.inl (cint, 128, Sum.inl f3))] s.heap.size = A at hD hZNAMES hTNAMES ⊢
  have hA : ∀ q : Nat, s.heap.size ≤ q → A q := fun q h => by rw [← hAe]; exact Or.inr h
  have hS : va_S A s.heap s.heap [] := va_S.rf
  have hP : va_P (dC, dI) vwCl [(h0, Sum.inr (10, [Value.ref h1, Value.int n0_size, Value.int n0_place, Value.ref h2])), (h1, Sum.inl (cint, 120, Sum.inl f1)), (h2, Sum.inr (4, [Value.ref h3, Value.int n2_size, Value.ref h4, Value.ref h5, Value.int n2_top])), (h3, Sum.inl (cint, 128, Sum.inl f3))] s.heap := hP
  have hl := lv_entry ([.ref h0, .int p0, .int 1]) (n := 3) (Nat.le_of_ble_eq_true rfl)
  rw [lg_entry_eq]
  generalize (lg_sl ([.ref h0, .int p0, .int 1]) ++ List.replicate (3 - (lg_sl ([.ref h0, .int p0, .int 1])).length) Slot.unset).toArray = ls at hl ⊢
  have hl : lv_has ls 3 [(0, .ref h0), (1, .int p0), (2, .int 1)] := hl
  refine lv_aload_n hx hb dX10_readSigned_0 rfl (lv_at hl 0 rfl) ?_
  refine lv_iload_n hx hb dX10_readSigned_1 rfl (lv_at hl 2 rfl) ?_
  have hPc := hP.sub (ws' := [(h0, Sum.inr (10, [Value.ref h1, Value.int n0_size, Value.int n0_place, Value.ref h2])), (h1, Sum.inl (cint, 120, Sum.inl f1)), (h2, Sum.inr (4, [Value.ref h3, Value.int n2_size, Value.ref h4, Value.ref h5, Value.int n2_top])), (h3, Sum.inl (cint, 128, Sum.inl f3))]) [0, 1, 2, 3] rfl
  have hDc := hD.sub (ws' := [(h0, Sum.inr (10, [Value.ref h1, Value.int n0_size, Value.int n0_place, Value.ref h2])), (h1, Sum.inl (cint, 120, Sum.inl f1)), (h2, Sum.inr (4, [Value.ref h3, Value.int n2_size, Value.ref h4, Value.ref h5, Value.int n2_top])), (h3, Sum.inl (cint, 128, Sum.inl f3))]) [0, 1, 2, 3] (by decide) rfl
  have hKc := hK.sub (tys' := [(cint, .int)]) [0] rfl
  have hFc := va_free (wc := [(h0, Sum.inr (10, [Value.ref h1, Value.int n0_size, Value.int n0_place, Value.ref h2])), (h1, Sum.inl (cint, 120, Sum.inl f1)), (h2, Sum.inr (4, [Value.ref h3, Value.int n2_size, Value.ref h4, Value.ref h5, Value.int n2_top])), (h3, Sum.inl (cint, 128, Sum.inl f3))]) hD hS hA [0, 1, 2, 3] rfl
  refine va_calli (va_runV (As := [.int 1]) (rest := []) ⟨hx, hb, hml, hown, hts⟩ (g_X10_readOperand_5 l dC dI h0 h1 h2 h3 h4 h5 cint s.heap.size n0_size n0_place f1 n2_size n2_top f3 tn0_size bf1 tn2_size tn2_top aNAMES) (cwV 1 hts gX10_readSigned_X10_readOperand rfl rfl rfl (by decide +kernel) ⟨Nat.le_of_ble_eq_true rfl, Nat.le_of_ble_eq_true rfl⟩) ⟨fun a U g mk q => by obtain ⟨q0, q1, qP, qK, qD, qx0, qx1⟩ := q; exact ⟨q0, q1, qP, va_K.moved (u := U) (U := U.calling g mk a) (Vm.Alike.refl U.vm) qK, qD, va_Z.moved (u := U) (U := U.calling g mk a) (Vm.Alike.refl U.vm) qx0, va_T.moved (u := U) (U := U.calling g mk a) (Vm.Alike.refl U.vm) qx1⟩, va_recv hKc hPc (ci := 10) (q0 := 0) rfl rfl, fun U hU hW => ⟨rfl, by rw [hU], by rw [hU]; exact hPc, va_K.moved hW.alike hKc, hDc.weaken (fun _ _ _ _ => trivial), by rw [hU]; exact ((hZNAMES.kept (fun a h1 h2 => hS.2.1 a h1 h2)).narrow hFc).moved hW.alike, by rw [hU]; exact ((hTNAMES.kept (fun a h1 h2 => hS.2.1 a h1 h2)).narrow hFc).moved hW.alike⟩⟩ rfl rfl hl.1 rfl (lv_room (Nat.le_of_ble_eq_true rfl)) dX10_readSigned_2 ⟨Nat.le_of_ble_eq_true rfl, Nat.le_of_ble_eq_true rfl⟩) hS (fun q _ h => hFc q h) hFc (fun r_1 u t H1 locs ht hvm hw hB hz1 hk1 hS => ?_)
  obtain ⟨y_2, y_3, f_4, by_3, hP1, hK1, hD1⟩ := hB
  rw [ht] at hP1
  have hK1 := va_K.moved hvm.symm hK1
  obtain ⟨hP, hD⟩ := va_join (wr := []) (w1 := [(h0, Sum.inr (10, [Value.ref h1, Value.int n0_size, Value.int y_2, Value.ref h2])), (h1, Sum.inl (cint, 120, Sum.inl f1)), (h2, Sum.inr (4, [Value.ref h3, Value.int y_3, Value.ref h4, Value.ref h5, Value.int n2_top])), (h3, Sum.inl (cint, 128, Sum.inl f_4))]) hP hD [0, 1, 2, 3] [] rfl rfl (by decide) (by decide) hk1 hFc hP1 hD1
  generalize H1 = H at hP hS ⊢
  have hP : va_P (dC, dI) vwCl [(h0, Sum.inr (10, [Value.ref h1, Value.int n0_size, Value.int y_2, Value.ref h2])), (h1, Sum.inl (cint, 120, Sum.inl f1)), (h2, Sum.inr (4, [Value.ref h3, Value.int y_3, Value.ref h4, Value.ref h5, Value.int n2_top])), (h3, Sum.inl (cint, 128, Sum.inl f_4))] H := hP
  have hD : va_D A [(h0, Sum.inr (10, [Value.ref h1, Value.int n0_size, Value.int y_2, Value.ref h2])), (h1, Sum.inl (cint, 120, Sum.inl f1)), (h2, Sum.inr (4, [Value.ref h3, Value.int y_3, Value.ref h4, Value.ref h5, Value.int n2_top])), (h3, Sum.inl (cint, 128, Sum.inl f_4))] := hD
  have t_1 : 0 ≤ r_1.toInt ∧ r_1.toInt ≤ 1 := hw
  refine lv_if_ne (tgt := 10) hx hb dX10_readSigned_5 (by decide) (fun c_5 => ?_) (fun c_5 => ?_)
  · have t_5 : r_1.toInt ≠ 0 := kk_ne c_5
    refine lv_aload_n hx hb dX10_readSigned_10 rfl (lv_at hl 0 rfl) ?_
    refine va_get (D := (dC, dI)) (ci := 10) (v := .ref h2) (C := RX10) (T := TX10) (N := 4) hx hb hts (fun _ h => List.mem_cons_of_mem _ (List.mem_append_left _ (List.mem_append_right _ h))) hown hK hP 0 rfl rfl 3 (by decide) (hts (.fieldLink RX10 20 "KinkStreet$Tape" "law" "LKinkStreet$Law;") (List.mem_of_getElem? (i := 1) rfl)) (fun _ h9 => h9) rfl dX10_readSigned_11 ?_
    refine lv_iload_n hx hb dX10_readSigned_14 rfl (lv_at hl 1 rfl) ?_
    refine lv_bipush (v := 33) hx hb dX10_readSigned_15 (by decide) ?_
    refine lv_icmp_ne (tgt := 25) hx hb dX10_readSigned_17 (by decide) (fun c_6 => ?_) (fun c_6 => ?_)
    · have t_6 : p0.toInt ≠ 33 := kk_ne c_6
      refine lv_bipush (v := 126) hx hb dX10_readSigned_25 (by decide) ?_
      have hPc := hP.sub (ws' := [(h2, Sum.inr (4, [Value.ref h3, Value.int y_3, Value.ref h4, Value.ref h5, Value.int n2_top])), (h3, Sum.inl (cint, 128, Sum.inl f_4))]) [2, 3] rfl
      have hDc := hD.sub (ws' := [(h2, Sum.inr (4, [Value.ref h3, Value.int y_3, Value.ref h4, Value.ref h5, Value.int n2_top])), (h3, Sum.inl (cint, 128, Sum.inl f_4))]) [2, 3] (by decide) rfl
      have hKc := hK.sub (tys' := [(cint, .int)]) [0] rfl
      have hFc := va_free (wc := [(h2, Sum.inr (4, [Value.ref h3, Value.int y_3, Value.ref h4, Value.ref h5, Value.int n2_top])), (h3, Sum.inl (cint, 128, Sum.inl f_4))]) hD hS hA [2, 3] rfl
      refine va_callv (va_runV (As := [.int 126]) (rest := []) ⟨hx, hb, hml, hown, hts⟩ (g_X4_append_0 l dC dI h2 h3 h4 h5 cint H.size 126 y_3 n2_top f_4 (by show 0 ≤ (y_3 : Int32).toInt ∧ (y_3 : Int32).toInt ≤ 128; first | decide | (constructor <;> (omega))) tn2_top) (cwV 1 hts gX10_readSigned_X4_append rfl rfl rfl (by decide +kernel) ⟨Nat.le_of_ble_eq_true rfl, Nat.le_of_ble_eq_true rfl⟩) ⟨fun a U g mk q => by obtain ⟨q0, q1, qP, qK, qD⟩ := q; exact ⟨q0, q1, qP, va_K.moved (u := U) (U := U.calling g mk a) (Vm.Alike.refl U.vm) qK, qD⟩, va_recv hKc hPc (ci := 4) (q0 := 0) rfl rfl, fun U hU hW => ⟨rfl, by rw [hU], by rw [hU]; exact hPc, va_K.moved hW.alike hKc, hDc.weaken (fun _ _ _ _ => trivial)⟩⟩ rfl rfl hl.1 rfl (lv_room (Nat.le_of_ble_eq_true rfl)) dX10_readSigned_27 ⟨Nat.le_of_ble_eq_true rfl, Nat.le_of_ble_eq_true rfl⟩) hS (fun q _ h => hFc q h) hFc (fun u t H1 locs ht hvm hw hB hz1 hk1 hS => ?_)
      obtain ⟨y_8, f_9, by_8, hP1, hK1, hD1⟩ := hB
      rw [ht] at hP1
      have hK1 := va_K.moved hvm.symm hK1
      obtain ⟨hP, hD⟩ := va_join (wr := [(h0, Sum.inr (10, [Value.ref h1, Value.int n0_size, Value.int y_2, Value.ref h2])), (h1, Sum.inl (cint, 120, Sum.inl f1))]) (w1 := [(h2, Sum.inr (4, [Value.ref h3, Value.int y_8, Value.ref h4, Value.ref h5, Value.int n2_top])), (h3, Sum.inl (cint, 128, Sum.inl f_9))]) hP hD [2, 3] [0, 1] rfl rfl (by decide) (by decide) hk1 hFc hP1 hD1
      generalize H1 = H at hP hS ⊢
      have hP : va_P (dC, dI) vwCl [(h0, Sum.inr (10, [Value.ref h1, Value.int n0_size, Value.int y_2, Value.ref h2])), (h1, Sum.inl (cint, 120, Sum.inl f1)), (h2, Sum.inr (4, [Value.ref h3, Value.int y_8, Value.ref h4, Value.ref h5, Value.int n2_top])), (h3, Sum.inl (cint, 128, Sum.inl f_9))] H := hP
      have hD : va_D A [(h0, Sum.inr (10, [Value.ref h1, Value.int n0_size, Value.int y_2, Value.ref h2])), (h1, Sum.inl (cint, 120, Sum.inl f1)), (h2, Sum.inr (4, [Value.ref h3, Value.int y_8, Value.ref h4, Value.ref h5, Value.int n2_top])), (h3, Sum.inl (cint, 128, Sum.inl f_9))] := hD
      refine lv_iconst (v := 1) hx hb dX10_readSigned_30 (by decide) ?_
      have hP9 := hP.sub (ws' := [(h0, Sum.inr (10, [Value.ref h1, Value.int n0_size, Value.int y_2, Value.ref h2])), (h1, Sum.inl (cint, 120, Sum.inl f1)), (h2, Sum.inr (4, [Value.ref h3, Value.int y_8, Value.ref h4, Value.ref h5, Value.int n2_top])), (h3, Sum.inl (cint, 128, Sum.inl f_9))]) [0, 1, 2, 3] rfl
      have hD9 := hD.sub (ws' := [(h0, Sum.inr (10, [Value.ref h1, Value.int n0_size, Value.int y_2, Value.ref h2])), (h1, Sum.inl (cint, 120, Sum.inl f1)), (h2, Sum.inr (4, [Value.ref h3, Value.int y_8, Value.ref h4, Value.ref h5, Value.int n2_top])), (h3, Sum.inl (cint, 128, Sum.inl f_9))]) [0, 1, 2, 3] (by decide) rfl
      have hK9 := hK.sub (tys' := []) [] rfl
      exact W.zret (v := 1) hx hb hr rfl (fun t ht hW => ⟨⟨1, (), rfl, (by show 0 ≤ (1 : Int32).toInt ∧ (1 : Int32).toInt ≤ 1; first | decide | (constructor <;> (omega))), y_2, y_8, f_9, (by show 0 ≤ (y_8 : Int32).toInt ∧ (y_8 : Int32).toInt ≤ 128; first | decide | (constructor <;> (omega))), by rw [ht]; exact hP9, va_K.moved hW.alike hK9, hD9⟩, hS.F ht⟩) hS.2.2 dX10_readSigned_31
    · have t_6 : p0.toInt = 33 := kk_eq c_6
      refine lv_bipush (v := 33) hx hb dX10_readSigned_20 (by decide) ?_
      refine lv_goto (tgt := 27) hx hb dX10_readSigned_22 (by decide) ?_
      have hPc := hP.sub (ws' := [(h2, Sum.inr (4, [Value.ref h3, Value.int y_3, Value.ref h4, Value.ref h5, Value.int n2_top])), (h3, Sum.inl (cint, 128, Sum.inl f_4))]) [2, 3] rfl
      have hDc := hD.sub (ws' := [(h2, Sum.inr (4, [Value.ref h3, Value.int y_3, Value.ref h4, Value.ref h5, Value.int n2_top])), (h3, Sum.inl (cint, 128, Sum.inl f_4))]) [2, 3] (by decide) rfl
      have hKc := hK.sub (tys' := [(cint, .int)]) [0] rfl
      have hFc := va_free (wc := [(h2, Sum.inr (4, [Value.ref h3, Value.int y_3, Value.ref h4, Value.ref h5, Value.int n2_top])), (h3, Sum.inl (cint, 128, Sum.inl f_4))]) hD hS hA [2, 3] rfl
      refine va_callv (va_runV (As := [.int 33]) (rest := []) ⟨hx, hb, hml, hown, hts⟩ (g_X4_append_0 l dC dI h2 h3 h4 h5 cint H.size 33 y_3 n2_top f_4 (by show 0 ≤ (y_3 : Int32).toInt ∧ (y_3 : Int32).toInt ≤ 128; first | decide | (constructor <;> (omega))) tn2_top) (cwV 1 hts gX10_readSigned_X4_append rfl rfl rfl (by decide +kernel) ⟨Nat.le_of_ble_eq_true rfl, Nat.le_of_ble_eq_true rfl⟩) ⟨fun a U g mk q => by obtain ⟨q0, q1, qP, qK, qD⟩ := q; exact ⟨q0, q1, qP, va_K.moved (u := U) (U := U.calling g mk a) (Vm.Alike.refl U.vm) qK, qD⟩, va_recv hKc hPc (ci := 4) (q0 := 0) rfl rfl, fun U hU hW => ⟨rfl, by rw [hU], by rw [hU]; exact hPc, va_K.moved hW.alike hKc, hDc.weaken (fun _ _ _ _ => trivial)⟩⟩ rfl rfl hl.1 rfl (lv_room (Nat.le_of_ble_eq_true rfl)) dX10_readSigned_27 ⟨Nat.le_of_ble_eq_true rfl, Nat.le_of_ble_eq_true rfl⟩) hS (fun q _ h => hFc q h) hFc (fun u t H1 locs ht hvm hw hB hz1 hk1 hS => ?_)
      obtain ⟨y_11, f_12, by_11, hP1, hK1, hD1⟩ := hB
      rw [ht] at hP1
      have hK1 := va_K.moved hvm.symm hK1
      obtain ⟨hP, hD⟩ := va_join (wr := [(h0, Sum.inr (10, [Value.ref h1, Value.int n0_size, Value.int y_2, Value.ref h2])), (h1, Sum.inl (cint, 120, Sum.inl f1))]) (w1 := [(h2, Sum.inr (4, [Value.ref h3, Value.int y_11, Value.ref h4, Value.ref h5, Value.int n2_top])), (h3, Sum.inl (cint, 128, Sum.inl f_12))]) hP hD [2, 3] [0, 1] rfl rfl (by decide) (by decide) hk1 hFc hP1 hD1
      generalize H1 = H at hP hS ⊢
      have hP : va_P (dC, dI) vwCl [(h0, Sum.inr (10, [Value.ref h1, Value.int n0_size, Value.int y_2, Value.ref h2])), (h1, Sum.inl (cint, 120, Sum.inl f1)), (h2, Sum.inr (4, [Value.ref h3, Value.int y_11, Value.ref h4, Value.ref h5, Value.int n2_top])), (h3, Sum.inl (cint, 128, Sum.inl f_12))] H := hP
      have hD : va_D A [(h0, Sum.inr (10, [Value.ref h1, Value.int n0_size, Value.int y_2, Value.ref h2])), (h1, Sum.inl (cint, 120, Sum.inl f1)), (h2, Sum.inr (4, [Value.ref h3, Value.int y_11, Value.ref h4, Value.ref h5, Value.int n2_top])), (h3, Sum.inl (cint, 128, Sum.inl f_12))] := hD
      refine lv_iconst (v := 1) hx hb dX10_readSigned_30 (by decide) ?_
      have hP9 := hP.sub (ws' := [(h0, Sum.inr (10, [Value.ref h1, Value.int n0_size, Value.int y_2, Value.ref h2])), (h1, Sum.inl (cint, 120, Sum.inl f1)), (h2, Sum.inr (4, [Value.ref h3, Value.int y_11, Value.ref h4, Value.ref h5, Value.int n2_top])), (h3, Sum.inl (cint, 128, Sum.inl f_12))]) [0, 1, 2, 3] rfl
      have hD9 := hD.sub (ws' := [(h0, Sum.inr (10, [Value.ref h1, Value.int n0_size, Value.int y_2, Value.ref h2])), (h1, Sum.inl (cint, 120, Sum.inl f1)), (h2, Sum.inr (4, [Value.ref h3, Value.int y_11, Value.ref h4, Value.ref h5, Value.int n2_top])), (h3, Sum.inl (cint, 128, Sum.inl f_12))]) [0, 1, 2, 3] (by decide) rfl
      have hK9 := hK.sub (tys' := []) [] rfl
      exact W.zret (v := 1) hx hb hr rfl (fun t ht hW => ⟨⟨1, (), rfl, (by show 0 ≤ (1 : Int32).toInt ∧ (1 : Int32).toInt ≤ 1; first | decide | (constructor <;> (omega))), y_2, y_11, f_12, (by show 0 ≤ (y_11 : Int32).toInt ∧ (y_11 : Int32).toInt ≤ 128; first | decide | (constructor <;> (omega))), by rw [ht]; exact hP9, va_K.moved hW.alike hK9, hD9⟩, hS.F ht⟩) hS.2.2 dX10_readSigned_31
  · have t_5 : r_1.toInt = 0 := kk_eq c_5
    refine lv_iconst (v := 0) hx hb dX10_readSigned_8 (by decide) ?_
    have hP9 := hP.sub (ws' := [(h0, Sum.inr (10, [Value.ref h1, Value.int n0_size, Value.int y_2, Value.ref h2])), (h1, Sum.inl (cint, 120, Sum.inl f1)), (h2, Sum.inr (4, [Value.ref h3, Value.int y_3, Value.ref h4, Value.ref h5, Value.int n2_top])), (h3, Sum.inl (cint, 128, Sum.inl f_4))]) [0, 1, 2, 3] rfl
    have hD9 := hD.sub (ws' := [(h0, Sum.inr (10, [Value.ref h1, Value.int n0_size, Value.int y_2, Value.ref h2])), (h1, Sum.inl (cint, 120, Sum.inl f1)), (h2, Sum.inr (4, [Value.ref h3, Value.int y_3, Value.ref h4, Value.ref h5, Value.int n2_top])), (h3, Sum.inl (cint, 128, Sum.inl f_4))]) [0, 1, 2, 3] (by decide) rfl
    have hK9 := hK.sub (tys' := []) [] rfl
    exact W.zret (v := 0) hx hb hr rfl (fun t ht hW => ⟨⟨0, (), rfl, (by show 0 ≤ (0 : Int32).toInt ∧ (0 : Int32).toInt ≤ 1; first | decide | (constructor <;> (omega))), y_2, y_3, f_4, (by show 0 ≤ (y_3 : Int32).toInt ∧ (y_3 : Int32).toInt ≤ 128; first | decide | (constructor <;> (omega))), by rw [ht]; exact hP9, va_K.moved hW.alike hK9, hD9⟩, hS.F ht⟩) hS.2.2 dX10_readSigned_9
set_option maxHeartbeats 4000000 in
set_option maxRecDepth 100000 in
theorem g_X10_readOperand_6 (l : Launch) (dC : Nat → ClassId) (dI : Nat → Nat → Nat) (h0 : Nat) (h1 : Nat) (h2 : Nat) (h3 : Nat) (h4 : Nat) (h5 : Nat) (cint : ClassId) (sz : Nat) (n0_size : Int32) (n0_place : Int32) (f1 : Nat → Int32) (n2_size : Int32) (n2_top : Int32) (f3 : Nat → Int32) (tn0_size : 0 ≤ n0_size.toInt ∧ n0_size.toInt ≤ 120) (bf1 : ∀ j, j < 120 → 0 ≤ (f1 j).toInt ∧ (f1 j).toInt ≤ 255) (tn2_size : 0 ≤ n2_size.toInt ∧ n2_size.toInt ≤ 128) (tn2_top : 0 ≤ n2_top.toInt ∧ n2_top.toInt ≤ 64) (aNAMES : Nat) : Met l yX10_readOperand wsX10_readOperand ({ frames := 50, cells := 0, slots := 0, locals := 1171 }) (va_Pc [.ref h0, .int 0] (fun U => U.heap.size = sz ∧ va_P (dC, dI) vwCl [(h0, Sum.inr (10, [Value.ref h1, Value.int n0_size, Value.int n0_place, Value.ref h2])), (h1, Sum.inl (cint, 120, Sum.inl f1)), (h2, Sum.inr (4, [Value.ref h3, Value.int n2_size, Value.ref h4, Value.ref h5, Value.int n2_top])), (h3, Sum.inl (cint, 128, Sum.inl f3))] U.heap ∧ va_K (dC, dI) vwCl [(cint, .int)] U ∧ va_D (fun _ => True) [(h0, Sum.inr (10, [Value.ref h1, Value.int n0_size, Value.int n0_place, Value.ref h2])), (h1, Sum.inl (cint, 120, Sum.inl f1)), (h2, Sum.inr (4, [Value.ref h3, Value.int n2_size, Value.ref h4, Value.ref h5, Value.int n2_top])), (h3, Sum.inl (cint, 128, Sum.inl f3))] ∧ va_Z "KinkStreet$Law" "NAMES" "[C" (.ref aNAMES) (va_A [(h0, Sum.inr (10, [Value.ref h1, Value.int n0_size, Value.int n0_place, Value.ref h2])), (h1, Sum.inl (cint, 120, Sum.inl f1)), (h2, Sum.inr (4, [Value.ref h3, Value.int n2_size, Value.ref h4, Value.ref h5, Value.int n2_top])), (h3, Sum.inl (cint, 128, Sum.inl f3))] sz) U U.heap ∧ va_T .char aNAMES 8 tb_NAMES (va_A [(h0, Sum.inr (10, [Value.ref h1, Value.int n0_size, Value.int n0_place, Value.ref h2])), (h1, Sum.inl (cint, 120, Sum.inl f1)), (h2, Sum.inr (4, [Value.ref h3, Value.int n2_size, Value.ref h4, Value.ref h5, Value.int n2_top])), (h3, Sum.inl (cint, 128, Sum.inl f3))] sz) U U.heap)) (va_Qi (fun (r : Int32) (_ : Unit) => (0 ≤ r.toInt ∧ r.toInt ≤ 1)) (fun (_ : Unit) t => ∃ (m0_place : Int32) (m2_size : Int32) (g3 : Nat → Int32), (0 ≤ m2_size.toInt ∧ m2_size.toInt ≤ 128) ∧ va_P (dC, dI) vwCl [(h0, Sum.inr (10, [Value.ref h1, Value.int n0_size, Value.int m0_place, Value.ref h2])), (h1, Sum.inl (cint, 120, Sum.inl f1)), (h2, Sum.inr (4, [Value.ref h3, Value.int m2_size, Value.ref h4, Value.ref h5, Value.int n2_top])), (h3, Sum.inl (cint, 128, Sum.inl g3))] t.heap ∧ va_K (dC, dI) vwCl [] t ∧ va_D (va_A [(h0, Sum.inr (10, [Value.ref h1, Value.int n0_size, Value.int n0_place, Value.ref h2])), (h1, Sum.inl (cint, 120, Sum.inl f1)), (h2, Sum.inr (4, [Value.ref h3, Value.int n2_size, Value.ref h4, Value.ref h5, Value.int n2_top])), (h3, Sum.inl (cint, 128, Sum.inl f3))] sz) [(h0, Sum.inr (10, [Value.ref h1, Value.int n0_size, Value.int m0_place, Value.ref h2])), (h1, Sum.inl (cint, 120, Sum.inl f1)), (h2, Sum.inr (4, [Value.ref h3, Value.int m2_size, Value.ref h4, Value.ref h5, Value.int n2_top])), (h3, Sum.inl (cint, 128, Sum.inl g3))]) (va_A [(h0, Sum.inr (10, [Value.ref h1, Value.int n0_size, Value.int n0_place, Value.ref h2])), (h1, Sum.inl (cint, 120, Sum.inl f1)), (h2, Sum.inr (4, [Value.ref h3, Value.int n2_size, Value.ref h4, Value.ref h5, Value.int n2_top])), (h3, Sum.inl (cint, 128, Sum.inl f3))] sz)) 0 0 (va_A [(h0, Sum.inr (10, [Value.ref h1, Value.int n0_size, Value.int n0_place, Value.ref h2])), (h1, Sum.inl (cint, 120, Sum.inl f1)), (h2, Sum.inr (4, [Value.ref h3, Value.int n2_size, Value.ref h4, Value.ref h5, Value.int n2_top])), (h3, Sum.inl (cint, 128, Sum.inl f3))] sz) := by
  refine Met.ofW (cc := cX10_readOperand) (maxL := 4) (ret := (some .boolean)) (by decide) rfl ?_
  intro p e s m args below meth c s₁ B hml hv
  obtain ⟨rfl, hsz, hP, hK, hD0, hZNAMES, hTNAMES⟩ := hv
  have hx := B.exec
  have hb := B.bytes
  have hr := B.returns
  have hts := atoms_spec (ws := wsX10_readOperand) B.pre
  have hown : s.vm.findClass RX10 = some m.cls := findClass_of_methodNamed B.named
  have hlocks := B.notSynchronized
  subst hsz
  have hD := hD0.self (sz := s.heap.size)
  generalize hAe : va_A [(h0, Sum.inr (10, [Value.ref h1, Value.int n0_size, Value.int n0_place, Value.ref h2])), (h1, Sum.inl (cint, 120, Sum.inl f1)), (h2, Sum.inr (4, [Value.ref h3, Value.int n2_size, Value.ref h4, Value.ref h5, Value.int n2_top])), (h3, Sum.inl (cint, 128, Sum.inl f3))] s.heap.size = A at hD hZNAMES hTNAMES ⊢
  have hA : ∀ q : Nat, s.heap.size ≤ q → A q := fun q h => by rw [← hAe]; exact Or.inr h
  have hS : va_S A s.heap s.heap [] := va_S.rf
  have hP : va_P (dC, dI) vwCl [(h0, Sum.inr (10, [Value.ref h1, Value.int n0_size, Value.int n0_place, Value.ref h2])), (h1, Sum.inl (cint, 120, Sum.inl f1)), (h2, Sum.inr (4, [Value.ref h3, Value.int n2_size, Value.ref h4, Value.ref h5, Value.int n2_top])), (h3, Sum.inl (cint, 128, Sum.inl f3))] s.heap := hP
  have hl := lv_entry ([.ref h0, .int 0]) (n := 4) (Nat.le_of_ble_eq_true rfl)
  rw [lg_entry_eq]
  generalize (lg_sl ([.ref h0, .int 0]) ++ List.replicate (4 - (lg_sl ([.ref h0, .int 0])).length) Slot.unset).toArray = ls at hl ⊢
  have hl : lv_has ls 4 [(0, .ref h0), (1, .int 0)] := hl
  refine lv_aload_n hx hb dX10_readOperand_0 rfl (lv_at hl 0 rfl) ?_
  have hPc := hP.sub (ws' := [(h0, Sum.inr (10, [Value.ref h1, Value.int n0_size, Value.int n0_place, Value.ref h2])), (h1, Sum.inl (cint, 120, Sum.inl f1))]) [0, 1] rfl
  have hDc := hD.sub (ws' := [(h0, Sum.inr (10, [Value.ref h1, Value.int n0_size, Value.int n0_place, Value.ref h2])), (h1, Sum.inl (cint, 120, Sum.inl f1))]) [0, 1] (by decide) rfl
  have hKc := hK.sub (tys' := [(cint, .int)]) [0] rfl
  have hFc := va_free (wc := [(h0, Sum.inr (10, [Value.ref h1, Value.int n0_size, Value.int n0_place, Value.ref h2])), (h1, Sum.inl (cint, 120, Sum.inl f1))]) hD hS hA [0, 1] rfl
  refine va_calli (va_runV (As := []) (rest := []) ⟨hx, hb, hml, hown, hts⟩ (g_X10_next_0 l dC dI h0 h1 h2 cint s.heap.size n0_size n0_place f1 tn0_size bf1) (cwV 0 hts gX10_readOperand_X10_next rfl rfl rfl (by decide +kernel) ⟨Nat.le_of_ble_eq_true rfl, Nat.le_of_ble_eq_true rfl⟩) ⟨fun a U g mk q => by obtain ⟨q0, q1, qP, qK, qD⟩ := q; exact ⟨q0, q1, qP, va_K.moved (u := U) (U := U.calling g mk a) (Vm.Alike.refl U.vm) qK, qD⟩, va_recv hKc hPc (ci := 10) (q0 := 0) rfl rfl, fun U hU hW => ⟨rfl, by rw [hU], by rw [hU]; exact hPc, va_K.moved hW.alike hKc, hDc.weaken (fun _ _ _ _ => trivial)⟩⟩ rfl rfl hl.1 rfl (lv_room (Nat.le_of_ble_eq_true rfl)) dX10_readOperand_1 ⟨Nat.le_of_ble_eq_true rfl, Nat.le_of_ble_eq_true rfl⟩) hS (fun q _ h => hFc q h) hFc (fun r_1 u t H1 locs ht hvm hw hB hz1 hk1 hS => ?_)
  obtain ⟨hP1, hK1, hD1⟩ := hB
  rw [ht] at hP1
  have hK1 := va_K.moved hvm.symm hK1
  obtain ⟨hP, hD⟩ := va_join (wr := [(h2, Sum.inr (4, [Value.ref h3, Value.int n2_size, Value.ref h4, Value.ref h5, Value.int n2_top])), (h3, Sum.inl (cint, 128, Sum.inl f3))]) (w1 := [(h0, Sum.inr (10, [Value.ref h1, Value.int n0_size, Value.int n0_place, Value.ref h2])), (h1, Sum.inl (cint, 120, Sum.inl f1))]) hP hD [0, 1] [2, 3] rfl rfl (by decide) (by decide) hk1 hFc hP1 hD1
  generalize H1 = H at hP hS ⊢
  have hP : va_P (dC, dI) vwCl [(h2, Sum.inr (4, [Value.ref h3, Value.int n2_size, Value.ref h4, Value.ref h5, Value.int n2_top])), (h3, Sum.inl (cint, 128, Sum.inl f3)), (h0, Sum.inr (10, [Value.ref h1, Value.int n0_size, Value.int n0_place, Value.ref h2])), (h1, Sum.inl (cint, 120, Sum.inl f1))] H := hP
  have hD : va_D A [(h2, Sum.inr (4, [Value.ref h3, Value.int n2_size, Value.ref h4, Value.ref h5, Value.int n2_top])), (h3, Sum.inl (cint, 128, Sum.inl f3)), (h0, Sum.inr (10, [Value.ref h1, Value.int n0_size, Value.int n0_place, Value.ref h2])), (h1, Sum.inl (cint, 120, Sum.inl f1))] := hD
  have t_1 : (-1) ≤ r_1.toInt ∧ r_1.toInt ≤ 255 := hw
  refine lv_istore_n (lv' := [(2, .int r_1), (0, .ref h0), (1, .int 0)]) hx hb dX10_readOperand_4 rfl hl (by decide) rfl (fun ls hl => ?_)
  refine lv_iload_n hx hb dX10_readOperand_5 rfl (lv_at hl 0 rfl) ?_
  have hPc := hP.sub (ws' := []) [] rfl
  have hDc := hD.sub (ws' := []) [] (by decide) rfl
  have hKc := hK.sub (tys' := []) [] rfl
  have hFc := va_free (wc := []) hD hS hA [] rfl
  refine va_calli (va_runS (As := [.int r_1]) (rest := []) ⟨hx, hb, hml, hown, hts⟩ (g_X10_isDigit_0 l dC dI H.size r_1) (va_cwS 1 hts gX10_readOperand_X10_isDigit rfl rfl rfl (by decide +kernel) ⟨Nat.le_of_ble_eq_true rfl, Nat.le_of_ble_eq_true rfl⟩) ⟨fun a U g mk q => by obtain ⟨q0, q1, qP, qK, qD⟩ := q; exact ⟨q0, q1, qP, va_K.moved (u := U) (U := U.calling g mk a) (Vm.Alike.refl U.vm) qK, qD⟩, fun U hU hW => ⟨rfl, by rw [hU], by rw [hU]; exact hPc, va_K.moved hW.alike hKc, hDc.weaken (fun _ _ _ _ => trivial)⟩⟩ rfl rfl hl.1 rfl (lv_room (Nat.le_of_ble_eq_true rfl)) dX10_readOperand_6 ⟨Nat.le_of_ble_eq_true rfl, Nat.le_of_ble_eq_true rfl⟩) hS (fun q _ h => hFc q h) hFc (fun r_2 u t H1 locs ht hvm hw hB hz1 hk1 hS => ?_)
  obtain ⟨hP1, hK1, hD1⟩ := hB
  rw [ht] at hP1
  have hK1 := va_K.moved hvm.symm hK1
  obtain ⟨hP, hD⟩ := va_join (wr := [(h2, Sum.inr (4, [Value.ref h3, Value.int n2_size, Value.ref h4, Value.ref h5, Value.int n2_top])), (h3, Sum.inl (cint, 128, Sum.inl f3)), (h0, Sum.inr (10, [Value.ref h1, Value.int n0_size, Value.int n0_place, Value.ref h2])), (h1, Sum.inl (cint, 120, Sum.inl f1))]) (w1 := []) hP hD [] [0, 1, 2, 3] rfl rfl (by decide) (by decide) hk1 hFc hP1 hD1
  generalize H1 = H at hP hS ⊢
  have hP : va_P (dC, dI) vwCl [(h2, Sum.inr (4, [Value.ref h3, Value.int n2_size, Value.ref h4, Value.ref h5, Value.int n2_top])), (h3, Sum.inl (cint, 128, Sum.inl f3)), (h0, Sum.inr (10, [Value.ref h1, Value.int n0_size, Value.int n0_place, Value.ref h2])), (h1, Sum.inl (cint, 120, Sum.inl f1))] H := hP
  have hD : va_D A [(h2, Sum.inr (4, [Value.ref h3, Value.int n2_size, Value.ref h4, Value.ref h5, Value.int n2_top])), (h3, Sum.inl (cint, 128, Sum.inl f3)), (h0, Sum.inr (10, [Value.ref h1, Value.int n0_size, Value.int n0_place, Value.ref h2])), (h1, Sum.inl (cint, 120, Sum.inl f1))] := hD
  have t_2 : 0 ≤ r_2.toInt ∧ r_2.toInt ≤ 1 := hw
  refine lv_if_eq (tgt := 18) hx hb dX10_readOperand_9 (by decide) (fun c_3 => ?_) (fun c_3 => ?_)
  · have t_3 : r_2.toInt = 0 := kk_eq c_3
    refine lv_iload_n hx hb dX10_readOperand_18 rfl (lv_at hl 0 rfl) ?_
    have hPc := hP.sub (ws' := []) [] rfl
    have hDc := hD.sub (ws' := []) [] (by decide) rfl
    have hKc := hK.sub (tys' := []) [] rfl
    have hFc := va_free (wc := []) hD hS hA [] rfl
    refine va_calli (va_runS (As := [.int r_1]) (rest := []) ⟨hx, hb, hml, hown, hts⟩ (g_X4_nameOf_0 l dC dI H.size r_1 aNAMES) (va_cwS 1 hts gX10_readOperand_X4_nameOf rfl rfl rfl (by decide +kernel) ⟨Nat.le_of_ble_eq_true rfl, Nat.le_of_ble_eq_true rfl⟩) ⟨fun a U g mk q => by obtain ⟨q0, q1, qP, qK, qD, qx0, qx1⟩ := q; exact ⟨q0, q1, qP, va_K.moved (u := U) (U := U.calling g mk a) (Vm.Alike.refl U.vm) qK, qD, va_Z.moved (u := U) (U := U.calling g mk a) (Vm.Alike.refl U.vm) qx0, va_T.moved (u := U) (U := U.calling g mk a) (Vm.Alike.refl U.vm) qx1⟩, fun U hU hW => ⟨rfl, by rw [hU], by rw [hU]; exact hPc, va_K.moved hW.alike hKc, hDc.weaken (fun _ _ _ _ => trivial), by rw [hU]; exact ((hZNAMES.kept (fun a h1 h2 => hS.2.1 a h1 h2)).narrow hFc).moved hW.alike, by rw [hU]; exact ((hTNAMES.kept (fun a h1 h2 => hS.2.1 a h1 h2)).narrow hFc).moved hW.alike⟩⟩ rfl rfl hl.1 rfl (lv_room (Nat.le_of_ble_eq_true rfl)) dX10_readOperand_19 ⟨Nat.le_of_ble_eq_true rfl, Nat.le_of_ble_eq_true rfl⟩) hS (fun q _ h => hFc q h) hFc (fun r_4 u t H1 locs ht hvm hw hB hz1 hk1 hS => ?_)
    obtain ⟨hP1, hK1, hD1⟩ := hB
    rw [ht] at hP1
    have hK1 := va_K.moved hvm.symm hK1
    obtain ⟨hP, hD⟩ := va_join (wr := [(h2, Sum.inr (4, [Value.ref h3, Value.int n2_size, Value.ref h4, Value.ref h5, Value.int n2_top])), (h3, Sum.inl (cint, 128, Sum.inl f3)), (h0, Sum.inr (10, [Value.ref h1, Value.int n0_size, Value.int n0_place, Value.ref h2])), (h1, Sum.inl (cint, 120, Sum.inl f1))]) (w1 := []) hP hD [] [0, 1, 2, 3] rfl rfl (by decide) (by decide) hk1 hFc hP1 hD1
    generalize H1 = H at hP hS ⊢
    have hP : va_P (dC, dI) vwCl [(h2, Sum.inr (4, [Value.ref h3, Value.int n2_size, Value.ref h4, Value.ref h5, Value.int n2_top])), (h3, Sum.inl (cint, 128, Sum.inl f3)), (h0, Sum.inr (10, [Value.ref h1, Value.int n0_size, Value.int n0_place, Value.ref h2])), (h1, Sum.inl (cint, 120, Sum.inl f1))] H := hP
    have hD : va_D A [(h2, Sum.inr (4, [Value.ref h3, Value.int n2_size, Value.ref h4, Value.ref h5, Value.int n2_top])), (h3, Sum.inl (cint, 128, Sum.inl f3)), (h0, Sum.inr (10, [Value.ref h1, Value.int n0_size, Value.int n0_place, Value.ref h2])), (h1, Sum.inl (cint, 120, Sum.inl f1))] := hD
    have t_4 : (-2) ≤ r_4.toInt ∧ r_4.toInt ≤ 7 := hw
    refine lv_istore_n (lv' := [(3, .int r_4), (2, .int r_1), (0, .ref h0), (1, .int 0)]) hx hb dX10_readOperand_22 rfl hl (by decide) rfl (fun ls hl => ?_)
    refine lv_iload_n hx hb dX10_readOperand_23 rfl (lv_at hl 0 rfl) ?_
    refine lv_if_lt (tgt := 47) hx hb dX10_readOperand_24 (by decide) (fun c_5 => ?_) (fun c_5 => ?_)
    · have t_5 : r_4.toInt < 0 := kk_lt c_5
      refine lv_iload_n hx hb dX10_readOperand_47 rfl (lv_at hl 3 rfl) ?_
      refine lv_bipush (v := 6) hx hb dX10_readOperand_48 (by decide) ?_
      refine lv_icmp_ge (tgt := 71) hx hb dX10_readOperand_50 (by decide) (fun c => absurd c (by decide)) (fun _ => ?_)
      refine lv_iload_n hx hb dX10_readOperand_53 rfl (lv_at hl 1 rfl) ?_
      refine lv_bipush (v := 40) hx hb dX10_readOperand_54 (by decide) ?_
      refine lv_icmp_eq (tgt := 73) hx hb dX10_readOperand_56 (by decide) (fun c_6 => ?_) (fun c_6 => ?_)
      · have t_6 : r_1.toInt = 40 := kk_eq c_6
        refine lv_aload_n hx hb dX10_readOperand_73 rfl (lv_at hl 2 rfl) ?_
        refine lv_dup hx hb dX10_readOperand_74 rfl ?_
        refine va_get (D := (dC, dI)) (ci := 10) (v := .int n0_place) (C := RX10) (T := TX10) (N := 4) hx hb hts (fun _ h => List.mem_cons_of_mem _ (List.mem_append_left _ (List.mem_append_right _ h))) hown hK hP 2 rfl rfl 2 (by decide) (hts (.fieldLink RX10 17 "KinkStreet$Tape" "place" "I") (List.mem_of_getElem? (i := 1) rfl)) (fun _ h9 => h9) rfl dX10_readOperand_75 ?_
        refine lv_iconst (v := 1) hx hb dX10_readOperand_78 (by decide) ?_
        refine lv_iadd hx hb dX10_readOperand_79 ?_
        refine va_put (D := (dC, dI)) (ci := 10) (v := .int (n0_place + 1)) (ty := .int) (C := RX10) (T := TX10) (N := 4) hx hb hts (fun _ h => List.mem_cons_of_mem _ (List.mem_append_left _ (List.mem_append_right _ h))) tyX10 tyX10_ok nmX10 hown hK hP hD hS 2 rfl rfl 2 (by decide) (hts (.fieldLink RX10 17 "KinkStreet$Tape" "place" "I") (List.mem_of_getElem? (i := 1) rfl)) (fun _ h9 => h9) rfl (by decide +kernel) rfl rfl (Nat.le_of_ble_eq_true rfl) dX10_readOperand_80 (fun H locs hP hD hS => ?_)
        have hP : va_P (dC, dI) vwCl [(h2, Sum.inr (4, [Value.ref h3, Value.int n2_size, Value.ref h4, Value.ref h5, Value.int n2_top])), (h3, Sum.inl (cint, 128, Sum.inl f3)), (h0, Sum.inr (10, [Value.ref h1, Value.int n0_size, Value.int (n0_place + 1), Value.ref h2])), (h1, Sum.inl (cint, 120, Sum.inl f1))] H := hP
        have hD : va_D A [(h2, Sum.inr (4, [Value.ref h3, Value.int n2_size, Value.ref h4, Value.ref h5, Value.int n2_top])), (h3, Sum.inl (cint, 128, Sum.inl f3)), (h0, Sum.inr (10, [Value.ref h1, Value.int n0_size, Value.int (n0_place + 1), Value.ref h2])), (h1, Sum.inl (cint, 120, Sum.inl f1))] := hD
        refine lv_iload_n hx hb dX10_readOperand_83 rfl (lv_at hl 1 rfl) ?_
        refine lv_bipush (v := 40) hx hb dX10_readOperand_84 (by decide) ?_
        refine lv_icmp_ne (tgt := 99) hx hb dX10_readOperand_86 (by decide) (fun c_7 => ?_) (fun c_7 => ?_)
        · have t_7 : r_1.toInt ≠ 40 := kk_ne c_7
          exfalso; omega
        · have t_7 : r_1.toInt = 40 := kk_eq c_7
          refine lv_aload_n hx hb dX10_readOperand_89 rfl (lv_at hl 2 rfl) ?_
          refine lv_iload_n hx hb dX10_readOperand_90 rfl (lv_at hl 3 rfl) ?_
          refine lv_iconst (v := 1) hx hb dX10_readOperand_91 (by decide) ?_
          refine lv_iadd hx hb dX10_readOperand_92 ?_
          refine lv_topi (fun y_8 e_8 => ?_)
          obtain rfl : y_8 = 1 := e_8.trans (by decide)
          have hPc := hP.sub (ws' := [(h0, Sum.inr (10, [Value.ref h1, Value.int n0_size, Value.int (n0_place + 1), Value.ref h2])), (h1, Sum.inl (cint, 120, Sum.inl f1)), (h2, Sum.inr (4, [Value.ref h3, Value.int n2_size, Value.ref h4, Value.ref h5, Value.int n2_top])), (h3, Sum.inl (cint, 128, Sum.inl f3))]) [2, 3, 0, 1] rfl
          have hDc := hD.sub (ws' := [(h0, Sum.inr (10, [Value.ref h1, Value.int n0_size, Value.int (n0_place + 1), Value.ref h2])), (h1, Sum.inl (cint, 120, Sum.inl f1)), (h2, Sum.inr (4, [Value.ref h3, Value.int n2_size, Value.ref h4, Value.ref h5, Value.int n2_top])), (h3, Sum.inl (cint, 128, Sum.inl f3))]) [2, 3, 0, 1] (by decide) rfl
          have hKc := hK.sub (tys' := [(cint, .int)]) [0] rfl
          have hFc := va_free (wc := [(h0, Sum.inr (10, [Value.ref h1, Value.int n0_size, Value.int (n0_place + 1), Value.ref h2])), (h1, Sum.inl (cint, 120, Sum.inl f1)), (h2, Sum.inr (4, [Value.ref h3, Value.int n2_size, Value.ref h4, Value.ref h5, Value.int n2_top])), (h3, Sum.inl (cint, 128, Sum.inl f3))]) hD hS hA [2, 3, 0, 1] rfl
          refine va_calli (va_runV (As := [.int 1]) (rest := []) ⟨hx, hb, hml, hown, hts⟩ (g_X10_readInner_5 l dC dI h0 h1 h2 h3 h4 h5 cint H.size n0_size (n0_place + 1) f1 n2_size n2_top f3 tn0_size bf1 tn2_size tn2_top aNAMES) (cwV 1 hts gX10_readOperand_X10_readInner rfl rfl rfl (by decide +kernel) ⟨Nat.le_of_ble_eq_true rfl, Nat.le_of_ble_eq_true rfl⟩) ⟨fun a U g mk q => by obtain ⟨q0, q1, qP, qK, qD, qx0, qx1⟩ := q; exact ⟨q0, q1, qP, va_K.moved (u := U) (U := U.calling g mk a) (Vm.Alike.refl U.vm) qK, qD, va_Z.moved (u := U) (U := U.calling g mk a) (Vm.Alike.refl U.vm) qx0, va_T.moved (u := U) (U := U.calling g mk a) (Vm.Alike.refl U.vm) qx1⟩, va_recv hKc hPc (ci := 10) (q0 := 0) rfl rfl, fun U hU hW => ⟨rfl, by rw [hU], by rw [hU]; exact hPc, va_K.moved hW.alike hKc, hDc.weaken (fun _ _ _ _ => trivial), by rw [hU]; exact ((hZNAMES.kept (fun a h1 h2 => hS.2.1 a h1 h2)).narrow hFc).moved hW.alike, by rw [hU]; exact ((hTNAMES.kept (fun a h1 h2 => hS.2.1 a h1 h2)).narrow hFc).moved hW.alike⟩⟩ rfl rfl hl.1 rfl (lv_room (Nat.le_of_ble_eq_true rfl)) dX10_readOperand_93 ⟨Nat.le_of_ble_eq_true rfl, Nat.le_of_ble_eq_true rfl⟩) hS (fun q _ h => hFc q h) hFc (fun r_9 u t H1 locs ht hvm hw hB hz1 hk1 hS => ?_)
          obtain ⟨y_10, y_11, f_12, by_11, hP1, hK1, hD1⟩ := hB
          rw [ht] at hP1
          have hK1 := va_K.moved hvm.symm hK1
          obtain ⟨hP, hD⟩ := va_join (wr := []) (w1 := [(h0, Sum.inr (10, [Value.ref h1, Value.int n0_size, Value.int y_10, Value.ref h2])), (h1, Sum.inl (cint, 120, Sum.inl f1)), (h2, Sum.inr (4, [Value.ref h3, Value.int y_11, Value.ref h4, Value.ref h5, Value.int n2_top])), (h3, Sum.inl (cint, 128, Sum.inl f_12))]) hP hD [2, 3, 0, 1] [] rfl rfl (by decide) (by decide) hk1 hFc hP1 hD1
          generalize H1 = H at hP hS ⊢
          have hP : va_P (dC, dI) vwCl [(h0, Sum.inr (10, [Value.ref h1, Value.int n0_size, Value.int y_10, Value.ref h2])), (h1, Sum.inl (cint, 120, Sum.inl f1)), (h2, Sum.inr (4, [Value.ref h3, Value.int y_11, Value.ref h4, Value.ref h5, Value.int n2_top])), (h3, Sum.inl (cint, 128, Sum.inl f_12))] H := hP
          have hD : va_D A [(h0, Sum.inr (10, [Value.ref h1, Value.int n0_size, Value.int y_10, Value.ref h2])), (h1, Sum.inl (cint, 120, Sum.inl f1)), (h2, Sum.inr (4, [Value.ref h3, Value.int y_11, Value.ref h4, Value.ref h5, Value.int n2_top])), (h3, Sum.inl (cint, 128, Sum.inl f_12))] := hD
          have t_9 : 0 ≤ r_9.toInt ∧ r_9.toInt ≤ 1 := hw
          refine lv_goto (tgt := 107) hx hb dX10_readOperand_96 (by decide) ?_
          have hP9 := hP.sub (ws' := [(h0, Sum.inr (10, [Value.ref h1, Value.int n0_size, Value.int y_10, Value.ref h2])), (h1, Sum.inl (cint, 120, Sum.inl f1)), (h2, Sum.inr (4, [Value.ref h3, Value.int y_11, Value.ref h4, Value.ref h5, Value.int n2_top])), (h3, Sum.inl (cint, 128, Sum.inl f_12))]) [0, 1, 2, 3] rfl
          have hD9 := hD.sub (ws' := [(h0, Sum.inr (10, [Value.ref h1, Value.int n0_size, Value.int y_10, Value.ref h2])), (h1, Sum.inl (cint, 120, Sum.inl f1)), (h2, Sum.inr (4, [Value.ref h3, Value.int y_11, Value.ref h4, Value.ref h5, Value.int n2_top])), (h3, Sum.inl (cint, 128, Sum.inl f_12))]) [0, 1, 2, 3] (by decide) rfl
          have hK9 := hK.sub (tys' := []) [] rfl
          exact W.zret (v := r_9) hx hb hr (kk_nb (by show 0 ≤ (r_9 : Int32).toInt; omega) (by show (r_9 : Int32).toInt ≤ 1; omega)) (fun t ht hW => ⟨⟨r_9, (), rfl, (by show 0 ≤ (r_9 : Int32).toInt ∧ (r_9 : Int32).toInt ≤ 1; first | decide | (constructor <;> (omega))), y_10, y_11, f_12, (by show 0 ≤ (y_11 : Int32).toInt ∧ (y_11 : Int32).toInt ≤ 128; first | decide | (constructor <;> (omega))), by rw [ht]; exact hP9, va_K.moved hW.alike hK9, hD9⟩, hS.F ht⟩) hS.2.2 dX10_readOperand_107
      · have t_6 : r_1.toInt ≠ 40 := kk_ne c_6
        refine lv_iload_n hx hb dX10_readOperand_59 rfl (lv_at hl 1 rfl) ?_
        refine lv_bipush (v := 33) hx hb dX10_readOperand_60 (by decide) ?_
        refine lv_icmp_eq (tgt := 73) hx hb dX10_readOperand_62 (by decide) (fun c_13 => ?_) (fun c_13 => ?_)
        · have t_13 : r_1.toInt = 33 := kk_eq c_13
          refine lv_aload_n hx hb dX10_readOperand_73 rfl (lv_at hl 2 rfl) ?_
          refine lv_dup hx hb dX10_readOperand_74 rfl ?_
          refine va_get (D := (dC, dI)) (ci := 10) (v := .int n0_place) (C := RX10) (T := TX10) (N := 4) hx hb hts (fun _ h => List.mem_cons_of_mem _ (List.mem_append_left _ (List.mem_append_right _ h))) hown hK hP 2 rfl rfl 2 (by decide) (hts (.fieldLink RX10 17 "KinkStreet$Tape" "place" "I") (List.mem_of_getElem? (i := 1) rfl)) (fun _ h9 => h9) rfl dX10_readOperand_75 ?_
          refine lv_iconst (v := 1) hx hb dX10_readOperand_78 (by decide) ?_
          refine lv_iadd hx hb dX10_readOperand_79 ?_
          refine va_put (D := (dC, dI)) (ci := 10) (v := .int (n0_place + 1)) (ty := .int) (C := RX10) (T := TX10) (N := 4) hx hb hts (fun _ h => List.mem_cons_of_mem _ (List.mem_append_left _ (List.mem_append_right _ h))) tyX10 tyX10_ok nmX10 hown hK hP hD hS 2 rfl rfl 2 (by decide) (hts (.fieldLink RX10 17 "KinkStreet$Tape" "place" "I") (List.mem_of_getElem? (i := 1) rfl)) (fun _ h9 => h9) rfl (by decide +kernel) rfl rfl (Nat.le_of_ble_eq_true rfl) dX10_readOperand_80 (fun H locs hP hD hS => ?_)
          have hP : va_P (dC, dI) vwCl [(h2, Sum.inr (4, [Value.ref h3, Value.int n2_size, Value.ref h4, Value.ref h5, Value.int n2_top])), (h3, Sum.inl (cint, 128, Sum.inl f3)), (h0, Sum.inr (10, [Value.ref h1, Value.int n0_size, Value.int (n0_place + 1), Value.ref h2])), (h1, Sum.inl (cint, 120, Sum.inl f1))] H := hP
          have hD : va_D A [(h2, Sum.inr (4, [Value.ref h3, Value.int n2_size, Value.ref h4, Value.ref h5, Value.int n2_top])), (h3, Sum.inl (cint, 128, Sum.inl f3)), (h0, Sum.inr (10, [Value.ref h1, Value.int n0_size, Value.int (n0_place + 1), Value.ref h2])), (h1, Sum.inl (cint, 120, Sum.inl f1))] := hD
          refine lv_iload_n hx hb dX10_readOperand_83 rfl (lv_at hl 1 rfl) ?_
          refine lv_bipush (v := 40) hx hb dX10_readOperand_84 (by decide) ?_
          refine lv_icmp_ne (tgt := 99) hx hb dX10_readOperand_86 (by decide) (fun c_14 => ?_) (fun c_14 => ?_)
          · have t_14 : r_1.toInt ≠ 40 := kk_ne c_14
            refine lv_aload_n hx hb dX10_readOperand_99 rfl (lv_at hl 2 rfl) ?_
            refine lv_iload_n hx hb dX10_readOperand_100 rfl (lv_at hl 1 rfl) ?_
            refine lv_iload_n hx hb dX10_readOperand_101 rfl (lv_at hl 3 rfl) ?_
            refine lv_iconst (v := 1) hx hb dX10_readOperand_102 (by decide) ?_
            refine lv_iadd hx hb dX10_readOperand_103 ?_
            refine lv_topi (fun y_15 e_15 => ?_)
            obtain rfl : y_15 = 1 := e_15.trans (by decide)
            have hPc := hP.sub (ws' := [(h0, Sum.inr (10, [Value.ref h1, Value.int n0_size, Value.int (n0_place + 1), Value.ref h2])), (h1, Sum.inl (cint, 120, Sum.inl f1)), (h2, Sum.inr (4, [Value.ref h3, Value.int n2_size, Value.ref h4, Value.ref h5, Value.int n2_top])), (h3, Sum.inl (cint, 128, Sum.inl f3))]) [2, 3, 0, 1] rfl
            have hDc := hD.sub (ws' := [(h0, Sum.inr (10, [Value.ref h1, Value.int n0_size, Value.int (n0_place + 1), Value.ref h2])), (h1, Sum.inl (cint, 120, Sum.inl f1)), (h2, Sum.inr (4, [Value.ref h3, Value.int n2_size, Value.ref h4, Value.ref h5, Value.int n2_top])), (h3, Sum.inl (cint, 128, Sum.inl f3))]) [2, 3, 0, 1] (by decide) rfl
            have hKc := hK.sub (tys' := [(cint, .int)]) [0] rfl
            have hFc := va_free (wc := [(h0, Sum.inr (10, [Value.ref h1, Value.int n0_size, Value.int (n0_place + 1), Value.ref h2])), (h1, Sum.inl (cint, 120, Sum.inl f1)), (h2, Sum.inr (4, [Value.ref h3, Value.int n2_size, Value.ref h4, Value.ref h5, Value.int n2_top])), (h3, Sum.inl (cint, 128, Sum.inl f3))]) hD hS hA [2, 3, 0, 1] rfl
            refine va_calli (va_runV (As := [.int r_1, .int 1]) (rest := []) ⟨hx, hb, hml, hown, hts⟩ (g_X10_readSigned_5 l dC dI h0 h1 h2 h3 h4 h5 cint H.size r_1 n0_size (n0_place + 1) f1 n2_size n2_top f3 tn0_size bf1 tn2_size tn2_top aNAMES) (cwV 2 hts gX10_readOperand_X10_readSigned rfl rfl rfl (by decide +kernel) ⟨Nat.le_of_ble_eq_true rfl, Nat.le_of_ble_eq_true rfl⟩) ⟨fun a U g mk q => by obtain ⟨q0, q1, qP, qK, qD, qx0, qx1⟩ := q; exact ⟨q0, q1, qP, va_K.moved (u := U) (U := U.calling g mk a) (Vm.Alike.refl U.vm) qK, qD, va_Z.moved (u := U) (U := U.calling g mk a) (Vm.Alike.refl U.vm) qx0, va_T.moved (u := U) (U := U.calling g mk a) (Vm.Alike.refl U.vm) qx1⟩, va_recv hKc hPc (ci := 10) (q0 := 0) rfl rfl, fun U hU hW => ⟨rfl, by rw [hU], by rw [hU]; exact hPc, va_K.moved hW.alike hKc, hDc.weaken (fun _ _ _ _ => trivial), by rw [hU]; exact ((hZNAMES.kept (fun a h1 h2 => hS.2.1 a h1 h2)).narrow hFc).moved hW.alike, by rw [hU]; exact ((hTNAMES.kept (fun a h1 h2 => hS.2.1 a h1 h2)).narrow hFc).moved hW.alike⟩⟩ rfl rfl hl.1 rfl (lv_room (Nat.le_of_ble_eq_true rfl)) dX10_readOperand_104 ⟨Nat.le_of_ble_eq_true rfl, Nat.le_of_ble_eq_true rfl⟩) hS (fun q _ h => hFc q h) hFc (fun r_16 u t H1 locs ht hvm hw hB hz1 hk1 hS => ?_)
            obtain ⟨y_17, y_18, f_19, by_18, hP1, hK1, hD1⟩ := hB
            rw [ht] at hP1
            have hK1 := va_K.moved hvm.symm hK1
            obtain ⟨hP, hD⟩ := va_join (wr := []) (w1 := [(h0, Sum.inr (10, [Value.ref h1, Value.int n0_size, Value.int y_17, Value.ref h2])), (h1, Sum.inl (cint, 120, Sum.inl f1)), (h2, Sum.inr (4, [Value.ref h3, Value.int y_18, Value.ref h4, Value.ref h5, Value.int n2_top])), (h3, Sum.inl (cint, 128, Sum.inl f_19))]) hP hD [2, 3, 0, 1] [] rfl rfl (by decide) (by decide) hk1 hFc hP1 hD1
            generalize H1 = H at hP hS ⊢
            have hP : va_P (dC, dI) vwCl [(h0, Sum.inr (10, [Value.ref h1, Value.int n0_size, Value.int y_17, Value.ref h2])), (h1, Sum.inl (cint, 120, Sum.inl f1)), (h2, Sum.inr (4, [Value.ref h3, Value.int y_18, Value.ref h4, Value.ref h5, Value.int n2_top])), (h3, Sum.inl (cint, 128, Sum.inl f_19))] H := hP
            have hD : va_D A [(h0, Sum.inr (10, [Value.ref h1, Value.int n0_size, Value.int y_17, Value.ref h2])), (h1, Sum.inl (cint, 120, Sum.inl f1)), (h2, Sum.inr (4, [Value.ref h3, Value.int y_18, Value.ref h4, Value.ref h5, Value.int n2_top])), (h3, Sum.inl (cint, 128, Sum.inl f_19))] := hD
            have t_16 : 0 ≤ r_16.toInt ∧ r_16.toInt ≤ 1 := hw
            have hP9 := hP.sub (ws' := [(h0, Sum.inr (10, [Value.ref h1, Value.int n0_size, Value.int y_17, Value.ref h2])), (h1, Sum.inl (cint, 120, Sum.inl f1)), (h2, Sum.inr (4, [Value.ref h3, Value.int y_18, Value.ref h4, Value.ref h5, Value.int n2_top])), (h3, Sum.inl (cint, 128, Sum.inl f_19))]) [0, 1, 2, 3] rfl
            have hD9 := hD.sub (ws' := [(h0, Sum.inr (10, [Value.ref h1, Value.int n0_size, Value.int y_17, Value.ref h2])), (h1, Sum.inl (cint, 120, Sum.inl f1)), (h2, Sum.inr (4, [Value.ref h3, Value.int y_18, Value.ref h4, Value.ref h5, Value.int n2_top])), (h3, Sum.inl (cint, 128, Sum.inl f_19))]) [0, 1, 2, 3] (by decide) rfl
            have hK9 := hK.sub (tys' := []) [] rfl
            exact W.zret (v := r_16) hx hb hr (kk_nb (by show 0 ≤ (r_16 : Int32).toInt; omega) (by show (r_16 : Int32).toInt ≤ 1; omega)) (fun t ht hW => ⟨⟨r_16, (), rfl, (by show 0 ≤ (r_16 : Int32).toInt ∧ (r_16 : Int32).toInt ≤ 1; first | decide | (constructor <;> (omega))), y_17, y_18, f_19, (by show 0 ≤ (y_18 : Int32).toInt ∧ (y_18 : Int32).toInt ≤ 128; first | decide | (constructor <;> (omega))), by rw [ht]; exact hP9, va_K.moved hW.alike hK9, hD9⟩, hS.F ht⟩) hS.2.2 dX10_readOperand_107
          · have t_14 : r_1.toInt = 40 := kk_eq c_14
            exfalso; omega
        · have t_13 : r_1.toInt ≠ 33 := kk_ne c_13
          refine lv_iload_n hx hb dX10_readOperand_65 rfl (lv_at hl 1 rfl) ?_
          refine lv_bipush (v := 45) hx hb dX10_readOperand_66 (by decide) ?_
          refine lv_icmp_eq (tgt := 73) hx hb dX10_readOperand_68 (by decide) (fun c_20 => ?_) (fun c_20 => ?_)
          · have t_20 : r_1.toInt = 45 := kk_eq c_20
            refine lv_aload_n hx hb dX10_readOperand_73 rfl (lv_at hl 2 rfl) ?_
            refine lv_dup hx hb dX10_readOperand_74 rfl ?_
            refine va_get (D := (dC, dI)) (ci := 10) (v := .int n0_place) (C := RX10) (T := TX10) (N := 4) hx hb hts (fun _ h => List.mem_cons_of_mem _ (List.mem_append_left _ (List.mem_append_right _ h))) hown hK hP 2 rfl rfl 2 (by decide) (hts (.fieldLink RX10 17 "KinkStreet$Tape" "place" "I") (List.mem_of_getElem? (i := 1) rfl)) (fun _ h9 => h9) rfl dX10_readOperand_75 ?_
            refine lv_iconst (v := 1) hx hb dX10_readOperand_78 (by decide) ?_
            refine lv_iadd hx hb dX10_readOperand_79 ?_
            refine va_put (D := (dC, dI)) (ci := 10) (v := .int (n0_place + 1)) (ty := .int) (C := RX10) (T := TX10) (N := 4) hx hb hts (fun _ h => List.mem_cons_of_mem _ (List.mem_append_left _ (List.mem_append_right _ h))) tyX10 tyX10_ok nmX10 hown hK hP hD hS 2 rfl rfl 2 (by decide) (hts (.fieldLink RX10 17 "KinkStreet$Tape" "place" "I") (List.mem_of_getElem? (i := 1) rfl)) (fun _ h9 => h9) rfl (by decide +kernel) rfl rfl (Nat.le_of_ble_eq_true rfl) dX10_readOperand_80 (fun H locs hP hD hS => ?_)
            have hP : va_P (dC, dI) vwCl [(h2, Sum.inr (4, [Value.ref h3, Value.int n2_size, Value.ref h4, Value.ref h5, Value.int n2_top])), (h3, Sum.inl (cint, 128, Sum.inl f3)), (h0, Sum.inr (10, [Value.ref h1, Value.int n0_size, Value.int (n0_place + 1), Value.ref h2])), (h1, Sum.inl (cint, 120, Sum.inl f1))] H := hP
            have hD : va_D A [(h2, Sum.inr (4, [Value.ref h3, Value.int n2_size, Value.ref h4, Value.ref h5, Value.int n2_top])), (h3, Sum.inl (cint, 128, Sum.inl f3)), (h0, Sum.inr (10, [Value.ref h1, Value.int n0_size, Value.int (n0_place + 1), Value.ref h2])), (h1, Sum.inl (cint, 120, Sum.inl f1))] := hD
            refine lv_iload_n hx hb dX10_readOperand_83 rfl (lv_at hl 1 rfl) ?_
            refine lv_bipush (v := 40) hx hb dX10_readOperand_84 (by decide) ?_
            refine lv_icmp_ne (tgt := 99) hx hb dX10_readOperand_86 (by decide) (fun c_21 => ?_) (fun c_21 => ?_)
            · have t_21 : r_1.toInt ≠ 40 := kk_ne c_21
              refine lv_aload_n hx hb dX10_readOperand_99 rfl (lv_at hl 2 rfl) ?_
              refine lv_iload_n hx hb dX10_readOperand_100 rfl (lv_at hl 1 rfl) ?_
              refine lv_iload_n hx hb dX10_readOperand_101 rfl (lv_at hl 3 rfl) ?_
              refine lv_iconst (v := 1) hx hb dX10_readOperand_102 (by decide) ?_
              refine lv_iadd hx hb dX10_readOperand_103 ?_
              refine lv_topi (fun y_22 e_22 => ?_)
              obtain rfl : y_22 = 1 := e_22.trans (by decide)
              have hPc := hP.sub (ws' := [(h0, Sum.inr (10, [Value.ref h1, Value.int n0_size, Value.int (n0_place + 1), Value.ref h2])), (h1, Sum.inl (cint, 120, Sum.inl f1)), (h2, Sum.inr (4, [Value.ref h3, Value.int n2_size, Value.ref h4, Value.ref h5, Value.int n2_top])), (h3, Sum.inl (cint, 128, Sum.inl f3))]) [2, 3, 0, 1] rfl
              have hDc := hD.sub (ws' := [(h0, Sum.inr (10, [Value.ref h1, Value.int n0_size, Value.int (n0_place + 1), Value.ref h2])), (h1, Sum.inl (cint, 120, Sum.inl f1)), (h2, Sum.inr (4, [Value.ref h3, Value.int n2_size, Value.ref h4, Value.ref h5, Value.int n2_top])), (h3, Sum.inl (cint, 128, Sum.inl f3))]) [2, 3, 0, 1] (by decide) rfl
              have hKc := hK.sub (tys' := [(cint, .int)]) [0] rfl
              have hFc := va_free (wc := [(h0, Sum.inr (10, [Value.ref h1, Value.int n0_size, Value.int (n0_place + 1), Value.ref h2])), (h1, Sum.inl (cint, 120, Sum.inl f1)), (h2, Sum.inr (4, [Value.ref h3, Value.int n2_size, Value.ref h4, Value.ref h5, Value.int n2_top])), (h3, Sum.inl (cint, 128, Sum.inl f3))]) hD hS hA [2, 3, 0, 1] rfl
              refine va_calli (va_runV (As := [.int r_1, .int 1]) (rest := []) ⟨hx, hb, hml, hown, hts⟩ (g_X10_readSigned_5 l dC dI h0 h1 h2 h3 h4 h5 cint H.size r_1 n0_size (n0_place + 1) f1 n2_size n2_top f3 tn0_size bf1 tn2_size tn2_top aNAMES) (cwV 2 hts gX10_readOperand_X10_readSigned rfl rfl rfl (by decide +kernel) ⟨Nat.le_of_ble_eq_true rfl, Nat.le_of_ble_eq_true rfl⟩) ⟨fun a U g mk q => by obtain ⟨q0, q1, qP, qK, qD, qx0, qx1⟩ := q; exact ⟨q0, q1, qP, va_K.moved (u := U) (U := U.calling g mk a) (Vm.Alike.refl U.vm) qK, qD, va_Z.moved (u := U) (U := U.calling g mk a) (Vm.Alike.refl U.vm) qx0, va_T.moved (u := U) (U := U.calling g mk a) (Vm.Alike.refl U.vm) qx1⟩, va_recv hKc hPc (ci := 10) (q0 := 0) rfl rfl, fun U hU hW => ⟨rfl, by rw [hU], by rw [hU]; exact hPc, va_K.moved hW.alike hKc, hDc.weaken (fun _ _ _ _ => trivial), by rw [hU]; exact ((hZNAMES.kept (fun a h1 h2 => hS.2.1 a h1 h2)).narrow hFc).moved hW.alike, by rw [hU]; exact ((hTNAMES.kept (fun a h1 h2 => hS.2.1 a h1 h2)).narrow hFc).moved hW.alike⟩⟩ rfl rfl hl.1 rfl (lv_room (Nat.le_of_ble_eq_true rfl)) dX10_readOperand_104 ⟨Nat.le_of_ble_eq_true rfl, Nat.le_of_ble_eq_true rfl⟩) hS (fun q _ h => hFc q h) hFc (fun r_23 u t H1 locs ht hvm hw hB hz1 hk1 hS => ?_)
              obtain ⟨y_24, y_25, f_26, by_25, hP1, hK1, hD1⟩ := hB
              rw [ht] at hP1
              have hK1 := va_K.moved hvm.symm hK1
              obtain ⟨hP, hD⟩ := va_join (wr := []) (w1 := [(h0, Sum.inr (10, [Value.ref h1, Value.int n0_size, Value.int y_24, Value.ref h2])), (h1, Sum.inl (cint, 120, Sum.inl f1)), (h2, Sum.inr (4, [Value.ref h3, Value.int y_25, Value.ref h4, Value.ref h5, Value.int n2_top])), (h3, Sum.inl (cint, 128, Sum.inl f_26))]) hP hD [2, 3, 0, 1] [] rfl rfl (by decide) (by decide) hk1 hFc hP1 hD1
              generalize H1 = H at hP hS ⊢
              have hP : va_P (dC, dI) vwCl [(h0, Sum.inr (10, [Value.ref h1, Value.int n0_size, Value.int y_24, Value.ref h2])), (h1, Sum.inl (cint, 120, Sum.inl f1)), (h2, Sum.inr (4, [Value.ref h3, Value.int y_25, Value.ref h4, Value.ref h5, Value.int n2_top])), (h3, Sum.inl (cint, 128, Sum.inl f_26))] H := hP
              have hD : va_D A [(h0, Sum.inr (10, [Value.ref h1, Value.int n0_size, Value.int y_24, Value.ref h2])), (h1, Sum.inl (cint, 120, Sum.inl f1)), (h2, Sum.inr (4, [Value.ref h3, Value.int y_25, Value.ref h4, Value.ref h5, Value.int n2_top])), (h3, Sum.inl (cint, 128, Sum.inl f_26))] := hD
              have t_23 : 0 ≤ r_23.toInt ∧ r_23.toInt ≤ 1 := hw
              have hP9 := hP.sub (ws' := [(h0, Sum.inr (10, [Value.ref h1, Value.int n0_size, Value.int y_24, Value.ref h2])), (h1, Sum.inl (cint, 120, Sum.inl f1)), (h2, Sum.inr (4, [Value.ref h3, Value.int y_25, Value.ref h4, Value.ref h5, Value.int n2_top])), (h3, Sum.inl (cint, 128, Sum.inl f_26))]) [0, 1, 2, 3] rfl
              have hD9 := hD.sub (ws' := [(h0, Sum.inr (10, [Value.ref h1, Value.int n0_size, Value.int y_24, Value.ref h2])), (h1, Sum.inl (cint, 120, Sum.inl f1)), (h2, Sum.inr (4, [Value.ref h3, Value.int y_25, Value.ref h4, Value.ref h5, Value.int n2_top])), (h3, Sum.inl (cint, 128, Sum.inl f_26))]) [0, 1, 2, 3] (by decide) rfl
              have hK9 := hK.sub (tys' := []) [] rfl
              exact W.zret (v := r_23) hx hb hr (kk_nb (by show 0 ≤ (r_23 : Int32).toInt; omega) (by show (r_23 : Int32).toInt ≤ 1; omega)) (fun t ht hW => ⟨⟨r_23, (), rfl, (by show 0 ≤ (r_23 : Int32).toInt ∧ (r_23 : Int32).toInt ≤ 1; first | decide | (constructor <;> (omega))), y_24, y_25, f_26, (by show 0 ≤ (y_25 : Int32).toInt ∧ (y_25 : Int32).toInt ≤ 128; first | decide | (constructor <;> (omega))), by rw [ht]; exact hP9, va_K.moved hW.alike hK9, hD9⟩, hS.F ht⟩) hS.2.2 dX10_readOperand_107
            · have t_21 : r_1.toInt = 40 := kk_eq c_21
              exfalso; omega
          · have t_20 : r_1.toInt ≠ 45 := kk_ne c_20
            refine lv_iconst (v := 0) hx hb dX10_readOperand_71 (by decide) ?_
            have hP9 := hP.sub (ws' := [(h0, Sum.inr (10, [Value.ref h1, Value.int n0_size, Value.int n0_place, Value.ref h2])), (h1, Sum.inl (cint, 120, Sum.inl f1)), (h2, Sum.inr (4, [Value.ref h3, Value.int n2_size, Value.ref h4, Value.ref h5, Value.int n2_top])), (h3, Sum.inl (cint, 128, Sum.inl f3))]) [2, 3, 0, 1] rfl
            have hD9 := hD.sub (ws' := [(h0, Sum.inr (10, [Value.ref h1, Value.int n0_size, Value.int n0_place, Value.ref h2])), (h1, Sum.inl (cint, 120, Sum.inl f1)), (h2, Sum.inr (4, [Value.ref h3, Value.int n2_size, Value.ref h4, Value.ref h5, Value.int n2_top])), (h3, Sum.inl (cint, 128, Sum.inl f3))]) [2, 3, 0, 1] (by decide) rfl
            have hK9 := hK.sub (tys' := []) [] rfl
            exact W.zret (v := 0) hx hb hr rfl (fun t ht hW => ⟨⟨0, (), rfl, (by show 0 ≤ (0 : Int32).toInt ∧ (0 : Int32).toInt ≤ 1; first | decide | (constructor <;> (omega))), n0_place, n2_size, f3, tn2_size, by rw [ht]; exact hP9, va_K.moved hW.alike hK9, hD9⟩, hS.F ht⟩) hS.2.2 dX10_readOperand_72
    · have t_5 : 0 ≤ r_4.toInt := kk_nlt c_5
      refine lv_aload_n hx hb dX10_readOperand_27 rfl (lv_at hl 2 rfl) ?_
      refine lv_dup hx hb dX10_readOperand_28 rfl ?_
      refine va_get (D := (dC, dI)) (ci := 10) (v := .int n0_place) (C := RX10) (T := TX10) (N := 4) hx hb hts (fun _ h => List.mem_cons_of_mem _ (List.mem_append_left _ (List.mem_append_right _ h))) hown hK hP 2 rfl rfl 2 (by decide) (hts (.fieldLink RX10 17 "KinkStreet$Tape" "place" "I") (List.mem_of_getElem? (i := 1) rfl)) (fun _ h9 => h9) rfl dX10_readOperand_29 ?_
      refine lv_iconst (v := 1) hx hb dX10_readOperand_32 (by decide) ?_
      refine lv_iadd hx hb dX10_readOperand_33 ?_
      refine va_put (D := (dC, dI)) (ci := 10) (v := .int (n0_place + 1)) (ty := .int) (C := RX10) (T := TX10) (N := 4) hx hb hts (fun _ h => List.mem_cons_of_mem _ (List.mem_append_left _ (List.mem_append_right _ h))) tyX10 tyX10_ok nmX10 hown hK hP hD hS 2 rfl rfl 2 (by decide) (hts (.fieldLink RX10 17 "KinkStreet$Tape" "place" "I") (List.mem_of_getElem? (i := 1) rfl)) (fun _ h9 => h9) rfl (by decide +kernel) rfl rfl (Nat.le_of_ble_eq_true rfl) dX10_readOperand_34 (fun H locs hP hD hS => ?_)
      have hP : va_P (dC, dI) vwCl [(h2, Sum.inr (4, [Value.ref h3, Value.int n2_size, Value.ref h4, Value.ref h5, Value.int n2_top])), (h3, Sum.inl (cint, 128, Sum.inl f3)), (h0, Sum.inr (10, [Value.ref h1, Value.int n0_size, Value.int (n0_place + 1), Value.ref h2])), (h1, Sum.inl (cint, 120, Sum.inl f1))] H := hP
      have hD : va_D A [(h2, Sum.inr (4, [Value.ref h3, Value.int n2_size, Value.ref h4, Value.ref h5, Value.int n2_top])), (h3, Sum.inl (cint, 128, Sum.inl f3)), (h0, Sum.inr (10, [Value.ref h1, Value.int n0_size, Value.int (n0_place + 1), Value.ref h2])), (h1, Sum.inl (cint, 120, Sum.inl f1))] := hD
      refine lv_aload_n hx hb dX10_readOperand_37 rfl (lv_at hl 2 rfl) ?_
      refine va_get (D := (dC, dI)) (ci := 10) (v := .ref h2) (C := RX10) (T := TX10) (N := 4) hx hb hts (fun _ h => List.mem_cons_of_mem _ (List.mem_append_left _ (List.mem_append_right _ h))) hown hK hP 2 rfl rfl 3 (by decide) (hts (.fieldLink RX10 20 "KinkStreet$Tape" "law" "LKinkStreet$Law;") (List.mem_of_getElem? (i := 2) rfl)) (fun _ h9 => h9) rfl dX10_readOperand_38 ?_
      refine lv_iload_n hx hb dX10_readOperand_41 rfl (lv_at hl 0 rfl) ?_
      have hPc := hP.sub (ws' := [(h2, Sum.inr (4, [Value.ref h3, Value.int n2_size, Value.ref h4, Value.ref h5, Value.int n2_top])), (h3, Sum.inl (cint, 128, Sum.inl f3))]) [0, 1] rfl
      have hDc := hD.sub (ws' := [(h2, Sum.inr (4, [Value.ref h3, Value.int n2_size, Value.ref h4, Value.ref h5, Value.int n2_top])), (h3, Sum.inl (cint, 128, Sum.inl f3))]) [0, 1] (by decide) rfl
      have hKc := hK.sub (tys' := [(cint, .int)]) [0] rfl
      have hFc := va_free (wc := [(h2, Sum.inr (4, [Value.ref h3, Value.int n2_size, Value.ref h4, Value.ref h5, Value.int n2_top])), (h3, Sum.inl (cint, 128, Sum.inl f3))]) hD hS hA [0, 1] rfl
      refine va_callv (va_runV (As := [.int r_4]) (rest := []) ⟨hx, hb, hml, hown, hts⟩ (g_X4_append_0 l dC dI h2 h3 h4 h5 cint H.size r_4 n2_size n2_top f3 tn2_size tn2_top) (cwV 1 hts gX10_readOperand_X4_append rfl rfl rfl (by decide +kernel) ⟨Nat.le_of_ble_eq_true rfl, Nat.le_of_ble_eq_true rfl⟩) ⟨fun a U g mk q => by obtain ⟨q0, q1, qP, qK, qD⟩ := q; exact ⟨q0, q1, qP, va_K.moved (u := U) (U := U.calling g mk a) (Vm.Alike.refl U.vm) qK, qD⟩, va_recv hKc hPc (ci := 4) (q0 := 0) rfl rfl, fun U hU hW => ⟨rfl, by rw [hU], by rw [hU]; exact hPc, va_K.moved hW.alike hKc, hDc.weaken (fun _ _ _ _ => trivial)⟩⟩ rfl rfl hl.1 rfl (lv_room (Nat.le_of_ble_eq_true rfl)) dX10_readOperand_42 ⟨Nat.le_of_ble_eq_true rfl, Nat.le_of_ble_eq_true rfl⟩) hS (fun q _ h => hFc q h) hFc (fun u t H1 locs ht hvm hw hB hz1 hk1 hS => ?_)
      obtain ⟨y_28, f_29, by_28, hP1, hK1, hD1⟩ := hB
      rw [ht] at hP1
      have hK1 := va_K.moved hvm.symm hK1
      obtain ⟨hP, hD⟩ := va_join (wr := [(h0, Sum.inr (10, [Value.ref h1, Value.int n0_size, Value.int (n0_place + 1), Value.ref h2])), (h1, Sum.inl (cint, 120, Sum.inl f1))]) (w1 := [(h2, Sum.inr (4, [Value.ref h3, Value.int y_28, Value.ref h4, Value.ref h5, Value.int n2_top])), (h3, Sum.inl (cint, 128, Sum.inl f_29))]) hP hD [0, 1] [2, 3] rfl rfl (by decide) (by decide) hk1 hFc hP1 hD1
      generalize H1 = H at hP hS ⊢
      have hP : va_P (dC, dI) vwCl [(h0, Sum.inr (10, [Value.ref h1, Value.int n0_size, Value.int (n0_place + 1), Value.ref h2])), (h1, Sum.inl (cint, 120, Sum.inl f1)), (h2, Sum.inr (4, [Value.ref h3, Value.int y_28, Value.ref h4, Value.ref h5, Value.int n2_top])), (h3, Sum.inl (cint, 128, Sum.inl f_29))] H := hP
      have hD : va_D A [(h0, Sum.inr (10, [Value.ref h1, Value.int n0_size, Value.int (n0_place + 1), Value.ref h2])), (h1, Sum.inl (cint, 120, Sum.inl f1)), (h2, Sum.inr (4, [Value.ref h3, Value.int y_28, Value.ref h4, Value.ref h5, Value.int n2_top])), (h3, Sum.inl (cint, 128, Sum.inl f_29))] := hD
      refine lv_iconst (v := 1) hx hb dX10_readOperand_45 (by decide) ?_
      have hP9 := hP.sub (ws' := [(h0, Sum.inr (10, [Value.ref h1, Value.int n0_size, Value.int (n0_place + 1), Value.ref h2])), (h1, Sum.inl (cint, 120, Sum.inl f1)), (h2, Sum.inr (4, [Value.ref h3, Value.int y_28, Value.ref h4, Value.ref h5, Value.int n2_top])), (h3, Sum.inl (cint, 128, Sum.inl f_29))]) [0, 1, 2, 3] rfl
      have hD9 := hD.sub (ws' := [(h0, Sum.inr (10, [Value.ref h1, Value.int n0_size, Value.int (n0_place + 1), Value.ref h2])), (h1, Sum.inl (cint, 120, Sum.inl f1)), (h2, Sum.inr (4, [Value.ref h3, Value.int y_28, Value.ref h4, Value.ref h5, Value.int n2_top])), (h3, Sum.inl (cint, 128, Sum.inl f_29))]) [0, 1, 2, 3] (by decide) rfl
      have hK9 := hK.sub (tys' := []) [] rfl
      exact W.zret (v := 1) hx hb hr rfl (fun t ht hW => ⟨⟨1, (), rfl, (by show 0 ≤ (1 : Int32).toInt ∧ (1 : Int32).toInt ≤ 1; first | decide | (constructor <;> (omega))), (n0_place + 1), y_28, f_29, (by show 0 ≤ (y_28 : Int32).toInt ∧ (y_28 : Int32).toInt ≤ 128; first | decide | (constructor <;> (omega))), by rw [ht]; exact hP9, va_K.moved hW.alike hK9, hD9⟩, hS.F ht⟩) hS.2.2 dX10_readOperand_46
  · have t_3 : r_2.toInt ≠ 0 := kk_ne c_3
    refine lv_aload_n hx hb dX10_readOperand_12 rfl (lv_at hl 1 rfl) ?_
    have hPc := hP.sub (ws' := [(h0, Sum.inr (10, [Value.ref h1, Value.int n0_size, Value.int n0_place, Value.ref h2])), (h1, Sum.inl (cint, 120, Sum.inl f1)), (h2, Sum.inr (4, [Value.ref h3, Value.int n2_size, Value.ref h4, Value.ref h5, Value.int n2_top])), (h3, Sum.inl (cint, 128, Sum.inl f3))]) [2, 3, 0, 1] rfl
    have hDc := hD.sub (ws' := [(h0, Sum.inr (10, [Value.ref h1, Value.int n0_size, Value.int n0_place, Value.ref h2])), (h1, Sum.inl (cint, 120, Sum.inl f1)), (h2, Sum.inr (4, [Value.ref h3, Value.int n2_size, Value.ref h4, Value.ref h5, Value.int n2_top])), (h3, Sum.inl (cint, 128, Sum.inl f3))]) [2, 3, 0, 1] (by decide) rfl
    have hKc := hK.sub (tys' := [(cint, .int)]) [0] rfl
    have hFc := va_free (wc := [(h0, Sum.inr (10, [Value.ref h1, Value.int n0_size, Value.int n0_place, Value.ref h2])), (h1, Sum.inl (cint, 120, Sum.inl f1)), (h2, Sum.inr (4, [Value.ref h3, Value.int n2_size, Value.ref h4, Value.ref h5, Value.int n2_top])), (h3, Sum.inl (cint, 128, Sum.inl f3))]) hD hS hA [2, 3, 0, 1] rfl
    refine va_callv (va_runV (As := []) (rest := []) ⟨hx, hb, hml, hown, hts⟩ (g_X10_readNumber_0 l dC dI h0 h1 h2 h3 h4 h5 cint H.size n0_size n0_place f1 n2_size n2_top f3 tn0_size bf1 tn2_size tn2_top) (cwV 0 hts gX10_readOperand_X10_readNumber rfl rfl rfl (by decide +kernel) ⟨Nat.le_of_ble_eq_true rfl, Nat.le_of_ble_eq_true rfl⟩) ⟨fun a U g mk q => by obtain ⟨q0, q1, qP, qK, qD⟩ := q; exact ⟨q0, q1, qP, va_K.moved (u := U) (U := U.calling g mk a) (Vm.Alike.refl U.vm) qK, qD⟩, va_recv hKc hPc (ci := 10) (q0 := 0) rfl rfl, fun U hU hW => ⟨rfl, by rw [hU], by rw [hU]; exact hPc, va_K.moved hW.alike hKc, hDc.weaken (fun _ _ _ _ => trivial)⟩⟩ rfl rfl hl.1 rfl (lv_room (Nat.le_of_ble_eq_true rfl)) dX10_readOperand_13 ⟨Nat.le_of_ble_eq_true rfl, Nat.le_of_ble_eq_true rfl⟩) hS (fun q _ h => hFc q h) hFc (fun u t H1 locs ht hvm hw hB hz1 hk1 hS => ?_)
    obtain ⟨y_31, y_32, f_33, by_32, hP1, hK1, hD1⟩ := hB
    rw [ht] at hP1
    have hK1 := va_K.moved hvm.symm hK1
    obtain ⟨hP, hD⟩ := va_join (wr := []) (w1 := [(h0, Sum.inr (10, [Value.ref h1, Value.int n0_size, Value.int y_31, Value.ref h2])), (h1, Sum.inl (cint, 120, Sum.inl f1)), (h2, Sum.inr (4, [Value.ref h3, Value.int y_32, Value.ref h4, Value.ref h5, Value.int n2_top])), (h3, Sum.inl (cint, 128, Sum.inl f_33))]) hP hD [2, 3, 0, 1] [] rfl rfl (by decide) (by decide) hk1 hFc hP1 hD1
    generalize H1 = H at hP hS ⊢
    have hP : va_P (dC, dI) vwCl [(h0, Sum.inr (10, [Value.ref h1, Value.int n0_size, Value.int y_31, Value.ref h2])), (h1, Sum.inl (cint, 120, Sum.inl f1)), (h2, Sum.inr (4, [Value.ref h3, Value.int y_32, Value.ref h4, Value.ref h5, Value.int n2_top])), (h3, Sum.inl (cint, 128, Sum.inl f_33))] H := hP
    have hD : va_D A [(h0, Sum.inr (10, [Value.ref h1, Value.int n0_size, Value.int y_31, Value.ref h2])), (h1, Sum.inl (cint, 120, Sum.inl f1)), (h2, Sum.inr (4, [Value.ref h3, Value.int y_32, Value.ref h4, Value.ref h5, Value.int n2_top])), (h3, Sum.inl (cint, 128, Sum.inl f_33))] := hD
    refine lv_iconst (v := 1) hx hb dX10_readOperand_16 (by decide) ?_
    have hP9 := hP.sub (ws' := [(h0, Sum.inr (10, [Value.ref h1, Value.int n0_size, Value.int y_31, Value.ref h2])), (h1, Sum.inl (cint, 120, Sum.inl f1)), (h2, Sum.inr (4, [Value.ref h3, Value.int y_32, Value.ref h4, Value.ref h5, Value.int n2_top])), (h3, Sum.inl (cint, 128, Sum.inl f_33))]) [0, 1, 2, 3] rfl
    have hD9 := hD.sub (ws' := [(h0, Sum.inr (10, [Value.ref h1, Value.int n0_size, Value.int y_31, Value.ref h2])), (h1, Sum.inl (cint, 120, Sum.inl f1)), (h2, Sum.inr (4, [Value.ref h3, Value.int y_32, Value.ref h4, Value.ref h5, Value.int n2_top])), (h3, Sum.inl (cint, 128, Sum.inl f_33))]) [0, 1, 2, 3] (by decide) rfl
    have hK9 := hK.sub (tys' := []) [] rfl
    exact W.zret (v := 1) hx hb hr rfl (fun t ht hW => ⟨⟨1, (), rfl, (by show 0 ≤ (1 : Int32).toInt ∧ (1 : Int32).toInt ≤ 1; first | decide | (constructor <;> (omega))), y_31, y_32, f_33, (by show 0 ≤ (y_32 : Int32).toInt ∧ (y_32 : Int32).toInt ≤ 128; first | decide | (constructor <;> (omega))), by rw [ht]; exact hP9, va_K.moved hW.alike hK9, hD9⟩, hS.F ht⟩) hS.2.2 dX10_readOperand_17
set_option maxHeartbeats 4000000 in
set_option maxRecDepth 100000 in
theorem g_X10_readChain_36 (l : Launch) (dC : Nat → ClassId) (dI : Nat → Nat → Nat) (h0 : Nat) (h1 : Nat) (h2 : Nat) (h3 : Nat) (h4 : Nat) (h5 : Nat) (cint : ClassId) (sz : Nat) (n0_size : Int32) (n0_place : Int32) (f1 : Nat → Int32) (n2_size : Int32) (n2_top : Int32) (f3 : Nat → Int32) (tn0_size : 0 ≤ n0_size.toInt ∧ n0_size.toInt ≤ 120) (bf1 : ∀ j, j < 120 → 0 ≤ (f1 j).toInt ∧ (f1 j).toInt ≤ 255) (tn2_size : 0 ≤ n2_size.toInt ∧ n2_size.toInt ≤ 128) (tn2_top : 0 ≤ n2_top.toInt ∧ n2_top.toInt ≤ 64) (aNAMES : Nat) : Met l yX10_readChain wsX10_readChain ({ frames := 51, cells := 0, slots := 0, locals := 1194 }) (va_Pc [.ref h0, .int 5, .int 0] (fun U => U.heap.size = sz ∧ va_P (dC, dI) vwCl [(h0, Sum.inr (10, [Value.ref h1, Value.int n0_size, Value.int n0_place, Value.ref h2])), (h1, Sum.inl (cint, 120, Sum.inl f1)), (h2, Sum.inr (4, [Value.ref h3, Value.int n2_size, Value.ref h4, Value.ref h5, Value.int n2_top])), (h3, Sum.inl (cint, 128, Sum.inl f3))] U.heap ∧ va_K (dC, dI) vwCl [(cint, .int)] U ∧ va_D (fun _ => True) [(h0, Sum.inr (10, [Value.ref h1, Value.int n0_size, Value.int n0_place, Value.ref h2])), (h1, Sum.inl (cint, 120, Sum.inl f1)), (h2, Sum.inr (4, [Value.ref h3, Value.int n2_size, Value.ref h4, Value.ref h5, Value.int n2_top])), (h3, Sum.inl (cint, 128, Sum.inl f3))] ∧ va_Z "KinkStreet$Law" "NAMES" "[C" (.ref aNAMES) (va_A [(h0, Sum.inr (10, [Value.ref h1, Value.int n0_size, Value.int n0_place, Value.ref h2])), (h1, Sum.inl (cint, 120, Sum.inl f1)), (h2, Sum.inr (4, [Value.ref h3, Value.int n2_size, Value.ref h4, Value.ref h5, Value.int n2_top])), (h3, Sum.inl (cint, 128, Sum.inl f3))] sz) U U.heap ∧ va_T .char aNAMES 8 tb_NAMES (va_A [(h0, Sum.inr (10, [Value.ref h1, Value.int n0_size, Value.int n0_place, Value.ref h2])), (h1, Sum.inl (cint, 120, Sum.inl f1)), (h2, Sum.inr (4, [Value.ref h3, Value.int n2_size, Value.ref h4, Value.ref h5, Value.int n2_top])), (h3, Sum.inl (cint, 128, Sum.inl f3))] sz) U U.heap)) (va_Qi (fun (r : Int32) (_ : Unit) => (0 ≤ r.toInt ∧ r.toInt ≤ 1)) (fun (_ : Unit) t => ∃ (m0_place : Int32) (m2_size : Int32) (g3 : Nat → Int32), (0 ≤ m2_size.toInt ∧ m2_size.toInt ≤ 128) ∧ va_P (dC, dI) vwCl [(h0, Sum.inr (10, [Value.ref h1, Value.int n0_size, Value.int m0_place, Value.ref h2])), (h1, Sum.inl (cint, 120, Sum.inl f1)), (h2, Sum.inr (4, [Value.ref h3, Value.int m2_size, Value.ref h4, Value.ref h5, Value.int n2_top])), (h3, Sum.inl (cint, 128, Sum.inl g3))] t.heap ∧ va_K (dC, dI) vwCl [] t ∧ va_D (va_A [(h0, Sum.inr (10, [Value.ref h1, Value.int n0_size, Value.int n0_place, Value.ref h2])), (h1, Sum.inl (cint, 120, Sum.inl f1)), (h2, Sum.inr (4, [Value.ref h3, Value.int n2_size, Value.ref h4, Value.ref h5, Value.int n2_top])), (h3, Sum.inl (cint, 128, Sum.inl f3))] sz) [(h0, Sum.inr (10, [Value.ref h1, Value.int n0_size, Value.int m0_place, Value.ref h2])), (h1, Sum.inl (cint, 120, Sum.inl f1)), (h2, Sum.inr (4, [Value.ref h3, Value.int m2_size, Value.ref h4, Value.ref h5, Value.int n2_top])), (h3, Sum.inl (cint, 128, Sum.inl g3))]) (va_A [(h0, Sum.inr (10, [Value.ref h1, Value.int n0_size, Value.int n0_place, Value.ref h2])), (h1, Sum.inl (cint, 120, Sum.inl f1)), (h2, Sum.inr (4, [Value.ref h3, Value.int n2_size, Value.ref h4, Value.ref h5, Value.int n2_top])), (h3, Sum.inl (cint, 128, Sum.inl f3))] sz)) 0 0 (va_A [(h0, Sum.inr (10, [Value.ref h1, Value.int n0_size, Value.int n0_place, Value.ref h2])), (h1, Sum.inl (cint, 120, Sum.inl f1)), (h2, Sum.inr (4, [Value.ref h3, Value.int n2_size, Value.ref h4, Value.ref h5, Value.int n2_top])), (h3, Sum.inl (cint, 128, Sum.inl f3))] sz) := by
  refine Met.ofW (cc := cX10_readChain) (maxL := 5) (ret := (some .boolean)) (by decide) rfl ?_
  intro p e s m args below meth c s₁ B hml hv
  obtain ⟨rfl, hsz, hP, hK, hD0, hZNAMES, hTNAMES⟩ := hv
  have hx := B.exec
  have hb := B.bytes
  have hr := B.returns
  have hts := atoms_spec (ws := wsX10_readChain) B.pre
  have hown : s.vm.findClass RX10 = some m.cls := findClass_of_methodNamed B.named
  have hlocks := B.notSynchronized
  subst hsz
  have hD := hD0.self (sz := s.heap.size)
  generalize hAe : va_A [(h0, Sum.inr (10, [Value.ref h1, Value.int n0_size, Value.int n0_place, Value.ref h2])), (h1, Sum.inl (cint, 120, Sum.inl f1)), (h2, Sum.inr (4, [Value.ref h3, Value.int n2_size, Value.ref h4, Value.ref h5, Value.int n2_top])), (h3, Sum.inl (cint, 128, Sum.inl f3))] s.heap.size = A at hD hZNAMES hTNAMES ⊢
  have hA : ∀ q : Nat, s.heap.size ≤ q → A q := fun q h => by rw [← hAe]; exact Or.inr h
  have hS : va_S A s.heap s.heap [] := va_S.rf
  have hP : va_P (dC, dI) vwCl [(h0, Sum.inr (10, [Value.ref h1, Value.int n0_size, Value.int n0_place, Value.ref h2])), (h1, Sum.inl (cint, 120, Sum.inl f1)), (h2, Sum.inr (4, [Value.ref h3, Value.int n2_size, Value.ref h4, Value.ref h5, Value.int n2_top])), (h3, Sum.inl (cint, 128, Sum.inl f3))] s.heap := hP
  have hl := lv_entry ([.ref h0, .int 5, .int 0]) (n := 5) (Nat.le_of_ble_eq_true rfl)
  rw [lg_entry_eq]
  generalize (lg_sl ([.ref h0, .int 5, .int 0]) ++ List.replicate (5 - (lg_sl ([.ref h0, .int 5, .int 0])).length) Slot.unset).toArray = ls at hl ⊢
  have hl : lv_has ls 5 [(0, .ref h0), (1, .int 5), (2, .int 0)] := hl
  refine lv_iload_n hx hb dX10_readChain_0 rfl (lv_at hl 1 rfl) ?_
  refine lv_iconst (v := 5) hx hb dX10_readChain_1 (by decide) ?_
  refine lv_icmp_lt (tgt := 11) hx hb dX10_readChain_2 (by decide) (fun c => absurd c (by decide)) (fun _ => ?_)
  refine lv_aload_n hx hb dX10_readChain_5 rfl (lv_at hl 0 rfl) ?_
  refine lv_iload_n hx hb dX10_readChain_6 rfl (lv_at hl 2 rfl) ?_
  have hPc := hP.sub (ws' := [(h0, Sum.inr (10, [Value.ref h1, Value.int n0_size, Value.int n0_place, Value.ref h2])), (h1, Sum.inl (cint, 120, Sum.inl f1)), (h2, Sum.inr (4, [Value.ref h3, Value.int n2_size, Value.ref h4, Value.ref h5, Value.int n2_top])), (h3, Sum.inl (cint, 128, Sum.inl f3))]) [0, 1, 2, 3] rfl
  have hDc := hD.sub (ws' := [(h0, Sum.inr (10, [Value.ref h1, Value.int n0_size, Value.int n0_place, Value.ref h2])), (h1, Sum.inl (cint, 120, Sum.inl f1)), (h2, Sum.inr (4, [Value.ref h3, Value.int n2_size, Value.ref h4, Value.ref h5, Value.int n2_top])), (h3, Sum.inl (cint, 128, Sum.inl f3))]) [0, 1, 2, 3] (by decide) rfl
  have hKc := hK.sub (tys' := [(cint, .int)]) [0] rfl
  have hFc := va_free (wc := [(h0, Sum.inr (10, [Value.ref h1, Value.int n0_size, Value.int n0_place, Value.ref h2])), (h1, Sum.inl (cint, 120, Sum.inl f1)), (h2, Sum.inr (4, [Value.ref h3, Value.int n2_size, Value.ref h4, Value.ref h5, Value.int n2_top])), (h3, Sum.inl (cint, 128, Sum.inl f3))]) hD hS hA [0, 1, 2, 3] rfl
  refine va_calli (va_runV (As := [.int 0]) (rest := []) ⟨hx, hb, hml, hown, hts⟩ (g_X10_readOperand_6 l dC dI h0 h1 h2 h3 h4 h5 cint s.heap.size n0_size n0_place f1 n2_size n2_top f3 tn0_size bf1 tn2_size tn2_top aNAMES) (cwV 1 hts gX10_readChain_X10_readOperand rfl rfl rfl (by decide +kernel) ⟨Nat.le_of_ble_eq_true rfl, Nat.le_of_ble_eq_true rfl⟩) ⟨fun a U g mk q => by obtain ⟨q0, q1, qP, qK, qD, qx0, qx1⟩ := q; exact ⟨q0, q1, qP, va_K.moved (u := U) (U := U.calling g mk a) (Vm.Alike.refl U.vm) qK, qD, va_Z.moved (u := U) (U := U.calling g mk a) (Vm.Alike.refl U.vm) qx0, va_T.moved (u := U) (U := U.calling g mk a) (Vm.Alike.refl U.vm) qx1⟩, va_recv hKc hPc (ci := 10) (q0 := 0) rfl rfl, fun U hU hW => ⟨rfl, by rw [hU], by rw [hU]; exact hPc, va_K.moved hW.alike hKc, hDc.weaken (fun _ _ _ _ => trivial), by rw [hU]; exact ((hZNAMES.kept (fun a h1 h2 => hS.2.1 a h1 h2)).narrow hFc).moved hW.alike, by rw [hU]; exact ((hTNAMES.kept (fun a h1 h2 => hS.2.1 a h1 h2)).narrow hFc).moved hW.alike⟩⟩ rfl rfl hl.1 rfl (lv_room (Nat.le_of_ble_eq_true rfl)) dX10_readChain_7 ⟨Nat.le_of_ble_eq_true rfl, Nat.le_of_ble_eq_true rfl⟩) hS (fun q _ h => hFc q h) hFc (fun r_1 u t H1 locs ht hvm hw hB hz1 hk1 hS => ?_)
  obtain ⟨y_2, y_3, f_4, by_3, hP1, hK1, hD1⟩ := hB
  rw [ht] at hP1
  have hK1 := va_K.moved hvm.symm hK1
  obtain ⟨hP, hD⟩ := va_join (wr := []) (w1 := [(h0, Sum.inr (10, [Value.ref h1, Value.int n0_size, Value.int y_2, Value.ref h2])), (h1, Sum.inl (cint, 120, Sum.inl f1)), (h2, Sum.inr (4, [Value.ref h3, Value.int y_3, Value.ref h4, Value.ref h5, Value.int n2_top])), (h3, Sum.inl (cint, 128, Sum.inl f_4))]) hP hD [0, 1, 2, 3] [] rfl rfl (by decide) (by decide) hk1 hFc hP1 hD1
  generalize H1 = H at hP hS ⊢
  have hP : va_P (dC, dI) vwCl [(h0, Sum.inr (10, [Value.ref h1, Value.int n0_size, Value.int y_2, Value.ref h2])), (h1, Sum.inl (cint, 120, Sum.inl f1)), (h2, Sum.inr (4, [Value.ref h3, Value.int y_3, Value.ref h4, Value.ref h5, Value.int n2_top])), (h3, Sum.inl (cint, 128, Sum.inl f_4))] H := hP
  have hD : va_D A [(h0, Sum.inr (10, [Value.ref h1, Value.int n0_size, Value.int y_2, Value.ref h2])), (h1, Sum.inl (cint, 120, Sum.inl f1)), (h2, Sum.inr (4, [Value.ref h3, Value.int y_3, Value.ref h4, Value.ref h5, Value.int n2_top])), (h3, Sum.inl (cint, 128, Sum.inl f_4))] := hD
  have t_1 : 0 ≤ r_1.toInt ∧ r_1.toInt ≤ 1 := hw
  have hP9 := hP.sub (ws' := [(h0, Sum.inr (10, [Value.ref h1, Value.int n0_size, Value.int y_2, Value.ref h2])), (h1, Sum.inl (cint, 120, Sum.inl f1)), (h2, Sum.inr (4, [Value.ref h3, Value.int y_3, Value.ref h4, Value.ref h5, Value.int n2_top])), (h3, Sum.inl (cint, 128, Sum.inl f_4))]) [0, 1, 2, 3] rfl
  have hD9 := hD.sub (ws' := [(h0, Sum.inr (10, [Value.ref h1, Value.int n0_size, Value.int y_2, Value.ref h2])), (h1, Sum.inl (cint, 120, Sum.inl f1)), (h2, Sum.inr (4, [Value.ref h3, Value.int y_3, Value.ref h4, Value.ref h5, Value.int n2_top])), (h3, Sum.inl (cint, 128, Sum.inl f_4))]) [0, 1, 2, 3] (by decide) rfl
  have hK9 := hK.sub (tys' := []) [] rfl
  exact W.zret (v := r_1) hx hb hr (kk_nb (by show 0 ≤ (r_1 : Int32).toInt; omega) (by show (r_1 : Int32).toInt ≤ 1; omega)) (fun t ht hW => ⟨⟨r_1, (), rfl, (by show 0 ≤ (r_1 : Int32).toInt ∧ (r_1 : Int32).toInt ≤ 1; first | decide | (constructor <;> (omega))), y_2, y_3, f_4, (by show 0 ≤ (y_3 : Int32).toInt ∧ (y_3 : Int32).toInt ≤ 128; first | decide | (constructor <;> (omega))), by rw [ht]; exact hP9, va_K.moved hW.alike hK9, hD9⟩, hS.F ht⟩) hS.2.2 dX10_readChain_10
set_option maxHeartbeats 4000000 in
set_option maxRecDepth 100000 in
theorem g_X10_readChain_37 (l : Launch) (dC : Nat → ClassId) (dI : Nat → Nat → Nat) (h0 : Nat) (h1 : Nat) (h2 : Nat) (h3 : Nat) (h4 : Nat) (h5 : Nat) (cint : ClassId) (sz : Nat) (n0_size : Int32) (n0_place : Int32) (f1 : Nat → Int32) (n2_size : Int32) (n2_top : Int32) (f3 : Nat → Int32) (tn0_size : 0 ≤ n0_size.toInt ∧ n0_size.toInt ≤ 120) (bf1 : ∀ j, j < 120 → 0 ≤ (f1 j).toInt ∧ (f1 j).toInt ≤ 255) (tn2_size : 0 ≤ n2_size.toInt ∧ n2_size.toInt ≤ 128) (tn2_top : 0 ≤ n2_top.toInt ∧ n2_top.toInt ≤ 64) (aNAMES : Nat) : Met l yX10_readChain wsX10_readChain ({ frames := 52, cells := 0, slots := 0, locals := 1218 }) (va_Pc [.ref h0, .int 4, .int 0] (fun U => U.heap.size = sz ∧ va_P (dC, dI) vwCl [(h0, Sum.inr (10, [Value.ref h1, Value.int n0_size, Value.int n0_place, Value.ref h2])), (h1, Sum.inl (cint, 120, Sum.inl f1)), (h2, Sum.inr (4, [Value.ref h3, Value.int n2_size, Value.ref h4, Value.ref h5, Value.int n2_top])), (h3, Sum.inl (cint, 128, Sum.inl f3))] U.heap ∧ va_K (dC, dI) vwCl [(cint, .int)] U ∧ va_D (fun _ => True) [(h0, Sum.inr (10, [Value.ref h1, Value.int n0_size, Value.int n0_place, Value.ref h2])), (h1, Sum.inl (cint, 120, Sum.inl f1)), (h2, Sum.inr (4, [Value.ref h3, Value.int n2_size, Value.ref h4, Value.ref h5, Value.int n2_top])), (h3, Sum.inl (cint, 128, Sum.inl f3))] ∧ va_Z "KinkStreet$Law" "NAMES" "[C" (.ref aNAMES) (va_A [(h0, Sum.inr (10, [Value.ref h1, Value.int n0_size, Value.int n0_place, Value.ref h2])), (h1, Sum.inl (cint, 120, Sum.inl f1)), (h2, Sum.inr (4, [Value.ref h3, Value.int n2_size, Value.ref h4, Value.ref h5, Value.int n2_top])), (h3, Sum.inl (cint, 128, Sum.inl f3))] sz) U U.heap ∧ va_T .char aNAMES 8 tb_NAMES (va_A [(h0, Sum.inr (10, [Value.ref h1, Value.int n0_size, Value.int n0_place, Value.ref h2])), (h1, Sum.inl (cint, 120, Sum.inl f1)), (h2, Sum.inr (4, [Value.ref h3, Value.int n2_size, Value.ref h4, Value.ref h5, Value.int n2_top])), (h3, Sum.inl (cint, 128, Sum.inl f3))] sz) U U.heap)) (va_Qi (fun (r : Int32) (_ : Unit) => (0 ≤ r.toInt ∧ r.toInt ≤ 1)) (fun (_ : Unit) t => ∃ (m0_place : Int32) (m2_size : Int32) (g3 : Nat → Int32), (0 ≤ m2_size.toInt ∧ m2_size.toInt ≤ 128) ∧ va_P (dC, dI) vwCl [(h0, Sum.inr (10, [Value.ref h1, Value.int n0_size, Value.int m0_place, Value.ref h2])), (h1, Sum.inl (cint, 120, Sum.inl f1)), (h2, Sum.inr (4, [Value.ref h3, Value.int m2_size, Value.ref h4, Value.ref h5, Value.int n2_top])), (h3, Sum.inl (cint, 128, Sum.inl g3))] t.heap ∧ va_K (dC, dI) vwCl [] t ∧ va_D (va_A [(h0, Sum.inr (10, [Value.ref h1, Value.int n0_size, Value.int n0_place, Value.ref h2])), (h1, Sum.inl (cint, 120, Sum.inl f1)), (h2, Sum.inr (4, [Value.ref h3, Value.int n2_size, Value.ref h4, Value.ref h5, Value.int n2_top])), (h3, Sum.inl (cint, 128, Sum.inl f3))] sz) [(h0, Sum.inr (10, [Value.ref h1, Value.int n0_size, Value.int m0_place, Value.ref h2])), (h1, Sum.inl (cint, 120, Sum.inl f1)), (h2, Sum.inr (4, [Value.ref h3, Value.int m2_size, Value.ref h4, Value.ref h5, Value.int n2_top])), (h3, Sum.inl (cint, 128, Sum.inl g3))]) (va_A [(h0, Sum.inr (10, [Value.ref h1, Value.int n0_size, Value.int n0_place, Value.ref h2])), (h1, Sum.inl (cint, 120, Sum.inl f1)), (h2, Sum.inr (4, [Value.ref h3, Value.int n2_size, Value.ref h4, Value.ref h5, Value.int n2_top])), (h3, Sum.inl (cint, 128, Sum.inl f3))] sz)) 0 0 (va_A [(h0, Sum.inr (10, [Value.ref h1, Value.int n0_size, Value.int n0_place, Value.ref h2])), (h1, Sum.inl (cint, 120, Sum.inl f1)), (h2, Sum.inr (4, [Value.ref h3, Value.int n2_size, Value.ref h4, Value.ref h5, Value.int n2_top])), (h3, Sum.inl (cint, 128, Sum.inl f3))] sz) := by
  refine Met.ofW (cc := cX10_readChain) (maxL := 5) (ret := (some .boolean)) (by decide) rfl ?_
  intro p e s m args below meth c s₁ B hml hv
  obtain ⟨rfl, hsz, hP, hK, hD0, hZNAMES, hTNAMES⟩ := hv
  have hx := B.exec
  have hb := B.bytes
  have hr := B.returns
  have hts := atoms_spec (ws := wsX10_readChain) B.pre
  have hown : s.vm.findClass RX10 = some m.cls := findClass_of_methodNamed B.named
  have hlocks := B.notSynchronized
  subst hsz
  have hD := hD0.self (sz := s.heap.size)
  generalize hAe : va_A [(h0, Sum.inr (10, [Value.ref h1, Value.int n0_size, Value.int n0_place, Value.ref h2])), (h1, Sum.inl (cint, 120, Sum.inl f1)), (h2, Sum.inr (4, [Value.ref h3, Value.int n2_size, Value.ref h4, Value.ref h5, Value.int n2_top])), (h3, Sum.inl (cint, 128, Sum.inl f3))] s.heap.size = A at hD hZNAMES hTNAMES ⊢
  have hA : ∀ q : Nat, s.heap.size ≤ q → A q := fun q h => by rw [← hAe]; exact Or.inr h
  have hS : va_S A s.heap s.heap [] := va_S.rf
  have hP : va_P (dC, dI) vwCl [(h0, Sum.inr (10, [Value.ref h1, Value.int n0_size, Value.int n0_place, Value.ref h2])), (h1, Sum.inl (cint, 120, Sum.inl f1)), (h2, Sum.inr (4, [Value.ref h3, Value.int n2_size, Value.ref h4, Value.ref h5, Value.int n2_top])), (h3, Sum.inl (cint, 128, Sum.inl f3))] s.heap := hP
  have hl := lv_entry ([.ref h0, .int 4, .int 0]) (n := 5) (Nat.le_of_ble_eq_true rfl)
  rw [lg_entry_eq]
  generalize (lg_sl ([.ref h0, .int 4, .int 0]) ++ List.replicate (5 - (lg_sl ([.ref h0, .int 4, .int 0])).length) Slot.unset).toArray = ls at hl ⊢
  have hl : lv_has ls 5 [(0, .ref h0), (1, .int 4), (2, .int 0)] := hl
  refine lv_iload_n hx hb dX10_readChain_0 rfl (lv_at hl 1 rfl) ?_
  refine lv_iconst (v := 5) hx hb dX10_readChain_1 (by decide) ?_
  refine lv_icmp_lt (tgt := 11) hx hb dX10_readChain_2 (by decide) (fun _ => ?_) (fun c => absurd c (by decide))
  refine lv_aload_n hx hb dX10_readChain_11 rfl (lv_at hl 0 rfl) ?_
  refine lv_iload_n hx hb dX10_readChain_12 rfl (lv_at hl 1 rfl) ?_
  refine lv_iconst (v := 1) hx hb dX10_readChain_13 (by decide) ?_
  refine lv_iadd hx hb dX10_readChain_14 ?_
  refine lv_topi (fun y_1 e_1 => ?_)
  obtain rfl : y_1 = 5 := e_1.trans (by decide)
  refine lv_iload_n hx hb dX10_readChain_15 rfl (lv_at hl 2 rfl) ?_
  have hPc := hP.sub (ws' := [(h0, Sum.inr (10, [Value.ref h1, Value.int n0_size, Value.int n0_place, Value.ref h2])), (h1, Sum.inl (cint, 120, Sum.inl f1)), (h2, Sum.inr (4, [Value.ref h3, Value.int n2_size, Value.ref h4, Value.ref h5, Value.int n2_top])), (h3, Sum.inl (cint, 128, Sum.inl f3))]) [0, 1, 2, 3] rfl
  have hDc := hD.sub (ws' := [(h0, Sum.inr (10, [Value.ref h1, Value.int n0_size, Value.int n0_place, Value.ref h2])), (h1, Sum.inl (cint, 120, Sum.inl f1)), (h2, Sum.inr (4, [Value.ref h3, Value.int n2_size, Value.ref h4, Value.ref h5, Value.int n2_top])), (h3, Sum.inl (cint, 128, Sum.inl f3))]) [0, 1, 2, 3] (by decide) rfl
  have hKc := hK.sub (tys' := [(cint, .int)]) [0] rfl
  have hFc := va_free (wc := [(h0, Sum.inr (10, [Value.ref h1, Value.int n0_size, Value.int n0_place, Value.ref h2])), (h1, Sum.inl (cint, 120, Sum.inl f1)), (h2, Sum.inr (4, [Value.ref h3, Value.int n2_size, Value.ref h4, Value.ref h5, Value.int n2_top])), (h3, Sum.inl (cint, 128, Sum.inl f3))]) hD hS hA [0, 1, 2, 3] rfl
  refine va_calli (va_runV (As := [.int 5, .int 0]) (rest := []) ⟨hx, hb, hml, hown, hts⟩ (g_X10_readChain_36 l dC dI h0 h1 h2 h3 h4 h5 cint s.heap.size n0_size n0_place f1 n2_size n2_top f3 tn0_size bf1 tn2_size tn2_top aNAMES) (cwV 2 hts gX10_readChain_X10_readChain rfl rfl rfl (by decide +kernel) ⟨Nat.le_of_ble_eq_true rfl, Nat.le_of_ble_eq_true rfl⟩) ⟨fun a U g mk q => by obtain ⟨q0, q1, qP, qK, qD, qx0, qx1⟩ := q; exact ⟨q0, q1, qP, va_K.moved (u := U) (U := U.calling g mk a) (Vm.Alike.refl U.vm) qK, qD, va_Z.moved (u := U) (U := U.calling g mk a) (Vm.Alike.refl U.vm) qx0, va_T.moved (u := U) (U := U.calling g mk a) (Vm.Alike.refl U.vm) qx1⟩, va_recv hKc hPc (ci := 10) (q0 := 0) rfl rfl, fun U hU hW => ⟨rfl, by rw [hU], by rw [hU]; exact hPc, va_K.moved hW.alike hKc, hDc.weaken (fun _ _ _ _ => trivial), by rw [hU]; exact ((hZNAMES.kept (fun a h1 h2 => hS.2.1 a h1 h2)).narrow hFc).moved hW.alike, by rw [hU]; exact ((hTNAMES.kept (fun a h1 h2 => hS.2.1 a h1 h2)).narrow hFc).moved hW.alike⟩⟩ rfl rfl hl.1 rfl (lv_room (Nat.le_of_ble_eq_true rfl)) dX10_readChain_16 ⟨Nat.le_of_ble_eq_true rfl, Nat.le_of_ble_eq_true rfl⟩) hS (fun q _ h => hFc q h) hFc (fun r_2 u t H1 locs ht hvm hw hB hz1 hk1 hS => ?_)
  obtain ⟨y_3, y_4, f_5, by_4, hP1, hK1, hD1⟩ := hB
  rw [ht] at hP1
  have hK1 := va_K.moved hvm.symm hK1
  obtain ⟨hP, hD⟩ := va_join (wr := []) (w1 := [(h0, Sum.inr (10, [Value.ref h1, Value.int n0_size, Value.int y_3, Value.ref h2])), (h1, Sum.inl (cint, 120, Sum.inl f1)), (h2, Sum.inr (4, [Value.ref h3, Value.int y_4, Value.ref h4, Value.ref h5, Value.int n2_top])), (h3, Sum.inl (cint, 128, Sum.inl f_5))]) hP hD [0, 1, 2, 3] [] rfl rfl (by decide) (by decide) hk1 hFc hP1 hD1
  generalize H1 = H at hP hS ⊢
  have hP : va_P (dC, dI) vwCl [(h0, Sum.inr (10, [Value.ref h1, Value.int n0_size, Value.int y_3, Value.ref h2])), (h1, Sum.inl (cint, 120, Sum.inl f1)), (h2, Sum.inr (4, [Value.ref h3, Value.int y_4, Value.ref h4, Value.ref h5, Value.int n2_top])), (h3, Sum.inl (cint, 128, Sum.inl f_5))] H := hP
  have hD : va_D A [(h0, Sum.inr (10, [Value.ref h1, Value.int n0_size, Value.int y_3, Value.ref h2])), (h1, Sum.inl (cint, 120, Sum.inl f1)), (h2, Sum.inr (4, [Value.ref h3, Value.int y_4, Value.ref h4, Value.ref h5, Value.int n2_top])), (h3, Sum.inl (cint, 128, Sum.inl f_5))] := hD
  have t_2 : 0 ≤ r_2.toInt ∧ r_2.toInt ≤ 1 := hw
  refine lv_if_ne (tgt := 24) hx hb dX10_readChain_19 (by decide) (fun c_6 => ?_) (fun c_6 => ?_)
  · have t_6 : r_2.toInt ≠ 0 := kk_ne c_6
    refine lv_iconst (v := 0) hx hb dX10_readChain_24 (by decide) ?_
    refine lv_istore_n (lv' := [(3, .int 0), (0, .ref h0), (1, .int 4), (2, .int 0)]) hx hb dX10_readChain_25 rfl hl (by decide) rfl (fun ls hl => ?_)
    refine kk_loop (σ := Int32 × Int32 × Int32 × (Nat → Int32)) (fun x H locs ls => (0 ≤ x.1.toInt ∧ x.1.toInt ≤ 120) ∧ (0 ≤ x.2.2.1.toInt ∧ x.2.2.1.toInt ≤ 128) ∧ va_P (dC, dI) vwCl [(h0, Sum.inr (10, [Value.ref h1, Value.int n0_size, Value.int x.2.1, Value.ref h2])), (h1, Sum.inl (cint, 120, Sum.inl f1)), (h2, Sum.inr (4, [Value.ref h3, Value.int x.2.2.1, Value.ref h4, Value.ref h5, Value.int n2_top])), (h3, Sum.inl (cint, 128, Sum.inl x.2.2.2))] H ∧ va_D A [(h0, Sum.inr (10, [Value.ref h1, Value.int n0_size, Value.int x.2.1, Value.ref h2])), (h1, Sum.inl (cint, 120, Sum.inl f1)), (h2, Sum.inr (4, [Value.ref h3, Value.int x.2.2.1, Value.ref h4, Value.ref h5, Value.int n2_top])), (h3, Sum.inl (cint, 128, Sum.inl x.2.2.2))] ∧ va_S A s.heap H locs ∧ lv_has ls 5 [(3, .int x.1), (0, .ref h0), (1, .int 4), (2, .int 0)]) (fun x => ((120 : Int) - x.1.toInt).toNat) ?_ (0, y_3, y_4, f_5) _ _ _ ⟨(by show 0 ≤ (0 : Int32).toInt ∧ (0 : Int32).toInt ≤ 120; first | decide | (constructor <;> (omega))), (by show 0 ≤ (y_4 : Int32).toInt ∧ (y_4 : Int32).toInt ≤ 128; first | decide | (constructor <;> (omega))), hP, hD, hS, hl⟩
    rintro ⟨i_7_0, i_7_1, i_7_2, f_7_3⟩ H locs ls ⟨t_7_0, t_7_2, hP, hD, hS, hl⟩ ih_7
    have t_7_0 : (0 ≤ i_7_0.toInt ∧ i_7_0.toInt ≤ 120) := t_7_0
    have t_7_2 : (0 ≤ i_7_2.toInt ∧ i_7_2.toInt ≤ 128) := t_7_2
    have hl : lv_has ls 5 [(3, .int i_7_0), (0, .ref h0), (1, .int 4), (2, .int 0)] := hl
    have hP : va_P (dC, dI) vwCl [(h0, Sum.inr (10, [Value.ref h1, Value.int n0_size, Value.int i_7_1, Value.ref h2])), (h1, Sum.inl (cint, 120, Sum.inl f1)), (h2, Sum.inr (4, [Value.ref h3, Value.int i_7_2, Value.ref h4, Value.ref h5, Value.int n2_top])), (h3, Sum.inl (cint, 128, Sum.inl f_7_3))] H := hP
    have hD : va_D A [(h0, Sum.inr (10, [Value.ref h1, Value.int n0_size, Value.int i_7_1, Value.ref h2])), (h1, Sum.inl (cint, 120, Sum.inl f1)), (h2, Sum.inr (4, [Value.ref h3, Value.int i_7_2, Value.ref h4, Value.ref h5, Value.int n2_top])), (h3, Sum.inl (cint, 128, Sum.inl f_7_3))] := hD
    refine lv_iload_n hx hb dX10_readChain_26 rfl (lv_at hl 0 rfl) ?_
    refine lv_bipush (v := 120) hx hb dX10_readChain_27 (by decide) ?_
    refine lv_icmp_ge (tgt := 94) hx hb dX10_readChain_29 (by decide) (fun c_119 => ?_) (fun c_119 => ?_)
    · have t_119 : 120 ≤ i_7_0.toInt := kk_le c_119
      refine lv_iconst (v := 1) hx hb dX10_readChain_94 (by decide) ?_
      have hP9 := hP.sub (ws' := [(h0, Sum.inr (10, [Value.ref h1, Value.int n0_size, Value.int i_7_1, Value.ref h2])), (h1, Sum.inl (cint, 120, Sum.inl f1)), (h2, Sum.inr (4, [Value.ref h3, Value.int i_7_2, Value.ref h4, Value.ref h5, Value.int n2_top])), (h3, Sum.inl (cint, 128, Sum.inl f_7_3))]) [0, 1, 2, 3] rfl
      have hD9 := hD.sub (ws' := [(h0, Sum.inr (10, [Value.ref h1, Value.int n0_size, Value.int i_7_1, Value.ref h2])), (h1, Sum.inl (cint, 120, Sum.inl f1)), (h2, Sum.inr (4, [Value.ref h3, Value.int i_7_2, Value.ref h4, Value.ref h5, Value.int n2_top])), (h3, Sum.inl (cint, 128, Sum.inl f_7_3))]) [0, 1, 2, 3] (by decide) rfl
      have hK9 := hK.sub (tys' := []) [] rfl
      exact W.zret (v := 1) hx hb hr rfl (fun t ht hW => ⟨⟨1, (), rfl, (by show 0 ≤ (1 : Int32).toInt ∧ (1 : Int32).toInt ≤ 1; first | decide | (constructor <;> (omega))), i_7_1, i_7_2, f_7_3, (by show 0 ≤ (i_7_2 : Int32).toInt ∧ (i_7_2 : Int32).toInt ≤ 128; first | decide | (constructor <;> (omega))), by rw [ht]; exact hP9, va_K.moved hW.alike hK9, hD9⟩, hS.F ht⟩) hS.2.2 dX10_readChain_95
    · have t_119 : i_7_0.toInt < 120 := kk_nle c_119
      refine lv_iload_n hx hb dX10_readChain_32 rfl (lv_at hl 2 rfl) ?_
      refine lv_aload_n hx hb dX10_readChain_33 rfl (lv_at hl 1 rfl) ?_
      have hPc := hP.sub (ws' := [(h0, Sum.inr (10, [Value.ref h1, Value.int n0_size, Value.int i_7_1, Value.ref h2])), (h1, Sum.inl (cint, 120, Sum.inl f1))]) [0, 1] rfl
      have hDc := hD.sub (ws' := [(h0, Sum.inr (10, [Value.ref h1, Value.int n0_size, Value.int i_7_1, Value.ref h2])), (h1, Sum.inl (cint, 120, Sum.inl f1))]) [0, 1] (by decide) rfl
      have hKc := hK.sub (tys' := [(cint, .int)]) [0] rfl
      have hFc := va_free (wc := [(h0, Sum.inr (10, [Value.ref h1, Value.int n0_size, Value.int i_7_1, Value.ref h2])), (h1, Sum.inl (cint, 120, Sum.inl f1))]) hD hS hA [0, 1] rfl
      refine va_calli (va_runV (As := []) (rest := [.int 4]) ⟨hx, hb, hml, hown, hts⟩ (g_X10_next_0 l dC dI h0 h1 h2 cint H.size n0_size i_7_1 f1 tn0_size bf1) (cwV 0 hts gX10_readChain_X10_next rfl rfl rfl (by decide +kernel) ⟨Nat.le_of_ble_eq_true rfl, Nat.le_of_ble_eq_true rfl⟩) ⟨fun a U g mk q => by obtain ⟨q0, q1, qP, qK, qD⟩ := q; exact ⟨q0, q1, qP, va_K.moved (u := U) (U := U.calling g mk a) (Vm.Alike.refl U.vm) qK, qD⟩, va_recv hKc hPc (ci := 10) (q0 := 0) rfl rfl, fun U hU hW => ⟨rfl, by rw [hU], by rw [hU]; exact hPc, va_K.moved hW.alike hKc, hDc.weaken (fun _ _ _ _ => trivial)⟩⟩ rfl rfl hl.1 rfl (lv_room (Nat.le_of_ble_eq_true rfl)) dX10_readChain_34 ⟨Nat.le_of_ble_eq_true rfl, Nat.le_of_ble_eq_true rfl⟩) hS (fun q _ h => hFc q h) hFc (fun r_120 u t H1 locs ht hvm hw hB hz1 hk1 hS => ?_)
      obtain ⟨hP1, hK1, hD1⟩ := hB
      rw [ht] at hP1
      have hK1 := va_K.moved hvm.symm hK1
      obtain ⟨hP, hD⟩ := va_join (wr := [(h2, Sum.inr (4, [Value.ref h3, Value.int i_7_2, Value.ref h4, Value.ref h5, Value.int n2_top])), (h3, Sum.inl (cint, 128, Sum.inl f_7_3))]) (w1 := [(h0, Sum.inr (10, [Value.ref h1, Value.int n0_size, Value.int i_7_1, Value.ref h2])), (h1, Sum.inl (cint, 120, Sum.inl f1))]) hP hD [0, 1] [2, 3] rfl rfl (by decide) (by decide) hk1 hFc hP1 hD1
      generalize H1 = H at hP hS ⊢
      have hP : va_P (dC, dI) vwCl [(h2, Sum.inr (4, [Value.ref h3, Value.int i_7_2, Value.ref h4, Value.ref h5, Value.int n2_top])), (h3, Sum.inl (cint, 128, Sum.inl f_7_3)), (h0, Sum.inr (10, [Value.ref h1, Value.int n0_size, Value.int i_7_1, Value.ref h2])), (h1, Sum.inl (cint, 120, Sum.inl f1))] H := hP
      have hD : va_D A [(h2, Sum.inr (4, [Value.ref h3, Value.int i_7_2, Value.ref h4, Value.ref h5, Value.int n2_top])), (h3, Sum.inl (cint, 128, Sum.inl f_7_3)), (h0, Sum.inr (10, [Value.ref h1, Value.int n0_size, Value.int i_7_1, Value.ref h2])), (h1, Sum.inl (cint, 120, Sum.inl f1))] := hD
      have t_120 : (-1) ≤ r_120.toInt ∧ r_120.toInt ≤ 255 := hw
      have hPc := hP.sub (ws' := []) [] rfl
      have hDc := hD.sub (ws' := []) [] (by decide) rfl
      have hKc := hK.sub (tys' := []) [] rfl
      have hFc := va_free (wc := []) hD hS hA [] rfl
      refine va_calli (va_runS (As := [.int 4, .int r_120]) (rest := []) ⟨hx, hb, hml, hown, hts⟩ (g_X10_joins_0 l dC dI H.size r_120) (va_cwS 2 hts gX10_readChain_X10_joins rfl rfl rfl (by decide +kernel) ⟨Nat.le_of_ble_eq_true rfl, Nat.le_of_ble_eq_true rfl⟩) ⟨fun a U g mk q => by obtain ⟨q0, q1, qP, qK, qD⟩ := q; exact ⟨q0, q1, qP, va_K.moved (u := U) (U := U.calling g mk a) (Vm.Alike.refl U.vm) qK, qD⟩, fun U hU hW => ⟨rfl, by rw [hU], by rw [hU]; exact hPc, va_K.moved hW.alike hKc, hDc.weaken (fun _ _ _ _ => trivial)⟩⟩ rfl rfl hl.1 rfl (lv_room (Nat.le_of_ble_eq_true rfl)) dX10_readChain_37 ⟨Nat.le_of_ble_eq_true rfl, Nat.le_of_ble_eq_true rfl⟩) hS (fun q _ h => hFc q h) hFc (fun r_121 u t H1 locs ht hvm hw hB hz1 hk1 hS => ?_)
      obtain ⟨hP1, hK1, hD1⟩ := hB
      rw [ht] at hP1
      have hK1 := va_K.moved hvm.symm hK1
      obtain ⟨hP, hD⟩ := va_join (wr := [(h2, Sum.inr (4, [Value.ref h3, Value.int i_7_2, Value.ref h4, Value.ref h5, Value.int n2_top])), (h3, Sum.inl (cint, 128, Sum.inl f_7_3)), (h0, Sum.inr (10, [Value.ref h1, Value.int n0_size, Value.int i_7_1, Value.ref h2])), (h1, Sum.inl (cint, 120, Sum.inl f1))]) (w1 := []) hP hD [] [0, 1, 2, 3] rfl rfl (by decide) (by decide) hk1 hFc hP1 hD1
      generalize H1 = H at hP hS ⊢
      have hP : va_P (dC, dI) vwCl [(h2, Sum.inr (4, [Value.ref h3, Value.int i_7_2, Value.ref h4, Value.ref h5, Value.int n2_top])), (h3, Sum.inl (cint, 128, Sum.inl f_7_3)), (h0, Sum.inr (10, [Value.ref h1, Value.int n0_size, Value.int i_7_1, Value.ref h2])), (h1, Sum.inl (cint, 120, Sum.inl f1))] H := hP
      have hD : va_D A [(h2, Sum.inr (4, [Value.ref h3, Value.int i_7_2, Value.ref h4, Value.ref h5, Value.int n2_top])), (h3, Sum.inl (cint, 128, Sum.inl f_7_3)), (h0, Sum.inr (10, [Value.ref h1, Value.int n0_size, Value.int i_7_1, Value.ref h2])), (h1, Sum.inl (cint, 120, Sum.inl f1))] := hD
      have t_121 : 0 ≤ r_121.toInt ∧ r_121.toInt ≤ 1 := hw
      refine lv_if_eq (tgt := 94) hx hb dX10_readChain_40 (by decide) (fun c_122 => ?_) (fun c_122 => ?_)
      · have t_122 : r_121.toInt = 0 := kk_eq c_122
        refine lv_iconst (v := 1) hx hb dX10_readChain_94 (by decide) ?_
        have hP9 := hP.sub (ws' := [(h0, Sum.inr (10, [Value.ref h1, Value.int n0_size, Value.int i_7_1, Value.ref h2])), (h1, Sum.inl (cint, 120, Sum.inl f1)), (h2, Sum.inr (4, [Value.ref h3, Value.int i_7_2, Value.ref h4, Value.ref h5, Value.int n2_top])), (h3, Sum.inl (cint, 128, Sum.inl f_7_3))]) [2, 3, 0, 1] rfl
        have hD9 := hD.sub (ws' := [(h0, Sum.inr (10, [Value.ref h1, Value.int n0_size, Value.int i_7_1, Value.ref h2])), (h1, Sum.inl (cint, 120, Sum.inl f1)), (h2, Sum.inr (4, [Value.ref h3, Value.int i_7_2, Value.ref h4, Value.ref h5, Value.int n2_top])), (h3, Sum.inl (cint, 128, Sum.inl f_7_3))]) [2, 3, 0, 1] (by decide) rfl
        have hK9 := hK.sub (tys' := []) [] rfl
        exact W.zret (v := 1) hx hb hr rfl (fun t ht hW => ⟨⟨1, (), rfl, (by show 0 ≤ (1 : Int32).toInt ∧ (1 : Int32).toInt ≤ 1; first | decide | (constructor <;> (omega))), i_7_1, i_7_2, f_7_3, (by show 0 ≤ (i_7_2 : Int32).toInt ∧ (i_7_2 : Int32).toInt ≤ 128; first | decide | (constructor <;> (omega))), by rw [ht]; exact hP9, va_K.moved hW.alike hK9, hD9⟩, hS.F ht⟩) hS.2.2 dX10_readChain_95
      · have t_122 : r_121.toInt ≠ 0 := kk_ne c_122
        refine lv_aload_n hx hb dX10_readChain_43 rfl (lv_at hl 1 rfl) ?_
        have hPc := hP.sub (ws' := [(h0, Sum.inr (10, [Value.ref h1, Value.int n0_size, Value.int i_7_1, Value.ref h2])), (h1, Sum.inl (cint, 120, Sum.inl f1))]) [2, 3] rfl
        have hDc := hD.sub (ws' := [(h0, Sum.inr (10, [Value.ref h1, Value.int n0_size, Value.int i_7_1, Value.ref h2])), (h1, Sum.inl (cint, 120, Sum.inl f1))]) [2, 3] (by decide) rfl
        have hKc := hK.sub (tys' := [(cint, .int)]) [0] rfl
        have hFc := va_free (wc := [(h0, Sum.inr (10, [Value.ref h1, Value.int n0_size, Value.int i_7_1, Value.ref h2])), (h1, Sum.inl (cint, 120, Sum.inl f1))]) hD hS hA [2, 3] rfl
        refine va_calli (va_runV (As := []) (rest := []) ⟨hx, hb, hml, hown, hts⟩ (g_X10_next_0 l dC dI h0 h1 h2 cint H.size n0_size i_7_1 f1 tn0_size bf1) (cwV 0 hts gX10_readChain_X10_next rfl rfl rfl (by decide +kernel) ⟨Nat.le_of_ble_eq_true rfl, Nat.le_of_ble_eq_true rfl⟩) ⟨fun a U g mk q => by obtain ⟨q0, q1, qP, qK, qD⟩ := q; exact ⟨q0, q1, qP, va_K.moved (u := U) (U := U.calling g mk a) (Vm.Alike.refl U.vm) qK, qD⟩, va_recv hKc hPc (ci := 10) (q0 := 0) rfl rfl, fun U hU hW => ⟨rfl, by rw [hU], by rw [hU]; exact hPc, va_K.moved hW.alike hKc, hDc.weaken (fun _ _ _ _ => trivial)⟩⟩ rfl rfl hl.1 rfl (lv_room (Nat.le_of_ble_eq_true rfl)) dX10_readChain_44 ⟨Nat.le_of_ble_eq_true rfl, Nat.le_of_ble_eq_true rfl⟩) hS (fun q _ h => hFc q h) hFc (fun r_123 u t H1 locs ht hvm hw hB hz1 hk1 hS => ?_)
        obtain ⟨hP1, hK1, hD1⟩ := hB
        rw [ht] at hP1
        have hK1 := va_K.moved hvm.symm hK1
        obtain ⟨hP, hD⟩ := va_join (wr := [(h2, Sum.inr (4, [Value.ref h3, Value.int i_7_2, Value.ref h4, Value.ref h5, Value.int n2_top])), (h3, Sum.inl (cint, 128, Sum.inl f_7_3))]) (w1 := [(h0, Sum.inr (10, [Value.ref h1, Value.int n0_size, Value.int i_7_1, Value.ref h2])), (h1, Sum.inl (cint, 120, Sum.inl f1))]) hP hD [2, 3] [0, 1] rfl rfl (by decide) (by decide) hk1 hFc hP1 hD1
        generalize H1 = H at hP hS ⊢
        have hP : va_P (dC, dI) vwCl [(h2, Sum.inr (4, [Value.ref h3, Value.int i_7_2, Value.ref h4, Value.ref h5, Value.int n2_top])), (h3, Sum.inl (cint, 128, Sum.inl f_7_3)), (h0, Sum.inr (10, [Value.ref h1, Value.int n0_size, Value.int i_7_1, Value.ref h2])), (h1, Sum.inl (cint, 120, Sum.inl f1))] H := hP
        have hD : va_D A [(h2, Sum.inr (4, [Value.ref h3, Value.int i_7_2, Value.ref h4, Value.ref h5, Value.int n2_top])), (h3, Sum.inl (cint, 128, Sum.inl f_7_3)), (h0, Sum.inr (10, [Value.ref h1, Value.int n0_size, Value.int i_7_1, Value.ref h2])), (h1, Sum.inl (cint, 120, Sum.inl f1))] := hD
        have t_123 : (-1) ≤ r_123.toInt ∧ r_123.toInt ≤ 255 := hw
        refine lv_istore (lv' := [(4, .int r_123), (3, .int i_7_0), (0, .ref h0), (1, .int 4), (2, .int 0)]) hx hb dX10_readChain_47 hl (by decide) rfl (fun ls hl => ?_)
        refine lv_aload_n hx hb dX10_readChain_49 rfl (lv_at hl 2 rfl) ?_
        refine lv_dup hx hb dX10_readChain_50 rfl ?_
        refine va_get (D := (dC, dI)) (ci := 10) (v := .int i_7_1) (C := RX10) (T := TX10) (N := 4) hx hb hts (fun _ h => List.mem_cons_of_mem _ (List.mem_append_left _ (List.mem_append_right _ h))) hown hK hP 2 rfl rfl 2 (by decide) (hts (.fieldLink RX10 17 "KinkStreet$Tape" "place" "I") (List.mem_of_getElem? (i := 1) rfl)) (fun _ h9 => h9) rfl dX10_readChain_51 ?_
        refine lv_iconst (v := 1) hx hb dX10_readChain_54 (by decide) ?_
        refine lv_iadd hx hb dX10_readChain_55 ?_
        refine va_put (D := (dC, dI)) (ci := 10) (v := .int (i_7_1 + 1)) (ty := .int) (C := RX10) (T := TX10) (N := 4) hx hb hts (fun _ h => List.mem_cons_of_mem _ (List.mem_append_left _ (List.mem_append_right _ h))) tyX10 tyX10_ok nmX10 hown hK hP hD hS 2 rfl rfl 2 (by decide) (hts (.fieldLink RX10 17 "KinkStreet$Tape" "place" "I") (List.mem_of_getElem? (i := 1) rfl)) (fun _ h9 => h9) rfl (by decide +kernel) rfl rfl (Nat.le_of_ble_eq_true rfl) dX10_readChain_56 (fun H locs hP hD hS => ?_)
        have hP : va_P (dC, dI) vwCl [(h2, Sum.inr (4, [Value.ref h3, Value.int i_7_2, Value.ref h4, Value.ref h5, Value.int n2_top])), (h3, Sum.inl (cint, 128, Sum.inl f_7_3)), (h0, Sum.inr (10, [Value.ref h1, Value.int n0_size, Value.int (i_7_1 + 1), Value.ref h2])), (h1, Sum.inl (cint, 120, Sum.inl f1))] H := hP
        have hD : va_D A [(h2, Sum.inr (4, [Value.ref h3, Value.int i_7_2, Value.ref h4, Value.ref h5, Value.int n2_top])), (h3, Sum.inl (cint, 128, Sum.inl f_7_3)), (h0, Sum.inr (10, [Value.ref h1, Value.int n0_size, Value.int (i_7_1 + 1), Value.ref h2])), (h1, Sum.inl (cint, 120, Sum.inl f1))] := hD
        refine lv_aload_n hx hb dX10_readChain_59 rfl (lv_at hl 2 rfl) ?_
        refine lv_iload_n hx hb dX10_readChain_60 rfl (lv_at hl 3 rfl) ?_
        refine lv_iconst (v := 1) hx hb dX10_readChain_61 (by decide) ?_
        refine lv_iadd hx hb dX10_readChain_62 ?_
        refine lv_topi (fun y_124 e_124 => ?_)
        obtain rfl : y_124 = 5 := e_124.trans (by decide)
        refine lv_iload_n hx hb dX10_readChain_63 rfl (lv_at hl 4 rfl) ?_
        have hPc := hP.sub (ws' := [(h0, Sum.inr (10, [Value.ref h1, Value.int n0_size, Value.int (i_7_1 + 1), Value.ref h2])), (h1, Sum.inl (cint, 120, Sum.inl f1)), (h2, Sum.inr (4, [Value.ref h3, Value.int i_7_2, Value.ref h4, Value.ref h5, Value.int n2_top])), (h3, Sum.inl (cint, 128, Sum.inl f_7_3))]) [2, 3, 0, 1] rfl
        have hDc := hD.sub (ws' := [(h0, Sum.inr (10, [Value.ref h1, Value.int n0_size, Value.int (i_7_1 + 1), Value.ref h2])), (h1, Sum.inl (cint, 120, Sum.inl f1)), (h2, Sum.inr (4, [Value.ref h3, Value.int i_7_2, Value.ref h4, Value.ref h5, Value.int n2_top])), (h3, Sum.inl (cint, 128, Sum.inl f_7_3))]) [2, 3, 0, 1] (by decide) rfl
        have hKc := hK.sub (tys' := [(cint, .int)]) [0] rfl
        have hFc := va_free (wc := [(h0, Sum.inr (10, [Value.ref h1, Value.int n0_size, Value.int (i_7_1 + 1), Value.ref h2])), (h1, Sum.inl (cint, 120, Sum.inl f1)), (h2, Sum.inr (4, [Value.ref h3, Value.int i_7_2, Value.ref h4, Value.ref h5, Value.int n2_top])), (h3, Sum.inl (cint, 128, Sum.inl f_7_3))]) hD hS hA [2, 3, 0, 1] rfl
        refine va_calli (va_runV (As := [.int 5, .int 0]) (rest := []) ⟨hx, hb, hml, hown, hts⟩ (g_X10_readChain_36 l dC dI h0 h1 h2 h3 h4 h5 cint H.size n0_size (i_7_1 + 1) f1 i_7_2 n2_top f_7_3 tn0_size bf1 (by show 0 ≤ (i_7_2 : Int32).toInt ∧ (i_7_2 : Int32).toInt ≤ 128; first | decide | (constructor <;> (omega))) tn2_top aNAMES) (cwV 2 hts gX10_readChain_X10_readChain rfl rfl rfl (by decide +kernel) ⟨Nat.le_of_ble_eq_true rfl, Nat.le_of_ble_eq_true rfl⟩) ⟨fun a U g mk q => by obtain ⟨q0, q1, qP, qK, qD, qx0, qx1⟩ := q; exact ⟨q0, q1, qP, va_K.moved (u := U) (U := U.calling g mk a) (Vm.Alike.refl U.vm) qK, qD, va_Z.moved (u := U) (U := U.calling g mk a) (Vm.Alike.refl U.vm) qx0, va_T.moved (u := U) (U := U.calling g mk a) (Vm.Alike.refl U.vm) qx1⟩, va_recv hKc hPc (ci := 10) (q0 := 0) rfl rfl, fun U hU hW => ⟨rfl, by rw [hU], by rw [hU]; exact hPc, va_K.moved hW.alike hKc, hDc.weaken (fun _ _ _ _ => trivial), by rw [hU]; exact ((hZNAMES.kept (fun a h1 h2 => hS.2.1 a h1 h2)).narrow hFc).moved hW.alike, by rw [hU]; exact ((hTNAMES.kept (fun a h1 h2 => hS.2.1 a h1 h2)).narrow hFc).moved hW.alike⟩⟩ rfl rfl hl.1 rfl (lv_room (Nat.le_of_ble_eq_true rfl)) dX10_readChain_64 ⟨Nat.le_of_ble_eq_true rfl, Nat.le_of_ble_eq_true rfl⟩) hS (fun q _ h => hFc q h) hFc (fun r_125 u t H1 locs ht hvm hw hB hz1 hk1 hS => ?_)
        obtain ⟨y_126, y_127, f_128, by_127, hP1, hK1, hD1⟩ := hB
        rw [ht] at hP1
        have hK1 := va_K.moved hvm.symm hK1
        obtain ⟨hP, hD⟩ := va_join (wr := []) (w1 := [(h0, Sum.inr (10, [Value.ref h1, Value.int n0_size, Value.int y_126, Value.ref h2])), (h1, Sum.inl (cint, 120, Sum.inl f1)), (h2, Sum.inr (4, [Value.ref h3, Value.int y_127, Value.ref h4, Value.ref h5, Value.int n2_top])), (h3, Sum.inl (cint, 128, Sum.inl f_128))]) hP hD [2, 3, 0, 1] [] rfl rfl (by decide) (by decide) hk1 hFc hP1 hD1
        generalize H1 = H at hP hS ⊢
        have hP : va_P (dC, dI) vwCl [(h0, Sum.inr (10, [Value.ref h1, Value.int n0_size, Value.int y_126, Value.ref h2])), (h1, Sum.inl (cint, 120, Sum.inl f1)), (h2, Sum.inr (4, [Value.ref h3, Value.int y_127, Value.ref h4, Value.ref h5, Value.int n2_top])), (h3, Sum.inl (cint, 128, Sum.inl f_128))] H := hP
        have hD : va_D A [(h0, Sum.inr (10, [Value.ref h1, Value.int n0_size, Value.int y_126, Value.ref h2])), (h1, Sum.inl (cint, 120, Sum.inl f1)), (h2, Sum.inr (4, [Value.ref h3, Value.int y_127, Value.ref h4, Value.ref h5, Value.int n2_top])), (h3, Sum.inl (cint, 128, Sum.inl f_128))] := hD
        have t_125 : 0 ≤ r_125.toInt ∧ r_125.toInt ≤ 1 := hw
        refine lv_if_ne (tgt := 72) hx hb dX10_readChain_67 (by decide) (fun c_129 => ?_) (fun c_129 => ?_)
        · have t_129 : r_125.toInt ≠ 0 := kk_ne c_129
          refine lv_aload_n hx hb dX10_readChain_72 rfl (lv_at hl 2 rfl) ?_
          refine va_get (D := (dC, dI)) (ci := 10) (v := .ref h2) (C := RX10) (T := TX10) (N := 4) hx hb hts (fun _ h => List.mem_cons_of_mem _ (List.mem_append_left _ (List.mem_append_right _ h))) hown hK hP 0 rfl rfl 3 (by decide) (hts (.fieldLink RX10 20 "KinkStreet$Tape" "law" "LKinkStreet$Law;") (List.mem_of_getElem? (i := 2) rfl)) (fun _ h9 => h9) rfl dX10_readChain_73 ?_
          refine lv_iload hx hb dX10_readChain_76 (lv_at hl 0 rfl) ?_
          have hPc := hP.sub (ws' := [(h2, Sum.inr (4, [Value.ref h3, Value.int y_127, Value.ref h4, Value.ref h5, Value.int n2_top])), (h3, Sum.inl (cint, 128, Sum.inl f_128))]) [2, 3] rfl
          have hDc := hD.sub (ws' := [(h2, Sum.inr (4, [Value.ref h3, Value.int y_127, Value.ref h4, Value.ref h5, Value.int n2_top])), (h3, Sum.inl (cint, 128, Sum.inl f_128))]) [2, 3] (by decide) rfl
          have hKc := hK.sub (tys' := [(cint, .int)]) [0] rfl
          have hFc := va_free (wc := [(h2, Sum.inr (4, [Value.ref h3, Value.int y_127, Value.ref h4, Value.ref h5, Value.int n2_top])), (h3, Sum.inl (cint, 128, Sum.inl f_128))]) hD hS hA [2, 3] rfl
          refine va_callv (va_runV (As := [.int r_123]) (rest := []) ⟨hx, hb, hml, hown, hts⟩ (g_X4_append_0 l dC dI h2 h3 h4 h5 cint H.size r_123 y_127 n2_top f_128 (by show 0 ≤ (y_127 : Int32).toInt ∧ (y_127 : Int32).toInt ≤ 128; first | decide | (constructor <;> (omega))) tn2_top) (cwV 1 hts gX10_readChain_X4_append rfl rfl rfl (by decide +kernel) ⟨Nat.le_of_ble_eq_true rfl, Nat.le_of_ble_eq_true rfl⟩) ⟨fun a U g mk q => by obtain ⟨q0, q1, qP, qK, qD⟩ := q; exact ⟨q0, q1, qP, va_K.moved (u := U) (U := U.calling g mk a) (Vm.Alike.refl U.vm) qK, qD⟩, va_recv hKc hPc (ci := 4) (q0 := 0) rfl rfl, fun U hU hW => ⟨rfl, by rw [hU], by rw [hU]; exact hPc, va_K.moved hW.alike hKc, hDc.weaken (fun _ _ _ _ => trivial)⟩⟩ rfl rfl hl.1 rfl (lv_room (Nat.le_of_ble_eq_true rfl)) dX10_readChain_78 ⟨Nat.le_of_ble_eq_true rfl, Nat.le_of_ble_eq_true rfl⟩) hS (fun q _ h => hFc q h) hFc (fun u t H1 locs ht hvm hw hB hz1 hk1 hS => ?_)
          obtain ⟨y_131, f_132, by_131, hP1, hK1, hD1⟩ := hB
          rw [ht] at hP1
          have hK1 := va_K.moved hvm.symm hK1
          obtain ⟨hP, hD⟩ := va_join (wr := [(h0, Sum.inr (10, [Value.ref h1, Value.int n0_size, Value.int y_126, Value.ref h2])), (h1, Sum.inl (cint, 120, Sum.inl f1))]) (w1 := [(h2, Sum.inr (4, [Value.ref h3, Value.int y_131, Value.ref h4, Value.ref h5, Value.int n2_top])), (h3, Sum.inl (cint, 128, Sum.inl f_132))]) hP hD [2, 3] [0, 1] rfl rfl (by decide) (by decide) hk1 hFc hP1 hD1
          generalize H1 = H at hP hS ⊢
          have hP : va_P (dC, dI) vwCl [(h0, Sum.inr (10, [Value.ref h1, Value.int n0_size, Value.int y_126, Value.ref h2])), (h1, Sum.inl (cint, 120, Sum.inl f1)), (h2, Sum.inr (4, [Value.ref h3, Value.int y_131, Value.ref h4, Value.ref h5, Value.int n2_top])), (h3, Sum.inl (cint, 128, Sum.inl f_132))] H := hP
          have hD : va_D A [(h0, Sum.inr (10, [Value.ref h1, Value.int n0_size, Value.int y_126, Value.ref h2])), (h1, Sum.inl (cint, 120, Sum.inl f1)), (h2, Sum.inr (4, [Value.ref h3, Value.int y_131, Value.ref h4, Value.ref h5, Value.int n2_top])), (h3, Sum.inl (cint, 128, Sum.inl f_132))] := hD
          refine lv_iload_n hx hb dX10_readChain_81 rfl (lv_at hl 3 rfl) ?_
          refine lv_iconst (v := 2) hx hb dX10_readChain_82 (by decide) ?_
          refine lv_icmp_ne (tgt := 88) hx hb dX10_readChain_83 (by decide) (fun _ => ?_) (fun c => absurd c (by decide))
          refine lv_iinc (v := (i_7_0 + 1)) (lv' := [(3, .int (i_7_0 + 1)), (4, .int r_123), (0, .ref h0), (1, .int 4), (2, .int 0)]) hx hb dX10_readChain_88 hl (k := 1) rfl (by first | rfl | decide) (by decide) rfl (fun ls hl => ?_)
          refine lv_goto (tgt := 26) hx hb dX10_readChain_91 (by decide) ?_
          exact ih_7 ((i_7_0 + 1), y_126, y_131, f_132) _ _ _ (by show ((120 : Int) - ((i_7_0 + 1)).toInt).toNat < ((120 : Int) - i_7_0.toInt).toNat; have := kk_add2 (x := i_7_0) (y := 1) (a := i_7_0.toInt) (b := 1) rfl rfl (by omega) (by omega); exact kk_mu (by omega) (by omega)) ⟨(by show 0 ≤ ((i_7_0 + 1) : Int32).toInt ∧ ((i_7_0 + 1) : Int32).toInt ≤ 120; first | decide | (constructor <;> (have := kk_add2 (x := i_7_0) (y := 1) (a := i_7_0.toInt) (b := 1) rfl rfl (by omega) (by omega); omega))), (by show 0 ≤ (y_131 : Int32).toInt ∧ (y_131 : Int32).toInt ≤ 128; first | decide | (constructor <;> (have := kk_add2 (x := i_7_0) (y := 1) (a := i_7_0.toInt) (b := 1) rfl rfl (by omega) (by omega); omega))), hP, hD, hS, lv_sub hl [0, 2, 3, 4] rfl⟩
        · have t_129 : r_125.toInt = 0 := kk_eq c_129
          refine lv_iconst (v := 0) hx hb dX10_readChain_70 (by decide) ?_
          have hP9 := hP.sub (ws' := [(h0, Sum.inr (10, [Value.ref h1, Value.int n0_size, Value.int y_126, Value.ref h2])), (h1, Sum.inl (cint, 120, Sum.inl f1)), (h2, Sum.inr (4, [Value.ref h3, Value.int y_127, Value.ref h4, Value.ref h5, Value.int n2_top])), (h3, Sum.inl (cint, 128, Sum.inl f_128))]) [0, 1, 2, 3] rfl
          have hD9 := hD.sub (ws' := [(h0, Sum.inr (10, [Value.ref h1, Value.int n0_size, Value.int y_126, Value.ref h2])), (h1, Sum.inl (cint, 120, Sum.inl f1)), (h2, Sum.inr (4, [Value.ref h3, Value.int y_127, Value.ref h4, Value.ref h5, Value.int n2_top])), (h3, Sum.inl (cint, 128, Sum.inl f_128))]) [0, 1, 2, 3] (by decide) rfl
          have hK9 := hK.sub (tys' := []) [] rfl
          exact W.zret (v := 0) hx hb hr rfl (fun t ht hW => ⟨⟨0, (), rfl, (by show 0 ≤ (0 : Int32).toInt ∧ (0 : Int32).toInt ≤ 1; first | decide | (constructor <;> (omega))), y_126, y_127, f_128, (by show 0 ≤ (y_127 : Int32).toInt ∧ (y_127 : Int32).toInt ≤ 128; first | decide | (constructor <;> (omega))), by rw [ht]; exact hP9, va_K.moved hW.alike hK9, hD9⟩, hS.F ht⟩) hS.2.2 dX10_readChain_71
  · have t_6 : r_2.toInt = 0 := kk_eq c_6
    refine lv_iconst (v := 0) hx hb dX10_readChain_22 (by decide) ?_
    have hP9 := hP.sub (ws' := [(h0, Sum.inr (10, [Value.ref h1, Value.int n0_size, Value.int y_3, Value.ref h2])), (h1, Sum.inl (cint, 120, Sum.inl f1)), (h2, Sum.inr (4, [Value.ref h3, Value.int y_4, Value.ref h4, Value.ref h5, Value.int n2_top])), (h3, Sum.inl (cint, 128, Sum.inl f_5))]) [0, 1, 2, 3] rfl
    have hD9 := hD.sub (ws' := [(h0, Sum.inr (10, [Value.ref h1, Value.int n0_size, Value.int y_3, Value.ref h2])), (h1, Sum.inl (cint, 120, Sum.inl f1)), (h2, Sum.inr (4, [Value.ref h3, Value.int y_4, Value.ref h4, Value.ref h5, Value.int n2_top])), (h3, Sum.inl (cint, 128, Sum.inl f_5))]) [0, 1, 2, 3] (by decide) rfl
    have hK9 := hK.sub (tys' := []) [] rfl
    exact W.zret (v := 0) hx hb hr rfl (fun t ht hW => ⟨⟨0, (), rfl, (by show 0 ≤ (0 : Int32).toInt ∧ (0 : Int32).toInt ≤ 1; first | decide | (constructor <;> (omega))), y_3, y_4, f_5, (by show 0 ≤ (y_4 : Int32).toInt ∧ (y_4 : Int32).toInt ≤ 128; first | decide | (constructor <;> (omega))), by rw [ht]; exact hP9, va_K.moved hW.alike hK9, hD9⟩, hS.F ht⟩) hS.2.2 dX10_readChain_23
